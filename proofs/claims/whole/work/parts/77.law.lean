section LX
variable {fu : Nat} {xs : List Int32}
def GOOD (xs : List Int32) (w : XW) : Prop := ∃ (A : Nat → List Int32) (I : Nat → Nat → Int32) (σ : SG), w = enc A I ∧ A 0 = xs ∧ RR σ A I ∧ I 1 7 = I 36 0
theorem sc_ai {A : Nat → List Int32} {I : Nat → Nat → Int32} (h : A 0 = xs) (hl : xs.length ≤ 3584) {k j : Nat} (hj : k + j < xs.length) : aI (enc A I) 0 (nI k + nI j) = some (rd xs (k + j)) := by
  rw [nI_add]
  have hw : (enc A I)[0]? = some (.inr (2, A 0)) := rfl
  unfold aI
  rw [hw]
  dsimp only
  rw [if_pos ⟨Or.inr rfl, nI_pos' (by omega)⟩, nI_clamp (by omega), h, rd, List.getD_eq_getElem?_getD, List.getElem?_eq_getElem hj]
  rfl
theorem sc_6 {A : Nat → List Int32} {I : Nat → Nat → Int32} (h : A 0 = xs) (hl : xs.length ≤ 3584) {k : Nat} (hk : k + 7 ≤ xs.length) :
    aI (enc A I) 0 (nI k + 1) = some (rd xs (k + 1)) ∧ aI (enc A I) 0 (nI k + 2) = some (rd xs (k + 2)) ∧ aI (enc A I) 0 (nI k + 3) = some (rd xs (k + 3)) ∧ aI (enc A I) 0 (nI k + 4) = some (rd xs (k + 4)) ∧ aI (enc A I) 0 (nI k + 5) = some (rd xs (k + 5)) ∧ aI (enc A I) 0 (nI k + 6) = some (rd xs (k + 6)) :=
  ⟨sc_ai (j := 1) h hl (by omega), sc_ai (j := 2) h hl (by omega), sc_ai (j := 3) h hl (by omega), sc_ai (j := 4) h hl (by omega), sc_ai (j := 5) h hl (by omega), sc_ai (j := 6) h hl (by omega)⟩
theorem lg_self (v : Int64) : lg_cmp v v = 0 := (lg_cmp_eq v v).mpr rfl


theorem lw_0 (hf : 10000000000 ≤ fu) (hl : xs.length ≤ 3584) {A : Nat → List Int32} {I : Nat → Nat → Int32} {σ : SG} (h0 : A 0 = xs) (r : RR σ A I) (fe : I 1 7 = I 36 0) {k : Nat} (hk : k + 7 ≤ xs.length) (n : Nat) : ∃ w', GOOD xs w' ∧ (F_L_law fu (n + 2)).2.1 0 1 36 (nI k) (enc A I) = (F_L_law fu n).1 0 1 36 (nI k + 7) w' := by
  have e : OP (U_X7_brook fu) (U_X8_brook fu) [.ref 1, .int (rd xs (k + 1)), .int (rd xs (k + 2)), .int (rd xs (k + 3)), .int (rd xs (k + 4))] [.ref 36, .int (rd xs (k + 1)), .int (rd xs (k + 2)), .int (rd xs (k + 3)), .int (rd xs (k + 4))] A I := by first | exact op_brook hf r (rd xs (k + 1)) (rd xs (k + 2)) (rd xs (k + 3)) (rd xs (k + 4)) | exact op_brook (by omega) r (rd xs (k + 1)) (rd xs (k + 2)) (rd xs (k + 3)) (rd xs (k + 4)) | exact op_brook r (rd xs (k + 1)) (rd xs (k + 2)) (rd xs (k + 3)) (rd xs (k + 4))
  obtain ⟨v, A1, I1, A2, I2, σ', e1, q1, e2, q2, q3, q4⟩ := e
  obtain ⟨a1, a2, a3, a4, a5, a6⟩ := sc_6 (I := I) h0 hl hk
  obtain ⟨b1, b2, b3, b4, b5, b6⟩ := sc_6 (A := A1) (I := I1) (q1.trans h0) hl hk
  refine ⟨enc A2 I2, ⟨A2, I2, σ', rfl, q2.trans h0, q4, q3 fe⟩, ?_⟩
  rw [L_1]
  simp only [a1, a2, a3, a4, a5, a6, b1, b2, b3, b4, b5, b6, Option.bind_some, e1, e2, cI_some, cL_some, lg_self]
  rw [if_pos trivial, L_40]

theorem lw_1 (hf : 10000000000 ≤ fu) (hl : xs.length ≤ 3584) {A : Nat → List Int32} {I : Nat → Nat → Int32} {σ : SG} (h0 : A 0 = xs) (r : RR σ A I) (fe : I 1 7 = I 36 0) {k : Nat} (hk : k + 7 ≤ xs.length) (n : Nat) : ∃ w', GOOD xs w' ∧ (F_L_law fu (n + 2)).2.2.1 0 1 36 (nI k) (enc A I) = (F_L_law fu n).1 0 1 36 (nI k + 7) w' := by
  have e : OP (U_X7_ofCell fu) (U_X8_ofCell fu) [.ref 1, .int (rd xs (k + 1)), .int (rd xs (k + 2))] [.ref 36, .int (rd xs (k + 1)), .int (rd xs (k + 2))] A I := by first | exact op_ofCell hf r (rd xs (k + 1)) (rd xs (k + 2)) | exact op_ofCell (by omega) r (rd xs (k + 1)) (rd xs (k + 2)) | exact op_ofCell r (rd xs (k + 1)) (rd xs (k + 2))
  obtain ⟨v, A1, I1, A2, I2, σ', e1, q1, e2, q2, q3, q4⟩ := e
  obtain ⟨a1, a2, a3, a4, a5, a6⟩ := sc_6 (I := I) h0 hl hk
  obtain ⟨b1, b2, b3, b4, b5, b6⟩ := sc_6 (A := A1) (I := I1) (q1.trans h0) hl hk
  refine ⟨enc A2 I2, ⟨A2, I2, σ', rfl, q2.trans h0, q4, q3 fe⟩, ?_⟩
  rw [L_2]
  simp only [a1, a2, a3, a4, a5, a6, b1, b2, b3, b4, b5, b6, Option.bind_some, e1, e2, cI_some, cL_some, lg_self]
  rw [if_pos trivial, L_40]
theorem lw_2 (hf : 10000000000 ≤ fu) (hl : xs.length ≤ 3584) {A : Nat → List Int32} {I : Nat → Nat → Int32} {σ : SG} (h0 : A 0 = xs) (r : RR σ A I) (fe : I 1 7 = I 36 0) {k : Nat} (hk : k + 7 ≤ xs.length) (n : Nat) : ∃ w', GOOD xs w' ∧ (F_L_law fu (n + 3)).2.2.2.1 0 1 36 (nI k) (enc A I) = (F_L_law fu n).1 0 1 36 (nI k + 7) w' := by
  obtain ⟨a1, a2, a3, a4, a5, a6⟩ := sc_6 (I := I) h0 hl hk
  by_cases z : rd xs (k + 2) = 0
  · have e : OP (U_X7_guard fu) (U_X8_guard fu) [.ref 1, .int (rd xs (k + 1)), .int (nI 0)] [.ref 36, .int (rd xs (k + 1)), .int (nI 0)] A I := by first | exact op_guard hf r (rd xs (k + 1)) (by omega) | exact op_guard r (rd xs (k + 1)) 0 (by omega)
    obtain ⟨v, A1, I1, A2, I2, σ', e1, q1, e2, q2, q3, q4⟩ := e
    rw [show nI 0 = (0 : Int32) from rfl] at e1 e2
    obtain ⟨b1, b2, b3, b4, b5, b6⟩ := sc_6 (A := A1) (I := I1) (q1.trans h0) hl hk
    refine ⟨enc A2 I2, ⟨A2, I2, σ', rfl, q2.trans h0, q4, q3 fe⟩, ?_⟩
    rw [L_3]
    simp only [a1, a2, Option.bind_some]
    rw [if_pos z, L_4]
    simp only [b1, b2, Option.bind_some, e1, cI_some]
    rw [if_pos z]
    simp only [e2, cI_some]
    rw [if_pos trivial, L_40]
  · have e : OP (U_X7_guard fu) (U_X8_guard fu) [.ref 1, .int (rd xs (k + 1)), .int (nI 1)] [.ref 36, .int (rd xs (k + 1)), .int (nI 1)] A I := by first | exact op_guard hf r (rd xs (k + 1)) (by omega) | exact op_guard r (rd xs (k + 1)) 1 (by omega)
    obtain ⟨v, A1, I1, A2, I2, σ', e1, q1, e2, q2, q3, q4⟩ := e
    rw [show nI 1 = (1 : Int32) from rfl] at e1 e2
    obtain ⟨b1, b2, b3, b4, b5, b6⟩ := sc_6 (A := A1) (I := I1) (q1.trans h0) hl hk
    refine ⟨enc A2 I2, ⟨A2, I2, σ', rfl, q2.trans h0, q4, q3 fe⟩, ?_⟩
    rw [L_3]
    simp only [a1, a2, Option.bind_some]
    rw [if_neg z, L_4]
    simp only [b1, b2, Option.bind_some, e1, cI_some]
    rw [if_neg z]
    simp only [e2, cI_some]
    rw [if_pos trivial, L_40]

theorem lw_3 (hf : 10000000000 ≤ fu) (hl : xs.length ≤ 3584) {A : Nat → List Int32} {I : Nat → Nat → Int32} {σ : SG} (h0 : A 0 = xs) (r : RR σ A I) (fe : I 1 7 = I 36 0) {k : Nat} (hk : k + 7 ≤ xs.length) (n : Nat) : ∃ w', GOOD xs w' ∧ (F_L_law fu (n + 2)).2.2.2.2.2.1 0 1 36 (nI k) (enc A I) = (F_L_law fu n).1 0 1 36 (nI k + 7) w' := by
  have e : OP (U_X7_water fu) (U_X8_water fu) [.ref 1, .int (rd xs (k + 1))] [.ref 36, .int (rd xs (k + 1))] A I := by first | exact op_water hf r (rd xs (k + 1)) | exact op_water (by omega) r (rd xs (k + 1)) | exact op_water r (rd xs (k + 1))
  obtain ⟨v, A1, I1, A2, I2, σ', e1, q1, e2, q2, q3, q4⟩ := e
  obtain ⟨a1, a2, a3, a4, a5, a6⟩ := sc_6 (I := I) h0 hl hk
  obtain ⟨b1, b2, b3, b4, b5, b6⟩ := sc_6 (A := A1) (I := I1) (q1.trans h0) hl hk
  refine ⟨enc A2 I2, ⟨A2, I2, σ', rfl, q2.trans h0, q4, q3 fe⟩, ?_⟩
  rw [L_5]
  simp only [a1, a2, a3, a4, a5, a6, b1, b2, b3, b4, b5, b6, Option.bind_some, e1, e2, cI_some, cL_some, lg_self]
  rw [if_pos trivial, L_40]

theorem lw_4 (hf : 10000000000 ≤ fu) (hl : xs.length ≤ 3584) {A : Nat → List Int32} {I : Nat → Nat → Int32} {σ : SG} (h0 : A 0 = xs) (r : RR σ A I) (fe : I 1 7 = I 36 0) {k : Nat} (hk : k + 7 ≤ xs.length) (n : Nat) : ∃ w', GOOD xs w' ∧ (F_L_law fu (n + 2)).2.2.2.2.2.2.1 0 1 36 (nI k) (enc A I) = (F_L_law fu n).1 0 1 36 (nI k + 7) w' := by
  have e : OP (U_X7_stone fu) (U_X8_stone fu) [.ref 1, .int (rd xs (k + 1)), .int (rd xs (k + 2)), .int (rd xs (k + 3)), .int (rd xs (k + 4))] [.ref 36, .int (rd xs (k + 1)), .int (rd xs (k + 2)), .int (rd xs (k + 3)), .int (rd xs (k + 4))] A I := by first | exact op_stone hf r (rd xs (k + 1)) (rd xs (k + 2)) (rd xs (k + 3)) (rd xs (k + 4)) | exact op_stone (by omega) r (rd xs (k + 1)) (rd xs (k + 2)) (rd xs (k + 3)) (rd xs (k + 4)) | exact op_stone r (rd xs (k + 1)) (rd xs (k + 2)) (rd xs (k + 3)) (rd xs (k + 4))
  obtain ⟨v, A1, I1, A2, I2, σ', e1, q1, e2, q2, q3, q4⟩ := e
  obtain ⟨a1, a2, a3, a4, a5, a6⟩ := sc_6 (I := I) h0 hl hk
  obtain ⟨b1, b2, b3, b4, b5, b6⟩ := sc_6 (A := A1) (I := I1) (q1.trans h0) hl hk
  refine ⟨enc A2 I2, ⟨A2, I2, σ', rfl, q2.trans h0, q4, q3 fe⟩, ?_⟩
  rw [L_6]
  simp only [a1, a2, a3, a4, a5, a6, b1, b2, b3, b4, b5, b6, Option.bind_some, e1, e2, cI_some, cL_some, lg_self]
  rw [if_pos trivial, L_40]

theorem lw_5 (hf : 10000000000 ≤ fu) (hl : xs.length ≤ 3584) {A : Nat → List Int32} {I : Nat → Nat → Int32} {σ : SG} (h0 : A 0 = xs) (r : RR σ A I) (fe : I 1 7 = I 36 0) {k : Nat} (hk : k + 7 ≤ xs.length) (n : Nat) : ∃ w', GOOD xs w' ∧ (F_L_law fu (n + 2)).2.2.2.2.2.2.2.1 0 1 36 (nI k) (enc A I) = (F_L_law fu n).1 0 1 36 (nI k + 7) w' := by
  have e : OP (U_X7_ofStone fu) (U_X8_ofStone fu) [.ref 1, .int (rd xs (k + 1)), .int (rd xs (k + 2))] [.ref 36, .int (rd xs (k + 1)), .int (rd xs (k + 2))] A I := by first | exact op_ofStone hf r (rd xs (k + 1)) (rd xs (k + 2)) | exact op_ofStone (by omega) r (rd xs (k + 1)) (rd xs (k + 2)) | exact op_ofStone r (rd xs (k + 1)) (rd xs (k + 2))
  obtain ⟨v, A1, I1, A2, I2, σ', e1, q1, e2, q2, q3, q4⟩ := e
  obtain ⟨a1, a2, a3, a4, a5, a6⟩ := sc_6 (I := I) h0 hl hk
  obtain ⟨b1, b2, b3, b4, b5, b6⟩ := sc_6 (A := A1) (I := I1) (q1.trans h0) hl hk
  refine ⟨enc A2 I2, ⟨A2, I2, σ', rfl, q2.trans h0, q4, q3 fe⟩, ?_⟩
  rw [L_7]
  simp only [a1, a2, a3, a4, a5, a6, b1, b2, b3, b4, b5, b6, Option.bind_some, e1, e2, cI_some, cL_some, lg_self]
  rw [if_pos trivial, L_40]

theorem lw_6 (hf : 10000000000 ≤ fu) (hl : xs.length ≤ 3584) {A : Nat → List Int32} {I : Nat → Nat → Int32} {σ : SG} (h0 : A 0 = xs) (r : RR σ A I) (fe : I 1 7 = I 36 0) {k : Nat} (hk : k + 7 ≤ xs.length) (n : Nat) : ∃ w', GOOD xs w' ∧ (F_L_law fu (n + 2)).2.2.2.2.2.2.2.2.1 0 1 36 (nI k) (enc A I) = (F_L_law fu n).1 0 1 36 (nI k + 7) w' := by
  have e : OP (U_X7_set fu) (U_X8_set fu) [.ref 1, .int (rd xs (k + 1)), .int (rd xs (k + 2))] [.ref 36, .int (rd xs (k + 1)), .int (rd xs (k + 2))] A I := by first | exact op_set hf r (rd xs (k + 1)) (rd xs (k + 2)) | exact op_set (by omega) r (rd xs (k + 1)) (rd xs (k + 2)) | exact op_set r (rd xs (k + 1)) (rd xs (k + 2))
  obtain ⟨v, A1, I1, A2, I2, σ', e1, q1, e2, q2, q3, q4⟩ := e
  obtain ⟨a1, a2, a3, a4, a5, a6⟩ := sc_6 (I := I) h0 hl hk
  obtain ⟨b1, b2, b3, b4, b5, b6⟩ := sc_6 (A := A1) (I := I1) (q1.trans h0) hl hk
  refine ⟨enc A2 I2, ⟨A2, I2, σ', rfl, q2.trans h0, q4, q3 fe⟩, ?_⟩
  rw [L_8]
  simp only [a1, a2, a3, a4, a5, a6, b1, b2, b3, b4, b5, b6, Option.bind_some, e1, e2, cI_some, cL_some, lg_self]
  rw [if_pos trivial, L_40]

theorem lw_7 (hf : 10000000000 ≤ fu) (hl : xs.length ≤ 3584) {A : Nat → List Int32} {I : Nat → Nat → Int32} {σ : SG} (h0 : A 0 = xs) (r : RR σ A I) (fe : I 1 7 = I 36 0) {k : Nat} (hk : k + 7 ≤ xs.length) (n : Nat) : ∃ w', GOOD xs w' ∧ (F_L_law fu (n + 2)).2.2.2.2.2.2.2.2.2.1 0 1 36 (nI k) (enc A I) = (F_L_law fu n).1 0 1 36 (nI k + 7) w' := by
  have e : OP (U_X7_work fu) (U_X8_work fu) [.ref 1, .int (rd xs (k + 1)), .int (rd xs (k + 2))] [.ref 36, .int (rd xs (k + 1)), .int (rd xs (k + 2))] A I := by first | exact op_work hf r (rd xs (k + 1)) (rd xs (k + 2)) | exact op_work (by omega) r (rd xs (k + 1)) (rd xs (k + 2)) | exact op_work r (rd xs (k + 1)) (rd xs (k + 2))
  obtain ⟨v, A1, I1, A2, I2, σ', e1, q1, e2, q2, q3, q4⟩ := e
  obtain ⟨a1, a2, a3, a4, a5, a6⟩ := sc_6 (I := I) h0 hl hk
  obtain ⟨b1, b2, b3, b4, b5, b6⟩ := sc_6 (A := A1) (I := I1) (q1.trans h0) hl hk
  refine ⟨enc A2 I2, ⟨A2, I2, σ', rfl, q2.trans h0, q4, q3 fe⟩, ?_⟩
  rw [L_9]
  simp only [a1, a2, a3, a4, a5, a6, b1, b2, b3, b4, b5, b6, Option.bind_some, e1, e2, cI_some, cL_some, lg_self]
  rw [if_pos trivial, L_40]

theorem lw_8 (hf : 10000000000 ≤ fu) (hl : xs.length ≤ 3584) {A : Nat → List Int32} {I : Nat → Nat → Int32} {σ : SG} (h0 : A 0 = xs) (r : RR σ A I) (fe : I 1 7 = I 36 0) {k : Nat} (hk : k + 7 ≤ xs.length) (n : Nat) : ∃ w', GOOD xs w' ∧ (F_L_law fu (n + 2)).2.2.2.2.2.2.2.2.2.2.1 0 1 36 (nI k) (enc A I) = (F_L_law fu n).1 0 1 36 (nI k + 7) w' := by
  have e : OP (U_X7_walker fu) (U_X8_walker fu) [.ref 1, .int (rd xs (k + 1))] [.ref 36, .int (rd xs (k + 1))] A I := by first | exact op_walker hf r (rd xs (k + 1)) | exact op_walker (by omega) r (rd xs (k + 1)) | exact op_walker r (rd xs (k + 1))
  obtain ⟨v, A1, I1, A2, I2, σ', e1, q1, e2, q2, q3, q4⟩ := e
  obtain ⟨a1, a2, a3, a4, a5, a6⟩ := sc_6 (I := I) h0 hl hk
  obtain ⟨b1, b2, b3, b4, b5, b6⟩ := sc_6 (A := A1) (I := I1) (q1.trans h0) hl hk
  refine ⟨enc A2 I2, ⟨A2, I2, σ', rfl, q2.trans h0, q4, q3 fe⟩, ?_⟩
  rw [L_10]
  simp only [a1, a2, a3, a4, a5, a6, b1, b2, b3, b4, b5, b6, Option.bind_some, e1, e2, cI_some, cL_some, lg_self]
  rw [if_pos trivial, L_40]

theorem lw_9 (hf : 10000000000 ≤ fu) (hl : xs.length ≤ 3584) {A : Nat → List Int32} {I : Nat → Nat → Int32} {σ : SG} (h0 : A 0 = xs) (r : RR σ A I) (fe : I 1 7 = I 36 0) {k : Nat} (hk : k + 7 ≤ xs.length) (n : Nat) : ∃ w', GOOD xs w' ∧ (F_L_law fu (n + 2)).2.2.2.2.2.2.2.2.2.2.2.1 0 1 36 (nI k) (enc A I) = (F_L_law fu n).1 0 1 36 (nI k + 7) w' := by
  have e : OP (U_X7_stride fu) (U_X8_stride fu) [.ref 1, .int (rd xs (k + 1))] [.ref 36, .int (rd xs (k + 1))] A I := by first | exact op_stride hf r (rd xs (k + 1)) | exact op_stride (by omega) r (rd xs (k + 1)) | exact op_stride r (rd xs (k + 1))
  obtain ⟨v, A1, I1, A2, I2, σ', e1, q1, e2, q2, q3, q4⟩ := e
  obtain ⟨a1, a2, a3, a4, a5, a6⟩ := sc_6 (I := I) h0 hl hk
  obtain ⟨b1, b2, b3, b4, b5, b6⟩ := sc_6 (A := A1) (I := I1) (q1.trans h0) hl hk
  refine ⟨enc A2 I2, ⟨A2, I2, σ', rfl, q2.trans h0, q4, q3 fe⟩, ?_⟩
  rw [L_11]
  simp only [a1, a2, a3, a4, a5, a6, b1, b2, b3, b4, b5, b6, Option.bind_some, e1, e2, cI_some, cL_some, lg_self]
  rw [if_pos trivial, L_40]
theorem lw_10 (hf : 10000000000 ≤ fu) (hl : xs.length ≤ 3584) {A : Nat → List Int32} {I : Nat → Nat → Int32} {σ : SG} (h0 : A 0 = xs) (r : RR σ A I) (fe : I 1 7 = I 36 0) {k : Nat} (hk : k + 7 ≤ xs.length) (n : Nat) : ∃ w', GOOD xs w' ∧ (F_L_law fu (n + 3)).2.2.2.2.2.2.2.2.2.2.2.2.1 0 1 36 (nI k) (enc A I) = (F_L_law fu n).1 0 1 36 (nI k + 7) w' := by
  obtain ⟨a1, a2, a3, a4, a5, a6⟩ := sc_6 (I := I) h0 hl hk
  by_cases z : rd xs (k + 2) = 0
  · have e : OP (U_X7_can fu) (U_X8_can fu) [.ref 1, .int (rd xs (k + 1)), .int (nI 0)] [.ref 36, .int (rd xs (k + 1)), .int (nI 0)] A I := by first | exact op_can hf r (rd xs (k + 1)) (by omega) | exact op_can r (rd xs (k + 1)) 0 (by omega)
    obtain ⟨v, A1, I1, A2, I2, σ', e1, q1, e2, q2, q3, q4⟩ := e
    rw [show nI 0 = (0 : Int32) from rfl] at e1 e2
    obtain ⟨b1, b2, b3, b4, b5, b6⟩ := sc_6 (A := A1) (I := I1) (q1.trans h0) hl hk
    refine ⟨enc A2 I2, ⟨A2, I2, σ', rfl, q2.trans h0, q4, q3 fe⟩, ?_⟩
    rw [L_12]
    simp only [a1, a2, Option.bind_some]
    rw [if_pos z, L_13]
    simp only [b1, b2, Option.bind_some, e1, cI_some]
    rw [if_pos z]
    simp only [e2, cI_some]
    rw [if_pos trivial, L_40]
  · have e : OP (U_X7_can fu) (U_X8_can fu) [.ref 1, .int (rd xs (k + 1)), .int (nI 1)] [.ref 36, .int (rd xs (k + 1)), .int (nI 1)] A I := by first | exact op_can hf r (rd xs (k + 1)) (by omega) | exact op_can r (rd xs (k + 1)) 1 (by omega)
    obtain ⟨v, A1, I1, A2, I2, σ', e1, q1, e2, q2, q3, q4⟩ := e
    rw [show nI 1 = (1 : Int32) from rfl] at e1 e2
    obtain ⟨b1, b2, b3, b4, b5, b6⟩ := sc_6 (A := A1) (I := I1) (q1.trans h0) hl hk
    refine ⟨enc A2 I2, ⟨A2, I2, σ', rfl, q2.trans h0, q4, q3 fe⟩, ?_⟩
    rw [L_12]
    simp only [a1, a2, Option.bind_some]
    rw [if_neg z, L_13]
    simp only [b1, b2, Option.bind_some, e1, cI_some]
    rw [if_neg z]
    simp only [e2, cI_some]
    rw [if_pos trivial, L_40]

theorem lw_11 (hf : 10000000000 ≤ fu) (hl : xs.length ≤ 3584) {A : Nat → List Int32} {I : Nat → Nat → Int32} {σ : SG} (h0 : A 0 = xs) (r : RR σ A I) (fe : I 1 7 = I 36 0) {k : Nat} (hk : k + 7 ≤ xs.length) (n : Nat) : ∃ w', GOOD xs w' ∧ (F_L_law fu (n + 2)).2.2.2.2.2.2.2.2.2.2.2.2.2.2.1 0 1 36 (nI k) (enc A I) = (F_L_law fu n).1 0 1 36 (nI k + 7) w' := by
  have e : OP (U_X7_way fu) (U_X8_way fu) [.ref 1, .int (rd xs (k + 1)), .int (rd xs (k + 2))] [.ref 36, .int (rd xs (k + 1)), .int (rd xs (k + 2))] A I := by first | exact op_way hf r (rd xs (k + 1)) (rd xs (k + 2)) | exact op_way (by omega) r (rd xs (k + 1)) (rd xs (k + 2)) | exact op_way r (rd xs (k + 1)) (rd xs (k + 2))
  obtain ⟨v, A1, I1, A2, I2, σ', e1, q1, e2, q2, q3, q4⟩ := e
  obtain ⟨a1, a2, a3, a4, a5, a6⟩ := sc_6 (I := I) h0 hl hk
  obtain ⟨b1, b2, b3, b4, b5, b6⟩ := sc_6 (A := A1) (I := I1) (q1.trans h0) hl hk
  refine ⟨enc A2 I2, ⟨A2, I2, σ', rfl, q2.trans h0, q4, q3 fe⟩, ?_⟩
  rw [L_14]
  simp only [a1, a2, a3, a4, a5, a6, b1, b2, b3, b4, b5, b6, Option.bind_some, e1, e2, cI_some, cL_some, lg_self]
  rw [if_pos trivial, L_40]
theorem lw_12 (hf : 10000000000 ≤ fu) (hl : xs.length ≤ 3584) {A : Nat → List Int32} {I : Nat → Nat → Int32} {σ : SG} (h0 : A 0 = xs) (r : RR σ A I) (fe : I 1 7 = I 36 0) {k : Nat} (hk : k + 7 ≤ xs.length) (n : Nat) : ∃ w', GOOD xs w' ∧ (F_L_law fu (n + 3)).2.2.2.2.2.2.2.2.2.2.2.2.2.2.2.1 0 1 36 (nI k) (enc A I) = (F_L_law fu n).1 0 1 36 (nI k + 7) w' := by
  obtain ⟨a1, a2, a3, a4, a5, a6⟩ := sc_6 (I := I) h0 hl hk
  by_cases z : rd xs (k + 2) = 0
  · have e : OP (U_X7_highest fu) (U_X8_highest fu) [.ref 1, .int (rd xs (k + 1)), .int (nI 0)] [.ref 36, .int (rd xs (k + 1)), .int (nI 0)] A I := by first | exact op_highest hf r (rd xs (k + 1)) (by omega) | exact op_highest r (rd xs (k + 1)) 0 (by omega)
    obtain ⟨v, A1, I1, A2, I2, σ', e1, q1, e2, q2, q3, q4⟩ := e
    rw [show nI 0 = (0 : Int32) from rfl] at e1 e2
    obtain ⟨b1, b2, b3, b4, b5, b6⟩ := sc_6 (A := A1) (I := I1) (q1.trans h0) hl hk
    refine ⟨enc A2 I2, ⟨A2, I2, σ', rfl, q2.trans h0, q4, q3 fe⟩, ?_⟩
    rw [L_15]
    simp only [a1, a2, Option.bind_some]
    rw [if_pos z, L_16]
    simp only [b1, b2, Option.bind_some, e1, cI_some]
    rw [if_pos z]
    simp only [e2, cI_some]
    rw [if_pos trivial, L_40]
  · have e : OP (U_X7_highest fu) (U_X8_highest fu) [.ref 1, .int (rd xs (k + 1)), .int (nI 1)] [.ref 36, .int (rd xs (k + 1)), .int (nI 1)] A I := by first | exact op_highest hf r (rd xs (k + 1)) (by omega) | exact op_highest r (rd xs (k + 1)) 1 (by omega)
    obtain ⟨v, A1, I1, A2, I2, σ', e1, q1, e2, q2, q3, q4⟩ := e
    rw [show nI 1 = (1 : Int32) from rfl] at e1 e2
    obtain ⟨b1, b2, b3, b4, b5, b6⟩ := sc_6 (A := A1) (I := I1) (q1.trans h0) hl hk
    refine ⟨enc A2 I2, ⟨A2, I2, σ', rfl, q2.trans h0, q4, q3 fe⟩, ?_⟩
    rw [L_15]
    simp only [a1, a2, Option.bind_some]
    rw [if_neg z, L_16]
    simp only [b1, b2, Option.bind_some, e1, cI_some]
    rw [if_neg z]
    simp only [e2, cI_some]
    rw [if_pos trivial, L_40]

theorem lw_13 (hf : 10000000000 ≤ fu) (hl : xs.length ≤ 3584) {A : Nat → List Int32} {I : Nat → Nat → Int32} {σ : SG} (h0 : A 0 = xs) (r : RR σ A I) (fe : I 1 7 = I 36 0) {k : Nat} (hk : k + 7 ≤ xs.length) (n : Nat) : ∃ w', GOOD xs w' ∧ (F_L_law fu (n + 2)).2.2.2.2.2.2.2.2.2.2.2.2.2.2.2.2.2.1 0 1 36 (nI k) (enc A I) = (F_L_law fu n).1 0 1 36 (nI k + 7) w' := by
  have e : OP (U_X7_pass fu) (U_X8_pass fu) [.ref 1, .int (rd xs (k + 1)), .int (rd xs (k + 2))] [.ref 36, .int (rd xs (k + 1)), .int (rd xs (k + 2))] A I := by first | exact op_pass hf r (rd xs (k + 1)) (rd xs (k + 2)) | exact op_pass (by omega) r (rd xs (k + 1)) (rd xs (k + 2)) | exact op_pass r (rd xs (k + 1)) (rd xs (k + 2))
  obtain ⟨v, A1, I1, A2, I2, σ', e1, q1, e2, q2, q3, q4⟩ := e
  obtain ⟨a1, a2, a3, a4, a5, a6⟩ := sc_6 (I := I) h0 hl hk
  obtain ⟨b1, b2, b3, b4, b5, b6⟩ := sc_6 (A := A1) (I := I1) (q1.trans h0) hl hk
  refine ⟨enc A2 I2, ⟨A2, I2, σ', rfl, q2.trans h0, q4, q3 fe⟩, ?_⟩
  rw [L_17]
  simp only [a1, a2, a3, a4, a5, a6, b1, b2, b3, b4, b5, b6, Option.bind_some, e1, e2, cI_some, cL_some, lg_self]
  rw [if_pos trivial, L_40]

theorem lw_14 (hf : 10000000000 ≤ fu) (hl : xs.length ≤ 3584) {A : Nat → List Int32} {I : Nat → Nat → Int32} {σ : SG} (h0 : A 0 = xs) (r : RR σ A I) (fe : I 1 7 = I 36 0) {k : Nat} (hk : k + 7 ≤ xs.length) (n : Nat) : ∃ w', GOOD xs w' ∧ (F_L_law fu (n + 2)).2.2.2.2.2.2.2.2.2.2.2.2.2.2.2.2.2.2.1 0 1 36 (nI k) (enc A I) = (F_L_law fu n).1 0 1 36 (nI k + 7) w' := by
  have e : OP (U_X7_days fu) (U_X8_days fu) [.ref 1, .int (rd xs (k + 1)), .int (rd xs (k + 2)), .int (rd xs (k + 3)), .int (rd xs (k + 4)), .int (rd xs (k + 5))] [.ref 36, .int (rd xs (k + 1)), .int (rd xs (k + 2)), .int (rd xs (k + 3)), .int (rd xs (k + 4)), .int (rd xs (k + 5))] A I := by first | exact op_days hf r (rd xs (k + 1)) (rd xs (k + 2)) (rd xs (k + 3)) (rd xs (k + 4)) (rd xs (k + 5)) | exact op_days (by omega) r (rd xs (k + 1)) (rd xs (k + 2)) (rd xs (k + 3)) (rd xs (k + 4)) (rd xs (k + 5)) | exact op_days r (rd xs (k + 1)) (rd xs (k + 2)) (rd xs (k + 3)) (rd xs (k + 4)) (rd xs (k + 5))
  obtain ⟨v, A1, I1, A2, I2, σ', e1, q1, e2, q2, q3, q4⟩ := e
  obtain ⟨a1, a2, a3, a4, a5, a6⟩ := sc_6 (I := I) h0 hl hk
  obtain ⟨b1, b2, b3, b4, b5, b6⟩ := sc_6 (A := A1) (I := I1) (q1.trans h0) hl hk
  refine ⟨enc A2 I2, ⟨A2, I2, σ', rfl, q2.trans h0, q4, q3 fe⟩, ?_⟩
  rw [L_18]
  simp only [a1, a2, a3, a4, a5, a6, b1, b2, b3, b4, b5, b6, Option.bind_some, e1, e2, cI_some, cL_some, lg_self]
  rw [if_pos trivial, L_40]

theorem lw_15 (hf : 10000000000 ≤ fu) (hl : xs.length ≤ 3584) {A : Nat → List Int32} {I : Nat → Nat → Int32} {σ : SG} (h0 : A 0 = xs) (r : RR σ A I) (fe : I 1 7 = I 36 0) {k : Nat} (hk : k + 7 ≤ xs.length) (n : Nat) : ∃ w', GOOD xs w' ∧ (F_L_law fu (n + 2)).2.2.2.2.2.2.2.2.2.2.2.2.2.2.2.2.2.2.2.1 0 1 36 (nI k) (enc A I) = (F_L_law fu n).1 0 1 36 (nI k + 7) w' := by
  have e : OP (U_X7_stands fu) (U_X8_stands fu) [.ref 1, .int (rd xs (k + 1)), .int (rd xs (k + 2))] [.ref 36, .int (rd xs (k + 1)), .int (rd xs (k + 2))] A I := by first | exact op_stands hf r (rd xs (k + 1)) (rd xs (k + 2)) | exact op_stands (by omega) r (rd xs (k + 1)) (rd xs (k + 2)) | exact op_stands r (rd xs (k + 1)) (rd xs (k + 2))
  obtain ⟨v, A1, I1, A2, I2, σ', e1, q1, e2, q2, q3, q4⟩ := e
  obtain ⟨a1, a2, a3, a4, a5, a6⟩ := sc_6 (I := I) h0 hl hk
  obtain ⟨b1, b2, b3, b4, b5, b6⟩ := sc_6 (A := A1) (I := I1) (q1.trans h0) hl hk
  refine ⟨enc A2 I2, ⟨A2, I2, σ', rfl, q2.trans h0, q4, q3 fe⟩, ?_⟩
  rw [L_19]
  simp only [a1, a2, a3, a4, a5, a6, b1, b2, b3, b4, b5, b6, Option.bind_some, e1, e2, cI_some, cL_some, lg_self]
  rw [if_pos trivial, L_40]

theorem lw_16 (hf : 10000000000 ≤ fu) (hl : xs.length ≤ 3584) {A : Nat → List Int32} {I : Nat → Nat → Int32} {σ : SG} (h0 : A 0 = xs) (r : RR σ A I) (fe : I 1 7 = I 36 0) {k : Nat} (hk : k + 7 ≤ xs.length) (n : Nat) : ∃ w', GOOD xs w' ∧ (F_L_law fu (n + 2)).2.2.2.2.2.2.2.2.2.2.2.2.2.2.2.2.2.2.2.2.1 0 1 36 (nI k) (enc A I) = (F_L_law fu n).1 0 1 36 (nI k + 7) w' := by
  have e : OP (U_X7_goes fu) (U_X8_goes fu) [.ref 1, .int (rd xs (k + 1)), .int (rd xs (k + 2))] [.ref 36, .int (rd xs (k + 1)), .int (rd xs (k + 2))] A I := by first | exact op_goes hf r (rd xs (k + 1)) (rd xs (k + 2)) | exact op_goes (by omega) r (rd xs (k + 1)) (rd xs (k + 2)) | exact op_goes r (rd xs (k + 1)) (rd xs (k + 2))
  obtain ⟨v, A1, I1, A2, I2, σ', e1, q1, e2, q2, q3, q4⟩ := e
  obtain ⟨a1, a2, a3, a4, a5, a6⟩ := sc_6 (I := I) h0 hl hk
  obtain ⟨b1, b2, b3, b4, b5, b6⟩ := sc_6 (A := A1) (I := I1) (q1.trans h0) hl hk
  refine ⟨enc A2 I2, ⟨A2, I2, σ', rfl, q2.trans h0, q4, q3 fe⟩, ?_⟩
  rw [L_20]
  simp only [a1, a2, a3, a4, a5, a6, b1, b2, b3, b4, b5, b6, Option.bind_some, e1, e2, cI_some, cL_some, lg_self]
  rw [if_pos trivial, L_40]

theorem lw_17 (hf : 10000000000 ≤ fu) (hl : xs.length ≤ 3584) {A : Nat → List Int32} {I : Nat → Nat → Int32} {σ : SG} (h0 : A 0 = xs) (r : RR σ A I) (fe : I 1 7 = I 36 0) {k : Nat} (hk : k + 7 ≤ xs.length) (n : Nat) : ∃ w', GOOD xs w' ∧ (F_L_law fu (n + 2)).2.2.2.2.2.2.2.2.2.2.2.2.2.2.2.2.2.2.2.2.2.1 0 1 36 (nI k) (enc A I) = (F_L_law fu n).1 0 1 36 (nI k + 7) w' := by
  have e : OP (U_X7_dug fu) (U_X8_dug fu) [.ref 1, .int (rd xs (k + 1)), .int (rd xs (k + 2)), .int (rd xs (k + 3))] [.ref 36, .int (rd xs (k + 1)), .int (rd xs (k + 2)), .int (rd xs (k + 3))] A I := by first | exact op_dug hf r (rd xs (k + 1)) (rd xs (k + 2)) (rd xs (k + 3)) | exact op_dug (by omega) r (rd xs (k + 1)) (rd xs (k + 2)) (rd xs (k + 3)) | exact op_dug r (rd xs (k + 1)) (rd xs (k + 2)) (rd xs (k + 3))
  obtain ⟨v, A1, I1, A2, I2, σ', e1, q1, e2, q2, q3, q4⟩ := e
  obtain ⟨a1, a2, a3, a4, a5, a6⟩ := sc_6 (I := I) h0 hl hk
  obtain ⟨b1, b2, b3, b4, b5, b6⟩ := sc_6 (A := A1) (I := I1) (q1.trans h0) hl hk
  refine ⟨enc A2 I2, ⟨A2, I2, σ', rfl, q2.trans h0, q4, q3 fe⟩, ?_⟩
  rw [L_21]
  simp only [a1, a2, a3, a4, a5, a6, b1, b2, b3, b4, b5, b6, Option.bind_some, e1, e2, cI_some, cL_some, lg_self]
  rw [if_pos trivial, L_40]

theorem lw_18 (hf : 10000000000 ≤ fu) (hl : xs.length ≤ 3584) {A : Nat → List Int32} {I : Nat → Nat → Int32} {σ : SG} (h0 : A 0 = xs) (r : RR σ A I) (fe : I 1 7 = I 36 0) {k : Nat} (hk : k + 7 ≤ xs.length) (n : Nat) : ∃ w', GOOD xs w' ∧ (F_L_law fu (n + 2)).2.2.2.2.2.2.2.2.2.2.2.2.2.2.2.2.2.2.2.2.2.2.1 0 1 36 (nI k) (enc A I) = (F_L_law fu n).1 0 1 36 (nI k + 7) w' := by
  have e : OP (U_X7_flood fu) (U_X8_flood fu) [.ref 1, .int (rd xs (k + 1)), .int (rd xs (k + 2))] [.ref 36, .int (rd xs (k + 1)), .int (rd xs (k + 2))] A I := by first | exact op_flood hf r (rd xs (k + 1)) (rd xs (k + 2)) | exact op_flood (by omega) r (rd xs (k + 1)) (rd xs (k + 2)) | exact op_flood r (rd xs (k + 1)) (rd xs (k + 2))
  obtain ⟨v, A1, I1, A2, I2, σ', e1, q1, e2, q2, q3, q4⟩ := e
  obtain ⟨a1, a2, a3, a4, a5, a6⟩ := sc_6 (I := I) h0 hl hk
  obtain ⟨b1, b2, b3, b4, b5, b6⟩ := sc_6 (A := A1) (I := I1) (q1.trans h0) hl hk
  refine ⟨enc A2 I2, ⟨A2, I2, σ', rfl, q2.trans h0, q4, q3 fe⟩, ?_⟩
  rw [L_22]
  simp only [a1, a2, a3, a4, a5, a6, b1, b2, b3, b4, b5, b6, Option.bind_some, e1, e2, cI_some, cL_some, lg_self]
  rw [if_pos trivial, L_40]

theorem lw_19 (hf : 10000000000 ≤ fu) (hl : xs.length ≤ 3584) {A : Nat → List Int32} {I : Nat → Nat → Int32} {σ : SG} (h0 : A 0 = xs) (r : RR σ A I) (fe : I 1 7 = I 36 0) {k : Nat} (hk : k + 7 ≤ xs.length) (n : Nat) : ∃ w', GOOD xs w' ∧ (F_L_law fu (n + 2)).2.2.2.2.2.2.2.2.2.2.2.2.2.2.2.2.2.2.2.2.2.2.2.1 0 1 36 (nI k) (enc A I) = (F_L_law fu n).1 0 1 36 (nI k + 7) w' := by
  have e : OP (U_X7_save fu) (U_X8_save fu) [.ref 1, .int (rd xs (k + 1)), .int (rd xs (k + 2)), .int (rd xs (k + 3))] [.ref 36, .int (rd xs (k + 1)), .int (rd xs (k + 2)), .int (rd xs (k + 3))] A I := by first | exact op_save hf r (rd xs (k + 1)) (rd xs (k + 2)) (rd xs (k + 3)) | exact op_save (by omega) r (rd xs (k + 1)) (rd xs (k + 2)) (rd xs (k + 3)) | exact op_save r (rd xs (k + 1)) (rd xs (k + 2)) (rd xs (k + 3))
  obtain ⟨v, A1, I1, A2, I2, σ', e1, q1, e2, q2, q3, q4⟩ := e
  obtain ⟨a1, a2, a3, a4, a5, a6⟩ := sc_6 (I := I) h0 hl hk
  obtain ⟨b1, b2, b3, b4, b5, b6⟩ := sc_6 (A := A1) (I := I1) (q1.trans h0) hl hk
  refine ⟨enc A2 I2, ⟨A2, I2, σ', rfl, q2.trans h0, q4, q3 fe⟩, ?_⟩
  rw [L_23]
  simp only [a1, a2, a3, a4, a5, a6, b1, b2, b3, b4, b5, b6, Option.bind_some, e1, e2, cI_some, cL_some, lg_self]
  rw [if_pos trivial, L_40]

theorem lw_20 (hf : 10000000000 ≤ fu) (hl : xs.length ≤ 3584) {A : Nat → List Int32} {I : Nat → Nat → Int32} {σ : SG} (h0 : A 0 = xs) (r : RR σ A I) (fe : I 1 7 = I 36 0) {k : Nat} (hk : k + 7 ≤ xs.length) (n : Nat) : ∃ w', GOOD xs w' ∧ (F_L_law fu (n + 2)).2.2.2.2.2.2.2.2.2.2.2.2.2.2.2.2.2.2.2.2.2.2.2.2.1 0 1 36 (nI k) (enc A I) = (F_L_law fu n).1 0 1 36 (nI k + 7) w' := by
  have e : OP (U_X7_plan fu) (U_X8_plan fu) [.ref 1, .int (rd xs (k + 1)), .int (rd xs (k + 2)), .int (rd xs (k + 3)), .int (rd xs (k + 4))] [.ref 36, .int (rd xs (k + 1)), .int (rd xs (k + 2)), .int (rd xs (k + 3)), .int (rd xs (k + 4))] A I := by first | exact op_plan hf r (rd xs (k + 1)) (rd xs (k + 2)) (rd xs (k + 3)) (rd xs (k + 4)) | exact op_plan (by omega) r (rd xs (k + 1)) (rd xs (k + 2)) (rd xs (k + 3)) (rd xs (k + 4)) | exact op_plan r (rd xs (k + 1)) (rd xs (k + 2)) (rd xs (k + 3)) (rd xs (k + 4))
  obtain ⟨v, A1, I1, A2, I2, σ', e1, q1, e2, q2, q3, q4⟩ := e
  obtain ⟨a1, a2, a3, a4, a5, a6⟩ := sc_6 (I := I) h0 hl hk
  obtain ⟨b1, b2, b3, b4, b5, b6⟩ := sc_6 (A := A1) (I := I1) (q1.trans h0) hl hk
  refine ⟨enc A2 I2, ⟨A2, I2, σ', rfl, q2.trans h0, q4, q3 fe⟩, ?_⟩
  rw [L_24]
  simp only [a1, a2, a3, a4, a5, a6, b1, b2, b3, b4, b5, b6, Option.bind_some, e1, e2, cI_some, cL_some, lg_self]
  rw [if_pos trivial, L_40]

theorem lw_21 (hf : 10000000000 ≤ fu) (hl : xs.length ≤ 3584) {A : Nat → List Int32} {I : Nat → Nat → Int32} {σ : SG} (h0 : A 0 = xs) (r : RR σ A I) (fe : I 1 7 = I 36 0) {k : Nat} (hk : k + 7 ≤ xs.length) (n : Nat) : ∃ w', GOOD xs w' ∧ (F_L_law fu (n + 2)).2.2.2.2.2.2.2.2.2.2.2.2.2.2.2.2.2.2.2.2.2.2.2.2.2.1 0 1 36 (nI k) (enc A I) = (F_L_law fu n).1 0 1 36 (nI k + 7) w' := by
  have e : OP (U_X7_orders fu) (U_X8_orders fu) [.ref 1, .int (rd xs (k + 1))] [.ref 36, .int (rd xs (k + 1))] A I := by first | exact op_orders hf r (rd xs (k + 1)) | exact op_orders (by omega) r (rd xs (k + 1)) | exact op_orders r (rd xs (k + 1))
  obtain ⟨v, A1, I1, A2, I2, σ', e1, q1, e2, q2, q3, q4⟩ := e
  obtain ⟨a1, a2, a3, a4, a5, a6⟩ := sc_6 (I := I) h0 hl hk
  obtain ⟨b1, b2, b3, b4, b5, b6⟩ := sc_6 (A := A1) (I := I1) (q1.trans h0) hl hk
  refine ⟨enc A2 I2, ⟨A2, I2, σ', rfl, q2.trans h0, q4, q3 fe⟩, ?_⟩
  rw [L_25]
  simp only [a1, a2, a3, a4, a5, a6, b1, b2, b3, b4, b5, b6, Option.bind_some, e1, e2, cI_some, cL_some, lg_self]
  rw [if_pos trivial, L_40]

theorem lw_22 (hf : 10000000000 ≤ fu) (hl : xs.length ≤ 3584) {A : Nat → List Int32} {I : Nat → Nat → Int32} {σ : SG} (h0 : A 0 = xs) (r : RR σ A I) (fe : I 1 7 = I 36 0) {k : Nat} (hk : k + 7 ≤ xs.length) (n : Nat) : ∃ w', GOOD xs w' ∧ (F_L_law fu (n + 2)).2.2.2.2.2.2.2.2.2.2.2.2.2.2.2.2.2.2.2.2.2.2.2.2.2.2.1 0 1 36 (nI k) (enc A I) = (F_L_law fu n).1 0 1 36 (nI k + 7) w' := by
  have e : OP (U_X7_order fu) (U_X8_order fu) [.ref 1, .int (rd xs (k + 1)), .int (rd xs (k + 2))] [.ref 36, .int (rd xs (k + 1)), .int (rd xs (k + 2))] A I := by first | exact op_order hf r (rd xs (k + 1)) (rd xs (k + 2)) | exact op_order (by omega) r (rd xs (k + 1)) (rd xs (k + 2)) | exact op_order r (rd xs (k + 1)) (rd xs (k + 2))
  obtain ⟨v, A1, I1, A2, I2, σ', e1, q1, e2, q2, q3, q4⟩ := e
  obtain ⟨a1, a2, a3, a4, a5, a6⟩ := sc_6 (I := I) h0 hl hk
  obtain ⟨b1, b2, b3, b4, b5, b6⟩ := sc_6 (A := A1) (I := I1) (q1.trans h0) hl hk
  refine ⟨enc A2 I2, ⟨A2, I2, σ', rfl, q2.trans h0, q4, q3 fe⟩, ?_⟩
  rw [L_26]
  simp only [a1, a2, a3, a4, a5, a6, b1, b2, b3, b4, b5, b6, Option.bind_some, e1, e2, cI_some, cL_some, lg_self]
  rw [if_pos trivial, L_40]

theorem lw_23 (hf : 10000000000 ≤ fu) (hl : xs.length ≤ 3584) {A : Nat → List Int32} {I : Nat → Nat → Int32} {σ : SG} (h0 : A 0 = xs) (r : RR σ A I) (fe : I 1 7 = I 36 0) {k : Nat} (hk : k + 7 ≤ xs.length) (n : Nat) : ∃ w', GOOD xs w' ∧ (F_L_law fu (n + 2)).2.2.2.2.2.2.2.2.2.2.2.2.2.2.2.2.2.2.2.2.2.2.2.2.2.2.2.1 0 1 36 (nI k) (enc A I) = (F_L_law fu n).1 0 1 36 (nI k + 7) w' := by
  have e : OP (U_X7_fits fu) (U_X8_fits fu) [.ref 1, .int (rd xs (k + 1)), .int (rd xs (k + 2))] [.ref 36, .int (rd xs (k + 1)), .int (rd xs (k + 2))] A I := by first | exact op_fits hf r (rd xs (k + 1)) (rd xs (k + 2)) | exact op_fits (by omega) r (rd xs (k + 1)) (rd xs (k + 2)) | exact op_fits r (rd xs (k + 1)) (rd xs (k + 2))
  obtain ⟨v, A1, I1, A2, I2, σ', e1, q1, e2, q2, q3, q4⟩ := e
  obtain ⟨a1, a2, a3, a4, a5, a6⟩ := sc_6 (I := I) h0 hl hk
  obtain ⟨b1, b2, b3, b4, b5, b6⟩ := sc_6 (A := A1) (I := I1) (q1.trans h0) hl hk
  refine ⟨enc A2 I2, ⟨A2, I2, σ', rfl, q2.trans h0, q4, q3 fe⟩, ?_⟩
  rw [L_27]
  simp only [a1, a2, a3, a4, a5, a6, b1, b2, b3, b4, b5, b6, Option.bind_some, e1, e2, cI_some, cL_some, lg_self]
  rw [if_pos trivial, L_40]

theorem lw_24 (hf : 10000000000 ≤ fu) (hl : xs.length ≤ 3584) {A : Nat → List Int32} {I : Nat → Nat → Int32} {σ : SG} (h0 : A 0 = xs) (r : RR σ A I) (fe : I 1 7 = I 36 0) {k : Nat} (hk : k + 7 ≤ xs.length) (n : Nat) : ∃ w', GOOD xs w' ∧ (F_L_law fu (n + 2)).2.2.2.2.2.2.2.2.2.2.2.2.2.2.2.2.2.2.2.2.2.2.2.2.2.2.2.2.1 0 1 36 (nI k) (enc A I) = (F_L_law fu n).1 0 1 36 (nI k + 7) w' := by
  have e : OPL (U_X7_odds fu) (U_X8_odds fu) [.ref 1, .int (rd xs (k + 1)), .int (rd xs (k + 2)), .int (rd xs (k + 3)), .int (rd xs (k + 4)), .int (rd xs (k + 5)), .int (rd xs (k + 6))] [.ref 36, .int (rd xs (k + 1)), .int (rd xs (k + 2)), .int (rd xs (k + 3)), .int (rd xs (k + 4)), .int (rd xs (k + 5)), .int (rd xs (k + 6))] A I := by first | exact op_odds hf r (rd xs (k + 1)) (rd xs (k + 2)) (rd xs (k + 3)) (rd xs (k + 4)) (rd xs (k + 5)) (rd xs (k + 6)) | exact op_odds (by omega) r (rd xs (k + 1)) (rd xs (k + 2)) (rd xs (k + 3)) (rd xs (k + 4)) (rd xs (k + 5)) (rd xs (k + 6)) | exact op_odds r (rd xs (k + 1)) (rd xs (k + 2)) (rd xs (k + 3)) (rd xs (k + 4)) (rd xs (k + 5)) (rd xs (k + 6))
  obtain ⟨v, A1, I1, A2, I2, σ', e1, q1, e2, q2, q3, q4⟩ := e
  obtain ⟨a1, a2, a3, a4, a5, a6⟩ := sc_6 (I := I) h0 hl hk
  obtain ⟨b1, b2, b3, b4, b5, b6⟩ := sc_6 (A := A1) (I := I1) (q1.trans h0) hl hk
  refine ⟨enc A2 I2, ⟨A2, I2, σ', rfl, q2.trans h0, q4, q3 fe⟩, ?_⟩
  rw [L_28]
  simp only [a1, a2, a3, a4, a5, a6, b1, b2, b3, b4, b5, b6, Option.bind_some, e1, e2, cI_some, cL_some, lg_self]
  rw [if_pos trivial, L_40]

theorem lw_25 (hf : 10000000000 ≤ fu) (hl : xs.length ≤ 3584) {A : Nat → List Int32} {I : Nat → Nat → Int32} {σ : SG} (h0 : A 0 = xs) (r : RR σ A I) (fe : I 1 7 = I 36 0) {k : Nat} (hk : k + 7 ≤ xs.length) (n : Nat) : ∃ w', GOOD xs w' ∧ (F_L_law fu (n + 2)).2.2.2.2.2.2.2.2.2.2.2.2.2.2.2.2.2.2.2.2.2.2.2.2.2.2.2.2.2.1 0 1 36 (nI k) (enc A I) = (F_L_law fu n).1 0 1 36 (nI k + 7) w' := by
  have e : OP (U_X7_sheet fu) (U_X8_sheet fu) [.ref 1, .int (rd xs (k + 1)), .int (rd xs (k + 2)), .int (rd xs (k + 3))] [.ref 36, .int (rd xs (k + 1)), .int (rd xs (k + 2)), .int (rd xs (k + 3))] A I := by first | exact op_sheet hf r (rd xs (k + 1)) (rd xs (k + 2)) (rd xs (k + 3)) | exact op_sheet (by omega) r (rd xs (k + 1)) (rd xs (k + 2)) (rd xs (k + 3)) | exact op_sheet r (rd xs (k + 1)) (rd xs (k + 2)) (rd xs (k + 3))
  obtain ⟨v, A1, I1, A2, I2, σ', e1, q1, e2, q2, q3, q4⟩ := e
  obtain ⟨a1, a2, a3, a4, a5, a6⟩ := sc_6 (I := I) h0 hl hk
  obtain ⟨b1, b2, b3, b4, b5, b6⟩ := sc_6 (A := A1) (I := I1) (q1.trans h0) hl hk
  refine ⟨enc A2 I2, ⟨A2, I2, σ', rfl, q2.trans h0, q4, q3 fe⟩, ?_⟩
  rw [L_29]
  simp only [a1, a2, a3, a4, a5, a6, b1, b2, b3, b4, b5, b6, Option.bind_some, e1, e2, cI_some, cL_some, lg_self]
  rw [if_pos trivial, L_40]

theorem lw_26 (hf : 10000000000 ≤ fu) (hl : xs.length ≤ 3584) {A : Nat → List Int32} {I : Nat → Nat → Int32} {σ : SG} (h0 : A 0 = xs) (r : RR σ A I) (fe : I 1 7 = I 36 0) {k : Nat} (hk : k + 7 ≤ xs.length) (n : Nat) : ∃ w', GOOD xs w' ∧ (F_L_law fu (n + 2)).2.2.2.2.2.2.2.2.2.2.2.2.2.2.2.2.2.2.2.2.2.2.2.2.2.2.2.2.2.2.1 0 1 36 (nI k) (enc A I) = (F_L_law fu n).1 0 1 36 (nI k + 7) w' := by
  have e : OP (U_X7_lose fu) (U_X8_lose fu) [.ref 1, .int (rd xs (k + 1))] [.ref 36, .int (rd xs (k + 1))] A I := by first | exact op_lose hf r (rd xs (k + 1)) | exact op_lose (by omega) r (rd xs (k + 1)) | exact op_lose r (rd xs (k + 1))
  obtain ⟨v, A1, I1, A2, I2, σ', e1, q1, e2, q2, q3, q4⟩ := e
  obtain ⟨a1, a2, a3, a4, a5, a6⟩ := sc_6 (I := I) h0 hl hk
  obtain ⟨b1, b2, b3, b4, b5, b6⟩ := sc_6 (A := A1) (I := I1) (q1.trans h0) hl hk
  refine ⟨enc A2 I2, ⟨A2, I2, σ', rfl, q2.trans h0, q4, q3 fe⟩, ?_⟩
  rw [L_30]
  simp only [a1, a2, a3, a4, a5, a6, b1, b2, b3, b4, b5, b6, Option.bind_some, e1, e2, cI_some, cL_some, lg_self]
  rw [if_pos trivial, L_40]

theorem lw_27 (hf : 10000000000 ≤ fu) (hl : xs.length ≤ 3584) {A : Nat → List Int32} {I : Nat → Nat → Int32} {σ : SG} (h0 : A 0 = xs) (r : RR σ A I) (fe : I 1 7 = I 36 0) {k : Nat} (hk : k + 7 ≤ xs.length) (n : Nat) : ∃ w', GOOD xs w' ∧ (F_L_law fu (n + 2)).2.2.2.2.2.2.2.2.2.2.2.2.2.2.2.2.2.2.2.2.2.2.2.2.2.2.2.2.2.2.2.1 0 1 36 (nI k) (enc A I) = (F_L_law fu n).1 0 1 36 (nI k + 7) w' := by
  have e : OP (U_X7_put fu) (U_X8_put fu) [.ref 1, .int (rd xs (k + 1)), .int (rd xs (k + 2)), .int (rd xs (k + 3))] [.ref 36, .int (rd xs (k + 1)), .int (rd xs (k + 2)), .int (rd xs (k + 3))] A I := by first | exact op_put hf r (rd xs (k + 1)) (rd xs (k + 2)) (rd xs (k + 3)) | exact op_put (by omega) r (rd xs (k + 1)) (rd xs (k + 2)) (rd xs (k + 3)) | exact op_put r (rd xs (k + 1)) (rd xs (k + 2)) (rd xs (k + 3))
  obtain ⟨v, A1, I1, A2, I2, σ', e1, q1, e2, q2, q3, q4⟩ := e
  obtain ⟨a1, a2, a3, a4, a5, a6⟩ := sc_6 (I := I) h0 hl hk
  obtain ⟨b1, b2, b3, b4, b5, b6⟩ := sc_6 (A := A1) (I := I1) (q1.trans h0) hl hk
  refine ⟨enc A2 I2, ⟨A2, I2, σ', rfl, q2.trans h0, q4, q3 fe⟩, ?_⟩
  rw [L_31]
  simp only [a1, a2, a3, a4, a5, a6, b1, b2, b3, b4, b5, b6, Option.bind_some, e1, e2, cI_some, cL_some, lg_self]
  rw [if_pos trivial, L_40]

theorem lw_28 (hf : 10000000000 ≤ fu) (hl : xs.length ≤ 3584) {A : Nat → List Int32} {I : Nat → Nat → Int32} {σ : SG} (h0 : A 0 = xs) (r : RR σ A I) (fe : I 1 7 = I 36 0) {k : Nat} (hk : k + 7 ≤ xs.length) (n : Nat) : ∃ w', GOOD xs w' ∧ (F_L_law fu (n + 2)).2.2.2.2.2.2.2.2.2.2.2.2.2.2.2.2.2.2.2.2.2.2.2.2.2.2.2.2.2.2.2.2.1 0 1 36 (nI k) (enc A I) = (F_L_law fu n).1 0 1 36 (nI k + 7) w' := by
  have e : OPL (U_X7_cell fu) (U_X8_cell fu) [.ref 1, .int (rd xs (k + 1)), .int (rd xs (k + 2)), .int (rd xs (k + 3))] [.ref 36, .int (rd xs (k + 1)), .int (rd xs (k + 2)), .int (rd xs (k + 3))] A I := by first | exact op_cell hf r (rd xs (k + 1)) (rd xs (k + 2)) (rd xs (k + 3)) | exact op_cell (by omega) r (rd xs (k + 1)) (rd xs (k + 2)) (rd xs (k + 3)) | exact op_cell r (rd xs (k + 1)) (rd xs (k + 2)) (rd xs (k + 3))
  obtain ⟨v, A1, I1, A2, I2, σ', e1, q1, e2, q2, q3, q4⟩ := e
  obtain ⟨a1, a2, a3, a4, a5, a6⟩ := sc_6 (I := I) h0 hl hk
  obtain ⟨b1, b2, b3, b4, b5, b6⟩ := sc_6 (A := A1) (I := I1) (q1.trans h0) hl hk
  refine ⟨enc A2 I2, ⟨A2, I2, σ', rfl, q2.trans h0, q4, q3 fe⟩, ?_⟩
  rw [L_32]
  simp only [a1, a2, a3, a4, a5, a6, b1, b2, b3, b4, b5, b6, Option.bind_some, e1, e2, cI_some, cL_some, lg_self]
  rw [if_pos trivial, L_40]

theorem lw_29 (hf : 10000000000 ≤ fu) (hl : xs.length ≤ 3584) {A : Nat → List Int32} {I : Nat → Nat → Int32} {σ : SG} (h0 : A 0 = xs) (r : RR σ A I) (fe : I 1 7 = I 36 0) {k : Nat} (hk : k + 7 ≤ xs.length) (n : Nat) : ∃ w', GOOD xs w' ∧ (F_L_law fu (n + 2)).2.2.2.2.2.2.2.2.2.2.2.2.2.2.2.2.2.2.2.2.2.2.2.2.2.2.2.2.2.2.2.2.2.1 0 1 36 (nI k) (enc A I) = (F_L_law fu n).1 0 1 36 (nI k + 7) w' := by
  have e : OP (U_X7_copy fu) (U_X8_copy fu) [.ref 1, .int (rd xs (k + 1)), .int (rd xs (k + 2)), .int (rd xs (k + 3)), .int (rd xs (k + 4)), .int (rd xs (k + 5))] [.ref 36, .int (rd xs (k + 1)), .int (rd xs (k + 2)), .int (rd xs (k + 3)), .int (rd xs (k + 4)), .int (rd xs (k + 5))] A I := by first | exact op_copy hf r (rd xs (k + 1)) (rd xs (k + 2)) (rd xs (k + 3)) (rd xs (k + 4)) (rd xs (k + 5)) | exact op_copy (by omega) r (rd xs (k + 1)) (rd xs (k + 2)) (rd xs (k + 3)) (rd xs (k + 4)) (rd xs (k + 5)) | exact op_copy r (rd xs (k + 1)) (rd xs (k + 2)) (rd xs (k + 3)) (rd xs (k + 4)) (rd xs (k + 5))
  obtain ⟨v, A1, I1, A2, I2, σ', e1, q1, e2, q2, q3, q4⟩ := e
  obtain ⟨a1, a2, a3, a4, a5, a6⟩ := sc_6 (I := I) h0 hl hk
  obtain ⟨b1, b2, b3, b4, b5, b6⟩ := sc_6 (A := A1) (I := I1) (q1.trans h0) hl hk
  refine ⟨enc A2 I2, ⟨A2, I2, σ', rfl, q2.trans h0, q4, q3 fe⟩, ?_⟩
  rw [L_33]
  simp only [a1, a2, a3, a4, a5, a6, b1, b2, b3, b4, b5, b6, Option.bind_some, e1, e2, cI_some, cL_some, lg_self]
  rw [if_pos trivial, L_40]

theorem lw_30 (hf : 10000000000 ≤ fu) (hl : xs.length ≤ 3584) {A : Nat → List Int32} {I : Nat → Nat → Int32} {σ : SG} (h0 : A 0 = xs) (r : RR σ A I) (fe : I 1 7 = I 36 0) {k : Nat} (hk : k + 7 ≤ xs.length) (n : Nat) : ∃ w', GOOD xs w' ∧ (F_L_law fu (n + 2)).2.2.2.2.2.2.2.2.2.2.2.2.2.2.2.2.2.2.2.2.2.2.2.2.2.2.2.2.2.2.2.2.2.2.1 0 1 36 (nI k) (enc A I) = (F_L_law fu n).1 0 1 36 (nI k + 7) w' := by
  have e : OP (U_X7_tell fu) (U_X8_tell fu) [.ref 1, .int (rd xs (k + 1))] [.ref 36, .int (rd xs (k + 1))] A I := by first | exact op_tell hf r (rd xs (k + 1)) | exact op_tell (by omega) r (rd xs (k + 1)) | exact op_tell r (rd xs (k + 1))
  obtain ⟨v, A1, I1, A2, I2, σ', e1, q1, e2, q2, q3, q4⟩ := e
  obtain ⟨a1, a2, a3, a4, a5, a6⟩ := sc_6 (I := I) h0 hl hk
  obtain ⟨b1, b2, b3, b4, b5, b6⟩ := sc_6 (A := A1) (I := I1) (q1.trans h0) hl hk
  refine ⟨enc A2 I2, ⟨A2, I2, σ', rfl, q2.trans h0, q4, q3 fe⟩, ?_⟩
  rw [L_34]
  simp only [a1, a2, a3, a4, a5, a6, b1, b2, b3, b4, b5, b6, Option.bind_some, e1, e2, cI_some, cL_some, lg_self]
  rw [if_pos trivial, L_40]

theorem lw_31 (hf : 10000000000 ≤ fu) (hl : xs.length ≤ 3584) {A : Nat → List Int32} {I : Nat → Nat → Int32} {σ : SG} (h0 : A 0 = xs) (r : RR σ A I) (fe : I 1 7 = I 36 0) {k : Nat} (hk : k + 7 ≤ xs.length) (n : Nat) : ∃ w', GOOD xs w' ∧ (F_L_law fu (n + 2)).2.2.2.2.2.2.2.2.2.2.2.2.2.2.2.2.2.2.2.2.2.2.2.2.2.2.2.2.2.2.2.2.2.2.2.1 0 1 36 (nI k) (enc A I) = (F_L_law fu n).1 0 1 36 (nI k + 7) w' := by
  have e : OP (U_X7_tread fu) (U_X8_tread fu) [.ref 1, .int (rd xs (k + 1))] [.ref 36, .int (rd xs (k + 1))] A I := by first | exact op_tread hf r (rd xs (k + 1)) | exact op_tread (by omega) r (rd xs (k + 1)) | exact op_tread r (rd xs (k + 1))
  obtain ⟨v, A1, I1, A2, I2, σ', e1, q1, e2, q2, q3, q4⟩ := e
  obtain ⟨a1, a2, a3, a4, a5, a6⟩ := sc_6 (I := I) h0 hl hk
  obtain ⟨b1, b2, b3, b4, b5, b6⟩ := sc_6 (A := A1) (I := I1) (q1.trans h0) hl hk
  refine ⟨enc A2 I2, ⟨A2, I2, σ', rfl, q2.trans h0, q4, q3 fe⟩, ?_⟩
  rw [L_35]
  simp only [a1, a2, a3, a4, a5, a6, b1, b2, b3, b4, b5, b6, Option.bind_some, e1, e2, cI_some, cL_some, lg_self]
  rw [if_pos trivial, L_40]

theorem lw_32 (hf : 10000000000 ≤ fu) (hl : xs.length ≤ 3584) {A : Nat → List Int32} {I : Nat → Nat → Int32} {σ : SG} (h0 : A 0 = xs) (r : RR σ A I) (fe : I 1 7 = I 36 0) {k : Nat} (hk : k + 7 ≤ xs.length) (n : Nat) : ∃ w', GOOD xs w' ∧ (F_L_law fu (n + 2)).2.2.2.2.2.2.2.2.2.2.2.2.2.2.2.2.2.2.2.2.2.2.2.2.2.2.2.2.2.2.2.2.2.2.2.2.1 0 1 36 (nI k) (enc A I) = (F_L_law fu n).1 0 1 36 (nI k + 7) w' := by
  have e : OP (U_X7_as fu) (U_X8_as fu) [.ref 1, .int (rd xs (k + 1)), .int (rd xs (k + 2))] [.ref 36, .int (rd xs (k + 1)), .int (rd xs (k + 2))] A I := by first | exact op_as hf r (rd xs (k + 1)) (rd xs (k + 2)) | exact op_as (by omega) r (rd xs (k + 1)) (rd xs (k + 2)) | exact op_as r (rd xs (k + 1)) (rd xs (k + 2))
  obtain ⟨v, A1, I1, A2, I2, σ', e1, q1, e2, q2, q3, q4⟩ := e
  obtain ⟨a1, a2, a3, a4, a5, a6⟩ := sc_6 (I := I) h0 hl hk
  obtain ⟨b1, b2, b3, b4, b5, b6⟩ := sc_6 (A := A1) (I := I1) (q1.trans h0) hl hk
  refine ⟨enc A2 I2, ⟨A2, I2, σ', rfl, q2.trans h0, q4, q3 fe⟩, ?_⟩
  rw [L_36]
  simp only [a1, a2, a3, a4, a5, a6, b1, b2, b3, b4, b5, b6, Option.bind_some, e1, e2, cI_some, cL_some, lg_self]
  rw [if_pos trivial, L_40]

theorem lw_33 (hf : 10000000000 ≤ fu) (hl : xs.length ≤ 3584) {A : Nat → List Int32} {I : Nat → Nat → Int32} {σ : SG} (h0 : A 0 = xs) (r : RR σ A I) (fe : I 1 7 = I 36 0) {k : Nat} (hk : k + 7 ≤ xs.length) (n : Nat) : ∃ w', GOOD xs w' ∧ (F_L_law fu (n + 2)).2.2.2.2.2.2.2.2.2.2.2.2.2.2.2.2.2.2.2.2.2.2.2.2.2.2.2.2.2.2.2.2.2.2.2.2.2.1 0 1 36 (nI k) (enc A I) = (F_L_law fu n).1 0 1 36 (nI k + 7) w' := by
  have e : OP (U_X7_trace fu) (U_X8_trace fu) [.ref 1] [.ref 36] A I := by first | exact op_trace hf r  | exact op_trace (by omega) r  | exact op_trace r 
  obtain ⟨v, A1, I1, A2, I2, σ', e1, q1, e2, q2, q3, q4⟩ := e
  obtain ⟨a1, a2, a3, a4, a5, a6⟩ := sc_6 (I := I) h0 hl hk
  obtain ⟨b1, b2, b3, b4, b5, b6⟩ := sc_6 (A := A1) (I := I1) (q1.trans h0) hl hk
  refine ⟨enc A2 I2, ⟨A2, I2, σ', rfl, q2.trans h0, q4, q3 fe⟩, ?_⟩
  rw [L_37]
  simp only [a1, a2, a3, a4, a5, a6, b1, b2, b3, b4, b5, b6, Option.bind_some, e1, e2, cI_some, cL_some, lg_self]
  rw [if_pos trivial, L_40]

theorem lw_34 (hf : 10000000000 ≤ fu) (hl : xs.length ≤ 3584) {A : Nat → List Int32} {I : Nat → Nat → Int32} {σ : SG} (h0 : A 0 = xs) (r : RR σ A I) (fe : I 1 7 = I 36 0) {k : Nat} (hk : k + 7 ≤ xs.length) (n : Nat) : ∃ w', GOOD xs w' ∧ (F_L_law fu (n + 2)).2.2.2.2.2.2.2.2.2.2.2.2.2.2.2.2.2.2.2.2.2.2.2.2.2.2.2.2.2.2.2.2.2.2.2.2.2.2.1 0 1 36 (nI k) (enc A I) = (F_L_law fu n).1 0 1 36 (nI k + 7) w' := by
  have e : OP (U_X7_fault fu) (U_X8_fault fu) [.ref 1] [.ref 36] A I := by first | exact op_fault fe r
  obtain ⟨v, A1, I1, A2, I2, σ', e1, q1, e2, q2, q3, q4⟩ := e
  obtain ⟨a1, a2, a3, a4, a5, a6⟩ := sc_6 (I := I) h0 hl hk
  obtain ⟨b1, b2, b3, b4, b5, b6⟩ := sc_6 (A := A1) (I := I1) (q1.trans h0) hl hk
  refine ⟨enc A2 I2, ⟨A2, I2, σ', rfl, q2.trans h0, q4, q3 fe⟩, ?_⟩
  rw [L_38]
  simp only [a1, a2, a3, a4, a5, a6, b1, b2, b3, b4, b5, b6, Option.bind_some, e1, e2, cI_some, cL_some, lg_self]
  rw [if_pos trivial, L_40]

theorem lw_35 (hf : 10000000000 ≤ fu) (hl : xs.length ≤ 3584) {A : Nat → List Int32} {I : Nat → Nat → Int32} {σ : SG} (h0 : A 0 = xs) (r : RR σ A I) (fe : I 1 7 = I 36 0) {k : Nat} (hk : k + 7 ≤ xs.length) (n : Nat) : ∃ w', GOOD xs w' ∧ (F_L_law fu (n + 2)).2.2.2.2.2.2.2.2.2.2.2.2.2.2.2.2.2.2.2.2.2.2.2.2.2.2.2.2.2.2.2.2.2.2.2.2.2.2.2.1 0 1 36 (nI k) (enc A I) = (F_L_law fu n).1 0 1 36 (nI k + 7) w' := by
  have e : OP (U_X7_many fu) (U_X8_many fu) [.ref 1, .int (rd xs (k + 1))] [.ref 36, .int (rd xs (k + 1))] A I := by first | exact op_many hf r (rd xs (k + 1)) | exact op_many (by omega) r (rd xs (k + 1)) | exact op_many r (rd xs (k + 1))
  obtain ⟨v, A1, I1, A2, I2, σ', e1, q1, e2, q2, q3, q4⟩ := e
  obtain ⟨a1, a2, a3, a4, a5, a6⟩ := sc_6 (I := I) h0 hl hk
  obtain ⟨b1, b2, b3, b4, b5, b6⟩ := sc_6 (A := A1) (I := I1) (q1.trans h0) hl hk
  refine ⟨enc A2 I2, ⟨A2, I2, σ', rfl, q2.trans h0, q4, q3 fe⟩, ?_⟩
  rw [L_39]
  simp only [a1, a2, a3, a4, a5, a6, b1, b2, b3, b4, b5, b6, Option.bind_some, e1, e2, cI_some, cL_some, lg_self]
  rw [if_pos trivial, L_40]
end LX
