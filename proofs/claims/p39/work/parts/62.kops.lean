section K3
variable {σ : SG} {A : Nat → List Int32} {I : Nat → Nat → Int32} {fu : Nat}
theorem k_many3 (hf : 1000 ≤ fu) (r : RR σ A I) : U_X7_many fu [.ref 1, .int 3] (enc A I) = some (some (.int (nI (cnt (fun c => σ 7 c != 0) (σ 0 0)))), enc A I) := by
  have hn := r.n7
  simp only [u_X7_many, M_X7_many, io_1, gr_1_0, gr_1_1, gr_1_2, gr_1_3, gr_1_4, gr_1_5, gi_1_6, pf_1_6, gi_1_7, pf_1_7, io_2, gr_2_0, gr_2_1, gr_2_2, gr_2_3, gr_2_4, gr_2_5, gr_2_6, gr_2_7, gi_2_8, pf_2_8, gi_2_9, pf_2_9, gi_2_10, pf_2_10, gi_2_11, pf_2_11, gi_2_12, pf_2_12, gi_2_13, pf_2_13, gi_2_14, pf_2_14, io_11, gr_11_0, gr_11_1, gr_11_2, io_15, gr_15_0, gr_15_1, gi_15_2, pf_15_2, gi_15_3, pf_15_3, gi_15_4, pf_15_4, gi_15_5, pf_15_5, io_18, gr_18_0, gr_18_1, gi_18_2, pf_18_2, io_21, gr_21_0, gr_21_1, gr_21_2, gr_21_3, gi_21_4, pf_21_4, gi_21_5, pf_21_5, gi_21_6, pf_21_6, gi_21_7, pf_21_7, io_34, gr_34_0, gi_34_1, pf_34_1, al_3, al_4, al_5, al_6, al_7, al_8, al_9, al_10, al_12, al_13, al_14, al_16, al_17, al_19, al_20, al_22, al_23, al_24, al_26, al_27, al_28, al_29, al_30, al_31, al_32, al_33, al_35, ↓reduceIte, Option.bind_some, cI_some, cL_some, cV_some, rz_0, rz_1, if_neg (show ¬ (3 : Int32) = 0 by decide), if_neg (show ¬ (3 : Int32) = 1 by decide), if_neg (show ¬ (3 : Int32) = 2 by decide), c_filled hf r, c_bitCount fu _ (bits_ge (p := fun c => σ 7 c != 0) hn), pc_bits _ hn]
theorem k_many6 (r : RR σ A I) : U_X7_many fu [.ref 1, .int 6] (enc A I) = some (some (.int (nI (σ 0 2))), enc A I) := by
  simp only [u_X7_many, M_X7_many, io_1, gr_1_0, gr_1_1, gr_1_2, gr_1_3, gr_1_4, gr_1_5, gi_1_6, pf_1_6, gi_1_7, pf_1_7, io_2, gr_2_0, gr_2_1, gr_2_2, gr_2_3, gr_2_4, gr_2_5, gr_2_6, gr_2_7, gi_2_8, pf_2_8, gi_2_9, pf_2_9, gi_2_10, pf_2_10, gi_2_11, pf_2_11, gi_2_12, pf_2_12, gi_2_13, pf_2_13, gi_2_14, pf_2_14, io_11, gr_11_0, gr_11_1, gr_11_2, io_15, gr_15_0, gr_15_1, gi_15_2, pf_15_2, gi_15_3, pf_15_3, gi_15_4, pf_15_4, gi_15_5, pf_15_5, io_18, gr_18_0, gr_18_1, gi_18_2, pf_18_2, io_21, gr_21_0, gr_21_1, gr_21_2, gr_21_3, gi_21_4, pf_21_4, gi_21_5, pf_21_5, gi_21_6, pf_21_6, gi_21_7, pf_21_7, io_34, gr_34_0, gi_34_1, pf_34_1, al_3, al_4, al_5, al_6, al_7, al_8, al_9, al_10, al_12, al_13, al_14, al_16, al_17, al_19, al_20, al_22, al_23, al_24, al_26, al_27, al_28, al_29, al_30, al_31, al_32, al_33, al_35, ↓reduceIte, Option.bind_some, cI_some, cL_some, cV_some, rz_0, rz_1, if_neg (show ¬ (6 : Int32) = 0 by decide), if_neg (show ¬ (6 : Int32) = 1 by decide), if_neg (show ¬ (6 : Int32) = 2 by decide), if_neg (show ¬ (6 : Int32) = 3 by decide), if_neg (show ¬ (6 : Int32) = 4 by decide), if_neg (show ¬ (6 : Int32) = 5 by decide), r.i2_11]
theorem k_wayN (r : RR σ A I) {x : Int32} (h : ¬ (0 ≤ x ∧ x < nI (σ 0 4))) (q : Int32) : U_X7_way fu [.ref 1, .int x, .int q] (enc A I) = some (some (.int (-1)), enc A I) := by
  simp only [u_X7_way, M_X7_way, c_isWalker, io_1, gr_1_0, gr_1_1, gr_1_2, gr_1_3, gr_1_4, gr_1_5, gi_1_6, pf_1_6, gi_1_7, pf_1_7, io_2, gr_2_0, gr_2_1, gr_2_2, gr_2_3, gr_2_4, gr_2_5, gr_2_6, gr_2_7, gi_2_8, pf_2_8, gi_2_9, pf_2_9, gi_2_10, pf_2_10, gi_2_11, pf_2_11, gi_2_12, pf_2_12, gi_2_13, pf_2_13, gi_2_14, pf_2_14, io_11, gr_11_0, gr_11_1, gr_11_2, io_15, gr_15_0, gr_15_1, gi_15_2, pf_15_2, gi_15_3, pf_15_3, gi_15_4, pf_15_4, gi_15_5, pf_15_5, io_18, gr_18_0, gr_18_1, gi_18_2, pf_18_2, io_21, gr_21_0, gr_21_1, gr_21_2, gr_21_3, gi_21_4, pf_21_4, gi_21_5, pf_21_5, gi_21_6, pf_21_6, gi_21_7, pf_21_7, io_34, gr_34_0, gi_34_1, pf_34_1, al_3, al_4, al_5, al_6, al_7, al_8, al_9, al_10, al_12, al_13, al_14, al_16, al_17, al_19, al_20, al_22, al_23, al_24, al_26, al_27, al_28, al_29, al_30, al_31, al_32, al_33, al_35, ↓reduceIte, Option.bind_some, cI_some, cL_some, cV_some, rz_0, rz_1, r.i2_14, bI_f h]
theorem k_wayM (r : RR σ A I) {x : Nat} (hx : x < σ 0 4) {q : Int32} (hq : q < -1) : U_X7_way fu [.ref 1, .int (nI x), .int q] (enc A I) = some (some (.int (-1)), enc A I) := by
  have hk := r.k6
  have hw := bI_t (n_win hx (show σ 0 4 < 2147483648 by omega))
  simp only [u_X7_way, M_X7_way, c_isWalker, io_1, gr_1_0, gr_1_1, gr_1_2, gr_1_3, gr_1_4, gr_1_5, gi_1_6, pf_1_6, gi_1_7, pf_1_7, io_2, gr_2_0, gr_2_1, gr_2_2, gr_2_3, gr_2_4, gr_2_5, gr_2_6, gr_2_7, gi_2_8, pf_2_8, gi_2_9, pf_2_9, gi_2_10, pf_2_10, gi_2_11, pf_2_11, gi_2_12, pf_2_12, gi_2_13, pf_2_13, gi_2_14, pf_2_14, io_11, gr_11_0, gr_11_1, gr_11_2, io_15, gr_15_0, gr_15_1, gi_15_2, pf_15_2, gi_15_3, pf_15_3, gi_15_4, pf_15_4, gi_15_5, pf_15_5, io_18, gr_18_0, gr_18_1, gi_18_2, pf_18_2, io_21, gr_21_0, gr_21_1, gr_21_2, gr_21_3, gi_21_4, pf_21_4, gi_21_5, pf_21_5, gi_21_6, pf_21_6, gi_21_7, pf_21_7, io_34, gr_34_0, gi_34_1, pf_34_1, al_3, al_4, al_5, al_6, al_7, al_8, al_9, al_10, al_12, al_13, al_14, al_16, al_17, al_19, al_20, al_22, al_23, al_24, al_26, al_27, al_28, al_29, al_30, al_31, al_32, al_33, al_35, ↓reduceIte, Option.bind_some, cI_some, cL_some, cV_some, rz_0, rz_1, r.i2_14, hw, if_neg k10, if_pos hq]
/-- in how few strides -/
theorem k_way1 (hf : 1000 ≤ fu) (r : RR σ A I) {x : Nat} (hx : x < σ 0 4) : ∃ A1 I1 v, Fr A I A1 I1 ∧ U_X7_way fu [.ref 1, .int (nI x), .int (-1)] (enc A I) = some (some (.int v), enc A1 I1) ∧
    (((∀ L, ¬ Wk (σ 0 0) (S0 σ) (E0 σ) (σ 10 x) (σ 0 0 + 1) L 0) ∧ v = -9) ∨ ∃ L, L ≤ 8 ∧ Mn0 σ (σ 10 x) 0 L ∧ v = nI L) := by
  have hk := r.k6
  have hw := bI_t (n_win hx (show σ 0 4 < 2147483648 by omega))
  have hd := r.wal hx
  have rx := c_reachOf (fu := fu) r hx (g := 0) (by omega)
  rw [Nat.sub_zero, show nI 0 = (0 : Int32) from rfl] at rx
  have hq1 : ¬ (-1 : Int32) < -1 := by decide
  obtain ⟨A1, I1, c1, cres⟩ := c_find (fu := fu) (by omega) r hd.2
  rcases cres with ⟨no, c2⟩ | ⟨L, hL, hM, h16, c2⟩
  · refine ⟨A1, I1, -9, c1, ?_, Or.inl ⟨no, rfl⟩⟩
    simp -implicitDefEqProofs only [u_X7_way, M_X7_way, c_isWalker, io_1, gr_1_0, gr_1_1, gr_1_2, gr_1_3, gr_1_4, gr_1_5, gi_1_6, pf_1_6, gi_1_7, pf_1_7, io_2, gr_2_0, gr_2_1, gr_2_2, gr_2_3, gr_2_4, gr_2_5, gr_2_6, gr_2_7, gi_2_8, pf_2_8, gi_2_9, pf_2_9, gi_2_10, pf_2_10, gi_2_11, pf_2_11, gi_2_12, pf_2_12, gi_2_13, pf_2_13, gi_2_14, pf_2_14, io_11, gr_11_0, gr_11_1, gr_11_2, io_15, gr_15_0, gr_15_1, gi_15_2, pf_15_2, gi_15_3, pf_15_3, gi_15_4, pf_15_4, gi_15_5, pf_15_5, io_18, gr_18_0, gr_18_1, gi_18_2, pf_18_2, io_21, gr_21_0, gr_21_1, gr_21_2, gr_21_3, gi_21_4, pf_21_4, gi_21_5, pf_21_5, gi_21_6, pf_21_6, gi_21_7, pf_21_7, io_34, gr_34_0, gi_34_1, pf_34_1, al_3, al_4, al_5, al_6, al_7, al_8, al_9, al_10, al_12, al_13, al_14, al_16, al_17, al_19, al_20, al_22, al_23, al_24, al_26, al_27, al_28, al_29, al_30, al_31, al_32, al_33, al_35, ↓reduceIte, Option.bind_some, cI_some, cL_some, cV_some, rz_0, rz_1, r.i2_14, hw, if_neg k10, if_neg hq1, rx, c2]
  · refine ⟨A1, I1, nI L, c1, ?_, Or.inr ⟨L, hL, hM, rfl⟩⟩
    simp -implicitDefEqProofs only [u_X7_way, M_X7_way, c_isWalker, io_1, gr_1_0, gr_1_1, gr_1_2, gr_1_3, gr_1_4, gr_1_5, gi_1_6, pf_1_6, gi_1_7, pf_1_7, io_2, gr_2_0, gr_2_1, gr_2_2, gr_2_3, gr_2_4, gr_2_5, gr_2_6, gr_2_7, gi_2_8, pf_2_8, gi_2_9, pf_2_9, gi_2_10, pf_2_10, gi_2_11, pf_2_11, gi_2_12, pf_2_12, gi_2_13, pf_2_13, gi_2_14, pf_2_14, io_11, gr_11_0, gr_11_1, gr_11_2, io_15, gr_15_0, gr_15_1, gi_15_2, pf_15_2, gi_15_3, pf_15_3, gi_15_4, pf_15_4, gi_15_5, pf_15_5, io_18, gr_18_0, gr_18_1, gi_18_2, pf_18_2, io_21, gr_21_0, gr_21_1, gr_21_2, gr_21_3, gi_21_4, pf_21_4, gi_21_5, pf_21_5, gi_21_6, pf_21_6, gi_21_7, pf_21_7, io_34, gr_34_0, gi_34_1, pf_34_1, al_3, al_4, al_5, al_6, al_7, al_8, al_9, al_10, al_12, al_13, al_14, al_16, al_17, al_19, al_20, al_22, al_23, al_24, al_26, al_27, al_28, al_29, al_30, al_31, al_32, al_33, al_35, ↓reduceIte, Option.bind_some, cI_some, cL_some, cV_some, rz_0, rz_1, r.i2_14, hw, if_neg k10, if_neg hq1, rx, c2]
/-- the places, one by one -/
theorem k_wayq (hf : 1000 ≤ fu) (r : RR σ A I) {x qn : Nat} (hx : x < σ 0 4) (hqn : qn < 1000) : ∃ A1 I1 v, Fr A I A1 I1 ∧ U_X7_way fu [.ref 1, .int (nI x), .int (nI qn)] (enc A I) = some (some (.int v), enc A1 I1) ∧
    (((∀ L, ¬ Wk (σ 0 0) (S0 σ) (E0 σ) (σ 10 x) (σ 0 0 + 1) L 0) ∧ v = -9) ∨ ∃ L, L ≤ 8 ∧ Mn0 σ (σ 10 x) 0 L ∧ ((qn < L ∧ ∃ b, Pth0 σ (σ 10 x) L (qn + 1) b ∧ v = nI b - 1) ∨ (L ≤ qn ∧ v = -9))) := by
  have hk := r.k6
  have hw := bI_t (n_win hx (show σ 0 4 < 2147483648 by omega))
  have hd := r.wal hx
  have rx := c_reachOf (fu := fu) r hx (g := 0) (by omega)
  rw [Nat.sub_zero, show nI 0 = (0 : Int32) from rfl] at rx
  have hq1 : ¬ nI qn < -1 := fun y => nI_pos (show qn < 2147483648 by omega) (Int32.lt_trans y (show (-1 : Int32) < 0 by decide))
  have z : ¬ nI qn = -1 := fun y => nI_pos (show qn < 2147483648 by omega) (by rw [y]; decide)
  obtain ⟨A1, I1, c1, cres⟩ := c_find (fu := fu) (by omega) r hd.2
  have r1 := c1.R r
  rcases cres with ⟨no, c2⟩ | ⟨L, hL, hM, h16, c2⟩
  · refine ⟨A1, I1, -9, c1, ?_, Or.inl ⟨no, rfl⟩⟩
    simp -implicitDefEqProofs only [u_X7_way, M_X7_way, c_isWalker, io_1, gr_1_0, gr_1_1, gr_1_2, gr_1_3, gr_1_4, gr_1_5, gi_1_6, pf_1_6, gi_1_7, pf_1_7, io_2, gr_2_0, gr_2_1, gr_2_2, gr_2_3, gr_2_4, gr_2_5, gr_2_6, gr_2_7, gi_2_8, pf_2_8, gi_2_9, pf_2_9, gi_2_10, pf_2_10, gi_2_11, pf_2_11, gi_2_12, pf_2_12, gi_2_13, pf_2_13, gi_2_14, pf_2_14, io_11, gr_11_0, gr_11_1, gr_11_2, io_15, gr_15_0, gr_15_1, gi_15_2, pf_15_2, gi_15_3, pf_15_3, gi_15_4, pf_15_4, gi_15_5, pf_15_5, io_18, gr_18_0, gr_18_1, gi_18_2, pf_18_2, io_21, gr_21_0, gr_21_1, gr_21_2, gr_21_3, gi_21_4, pf_21_4, gi_21_5, pf_21_5, gi_21_6, pf_21_6, gi_21_7, pf_21_7, io_34, gr_34_0, gi_34_1, pf_34_1, al_3, al_4, al_5, al_6, al_7, al_8, al_9, al_10, al_12, al_13, al_14, al_16, al_17, al_19, al_20, al_22, al_23, al_24, al_26, al_27, al_28, al_29, al_30, al_31, al_32, al_33, al_35, ↓reduceIte, Option.bind_some, cI_some, cL_some, cV_some, rz_0, rz_1, r.i2_14, hw, if_neg k10, if_neg hq1, rx, c2, if_neg z]
    rw [if_neg]
    intro y
    exact nI_pos (show qn < 2147483648 by omega) (Int32.lt_trans y (show (-9 : Int32) < 0 by decide))
  · have eL : (nI qn < nI L) = (qn < L) := n_lt (by omega) (by omega)
    by_cases y : qn < L
    · obtain ⟨b, hb1, hb2⟩ := h16 qn y
      have l16 : (A1 16).length = 8 := r1.len rfl
      have al : aL (enc A1 I1) 16 = some (nI 8) := by rw [al_16, l16]; rfl
      have ea : aI (enc A1 I1) 16 (nI qn) = some (nI b - 1) := by rw [ai_16 A1 I1 (by omega) (by omega), hb2]
      refine ⟨A1, I1, nI b - 1, c1, ?_, Or.inr ⟨L, hL, hM, Or.inl ⟨y, b, hb1, rfl⟩⟩⟩
      simp -implicitDefEqProofs only [u_X7_way, M_X7_way, c_isWalker, io_1, gr_1_0, gr_1_1, gr_1_2, gr_1_3, gr_1_4, gr_1_5, gi_1_6, pf_1_6, gi_1_7, pf_1_7, io_2, gr_2_0, gr_2_1, gr_2_2, gr_2_3, gr_2_4, gr_2_5, gr_2_6, gr_2_7, gi_2_8, pf_2_8, gi_2_9, pf_2_9, gi_2_10, pf_2_10, gi_2_11, pf_2_11, gi_2_12, pf_2_12, gi_2_13, pf_2_13, gi_2_14, pf_2_14, io_11, gr_11_0, gr_11_1, gr_11_2, io_15, gr_15_0, gr_15_1, gi_15_2, pf_15_2, gi_15_3, pf_15_3, gi_15_4, pf_15_4, gi_15_5, pf_15_5, io_18, gr_18_0, gr_18_1, gi_18_2, pf_18_2, io_21, gr_21_0, gr_21_1, gr_21_2, gr_21_3, gi_21_4, pf_21_4, gi_21_5, pf_21_5, gi_21_6, pf_21_6, gi_21_7, pf_21_7, io_34, gr_34_0, gi_34_1, pf_34_1, al_3, al_4, al_5, al_6, al_7, al_8, al_9, al_10, al_12, al_13, al_14, al_16, al_17, al_19, al_20, al_22, al_23, al_24, al_26, al_27, al_28, al_29, al_30, al_31, al_32, al_33, al_35, ↓reduceIte, Option.bind_some, cI_some, cL_some, cV_some, rz_0, rz_1, r.i2_14, hw, if_neg k10, if_neg hq1, rx, c2, if_neg z, eL, al, n_lt (show qn < 2147483648 by omega) (show 8 < 2147483648 by decide), ea]
      rw [if_pos y, if_pos (by omega)]
    · refine ⟨A1, I1, -9, c1, ?_, Or.inr ⟨L, hL, hM, Or.inr ⟨by omega, rfl⟩⟩⟩
      simp -implicitDefEqProofs only [u_X7_way, M_X7_way, c_isWalker, io_1, gr_1_0, gr_1_1, gr_1_2, gr_1_3, gr_1_4, gr_1_5, gi_1_6, pf_1_6, gi_1_7, pf_1_7, io_2, gr_2_0, gr_2_1, gr_2_2, gr_2_3, gr_2_4, gr_2_5, gr_2_6, gr_2_7, gi_2_8, pf_2_8, gi_2_9, pf_2_9, gi_2_10, pf_2_10, gi_2_11, pf_2_11, gi_2_12, pf_2_12, gi_2_13, pf_2_13, gi_2_14, pf_2_14, io_11, gr_11_0, gr_11_1, gr_11_2, io_15, gr_15_0, gr_15_1, gi_15_2, pf_15_2, gi_15_3, pf_15_3, gi_15_4, pf_15_4, gi_15_5, pf_15_5, io_18, gr_18_0, gr_18_1, gi_18_2, pf_18_2, io_21, gr_21_0, gr_21_1, gr_21_2, gr_21_3, gi_21_4, pf_21_4, gi_21_5, pf_21_5, gi_21_6, pf_21_6, gi_21_7, pf_21_7, io_34, gr_34_0, gi_34_1, pf_34_1, al_3, al_4, al_5, al_6, al_7, al_8, al_9, al_10, al_12, al_13, al_14, al_16, al_17, al_19, al_20, al_22, al_23, al_24, al_26, al_27, al_28, al_29, al_30, al_31, al_32, al_33, al_35, ↓reduceIte, Option.bind_some, cI_some, cL_some, cV_some, rz_0, rz_1, r.i2_14, hw, if_neg k10, if_neg hq1, rx, c2, if_neg z, eL]
      rw [if_neg y]
theorem allW_of {f : Nat → Int32} {lim : Int32} : ∀ m k, (∀ j, k ≤ j → j < k + m → 0 ≤ f j ∧ f j ≤ lim) → allW f lim k m = true := by
  intro m
  induction m with
  | zero => intro k _; rfl
  | succ m ih =>
    intro k h
    rw [allW, decide_eq_true (h k (by omega) (by omega)), ih (k + 1) (fun j a b => h j (by omega) (by omega))]
    rfl
theorem k_daysN (r : RR σ A I) {x : Int32} (h : ¬ (0 ≤ x ∧ x < nI (σ 0 4))) (s y i n : Int32) : U_X7_days fu [.ref 1, .int x, .int s, .int y, .int i, .int n] (enc A I) = some (some (.int (-1)), enc A (uI I 1 7 0)) := by
  have i14 : ∀ z, uI I 1 7 z 2 14 = nI (σ 0 4) := fun z => r.i2_14
  simp only [u_X7_days, M_X7_days, c_isWalker, io_1, gr_1_0, gr_1_1, gr_1_2, gr_1_3, gr_1_4, gr_1_5, gi_1_6, pf_1_6, gi_1_7, pf_1_7, io_2, gr_2_0, gr_2_1, gr_2_2, gr_2_3, gr_2_4, gr_2_5, gr_2_6, gr_2_7, gi_2_8, pf_2_8, gi_2_9, pf_2_9, gi_2_10, pf_2_10, gi_2_11, pf_2_11, gi_2_12, pf_2_12, gi_2_13, pf_2_13, gi_2_14, pf_2_14, io_11, gr_11_0, gr_11_1, gr_11_2, io_15, gr_15_0, gr_15_1, gi_15_2, pf_15_2, gi_15_3, pf_15_3, gi_15_4, pf_15_4, gi_15_5, pf_15_5, io_18, gr_18_0, gr_18_1, gi_18_2, pf_18_2, io_21, gr_21_0, gr_21_1, gr_21_2, gr_21_3, gi_21_4, pf_21_4, gi_21_5, pf_21_5, gi_21_6, pf_21_6, gi_21_7, pf_21_7, io_34, gr_34_0, gi_34_1, pf_34_1, al_3, al_4, al_5, al_6, al_7, al_8, al_9, al_10, al_12, al_13, al_14, al_16, al_17, al_19, al_20, al_22, al_23, al_24, al_26, al_27, al_28, al_29, al_30, al_31, al_32, al_33, al_35, ↓reduceIte, Option.bind_some, cI_some, cL_some, cV_some, rz_0, rz_1, i14, bI_f h]
theorem k_daysF (r : RR σ A I) {x q t : Nat} (hx : x < σ 0 4) (hq : q < 4) (ht2 : t ≤ 2) {o : Option (Nat × Nat)} (ho : SHo A q o) {i n z : Int32} (hv : fvI o (nI t) i n = z) (hz : ¬ z = 0) (hz2 : ¬ -10 - z = 0) : U_X7_days fu [.ref 1, .int (nI x), .int (nI q), .int (nI t), .int i, .int n] (enc A I) = some (some (.int (-10 - z)), enc A (uI I 1 7 z)) := by
  have hk := r.k6
  have i14 : ∀ z, uI I 1 7 z 2 14 = nI (σ 0 4) := fun z => r.i2_14
  have hw := bI_t (n_win hx (show σ 0 4 < 2147483648 by omega))
  have ref := c_refuse (fu := fu) (I := uI I 1 7 0) r.2.1 hq ht2 ho i n
  rw [hv, if_neg hz, uI_uI] at ref
  simp -implicitDefEqProofs only [u_X7_days, M_X7_days, c_isWalker, io_1, gr_1_0, gr_1_1, gr_1_2, gr_1_3, gr_1_4, gr_1_5, gi_1_6, pf_1_6, gi_1_7, pf_1_7, io_2, gr_2_0, gr_2_1, gr_2_2, gr_2_3, gr_2_4, gr_2_5, gr_2_6, gr_2_7, gi_2_8, pf_2_8, gi_2_9, pf_2_9, gi_2_10, pf_2_10, gi_2_11, pf_2_11, gi_2_12, pf_2_12, gi_2_13, pf_2_13, gi_2_14, pf_2_14, io_11, gr_11_0, gr_11_1, gr_11_2, io_15, gr_15_0, gr_15_1, gi_15_2, pf_15_2, gi_15_3, pf_15_3, gi_15_4, pf_15_4, gi_15_5, pf_15_5, io_18, gr_18_0, gr_18_1, gi_18_2, pf_18_2, io_21, gr_21_0, gr_21_1, gr_21_2, gr_21_3, gi_21_4, pf_21_4, gi_21_5, pf_21_5, gi_21_6, pf_21_6, gi_21_7, pf_21_7, io_34, gr_34_0, gi_34_1, pf_34_1, al_3, al_4, al_5, al_6, al_7, al_8, al_9, al_10, al_12, al_13, al_14, al_16, al_17, al_19, al_20, al_22, al_23, al_24, al_26, al_27, al_28, al_29, al_30, al_31, al_32, al_33, al_35, ↓reduceIte, Option.bind_some, cI_some, cL_some, cV_some, rz_0, rz_1, i14, hw, if_neg k10, ref]
  rw [if_neg hz2]
theorem k_days (hf : 1000 ≤ fu) (r : RR σ A I) {x q t i kk n0 : Nat} (hx : x < σ 0 4) (hq : q < 4) (ht2 : t ≤ 2) (ho : SHo A q (some (n0, t))) (hik : i + kk ≤ n0) {v : Nat → Nat} (hv : ∀ k, k < kk → rd (A 14) (60 * q + i + k) = nI (v k) ∧ v k ≤ 9) :
    U_X7_days fu [.ref 1, .int (nI x), .int (nI q), .int (nI t), .int (nI i), .int (nI kk)] (enc A I) = some (some (.int (nI (cnt (fun k => decide (X σ (σ 7) (v k) (σ 10 x))) kk))), enc A (uI I 1 7 0)) := by
  have hk := r.k6
  have i14 : ∀ z, uI I 1 7 z 2 14 = nI (σ 0 4) := fun z => r.i2_14
  have hw := bI_t (n_win hx (show σ 0 4 < 2147483648 by omega))
  have hn0 := ho.1
  have ref := c_refuse (fu := fu) (I := uI I 1 7 0) r.2.1 hq ht2 ho (nI i) (nI kk)
  rw [if_pos (fvI_in hn0 hik)] at ref
  have hb : 60 * q + i + kk ≤ 240 := by omega
  have aw := c_areW (fu := fu) (I := uI I 1 7 0) (by omega) r.2.1 hb 9
  rw [bI_t (allW_of kk 0 fun j _ hj => by
    obtain ⟨h1, h2⟩ := hv j (by omega)
    show 0 ≤ rd (A 14) (60 * q + i + j) ∧ rd (A 14) (60 * q + i + j) ≤ 9
    rw [h1]
    exact n_rin (b := 9) (Nat.zero_le _) h2 (by decide))] at aw
  have cl := c_daysL (fu := fu) (by omega) (r.f17 0) hx hb hv kk 0 fu (by omega) (by omega)
  simp -implicitDefEqProofs only [u_X7_days, M_X7_days, c_isWalker, io_1, gr_1_0, gr_1_1, gr_1_2, gr_1_3, gr_1_4, gr_1_5, gi_1_6, pf_1_6, gi_1_7, pf_1_7, io_2, gr_2_0, gr_2_1, gr_2_2, gr_2_3, gr_2_4, gr_2_5, gr_2_6, gr_2_7, gi_2_8, pf_2_8, gi_2_9, pf_2_9, gi_2_10, pf_2_10, gi_2_11, pf_2_11, gi_2_12, pf_2_12, gi_2_13, pf_2_13, gi_2_14, pf_2_14, io_11, gr_11_0, gr_11_1, gr_11_2, io_15, gr_15_0, gr_15_1, gi_15_2, pf_15_2, gi_15_3, pf_15_3, gi_15_4, pf_15_4, gi_15_5, pf_15_5, io_18, gr_18_0, gr_18_1, gi_18_2, pf_18_2, io_21, gr_21_0, gr_21_1, gr_21_2, gr_21_3, gi_21_4, pf_21_4, gi_21_5, pf_21_5, gi_21_6, pf_21_6, gi_21_7, pf_21_7, io_34, gr_34_0, gi_34_1, pf_34_1, al_3, al_4, al_5, al_6, al_7, al_8, al_9, al_10, al_12, al_13, al_14, al_16, al_17, al_19, al_20, al_22, al_23, al_24, al_26, al_27, al_28, al_29, al_30, al_31, al_32, al_33, al_35, ↓reduceIte, Option.bind_some, cI_some, cL_some, cV_some, rz_0, rz_1, i14, hw, if_neg k10, ref, aw]
  exact cl
theorem k_daysW (hf : 1000 ≤ fu) (r : RR σ A I) {x q t i kk n0 : Nat} (hx : x < σ 0 4) (hq : q < 4) (ht2 : t ≤ 2) (ho : SHo A q (some (n0, t))) (hik : i + kk ≤ n0) {j : Nat} (hj : j < kk) (hv : ¬ (0 ≤ rd (A 14) (60 * q + i + j) ∧ rd (A 14) (60 * q + i + j) ≤ 9)) :
    U_X7_days fu [.ref 1, .int (nI x), .int (nI q), .int (nI t), .int (nI i), .int (nI kk)] (enc A I) = some (some (.int (-2)), enc A (uI I 1 7 0)) := by
  have hk := r.k6
  have i14 : ∀ z, uI I 1 7 z 2 14 = nI (σ 0 4) := fun z => r.i2_14
  have hw := bI_t (n_win hx (show σ 0 4 < 2147483648 by omega))
  have hn0 := ho.1
  have ref := c_refuse (fu := fu) (I := uI I 1 7 0) r.2.1 hq ht2 ho (nI i) (nI kk)
  rw [if_pos (fvI_in hn0 hik)] at ref
  have hb : 60 * q + i + kk ≤ 240 := by omega
  have aw := c_areW (fu := fu) (I := uI I 1 7 0) (by omega) r.2.1 hb 9
  rw [bI_f (fun w => hv (allW_t _ _ w j (Nat.zero_le _) (by omega)))] at aw
  simp -implicitDefEqProofs only [u_X7_days, M_X7_days, c_isWalker, io_1, gr_1_0, gr_1_1, gr_1_2, gr_1_3, gr_1_4, gr_1_5, gi_1_6, pf_1_6, gi_1_7, pf_1_7, io_2, gr_2_0, gr_2_1, gr_2_2, gr_2_3, gr_2_4, gr_2_5, gr_2_6, gr_2_7, gi_2_8, pf_2_8, gi_2_9, pf_2_9, gi_2_10, pf_2_10, gi_2_11, pf_2_11, gi_2_12, pf_2_12, gi_2_13, pf_2_13, gi_2_14, pf_2_14, io_11, gr_11_0, gr_11_1, gr_11_2, io_15, gr_15_0, gr_15_1, gi_15_2, pf_15_2, gi_15_3, pf_15_3, gi_15_4, pf_15_4, gi_15_5, pf_15_5, io_18, gr_18_0, gr_18_1, gi_18_2, pf_18_2, io_21, gr_21_0, gr_21_1, gr_21_2, gr_21_3, gi_21_4, pf_21_4, gi_21_5, pf_21_5, gi_21_6, pf_21_6, gi_21_7, pf_21_7, io_34, gr_34_0, gi_34_1, pf_34_1, al_3, al_4, al_5, al_6, al_7, al_8, al_9, al_10, al_12, al_13, al_14, al_16, al_17, al_19, al_20, al_22, al_23, al_24, al_26, al_27, al_28, al_29, al_30, al_31, al_32, al_33, al_35, ↓reduceIte, Option.bind_some, cI_some, cL_some, cV_some, rz_0, rz_1, i14, hw, if_neg k10, ref, aw]
/-- a text whose digits end behind its m cells tells m of them -/
theorem mtl_of {v : Nat → Int32} {n m : Nat} (h3 : 3 ≤ m) (h7 : m ≤ 7) (hn : m + 1 < n) (hd : ∀ j, j < m → 48 ≤ v (1 + j) ∧ v (1 + j) ≤ 57) (he : ¬ (48 ≤ v (1 + m) ∧ v (1 + m) ≤ 57)) : mtl v n = m := by
  obtain ⟨a, b, c, e⟩ := tol_spec v n 7 0 (by omega) (fun j hj => by omega)
  have h : tol v n 7 0 = m := by
    generalize tol v n 7 0 = t at *
    by_cases y : t < m
    · rcases e with e | e
      · omega
      · exact absurd ⟨by omega, hd t y⟩ e
    · by_cases z : m < t
      · exact absurd (c m z).2 he
      · omega
  unfold mtl
  rw [h, if_neg (by omega)]
theorem k_brook (hf : 1000 ≤ fu) (r : RR σ A I) {q t i0 kk n0 m : Nat} (hq : q < 4) (ht2 : t ≤ 2) (ho : SHo A q (some (n0, t))) (hik : i0 + kk ≤ n0) {v : Nat → Int32} (hv14 : ∀ p, p < kk → rd (A 14) (60 * q + i0 + p) = v p) (hm3 : 3 ≤ m) (hm7 : m ≤ 7) (hk6 : kk = 2 * m + 6) (hmm : mtl v kk = m) (gd : ∀ p, p < 2 * m + 6 → gon m p (v p) = true) :
    ∃ A1 I1, U_X7_brook fu [.ref 1, .int (nI q), .int (nI t), .int (nI i0), .int (nI kk)] (enc A I) = some (some (.int (nI m)), enc A1 I1) ∧ RR (newS m (dig (v (2 * m + 5))) (fun c => dig (v (1 + c))) (fun c => dig (v (m + 3 + c)))) A1 I1 ∧ ∀ k, k ≠ 3 → k ≠ 4 → k ≠ 5 → A1 k = A k := by
  have hn0 := ho.1
  have ref := c_refuse (fu := fu) (I := uI I 1 7 0) r.2.1 hq ht2 ho (nI i0) (nI kk)
  rw [if_pos (fvI_in hn0 hik)] at ref
  have hb : 60 * q + i0 + kk ≤ 240 := by omega
  obtain ⟨p, hp, hp240, hc⟩ := c_first (fu := fu) (I := uI I 1 7 0) hf r.2.1 hb hv14
  rw [hmm] at hp hc
  have hpk : p = kk := hp.uniq ⟨fun k hk => ⟨hk, by omega, gd k (by omega)⟩, Or.inl rfl⟩
  rw [if_pos ⟨hpk, by omega⟩] at hc
  have dd : ∀ p', p' < 2 * m + 6 → p' ≠ 0 → p' ≠ m + 1 → p' ≠ m + 2 → p' ≠ 2 * m + 3 → p' ≠ 2 * m + 4 → v p' - 48 = nI (dig (v p')) ∧ dig (v p') ≤ 9 := fun p' h h0 h1 h2 h3 h4 => by
    have := gd p' h
    rw [gon_g h0 h1 h2 h3 h4, decide_eq_true_iff] at this
    exact dig_n this
  obtain ⟨xs, x1, x2, x3⟩ := c_makeAnew (fu := fu) (A := A) (I := uI I 1 7 0) hf r.2.1
  have hL1 : LEN (uA A 5 xs) := r.2.1.set (by rw [x1]; exact (r.len (k := 5) rfl).symm)
  have hv14' : ∀ p, p < kk → rd (uA A 5 xs 14) (60 * q + i0 + p) = v p := by rw [uA_n _ _ _ (by decide)]; exact hv14
  have ctl := c_told (fu := fu) (I := anw (uI I 1 7 0)) hf hL1 hb hv14'
  rw [hmm] at ctl
  obtain ⟨es, cs, d1, d2, d3, d4⟩ := c_readL (fu := fu) hb (m := m) hm7 (by omega) m 0 fu (uA A 5 xs 3) (uA A 5 xs 4) (uA A 5 xs) (anw (uI I 1 7 0)) hL1 hv14' (by omega) (by omega) (hL1 3 rfl) (hL1 4 rfl) (fun j hj => by omega)
  have e34 : uA (uA (uA A 5 xs) 3 (uA A 5 xs 3)) 4 (uA A 5 xs 4) = uA A 5 xs := by
    rw [uA_self]; exact uA_self _ 4
  rw [e34] at d1
  obtain ⟨A1, hA1⟩ : ∃ X, X = uA (uA (uA A 5 xs) 3 es) 4 cs := ⟨_, rfl⟩
  obtain ⟨I1, hI1⟩ : ∃ X, X = uI (uI (anw (uI I 1 7 0)) 2 9 (v (2 * m + 5) - 48)) 2 8 (nI m) := ⟨_, rfl⟩
  rw [← hA1, ← hI1] at d1
  have hLA : LEN A1 := by
    rw [hA1]
    exact (hL1.set (by rw [d2]; exact (hL1 3 rfl).symm)).set (by rw [d3, uA_n _ _ _ (by decide)]; exact (hL1 4 rfl).symm)
  have oA : ∀ k, k ≠ 3 → k ≠ 4 → k ≠ 5 → A1 k = A k := fun k a b c => by rw [hA1, uA_n _ _ _ b, uA_n _ _ _ a, uA_n _ _ _ c]
  have v3 : A1 3 = es := by rw [hA1, uA_n _ _ _ (by decide), uA_s]
  have v4 : A1 4 = cs := by rw [hA1, uA_s]
  have v5 : A1 5 = xs := by rw [hA1, uA_n _ _ _ (by decide), uA_n _ _ _ (by decide), uA_s]
  have hi8 : I1 2 8 = nI m := by rw [hI1]; exact uI_s _ _ _ _
  have dpc := dd (2 * m + 5) (by omega) (by omega) (by omega) (by omega) (by omega) (by omega)
  have ddp : ∀ c, c < m → v (1 + c) - 48 = nI (dig (v (1 + c))) ∧ dig (v (1 + c)) ≤ 9 := fun c hc => dd (1 + c) (by omega) (by omega) (by omega) (by omega) (by omega) (by omega)
  have dbd : ∀ c, c < m → v (m + 3 + c) - 48 = nI (dig (v (m + 3 + c))) ∧ dig (v (m + 3 + c)) ≤ 9 := fun c hc => dd (m + 3 + c) (by omega) (by omega) (by omega) (by omega) (by omega) (by omega)
  have hbz : ∀ (f : Nat → Bool) k, (∀ i, f i = false) → nI (bits f k) = 0 := fun f k hf => by rw [bits_z k (fun i _ => hf i)]; rfl
  refine ⟨A1, I1, ?_, ⟨newS_wf hm3 hm7 dpc.2 (fun c hc => ⟨(ddp c hc).2, (dbd c hc).2⟩), hLA, ⟨⟨?_, ?_, ?_, ?_, ?_, ?_, ?_⟩, fun c hc => ⟨?_, ?_, ?_⟩, fun s hs => absurd hs (Nat.not_lt_zero _), fun s hs => absurd hs (Nat.not_lt_zero _)⟩, ?_⟩, oA⟩
  · have rin : U_X5_readInto fu [.ref 2, .ref 11, .int (nI q), .int (nI i0), .int (nI kk)] (enc (uA A 5 xs) (anw (uI I 1 7 0))) = some (none, enc A1 I1) := by
      simp -implicitDefEqProofs only [u_X5_readInto, M_X5_readInto, ctl, io_1, gr_1_0, gr_1_1, gr_1_2, gr_1_3, gr_1_4, gr_1_5, gi_1_6, pf_1_6, gi_1_7, pf_1_7, io_2, gr_2_0, gr_2_1, gr_2_2, gr_2_3, gr_2_4, gr_2_5, gr_2_6, gr_2_7, gi_2_8, pf_2_8, gi_2_9, pf_2_9, gi_2_10, pf_2_10, gi_2_11, pf_2_11, gi_2_12, pf_2_12, gi_2_13, pf_2_13, gi_2_14, pf_2_14, io_11, gr_11_0, gr_11_1, gr_11_2, io_15, gr_15_0, gr_15_1, gi_15_2, pf_15_2, gi_15_3, pf_15_3, gi_15_4, pf_15_4, gi_15_5, pf_15_5, io_18, gr_18_0, gr_18_1, gi_18_2, pf_18_2, io_21, gr_21_0, gr_21_1, gr_21_2, gr_21_3, gi_21_4, pf_21_4, gi_21_5, pf_21_5, gi_21_6, pf_21_6, gi_21_7, pf_21_7, io_34, gr_34_0, gi_34_1, pf_34_1, al_3, al_4, al_5, al_6, al_7, al_8, al_9, al_10, al_12, al_13, al_14, al_16, al_17, al_19, al_20, al_22, al_23, al_24, al_26, al_27, al_28, al_29, al_30, al_31, al_32, al_33, al_35, ↓reduceIte, Option.bind_some, cI_some, cL_some, cV_some, rz_0, rz_1]
      exact d1
    simp -implicitDefEqProofs only [u_X7_brook, M_X7_brook, io_1, gr_1_0, gr_1_1, gr_1_2, gr_1_3, gr_1_4, gr_1_5, gi_1_6, pf_1_6, gi_1_7, pf_1_7, io_2, gr_2_0, gr_2_1, gr_2_2, gr_2_3, gr_2_4, gr_2_5, gr_2_6, gr_2_7, gi_2_8, pf_2_8, gi_2_9, pf_2_9, gi_2_10, pf_2_10, gi_2_11, pf_2_11, gi_2_12, pf_2_12, gi_2_13, pf_2_13, gi_2_14, pf_2_14, io_11, gr_11_0, gr_11_1, gr_11_2, io_15, gr_15_0, gr_15_1, gi_15_2, pf_15_2, gi_15_3, pf_15_3, gi_15_4, pf_15_4, gi_15_5, pf_15_5, io_18, gr_18_0, gr_18_1, gi_18_2, pf_18_2, io_21, gr_21_0, gr_21_1, gr_21_2, gr_21_3, gi_21_4, pf_21_4, gi_21_5, pf_21_5, gi_21_6, pf_21_6, gi_21_7, pf_21_7, io_34, gr_34_0, gi_34_1, pf_34_1, al_3, al_4, al_5, al_6, al_7, al_8, al_9, al_10, al_12, al_13, al_14, al_16, al_17, al_19, al_20, al_22, al_23, al_24, al_26, al_27, al_28, al_29, al_30, al_31, al_32, al_33, al_35, ↓reduceIte, Option.bind_some, cI_some, cL_some, cV_some, rz_0, rz_1, ref, hc, x3, rin, hi8]
    rw [if_pos (by decide)]
  · exact hi8
  · rw [hI1]; exact dpc.1
  · refine Eq.trans ?_ (hbz _ _ (fun _ => rfl)).symm
    rw [hI1]; rfl
  · rw [hI1]; rfl
  · rw [hI1]; rfl
  · refine Eq.trans ?_ (hbz _ _ (fun _ => rfl)).symm
    rw [hI1]; rfl
  · rw [hI1]; rfl
  · rw [v3, (d4 c hc).1]; exact (ddp c hc).1
  · rw [v4, (d4 c hc).2]; exact (dbd c hc).1
  · rw [v5]
    have hc' : c < m := hc
    exact x2 c (by omega)
  · unfold RS
    rw [oA 12 (by decide) (by decide) (by decide), oA 13 (by decide) (by decide) (by decide)]
    exact r.rs
end K3
