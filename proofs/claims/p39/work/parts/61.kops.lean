/-! ===== what the class answers, call by call ===== -/
section K1
variable {σ : SG} {A : Nat → List Int32} {I : Nat → Nat → Int32} {fu : Nat}
theorem k10 : ¬ (1 : Int32) = 0 := by decide
theorem k_stride (r : RR σ A I) {j : Nat} (hj : j < σ 0 4) : U_X7_stride fu [.ref 1, .int (nI j)] (enc A I) = some (some (.int (nI (σ 10 j))), enc A I) := by
  have hk := r.k6
  simp only [u_X7_stride, M_X7_stride, c_isWalker, io_1, gr_1_0, gr_1_1, gr_1_2, gr_1_3, gr_1_4, gr_1_5, gi_1_6, pf_1_6, gi_1_7, pf_1_7, io_2, gr_2_0, gr_2_1, gr_2_2, gr_2_3, gr_2_4, gr_2_5, gr_2_6, gr_2_7, gi_2_8, pf_2_8, gi_2_9, pf_2_9, gi_2_10, pf_2_10, gi_2_11, pf_2_11, gi_2_12, pf_2_12, gi_2_13, pf_2_13, gi_2_14, pf_2_14, io_11, gr_11_0, gr_11_1, gr_11_2, io_15, gr_15_0, gr_15_1, gi_15_2, pf_15_2, gi_15_3, pf_15_3, gi_15_4, pf_15_4, gi_15_5, pf_15_5, io_18, gr_18_0, gr_18_1, gi_18_2, pf_18_2, io_21, gr_21_0, gr_21_1, gr_21_2, gr_21_3, gi_21_4, pf_21_4, gi_21_5, pf_21_5, gi_21_6, pf_21_6, gi_21_7, pf_21_7, io_34, gr_34_0, gi_34_1, pf_34_1, al_3, al_4, al_5, al_6, al_7, al_8, al_9, al_10, al_12, al_13, al_14, al_16, al_17, al_19, al_20, al_22, al_23, al_24, al_26, al_27, al_28, al_29, al_30, al_31, al_32, al_33, al_35, ↓reduceIte, Option.bind_some, cI_some, cL_some, cV_some, rz_0, rz_1, r.i2_14, bI_t (n_win hj (by omega)), r.a10 hj, if_neg k10]
theorem k_strideN (r : RR σ A I) {x : Int32} (h : ¬ (0 ≤ x ∧ x < nI (σ 0 4))) : U_X7_stride fu [.ref 1, .int x] (enc A I) = some (some (.int (-1)), enc A I) := by
  simp only [u_X7_stride, M_X7_stride, c_isWalker, io_1, gr_1_0, gr_1_1, gr_1_2, gr_1_3, gr_1_4, gr_1_5, gi_1_6, pf_1_6, gi_1_7, pf_1_7, io_2, gr_2_0, gr_2_1, gr_2_2, gr_2_3, gr_2_4, gr_2_5, gr_2_6, gr_2_7, gi_2_8, pf_2_8, gi_2_9, pf_2_9, gi_2_10, pf_2_10, gi_2_11, pf_2_11, gi_2_12, pf_2_12, gi_2_13, pf_2_13, gi_2_14, pf_2_14, io_11, gr_11_0, gr_11_1, gr_11_2, io_15, gr_15_0, gr_15_1, gi_15_2, pf_15_2, gi_15_3, pf_15_3, gi_15_4, pf_15_4, gi_15_5, pf_15_5, io_18, gr_18_0, gr_18_1, gi_18_2, pf_18_2, io_21, gr_21_0, gr_21_1, gr_21_2, gr_21_3, gi_21_4, pf_21_4, gi_21_5, pf_21_5, gi_21_6, pf_21_6, gi_21_7, pf_21_7, io_34, gr_34_0, gi_34_1, pf_34_1, al_3, al_4, al_5, al_6, al_7, al_8, al_9, al_10, al_12, al_13, al_14, al_16, al_17, al_19, al_20, al_22, al_23, al_24, al_26, al_27, al_28, al_29, al_30, al_31, al_32, al_33, al_35, ↓reduceIte, Option.bind_some, cI_some, cL_some, cV_some, rz_0, rz_1, r.i2_14, bI_f h]
theorem k_ofStone5 (hf : 1000 ≤ fu) (r : RR σ A I) {s : Nat} (hs : s < σ 0 3) : U_X7_ofStone fu [.ref 1, .int (nI s), .int 5] (enc A I) = some (some (.int (pl (σ 8 s))), enc A I) := by
  have hk := r.m6
  have hb := bits_lt (fun s => σ 8 s == 100) (σ 0 3)
  have hb2 : 2 ^ σ 0 3 ≤ 64 := Nat.pow_le_pow_right (by omega) hk
  simp only [u_X7_ofStone, M_X7_ofStone, c_isStone, io_1, gr_1_0, gr_1_1, gr_1_2, gr_1_3, gr_1_4, gr_1_5, gi_1_6, pf_1_6, gi_1_7, pf_1_7, io_2, gr_2_0, gr_2_1, gr_2_2, gr_2_3, gr_2_4, gr_2_5, gr_2_6, gr_2_7, gi_2_8, pf_2_8, gi_2_9, pf_2_9, gi_2_10, pf_2_10, gi_2_11, pf_2_11, gi_2_12, pf_2_12, gi_2_13, pf_2_13, gi_2_14, pf_2_14, io_11, gr_11_0, gr_11_1, gr_11_2, io_15, gr_15_0, gr_15_1, gi_15_2, pf_15_2, gi_15_3, pf_15_3, gi_15_4, pf_15_4, gi_15_5, pf_15_5, io_18, gr_18_0, gr_18_1, gi_18_2, pf_18_2, io_21, gr_21_0, gr_21_1, gr_21_2, gr_21_3, gi_21_4, pf_21_4, gi_21_5, pf_21_5, gi_21_6, pf_21_6, gi_21_7, pf_21_7, io_34, gr_34_0, gi_34_1, pf_34_1, al_3, al_4, al_5, al_6, al_7, al_8, al_9, al_10, al_12, al_13, al_14, al_16, al_17, al_19, al_20, al_22, al_23, al_24, al_26, al_27, al_28, al_29, al_30, al_31, al_32, al_33, al_35, ↓reduceIte, Option.bind_some, cI_some, cL_some, cV_some, rz_0, rz_1, r.i2_12, bI_t (n_win hs (by omega)), if_neg k10, r.a6 hs, r.a7 hs, r.a8 hs, r.a9 hs, c_holdOf r hs, r.i2_13, c_hasn _ (show bits (fun s => σ 8 s == 100) (σ 0 3) < 2147483648 by omega) (show s < 31 by omega), c_cellOf hf r hs, bits_test, hs, decide_true, Bool.true_and]
  rw [if_neg (by decide), if_neg (by decide), if_neg (by decide), if_neg (by decide), if_neg (by decide)]
  by_cases h : σ 8 s = 100
  · simp [h, bI, pl]
  · simp [h, bI]
theorem k_ofCell2 (r : RR σ A I) {c : Nat} (hc : c < σ 0 0) : U_X7_ofCell fu [.ref 1, .int (nI c), .int 2] (enc A I) = some (some (.int (ro (σ 7 c))), enc A I) := by
  have hn := r.n7
  simp only [u_X7_ofCell, M_X7_ofCell, c_isCell, io_1, gr_1_0, gr_1_1, gr_1_2, gr_1_3, gr_1_4, gr_1_5, gi_1_6, pf_1_6, gi_1_7, pf_1_7, io_2, gr_2_0, gr_2_1, gr_2_2, gr_2_3, gr_2_4, gr_2_5, gr_2_6, gr_2_7, gi_2_8, pf_2_8, gi_2_9, pf_2_9, gi_2_10, pf_2_10, gi_2_11, pf_2_11, gi_2_12, pf_2_12, gi_2_13, pf_2_13, gi_2_14, pf_2_14, io_11, gr_11_0, gr_11_1, gr_11_2, io_15, gr_15_0, gr_15_1, gi_15_2, pf_15_2, gi_15_3, pf_15_3, gi_15_4, pf_15_4, gi_15_5, pf_15_5, io_18, gr_18_0, gr_18_1, gi_18_2, pf_18_2, io_21, gr_21_0, gr_21_1, gr_21_2, gr_21_3, gi_21_4, pf_21_4, gi_21_5, pf_21_5, gi_21_6, pf_21_6, gi_21_7, pf_21_7, io_34, gr_34_0, gi_34_1, pf_34_1, al_3, al_4, al_5, al_6, al_7, al_8, al_9, al_10, al_12, al_13, al_14, al_16, al_17, al_19, al_20, al_22, al_23, al_24, al_26, al_27, al_28, al_29, al_30, al_31, al_32, al_33, al_35, ↓reduceIte, Option.bind_some, cI_some, cL_some, cV_some, rz_0, rz_1, r.i2_8, bI_t (n_win hc (by omega)), if_neg k10, r.a5 hc]
  rw [if_neg (by decide), if_neg (by decide)]
theorem k_ofCell4 (r : RR σ A I) {c : Nat} (hc : c < σ 0 0) : U_X7_ofCell fu [.ref 1, .int (nI c), .int 4] (enc A I) = some (some (.int (if σ 7 c = 0 then -99 else topI σ (σ 7 c - 1) c (nI (σ 0 2)))), enc A I) := by
  have hn := r.n7
  have h6 := r.row_lt hc
  simp only [u_X7_ofCell, M_X7_ofCell, c_isCell, io_1, gr_1_0, gr_1_1, gr_1_2, gr_1_3, gr_1_4, gr_1_5, gi_1_6, pf_1_6, gi_1_7, pf_1_7, io_2, gr_2_0, gr_2_1, gr_2_2, gr_2_3, gr_2_4, gr_2_5, gr_2_6, gr_2_7, gi_2_8, pf_2_8, gi_2_9, pf_2_9, gi_2_10, pf_2_10, gi_2_11, pf_2_11, gi_2_12, pf_2_12, gi_2_13, pf_2_13, gi_2_14, pf_2_14, io_11, gr_11_0, gr_11_1, gr_11_2, io_15, gr_15_0, gr_15_1, gi_15_2, pf_15_2, gi_15_3, pf_15_3, gi_15_4, pf_15_4, gi_15_5, pf_15_5, io_18, gr_18_0, gr_18_1, gi_18_2, pf_18_2, io_21, gr_21_0, gr_21_1, gr_21_2, gr_21_3, gi_21_4, pf_21_4, gi_21_5, pf_21_5, gi_21_6, pf_21_6, gi_21_7, pf_21_7, io_34, gr_34_0, gi_34_1, pf_34_1, al_3, al_4, al_5, al_6, al_7, al_8, al_9, al_10, al_12, al_13, al_14, al_16, al_17, al_19, al_20, al_22, al_23, al_24, al_26, al_27, al_28, al_29, al_30, al_31, al_32, al_33, al_35, ↓reduceIte, Option.bind_some, cI_some, cL_some, cV_some, rz_0, rz_1, r.i2_8, bI_t (n_win hc (by omega)), if_neg k10, r.a5 hc, r.i2_11, ro_9 (show σ 7 c < 2147483648 by omega)]
  rw [if_neg (by decide), if_neg (by decide), if_neg (by decide), if_neg (by decide)]
  cases hk : σ 7 c with
  | zero => rfl
  | succ s =>
    have hs := (r.row hc hk).1
    simp only [ro_s, c_topOf r hs hc, io_1, gr_1_0, gr_1_1, gr_1_2, gr_1_3, gr_1_4, gr_1_5, gi_1_6, pf_1_6, gi_1_7, pf_1_7, io_2, gr_2_0, gr_2_1, gr_2_2, gr_2_3, gr_2_4, gr_2_5, gr_2_6, gr_2_7, gi_2_8, pf_2_8, gi_2_9, pf_2_9, gi_2_10, pf_2_10, gi_2_11, pf_2_11, gi_2_12, pf_2_12, gi_2_13, pf_2_13, gi_2_14, pf_2_14, io_11, gr_11_0, gr_11_1, gr_11_2, io_15, gr_15_0, gr_15_1, gi_15_2, pf_15_2, gi_15_3, pf_15_3, gi_15_4, pf_15_4, gi_15_5, pf_15_5, io_18, gr_18_0, gr_18_1, gi_18_2, pf_18_2, io_21, gr_21_0, gr_21_1, gr_21_2, gr_21_3, gi_21_4, pf_21_4, gi_21_5, pf_21_5, gi_21_6, pf_21_6, gi_21_7, pf_21_7, io_34, gr_34_0, gi_34_1, pf_34_1, al_3, al_4, al_5, al_6, al_7, al_8, al_9, al_10, al_12, al_13, al_14, al_16, al_17, al_19, al_20, al_22, al_23, al_24, al_26, al_27, al_28, al_29, al_30, al_31, al_32, al_33, al_35, ↓reduceIte, Option.bind_some, cI_some, cL_some, cV_some, rz_0, rz_1, Nat.add_one_ne_zero, if_false, Nat.add_sub_cancel]
theorem k_water (r : RR σ A I) (h0 : σ 0 0 ≠ 0) {j : Nat} (hj : j ≤ 9) : U_X7_water fu [.ref 1, .int (nI j)] (enc A I) = some (some (.int (nI (σ 0 2))), enc A (uI I 2 11 (nI j))) ∧ RR (uN σ 0 2 j) A (uI I 2 11 (nI j)) := by
  have hn := r.n7
  have hin : (0 : Int32) ≤ nI j ∧ nI j ≤ 9 := n_rin (Nat.zero_le j) hj (by decide)
  have hp : (0 : Int32) < nI (σ 0 0) := by rw [nI_0lt (by omega)]; omega
  refine ⟨?_, ?_⟩
  · simp only [u_X7_water, M_X7_water, c_within, c_isThere, io_1, gr_1_0, gr_1_1, gr_1_2, gr_1_3, gr_1_4, gr_1_5, gi_1_6, pf_1_6, gi_1_7, pf_1_7, io_2, gr_2_0, gr_2_1, gr_2_2, gr_2_3, gr_2_4, gr_2_5, gr_2_6, gr_2_7, gi_2_8, pf_2_8, gi_2_9, pf_2_9, gi_2_10, pf_2_10, gi_2_11, pf_2_11, gi_2_12, pf_2_12, gi_2_13, pf_2_13, gi_2_14, pf_2_14, io_11, gr_11_0, gr_11_1, gr_11_2, io_15, gr_15_0, gr_15_1, gi_15_2, pf_15_2, gi_15_3, pf_15_3, gi_15_4, pf_15_4, gi_15_5, pf_15_5, io_18, gr_18_0, gr_18_1, gi_18_2, pf_18_2, io_21, gr_21_0, gr_21_1, gr_21_2, gr_21_3, gi_21_4, pf_21_4, gi_21_5, pf_21_5, gi_21_6, pf_21_6, gi_21_7, pf_21_7, io_34, gr_34_0, gi_34_1, pf_34_1, al_3, al_4, al_5, al_6, al_7, al_8, al_9, al_10, al_12, al_13, al_14, al_16, al_17, al_19, al_20, al_22, al_23, al_24, al_26, al_27, al_28, al_29, al_30, al_31, al_32, al_33, al_35, ↓reduceIte, Option.bind_some, cI_some, cL_some, cV_some, rz_0, rz_1, bI_t hin, if_neg k10, r.i2_8, bI_t hp, r.i2_11]
  · obtain ⟨⟨w1, w2, w3, w4, w5⟩, r2, ⟨⟨c1, c2, c3, c4, c5⟩, c6⟩, r5⟩ := r
    exact ⟨⟨w1, w2, w3, hj, w5⟩, r2, ⟨⟨c1, c2, c3, rfl, c5⟩, c6⟩, r5⟩
theorem k_waterN {x : Int32} (h : ¬ ((0 : Int32) ≤ x ∧ x ≤ 9)) : U_X7_water fu [.ref 1, .int x] (enc A I) = some (some (.int (-2)), enc A I) := by
  simp only [u_X7_water, M_X7_water, c_within, io_1, gr_1_0, gr_1_1, gr_1_2, gr_1_3, gr_1_4, gr_1_5, gi_1_6, pf_1_6, gi_1_7, pf_1_7, io_2, gr_2_0, gr_2_1, gr_2_2, gr_2_3, gr_2_4, gr_2_5, gr_2_6, gr_2_7, gi_2_8, pf_2_8, gi_2_9, pf_2_9, gi_2_10, pf_2_10, gi_2_11, pf_2_11, gi_2_12, pf_2_12, gi_2_13, pf_2_13, gi_2_14, pf_2_14, io_11, gr_11_0, gr_11_1, gr_11_2, io_15, gr_15_0, gr_15_1, gi_15_2, pf_15_2, gi_15_3, pf_15_3, gi_15_4, pf_15_4, gi_15_5, pf_15_5, io_18, gr_18_0, gr_18_1, gi_18_2, pf_18_2, io_21, gr_21_0, gr_21_1, gr_21_2, gr_21_3, gi_21_4, pf_21_4, gi_21_5, pf_21_5, gi_21_6, pf_21_6, gi_21_7, pf_21_7, io_34, gr_34_0, gi_34_1, pf_34_1, al_3, al_4, al_5, al_6, al_7, al_8, al_9, al_10, al_12, al_13, al_14, al_16, al_17, al_19, al_20, al_22, al_23, al_24, al_26, al_27, al_28, al_29, al_30, al_31, al_32, al_33, al_35, ↓reduceIte, Option.bind_some, cI_some, cL_some, cV_some, rz_0, rz_1, bI_f h]
theorem k_walker (r : RR σ A I) (h0 : σ 0 0 ≠ 0) {j : Nat} (hj1 : 1 ≤ j) (hj : j ≤ 9) (hk6 : σ 0 4 < 6) :
    U_X7_walker fu [.ref 1, .int (nI j)] (enc A I) = some (some (.int (nI (σ 0 4))), enc (uA A 10 ((A 10).set (σ 0 4) (nI j))) (uI I 2 14 (nI (σ 0 4 + 1)))) ∧ RR (uN (uN σ 0 4 (σ 0 4 + 1)) 10 (σ 0 4) j) (uA A 10 ((A 10).set (σ 0 4) (nI j))) (uI I 2 14 (nI (σ 0 4 + 1))) := by
  have hn := r.n7
  have hin : (1 : Int32) ≤ nI j ∧ nI j ≤ 9 := n_rin hj1 hj (by decide)
  have hp : (0 : Int32) < nI (σ 0 0) := by rw [nI_0lt (by omega)]; omega
  have hlt : nI (σ 0 4) < 6 := nI_lt hk6 (by decide)
  have l10 : σ 0 4 < (A 10).length := by rw [r.len rfl]; exact hk6
  refine ⟨?_, ?_⟩
  · have e : sI (enc A I) 10 (nI (σ 0 4)) (nI j) = some (enc (uA A 10 ((A 10).set (σ 0 4) (nI j))) I) := si_10 A I _ l10 (by omega)
    simp only [u_X7_walker, M_X7_walker, c_within, c_isThere, u_X0_addWalker, M_X0_addWalker, io_1, gr_1_0, gr_1_1, gr_1_2, gr_1_3, gr_1_4, gr_1_5, gi_1_6, pf_1_6, gi_1_7, pf_1_7, io_2, gr_2_0, gr_2_1, gr_2_2, gr_2_3, gr_2_4, gr_2_5, gr_2_6, gr_2_7, gi_2_8, pf_2_8, gi_2_9, pf_2_9, gi_2_10, pf_2_10, gi_2_11, pf_2_11, gi_2_12, pf_2_12, gi_2_13, pf_2_13, gi_2_14, pf_2_14, io_11, gr_11_0, gr_11_1, gr_11_2, io_15, gr_15_0, gr_15_1, gi_15_2, pf_15_2, gi_15_3, pf_15_3, gi_15_4, pf_15_4, gi_15_5, pf_15_5, io_18, gr_18_0, gr_18_1, gi_18_2, pf_18_2, io_21, gr_21_0, gr_21_1, gr_21_2, gr_21_3, gi_21_4, pf_21_4, gi_21_5, pf_21_5, gi_21_6, pf_21_6, gi_21_7, pf_21_7, io_34, gr_34_0, gi_34_1, pf_34_1, al_3, al_4, al_5, al_6, al_7, al_8, al_9, al_10, al_12, al_13, al_14, al_16, al_17, al_19, al_20, al_22, al_23, al_24, al_26, al_27, al_28, al_29, al_30, al_31, al_32, al_33, al_35, ↓reduceIte, Option.bind_some, cI_some, cL_some, cV_some, rz_0, rz_1, bI_t hin, if_neg k10, r.i2_8, bI_t hp, r.i2_14, if_pos hlt, e, nI_1, uI_s, nI_pred]
  · obtain ⟨⟨w1, w2, w3, w4, w5, w6, w7, w8, w9, w10, w11⟩, r2, ⟨⟨c1, c2, c3, c4, c5, c6, c7⟩, c8, c9, c10⟩, r5⟩ := r
    have hu : ∀ i, uN (uN σ 0 4 (σ 0 4 + 1)) 10 (σ 0 4) j 10 i = if i = σ 0 4 then j else σ 10 i := fun i => by simp [uN]
    have hlt1 : ∀ i, i < σ 0 4 + 1 → ¬ i = σ 0 4 → i < σ 0 4 := fun i h1 h2 => by omega
    refine ⟨⟨w1, w2, w3, w4, w5, hk6, fun q => absurd q (show ¬ σ 0 0 = 0 by omega), w8, w9, fun i hi => ?_, w11⟩, r2.set (by simp), ⟨⟨c1, c2, c3, c4, c5, c6, rfl⟩, c8, c9, fun i hi => ?_⟩, r5⟩
    · rw [hu]; split
      · exact ⟨hj1, hj⟩
      · next hne => exact w10 i (hlt1 i hi hne)
    · show rd ((A 10).set (σ 0 4) (nI j)) i = nI _
      rw [hu, rd_set _ _ l10]; split
      · rfl
      · next hne => exact c10 i (hlt1 i hi hne)
theorem k_walkerN {x : Int32} (h : ¬ ((1 : Int32) ≤ x ∧ x ≤ 9)) : U_X7_walker fu [.ref 1, .int x] (enc A I) = some (some (.int (-2)), enc A I) := by
  simp only [u_X7_walker, M_X7_walker, c_within, io_1, gr_1_0, gr_1_1, gr_1_2, gr_1_3, gr_1_4, gr_1_5, gi_1_6, pf_1_6, gi_1_7, pf_1_7, io_2, gr_2_0, gr_2_1, gr_2_2, gr_2_3, gr_2_4, gr_2_5, gr_2_6, gr_2_7, gi_2_8, pf_2_8, gi_2_9, pf_2_9, gi_2_10, pf_2_10, gi_2_11, pf_2_11, gi_2_12, pf_2_12, gi_2_13, pf_2_13, gi_2_14, pf_2_14, io_11, gr_11_0, gr_11_1, gr_11_2, io_15, gr_15_0, gr_15_1, gi_15_2, pf_15_2, gi_15_3, pf_15_3, gi_15_4, pf_15_4, gi_15_5, pf_15_5, io_18, gr_18_0, gr_18_1, gi_18_2, pf_18_2, io_21, gr_21_0, gr_21_1, gr_21_2, gr_21_3, gi_21_4, pf_21_4, gi_21_5, pf_21_5, gi_21_6, pf_21_6, gi_21_7, pf_21_7, io_34, gr_34_0, gi_34_1, pf_34_1, al_3, al_4, al_5, al_6, al_7, al_8, al_9, al_10, al_12, al_13, al_14, al_16, al_17, al_19, al_20, al_22, al_23, al_24, al_26, al_27, al_28, al_29, al_30, al_31, al_32, al_33, al_35, ↓reduceIte, Option.bind_some, cI_some, cL_some, cV_some, rz_0, rz_1, bI_f h]
theorem k_stone (r : RR σ A I) (h0 : σ 0 0 ≠ 0) {a b c d : Nat} (ha : a ≤ 2) (hb1 : 1 ≤ b) (hb : b ≤ 20) (hc1 : 1 ≤ c) (hc : c ≤ 9) (hd : d ≤ 9) (hk6 : σ 0 3 < 6) :
    ∃ A1, U_X7_stone fu [.ref 1, .int (nI a), .int (nI b), .int (nI c), .int (nI d)] (enc A I) = some (some (.int (nI (σ 0 3))), enc A1 (uI I 2 12 (nI (σ 0 3 + 1)))) ∧ RR (addS σ a b c d) A1 (uI I 2 12 (nI (σ 0 3 + 1))) ∧ ∀ k, k ≠ 6 → k ≠ 7 → k ≠ 8 → k ≠ 9 → A1 k = A k := by
  have hn := r.n7
  have hi1 : (0 : Int32) ≤ nI a ∧ nI a ≤ 2 := n_rin (Nat.zero_le a) ha (by decide)
  have hi2 : (1 : Int32) ≤ nI b ∧ nI b ≤ 20 := n_rin hb1 hb (by decide)
  have hi3 : (1 : Int32) ≤ nI c ∧ nI c ≤ 9 := n_rin hc1 hc (by decide)
  have hi4 : (0 : Int32) ≤ nI d ∧ nI d ≤ 9 := n_rin (Nat.zero_le d) hd (by decide)
  have hp : (0 : Int32) < nI (σ 0 0) := by rw [nI_0lt (by omega)]; omega
  have hlt : nI (σ 0 3) < 6 := nI_lt hk6 (by decide)
  have L : ∀ k, isArr k = true → lenT k = 6 → σ 0 3 < (A k).length := fun k h1 h2 => by rw [r.len h1, h2]; exact hk6
  have hM : σ 0 3 < 2147483648 := by omega
  obtain ⟨A1, hA1⟩ : ∃ B, B = uA (uA (uA (uA A 6 ((A 6).set (σ 0 3) (nI a))) 7 ((A 7).set (σ 0 3) (nI b))) 8 ((A 8).set (σ 0 3) (nI c))) 9 ((A 9).set (σ 0 3) (nI d)) := ⟨_, rfl⟩
  refine ⟨A1, ?_, ?_, fun k h6 h7 h8 h9 => by rw [hA1, uA_n _ _ _ h9, uA_n _ _ _ h8, uA_n _ _ _ h7, uA_n _ _ _ h6]⟩
  · have e6 := si_6 A I (nI a) (L 6 rfl rfl) hM
    have e7' : sI (enc (uA A 6 ((A 6).set (σ 0 3) (nI a))) I) 7 (nI (σ 0 3)) (nI b) = some (enc (uA (uA A 6 ((A 6).set (σ 0 3) (nI a))) 7 ((A 7).set (σ 0 3) (nI b))) I) := si_7 (uA A 6 ((A 6).set (σ 0 3) (nI a))) I (nI b) (L 7 rfl rfl) hM
    have e8' : sI (enc (uA (uA A 6 ((A 6).set (σ 0 3) (nI a))) 7 ((A 7).set (σ 0 3) (nI b))) I) 8 (nI (σ 0 3)) (nI c) = some (enc (uA (uA (uA A 6 ((A 6).set (σ 0 3) (nI a))) 7 ((A 7).set (σ 0 3) (nI b))) 8 ((A 8).set (σ 0 3) (nI c))) I) := si_8 (uA (uA A 6 ((A 6).set (σ 0 3) (nI a))) 7 ((A 7).set (σ 0 3) (nI b))) I (nI c) (L 8 rfl rfl) hM
    have e9' : sI (enc (uA (uA (uA A 6 ((A 6).set (σ 0 3) (nI a))) 7 ((A 7).set (σ 0 3) (nI b))) 8 ((A 8).set (σ 0 3) (nI c))) I) 9 (nI (σ 0 3)) (nI d) = some (enc A1 I) := by
      rw [hA1]
      exact si_9 (uA (uA (uA A 6 ((A 6).set (σ 0 3) (nI a))) 7 ((A 7).set (σ 0 3) (nI b))) 8 ((A 8).set (σ 0 3) (nI c))) I (nI d) (L 9 rfl rfl) hM
    simp only [u_X7_stone, M_X7_stone, c_within, c_isThere, u_X0_addStone, M_X0_addStone, io_1, gr_1_0, gr_1_1, gr_1_2, gr_1_3, gr_1_4, gr_1_5, gi_1_6, pf_1_6, gi_1_7, pf_1_7, io_2, gr_2_0, gr_2_1, gr_2_2, gr_2_3, gr_2_4, gr_2_5, gr_2_6, gr_2_7, gi_2_8, pf_2_8, gi_2_9, pf_2_9, gi_2_10, pf_2_10, gi_2_11, pf_2_11, gi_2_12, pf_2_12, gi_2_13, pf_2_13, gi_2_14, pf_2_14, io_11, gr_11_0, gr_11_1, gr_11_2, io_15, gr_15_0, gr_15_1, gi_15_2, pf_15_2, gi_15_3, pf_15_3, gi_15_4, pf_15_4, gi_15_5, pf_15_5, io_18, gr_18_0, gr_18_1, gi_18_2, pf_18_2, io_21, gr_21_0, gr_21_1, gr_21_2, gr_21_3, gi_21_4, pf_21_4, gi_21_5, pf_21_5, gi_21_6, pf_21_6, gi_21_7, pf_21_7, io_34, gr_34_0, gi_34_1, pf_34_1, al_3, al_4, al_5, al_6, al_7, al_8, al_9, al_10, al_12, al_13, al_14, al_16, al_17, al_19, al_20, al_22, al_23, al_24, al_26, al_27, al_28, al_29, al_30, al_31, al_32, al_33, al_35, ↓reduceIte, Option.bind_some, cI_some, cL_some, cV_some, rz_0, rz_1, bI_t hi1, bI_t hi2, bI_t hi3, bI_t hi4, if_neg k10, r.i2_8, bI_t hp, r.i2_12, if_pos hlt, e6, e7', e8', e9', nI_1, uI_s, nI_pred]
  · have hl6 := L 6 rfl rfl
    have hl7 := L 7 rfl rfl
    have hl8 := L 8 rfl rfl
    have hl9 := L 9 rfl rfl
    obtain ⟨⟨w1, w2, w3, w4, w5, w6, w7, w8, w9, w10, w11, w12⟩, r2, ⟨⟨c1, c2, c3, c4, c5, c6, c7⟩, c8, c9, c10⟩, r5⟩ := r
    have hlt1 : ∀ i, i < σ 0 3 + 1 → ¬ i = σ 0 3 → i < σ 0 3 := fun i h1 h2 => by omega
    have hu3 : ∀ i, addS σ a b c d 3 i = if i = σ 0 3 then a else σ 3 i := fun i => by simp [addS, uN]
    have hu4 : ∀ i, addS σ a b c d 4 i = if i = σ 0 3 then b else σ 4 i := fun i => by simp [addS, uN]
    have hu5 : ∀ i, addS σ a b c d 5 i = if i = σ 0 3 then c else σ 5 i := fun i => by simp [addS, uN]
    have hu6 : ∀ i, addS σ a b c d 6 i = if i = σ 0 3 then d else σ 6 i := fun i => by simp [addS, uN]
    have hu8 : ∀ i, addS σ a b c d 8 i = if i = σ 0 3 then 0 else σ 8 i := fun i => by simp [addS, uN]
    have hg : bits (fun s => addS σ a b c d 8 s == 100) (σ 0 3 + 1) = bits (fun s => σ 8 s == 100) (σ 0 3) := by
      rw [bits_S _ _ (by show (addS σ a b c d 8 (σ 0 3) == 100) = false; rw [hu8, if_pos rfl]; rfl)]
      exact bits_congr _ fun i hi => by rw [hu8, if_neg (by omega)]
    have hLEN : LEN A1 := by
      rw [hA1]
      refine LEN.set (LEN.set (LEN.set (LEN.set r2 ?_) ?_) ?_) ?_
      all_goals (first | exact List.length_set | (show (List.set _ _ _).length = _; rw [List.length_set]; rfl))
    refine ⟨⟨w1, w2, w3, w4, hk6, w6, fun q => absurd q (show ¬ σ 0 0 = 0 by omega), w8, fun i hi => ?_, w10, fun i hi s hs => ?_, fun i hi => ?_⟩, hLEN, ⟨⟨c1, c2, c3, c4, rfl, c6.trans (congrArg nI hg.symm), c7⟩, ?_, fun i hi => ?_, ?_⟩, ?_⟩
    · rw [hu3, hu4, hu5, hu6]
      split
      · exact ⟨ha, hb1, hb, hc1, hc, hd⟩
      · next hne => exact w9 i (hlt1 i hi hne)
    · have h1 := w11 i hi s hs
      refine ⟨Nat.lt_succ_of_lt h1.1, ?_⟩
      rw [hu8, if_neg (by have := h1.1; omega)]
      exact h1.2
    · rw [hu8]
      split
      · exact Or.inl rfl
      · next hne => exact w12 i (hlt1 i hi hne)
    · rw [hA1]; exact c8
    · rw [hA1]
      show rd ((A 6).set (σ 0 3) (nI a)) i = _ ∧ rd ((A 7).set (σ 0 3) (nI b)) i = _ ∧ rd ((A 8).set (σ 0 3) (nI c)) i = _ ∧ rd ((A 9).set (σ 0 3) (nI d)) i = _
      rw [hu3, hu4, hu5, hu6, rd_set _ _ hl6, rd_set _ _ hl7, rd_set _ _ hl8, rd_set _ _ hl9]
      by_cases q : i = σ 0 3
      · simp [q]
      · simp only [if_neg q]; exact c9 i (hlt1 i hi q)
    · rw [hA1]; exact c10
    · rw [hA1]; exact r5
theorem RR.setC (r : RR σ A I) {s k : Nat} (hs : s < σ 0 3) (hg : σ 8 s ≠ 100) (hk : k ≤ σ 0 0) (hk2 : ∀ c, k = c + 1 → σ 7 c = 0) {B : Nat → List Int32}
    (h1 : ∀ j, j ≠ 5 → B j = A j) (l5 : (B 5).length = 7) (h5 : ∀ i, i < σ 0 0 → rd (B 5) i = ro (setS σ s k 7 i)) : RR (setS σ s k) B I := by
  have hn := r.n7
  have hset : ∀ i, setS σ s k 7 i = if i + 1 = k then s + 1 else if σ 7 i = s + 1 then 0 else σ 7 i := fun i => by simp [setS]
  have hset8 : ∀ i, setS σ s k 8 i = if i = s then k else σ 8 i := fun i => by simp [setS]
  obtain ⟨⟨w1, w2, w3, w4, w5, w6, w7, w8, w9, w10, w11, w12⟩, r2, ⟨⟨c1, c2, c3, c4, c5, c6, c7⟩, c8, c9, c10⟩, r5⟩ := r
  have hgone : bits (fun i => setS σ s k 8 i == 100) (σ 0 3) = bits (fun i => σ 8 i == 100) (σ 0 3) := bits_congr _ fun i hi => by
    rw [hset8]
    by_cases q : i = s
    · rw [if_pos q, q]
      have e1 : (k == 100) = false := by simp; omega
      have e2 : (σ 8 s == 100) = false := by simp [hg]
      rw [e1, e2]
    · rw [if_neg q]
  refine ⟨⟨w1, w2, w3, w4, w5, w6, w7, w8, w9, w10, fun c hc t ht => ?_, fun t ht => ?_⟩, fun j hj => ?_, ⟨⟨c1, c2, c3, c4, c5, c6.trans (congrArg nI hgone.symm), c7⟩, fun c hc => ?_, fun t ht => ?_, fun t ht => ?_⟩, ?_⟩
  · rw [hset] at ht
    rw [hset8]
    by_cases q : c + 1 = k
    · rw [if_pos q] at ht
      have : t = s := by omega
      subst this
      exact ⟨hs, by rw [if_pos rfl]; exact q.symm⟩
    · rw [if_neg q] at ht
      by_cases q2 : σ 7 c = s + 1
      · rw [if_pos q2] at ht; omega
      · rw [if_neg q2] at ht
        have h := w11 c hc t ht
        exact ⟨h.1, by rw [if_neg (fun z => q2 (by rw [ht, z]))]; exact h.2⟩
  · rw [hset8]
    by_cases q : t = s
    · rw [if_pos q]
      cases k with
      | zero => exact Or.inl rfl
      | succ c => exact Or.inr (Or.inr ⟨c, hk, rfl, by rw [hset, if_pos rfl, q]⟩)
    · rw [if_neg q]
      rcases w12 t ht with h | h | ⟨c, a1, a2, a3⟩
      · exact Or.inl h
      · exact Or.inr (Or.inl h)
      · refine Or.inr (Or.inr ⟨c, a1, a2, ?_⟩)
        rw [hset, if_neg (fun z => by have := hk2 c z.symm; omega), if_neg (by omega)]
        exact a3
  · by_cases q5 : j = 5
    · subst q5; exact l5
    · rw [h1 j q5]; exact r2 j hj
  · rw [h1 3 (by decide), h1 4 (by decide)]
    exact ⟨(c8 c hc).1, (c8 c hc).2.1, h5 c hc⟩
  · rw [h1 6 (by decide), h1 7 (by decide), h1 8 (by decide), h1 9 (by decide)]
    exact c9 t ht
  · rw [h1 10 (by decide)]
    exact c10 t ht
  · unfold RS at *
    rw [h1 12 (by decide), h1 13 (by decide)]
    exact r5
/-- a stone set: k is 0 (taken up), or its cell and 1 -/
theorem k_set (hf : 1000 ≤ fu) (r : RR σ A I) {s k : Nat} (hs : s < σ 0 3) (hg : σ 8 s ≠ 100) (hk : k ≤ σ 0 0) :
    ((∀ c, k = c + 1 → σ 7 c = 0) → ∃ A1, U_X7_set fu [.ref 1, .int (nI s), .int (ro k)] (enc A I) = some (some (.int 1), enc A1 I) ∧ RR (setS σ s k) A1 I ∧ ∀ j, j ≠ 5 → A1 j = A j) ∧
    ((¬ ∀ c, k = c + 1 → σ 7 c = 0) → U_X7_set fu [.ref 1, .int (nI s), .int (ro k)] (enc A I) = some (some (.int (-3)), enc A I)) := by
  have hn := r.n7
  have hm := r.m6
  obtain ⟨n, rfl⟩ : ∃ k, fu = k + 1000 := ⟨fu - 1000, by omega⟩
  have hb := bits_lt (fun s => σ 8 s == 100) (σ 0 3)
  have hb2 : 2 ^ σ 0 3 ≤ 64 := Nat.pow_le_pow_right (by omega) hm
  have hgb : bI ((bits (fun s => σ 8 s == 100) (σ 0 3)).testBit s = true) = bI (σ 8 s = 100) := by
    rw [bits_test]
    by_cases q : σ 8 s = 100 <;> simp [hs, q, bI]
  have head : ∀ o, (F_X7_set (n + 1000) (n + 1000)).1 1 (nI s) (ro k) (enc A I) = o → U_X7_set (n + 1000) [.ref 1, .int (nI s), .int (ro k)] (enc A I) = o := by
    intro o h
    cases k with
    | zero =>
      simp only [u_X7_set, M_X7_set, c_isStone, io_1, gr_1_0, gr_1_1, gr_1_2, gr_1_3, gr_1_4, gr_1_5, gi_1_6, pf_1_6, gi_1_7, pf_1_7, io_2, gr_2_0, gr_2_1, gr_2_2, gr_2_3, gr_2_4, gr_2_5, gr_2_6, gr_2_7, gi_2_8, pf_2_8, gi_2_9, pf_2_9, gi_2_10, pf_2_10, gi_2_11, pf_2_11, gi_2_12, pf_2_12, gi_2_13, pf_2_13, gi_2_14, pf_2_14, io_11, gr_11_0, gr_11_1, gr_11_2, io_15, gr_15_0, gr_15_1, gi_15_2, pf_15_2, gi_15_3, pf_15_3, gi_15_4, pf_15_4, gi_15_5, pf_15_5, io_18, gr_18_0, gr_18_1, gi_18_2, pf_18_2, io_21, gr_21_0, gr_21_1, gr_21_2, gr_21_3, gi_21_4, pf_21_4, gi_21_5, pf_21_5, gi_21_6, pf_21_6, gi_21_7, pf_21_7, io_34, gr_34_0, gi_34_1, pf_34_1, al_3, al_4, al_5, al_6, al_7, al_8, al_9, al_10, al_12, al_13, al_14, al_16, al_17, al_19, al_20, al_22, al_23, al_24, al_26, al_27, al_28, al_29, al_30, al_31, al_32, al_33, al_35, ↓reduceIte, Option.bind_some, cI_some, cL_some, cV_some, rz_0, rz_1, r.i2_12, bI_t (n_win hs (show σ 0 3 < 2147483648 by omega)), if_neg k10, if_pos (show ro 0 = -9 from rfl)]
      exact h
    | succ c =>
      have hin : 0 ≤ nI c ∧ nI c < nI (σ 0 0) := n_win (by omega) (by omega)
      have hy9 : ¬ nI c = -9 := by rw [n_m9 (by omega)]; exact id
      have h : (F_X7_set (n + 1000) (n + 1000)).1 1 (nI s) (nI c) (enc A I) = o := h
      simp only [ro_s, u_X7_set, M_X7_set, c_isStone, c_isCell, io_1, gr_1_0, gr_1_1, gr_1_2, gr_1_3, gr_1_4, gr_1_5, gi_1_6, pf_1_6, gi_1_7, pf_1_7, io_2, gr_2_0, gr_2_1, gr_2_2, gr_2_3, gr_2_4, gr_2_5, gr_2_6, gr_2_7, gi_2_8, pf_2_8, gi_2_9, pf_2_9, gi_2_10, pf_2_10, gi_2_11, pf_2_11, gi_2_12, pf_2_12, gi_2_13, pf_2_13, gi_2_14, pf_2_14, io_11, gr_11_0, gr_11_1, gr_11_2, io_15, gr_15_0, gr_15_1, gi_15_2, pf_15_2, gi_15_3, pf_15_3, gi_15_4, pf_15_4, gi_15_5, pf_15_5, io_18, gr_18_0, gr_18_1, gi_18_2, pf_18_2, io_21, gr_21_0, gr_21_1, gr_21_2, gr_21_3, gi_21_4, pf_21_4, gi_21_5, pf_21_5, gi_21_6, pf_21_6, gi_21_7, pf_21_7, io_34, gr_34_0, gi_34_1, pf_34_1, al_3, al_4, al_5, al_6, al_7, al_8, al_9, al_10, al_12, al_13, al_14, al_16, al_17, al_19, al_20, al_22, al_23, al_24, al_26, al_27, al_28, al_29, al_30, al_31, al_32, al_33, al_35, ↓reduceIte, Option.bind_some, cI_some, cL_some, cV_some, rz_0, rz_1, r.i2_12, r.i2_8, bI_t hin, bI_t (n_win hs (show σ 0 3 < 2147483648 by omega)), if_neg k10, if_neg hy9]
      exact h
  refine ⟨fun hfree => ?_, fun hno => ?_⟩
  · obtain ⟨A1, a1, a2, a3, a4⟩ := c_set2 (fu := n + 1000) (by omega) r hs hg hk hfree rfl (n + 998)
    refine ⟨A1, head _ ?_, r.setC hs hg hk hfree a2 a3 a4, a2⟩
    show (F_X7_set (n + 1000) (n + 999 + 1)).1 1 (nI s) (ro k) (enc A I) = _
    rw [F_X7_set]
    simp only [io_1, gr_1_0, gr_1_1, gr_1_2, gr_1_3, gr_1_4, gr_1_5, gi_1_6, pf_1_6, gi_1_7, pf_1_7, io_2, gr_2_0, gr_2_1, gr_2_2, gr_2_3, gr_2_4, gr_2_5, gr_2_6, gr_2_7, gi_2_8, pf_2_8, gi_2_9, pf_2_9, gi_2_10, pf_2_10, gi_2_11, pf_2_11, gi_2_12, pf_2_12, gi_2_13, pf_2_13, gi_2_14, pf_2_14, io_11, gr_11_0, gr_11_1, gr_11_2, io_15, gr_15_0, gr_15_1, gi_15_2, pf_15_2, gi_15_3, pf_15_3, gi_15_4, pf_15_4, gi_15_5, pf_15_5, io_18, gr_18_0, gr_18_1, gi_18_2, pf_18_2, io_21, gr_21_0, gr_21_1, gr_21_2, gr_21_3, gi_21_4, pf_21_4, gi_21_5, pf_21_5, gi_21_6, pf_21_6, gi_21_7, pf_21_7, io_34, gr_34_0, gi_34_1, pf_34_1, al_3, al_4, al_5, al_6, al_7, al_8, al_9, al_10, al_12, al_13, al_14, al_16, al_17, al_19, al_20, al_22, al_23, al_24, al_26, al_27, al_28, al_29, al_30, al_31, al_32, al_33, al_35, ↓reduceIte, Option.bind_some, cI_some, cL_some, cV_some, rz_0, rz_1, r.i2_13, c_hasn _ (show bits (fun s => σ 8 s == 100) (σ 0 3) < 2147483648 by omega) (show s < 31 by omega), hgb, bI_f hg]
    cases k with
    | zero => rw [if_pos (show ro 0 = -9 from rfl)]; exact a1
    | succ c =>
      have hc : c < σ 0 0 := by omega
      rw [if_neg (by rw [ro_s, n_m9 (by omega)]; exact id), ro_s, r.a5 hc, hfree c rfl]
      rw [ro_s] at a1
      exact a1
  · obtain ⟨c, hkc, hc7⟩ : ∃ c, k = c + 1 ∧ σ 7 c ≠ 0 := by
      cases k with
      | zero => exact absurd (fun c h => by omega) hno
      | succ c => exact ⟨c, rfl, fun q => hno fun b hb => by rw [show b = c by omega]; exact q⟩
    have hc : c < σ 0 0 := by omega
    subst hkc
    have h6 := r.row_lt hc
    have hro : ¬ ro (σ 7 c) = -9 := by rw [ro_9 (by omega)]; exact hc7
    have hy9 : ¬ nI c = -9 := by rw [n_m9 (by omega)]; exact id
    refine head _ ?_
    show (F_X7_set (n + 1000) (n + 999 + 1)).1 1 (nI s) (nI c) (enc A I) = _
    rw [F_X7_set]
    simp only [io_1, gr_1_0, gr_1_1, gr_1_2, gr_1_3, gr_1_4, gr_1_5, gi_1_6, pf_1_6, gi_1_7, pf_1_7, io_2, gr_2_0, gr_2_1, gr_2_2, gr_2_3, gr_2_4, gr_2_5, gr_2_6, gr_2_7, gi_2_8, pf_2_8, gi_2_9, pf_2_9, gi_2_10, pf_2_10, gi_2_11, pf_2_11, gi_2_12, pf_2_12, gi_2_13, pf_2_13, gi_2_14, pf_2_14, io_11, gr_11_0, gr_11_1, gr_11_2, io_15, gr_15_0, gr_15_1, gi_15_2, pf_15_2, gi_15_3, pf_15_3, gi_15_4, pf_15_4, gi_15_5, pf_15_5, io_18, gr_18_0, gr_18_1, gi_18_2, pf_18_2, io_21, gr_21_0, gr_21_1, gr_21_2, gr_21_3, gi_21_4, pf_21_4, gi_21_5, pf_21_5, gi_21_6, pf_21_6, gi_21_7, pf_21_7, io_34, gr_34_0, gi_34_1, pf_34_1, al_3, al_4, al_5, al_6, al_7, al_8, al_9, al_10, al_12, al_13, al_14, al_16, al_17, al_19, al_20, al_22, al_23, al_24, al_26, al_27, al_28, al_29, al_30, al_31, al_32, al_33, al_35, ↓reduceIte, Option.bind_some, cI_some, cL_some, cV_some, rz_0, rz_1, r.i2_13, c_hasn _ (show bits (fun s => σ 8 s == 100) (σ 0 3) < 2147483648 by omega) (show s < 31 by omega), hgb, bI_f hg, if_neg hy9, r.a5 hc, if_neg hro]
theorem k_setS (r : RR σ A I) {x : Int32} (h : ¬ (0 ≤ x ∧ x < nI (σ 0 3))) (y : Int32) : U_X7_set fu [.ref 1, .int x, .int y] (enc A I) = some (some (.int (-1)), enc A I) := by
  simp only [u_X7_set, M_X7_set, c_isStone, io_1, gr_1_0, gr_1_1, gr_1_2, gr_1_3, gr_1_4, gr_1_5, gi_1_6, pf_1_6, gi_1_7, pf_1_7, io_2, gr_2_0, gr_2_1, gr_2_2, gr_2_3, gr_2_4, gr_2_5, gr_2_6, gr_2_7, gi_2_8, pf_2_8, gi_2_9, pf_2_9, gi_2_10, pf_2_10, gi_2_11, pf_2_11, gi_2_12, pf_2_12, gi_2_13, pf_2_13, gi_2_14, pf_2_14, io_11, gr_11_0, gr_11_1, gr_11_2, io_15, gr_15_0, gr_15_1, gi_15_2, pf_15_2, gi_15_3, pf_15_3, gi_15_4, pf_15_4, gi_15_5, pf_15_5, io_18, gr_18_0, gr_18_1, gi_18_2, pf_18_2, io_21, gr_21_0, gr_21_1, gr_21_2, gr_21_3, gi_21_4, pf_21_4, gi_21_5, pf_21_5, gi_21_6, pf_21_6, gi_21_7, pf_21_7, io_34, gr_34_0, gi_34_1, pf_34_1, al_3, al_4, al_5, al_6, al_7, al_8, al_9, al_10, al_12, al_13, al_14, al_16, al_17, al_19, al_20, al_22, al_23, al_24, al_26, al_27, al_28, al_29, al_30, al_31, al_32, al_33, al_35, ↓reduceIte, Option.bind_some, cI_some, cL_some, cV_some, rz_0, rz_1, r.i2_12, bI_f h]
theorem k_setC (r : RR σ A I) {s : Nat} (hs : s < σ 0 3) {y : Int32} (hy9 : ¬ y = -9) (h : ¬ (0 ≤ y ∧ y < nI (σ 0 0))) : U_X7_set fu [.ref 1, .int (nI s), .int y] (enc A I) = some (some (.int (-1)), enc A I) := by
  have hm := r.m6
  simp only [u_X7_set, M_X7_set, c_isStone, c_isCell, io_1, gr_1_0, gr_1_1, gr_1_2, gr_1_3, gr_1_4, gr_1_5, gi_1_6, pf_1_6, gi_1_7, pf_1_7, io_2, gr_2_0, gr_2_1, gr_2_2, gr_2_3, gr_2_4, gr_2_5, gr_2_6, gr_2_7, gi_2_8, pf_2_8, gi_2_9, pf_2_9, gi_2_10, pf_2_10, gi_2_11, pf_2_11, gi_2_12, pf_2_12, gi_2_13, pf_2_13, gi_2_14, pf_2_14, io_11, gr_11_0, gr_11_1, gr_11_2, io_15, gr_15_0, gr_15_1, gi_15_2, pf_15_2, gi_15_3, pf_15_3, gi_15_4, pf_15_4, gi_15_5, pf_15_5, io_18, gr_18_0, gr_18_1, gi_18_2, pf_18_2, io_21, gr_21_0, gr_21_1, gr_21_2, gr_21_3, gi_21_4, pf_21_4, gi_21_5, pf_21_5, gi_21_6, pf_21_6, gi_21_7, pf_21_7, io_34, gr_34_0, gi_34_1, pf_34_1, al_3, al_4, al_5, al_6, al_7, al_8, al_9, al_10, al_12, al_13, al_14, al_16, al_17, al_19, al_20, al_22, al_23, al_24, al_26, al_27, al_28, al_29, al_30, al_31, al_32, al_33, al_35, ↓reduceIte, Option.bind_some, cI_some, cL_some, cV_some, rz_0, rz_1, r.i2_12, r.i2_8, bI_f h, bI_t (n_win hs (show σ 0 3 < 2147483648 by omega)), if_neg k10, if_neg hy9]
end K1
section K2
variable {σ : SG} {A : Nat → List Int32} {I : Nat → Nat → Int32} {fu : Nat}
theorem k_can (hf : 1000 ≤ fu) (r : RR σ A I) {x g : Nat} (hx : x < σ 0 4) (hg : g ≤ 1) : U_X7_can fu [.ref 1, .int (nI x), .int (nI g)] (enc A I) = some (some (.int (bI (X σ (σ 7) (σ 0 2) (σ 10 x - g)))), enc A I) := by
  have hk := r.k6
  have hw := r.wal hx
  have h2 := r.1.2.2.2.1
  have hwin := bI_t (n_win hx (show σ 0 4 < 2147483648 by omega))
  simp only [u_X7_can, M_X7_can, c_isWalker, io_1, gr_1_0, gr_1_1, gr_1_2, gr_1_3, gr_1_4, gr_1_5, gi_1_6, pf_1_6, gi_1_7, pf_1_7, io_2, gr_2_0, gr_2_1, gr_2_2, gr_2_3, gr_2_4, gr_2_5, gr_2_6, gr_2_7, gi_2_8, pf_2_8, gi_2_9, pf_2_9, gi_2_10, pf_2_10, gi_2_11, pf_2_11, gi_2_12, pf_2_12, gi_2_13, pf_2_13, gi_2_14, pf_2_14, io_11, gr_11_0, gr_11_1, gr_11_2, io_15, gr_15_0, gr_15_1, gi_15_2, pf_15_2, gi_15_3, pf_15_3, gi_15_4, pf_15_4, gi_15_5, pf_15_5, io_18, gr_18_0, gr_18_1, gi_18_2, pf_18_2, io_21, gr_21_0, gr_21_1, gr_21_2, gr_21_3, gi_21_4, pf_21_4, gi_21_5, pf_21_5, gi_21_6, pf_21_6, gi_21_7, pf_21_7, io_34, gr_34_0, gi_34_1, pf_34_1, al_3, al_4, al_5, al_6, al_7, al_8, al_9, al_10, al_12, al_13, al_14, al_16, al_17, al_19, al_20, al_22, al_23, al_24, al_26, al_27, al_28, al_29, al_30, al_31, al_32, al_33, al_35, ↓reduceIte, Option.bind_some, cI_some, cL_some, cV_some, rz_0, rz_1, r.i2_14, hwin, if_neg k10, c_filled (show 1000 ≤ fu by omega) r, r.i2_11, c_reachOf r hx hg, c_cross (show 1000 ≤ fu by omega) r h2 (show σ 10 x - g ≤ 9 by omega), bI_0]
  by_cases q : X σ (σ 7) (σ 0 2) (σ 10 x - g)
  · rw [if_neg (fun y => y q), bI_t q]
  · rw [if_pos q, bI_f q]
theorem k_canN (r : RR σ A I) {x : Int32} (h : ¬ (0 ≤ x ∧ x < nI (σ 0 4))) (g : Int32) : U_X7_can fu [.ref 1, .int x, .int g] (enc A I) = some (some (.int (-1)), enc A I) := by
  simp only [u_X7_can, M_X7_can, c_isWalker, io_1, gr_1_0, gr_1_1, gr_1_2, gr_1_3, gr_1_4, gr_1_5, gi_1_6, pf_1_6, gi_1_7, pf_1_7, io_2, gr_2_0, gr_2_1, gr_2_2, gr_2_3, gr_2_4, gr_2_5, gr_2_6, gr_2_7, gi_2_8, pf_2_8, gi_2_9, pf_2_9, gi_2_10, pf_2_10, gi_2_11, pf_2_11, gi_2_12, pf_2_12, gi_2_13, pf_2_13, gi_2_14, pf_2_14, io_11, gr_11_0, gr_11_1, gr_11_2, io_15, gr_15_0, gr_15_1, gi_15_2, pf_15_2, gi_15_3, pf_15_3, gi_15_4, pf_15_4, gi_15_5, pf_15_5, io_18, gr_18_0, gr_18_1, gi_18_2, pf_18_2, io_21, gr_21_0, gr_21_1, gr_21_2, gr_21_3, gi_21_4, pf_21_4, gi_21_5, pf_21_5, gi_21_6, pf_21_6, gi_21_7, pf_21_7, io_34, gr_34_0, gi_34_1, pf_34_1, al_3, al_4, al_5, al_6, al_7, al_8, al_9, al_10, al_12, al_13, al_14, al_16, al_17, al_19, al_20, al_22, al_23, al_24, al_26, al_27, al_28, al_29, al_30, al_31, al_32, al_33, al_35, ↓reduceIte, Option.bind_some, cI_some, cL_some, cV_some, rz_0, rz_1, r.i2_14, bI_f h]
theorem k_highest (hf : 1000 ≤ fu) (r : RR σ A I) {x g : Nat} (hx : x < σ 0 4) (hg : g ≤ 1) : U_X7_highest fu [.ref 1, .int (nI x), .int (nI g)] (enc A I) = some (some (.int (topv (fun v => decide (X σ (σ 7) v (σ 10 x - g))) 10)), enc A I) := by
  have hk := r.k6
  have hwin := bI_t (n_win hx (show σ 0 4 < 2147483648 by omega))
  simp only [u_X7_highest, M_X7_highest, c_isWalker, io_1, gr_1_0, gr_1_1, gr_1_2, gr_1_3, gr_1_4, gr_1_5, gi_1_6, pf_1_6, gi_1_7, pf_1_7, io_2, gr_2_0, gr_2_1, gr_2_2, gr_2_3, gr_2_4, gr_2_5, gr_2_6, gr_2_7, gi_2_8, pf_2_8, gi_2_9, pf_2_9, gi_2_10, pf_2_10, gi_2_11, pf_2_11, gi_2_12, pf_2_12, gi_2_13, pf_2_13, gi_2_14, pf_2_14, io_11, gr_11_0, gr_11_1, gr_11_2, io_15, gr_15_0, gr_15_1, gi_15_2, pf_15_2, gi_15_3, pf_15_3, gi_15_4, pf_15_4, gi_15_5, pf_15_5, io_18, gr_18_0, gr_18_1, gi_18_2, pf_18_2, io_21, gr_21_0, gr_21_1, gr_21_2, gr_21_3, gi_21_4, pf_21_4, gi_21_5, pf_21_5, gi_21_6, pf_21_6, gi_21_7, pf_21_7, io_34, gr_34_0, gi_34_1, pf_34_1, al_3, al_4, al_5, al_6, al_7, al_8, al_9, al_10, al_12, al_13, al_14, al_16, al_17, al_19, al_20, al_22, al_23, al_24, al_26, al_27, al_28, al_29, al_30, al_31, al_32, al_33, al_35, ↓reduceIte, Option.bind_some, cI_some, cL_some, cV_some, rz_0, rz_1, r.i2_14, hwin, if_neg k10]
  exact c_highest (by omega) r hx hg 10 fu (by omega) (by omega)
theorem k_highestN (r : RR σ A I) {x : Int32} (h : ¬ (0 ≤ x ∧ x < nI (σ 0 4))) (g : Int32) : U_X7_highest fu [.ref 1, .int x, .int g] (enc A I) = some (some (.int (-1)), enc A I) := by
  simp only [u_X7_highest, M_X7_highest, c_isWalker, io_1, gr_1_0, gr_1_1, gr_1_2, gr_1_3, gr_1_4, gr_1_5, gi_1_6, pf_1_6, gi_1_7, pf_1_7, io_2, gr_2_0, gr_2_1, gr_2_2, gr_2_3, gr_2_4, gr_2_5, gr_2_6, gr_2_7, gi_2_8, pf_2_8, gi_2_9, pf_2_9, gi_2_10, pf_2_10, gi_2_11, pf_2_11, gi_2_12, pf_2_12, gi_2_13, pf_2_13, gi_2_14, pf_2_14, io_11, gr_11_0, gr_11_1, gr_11_2, io_15, gr_15_0, gr_15_1, gi_15_2, pf_15_2, gi_15_3, pf_15_3, gi_15_4, pf_15_4, gi_15_5, pf_15_5, io_18, gr_18_0, gr_18_1, gi_18_2, pf_18_2, io_21, gr_21_0, gr_21_1, gr_21_2, gr_21_3, gi_21_4, pf_21_4, gi_21_5, pf_21_5, gi_21_6, pf_21_6, gi_21_7, pf_21_7, io_34, gr_34_0, gi_34_1, pf_34_1, al_3, al_4, al_5, al_6, al_7, al_8, al_9, al_10, al_12, al_13, al_14, al_16, al_17, al_19, al_20, al_22, al_23, al_24, al_26, al_27, al_28, al_29, al_30, al_31, al_32, al_33, al_35, ↓reduceIte, Option.bind_some, cI_some, cL_some, cV_some, rz_0, rz_1, r.i2_14, bI_f h]
theorem k_pass (hf : 1000 ≤ fu) (r : RR σ A I) {x y : Nat} (hx : x < σ 0 4) (hy : y < σ 0 4) : U_X7_pass fu [.ref 1, .int (nI x), .int (nI y)] (enc A I) = some (some (.int (if X σ (σ 7) (σ 0 2) (min (σ 10 x) (σ 10 y)) then nI (bits (dryB σ (σ 0 2)) (σ 0 0) &&& bits (kndB σ 1) (σ 0 0)) else 0)), enc A I) := by
  have hk := r.k6
  have hwin := bI_t (n_win hx (show σ 0 4 < 2147483648 by omega))
  have hwin2 := bI_t (n_win hy (show σ 0 4 < 2147483648 by omega))
  have hw := r.wal hx
  have hw2 := r.wal hy
  have h2 := r.1.2.2.2.1
  have hmin : oMin [.int (nI (σ 10 x)), .int (nI (σ 10 y))] (enc A I) = some (some (.int (nI (min (σ 10 x) (σ 10 y)))), enc A I) := by
    simp only [oMin, n_lt (show σ 10 y < 2147483648 by omega) (show σ 10 x < 2147483648 by omega)]
    by_cases q : σ 10 y < σ 10 x
    · rw [if_pos q, Nat.min_eq_right (by omega)]
    · rw [if_neg q, Nat.min_eq_left (by omega)]
  have rx := c_reachOf (fu := fu) r hx (g := 0) (by omega)
  have ry := c_reachOf (fu := fu) r hy (g := 0) (by omega)
  rw [Nat.sub_zero] at rx ry
  have ok := c_ofKind (fu := fu) (by omega) r (t := 1) (by omega)
  rw [show nI 1 = (1 : Int32) from rfl] at ok
  rw [show nI 0 = (0 : Int32) from rfl] at rx ry
  simp only [u_X7_pass, M_X7_pass, c_isWalker, io_1, gr_1_0, gr_1_1, gr_1_2, gr_1_3, gr_1_4, gr_1_5, gi_1_6, pf_1_6, gi_1_7, pf_1_7, io_2, gr_2_0, gr_2_1, gr_2_2, gr_2_3, gr_2_4, gr_2_5, gr_2_6, gr_2_7, gi_2_8, pf_2_8, gi_2_9, pf_2_9, gi_2_10, pf_2_10, gi_2_11, pf_2_11, gi_2_12, pf_2_12, gi_2_13, pf_2_13, gi_2_14, pf_2_14, io_11, gr_11_0, gr_11_1, gr_11_2, io_15, gr_15_0, gr_15_1, gi_15_2, pf_15_2, gi_15_3, pf_15_3, gi_15_4, pf_15_4, gi_15_5, pf_15_5, io_18, gr_18_0, gr_18_1, gi_18_2, pf_18_2, io_21, gr_21_0, gr_21_1, gr_21_2, gr_21_3, gi_21_4, pf_21_4, gi_21_5, pf_21_5, gi_21_6, pf_21_6, gi_21_7, pf_21_7, io_34, gr_34_0, gi_34_1, pf_34_1, al_3, al_4, al_5, al_6, al_7, al_8, al_9, al_10, al_12, al_13, al_14, al_16, al_17, al_19, al_20, al_22, al_23, al_24, al_26, al_27, al_28, al_29, al_30, al_31, al_32, al_33, al_35, ↓reduceIte, Option.bind_some, cI_some, cL_some, cV_some, rz_0, rz_1, r.i2_14, hwin, hwin2, if_neg k10, rx, ry, hmin, c_filled (show 1000 ≤ fu by omega) r, r.i2_11, c_cross (show 1000 ≤ fu by omega) r h2 (show min (σ 10 x) (σ 10 y) ≤ 9 by omega), bI_0, c_dry (show 1000 ≤ fu by omega) r h2, ok, n_and]
  by_cases q : X σ (σ 7) (σ 0 2) (min (σ 10 x) (σ 10 y))
  · rw [if_neg (fun y => y q), if_pos q]
  · rw [if_pos q, if_neg q]
theorem k_passN (r : RR σ A I) {x : Nat} (hx : x < σ 0 4) {y : Int32} (h : ¬ (0 ≤ y ∧ y < nI (σ 0 4))) : U_X7_pass fu [.ref 1, .int (nI x), .int y] (enc A I) = some (some (.int (-1)), enc A I) := by
  have hk := r.k6
  have hwin := bI_t (n_win hx (show σ 0 4 < 2147483648 by omega))
  simp only [u_X7_pass, M_X7_pass, c_isWalker, io_1, gr_1_0, gr_1_1, gr_1_2, gr_1_3, gr_1_4, gr_1_5, gi_1_6, pf_1_6, gi_1_7, pf_1_7, io_2, gr_2_0, gr_2_1, gr_2_2, gr_2_3, gr_2_4, gr_2_5, gr_2_6, gr_2_7, gi_2_8, pf_2_8, gi_2_9, pf_2_9, gi_2_10, pf_2_10, gi_2_11, pf_2_11, gi_2_12, pf_2_12, gi_2_13, pf_2_13, gi_2_14, pf_2_14, io_11, gr_11_0, gr_11_1, gr_11_2, io_15, gr_15_0, gr_15_1, gi_15_2, pf_15_2, gi_15_3, pf_15_3, gi_15_4, pf_15_4, gi_15_5, pf_15_5, io_18, gr_18_0, gr_18_1, gi_18_2, pf_18_2, io_21, gr_21_0, gr_21_1, gr_21_2, gr_21_3, gi_21_4, pf_21_4, gi_21_5, pf_21_5, gi_21_6, pf_21_6, gi_21_7, pf_21_7, io_34, gr_34_0, gi_34_1, pf_34_1, al_3, al_4, al_5, al_6, al_7, al_8, al_9, al_10, al_12, al_13, al_14, al_16, al_17, al_19, al_20, al_22, al_23, al_24, al_26, al_27, al_28, al_29, al_30, al_31, al_32, al_33, al_35, ↓reduceIte, Option.bind_some, cI_some, cL_some, cV_some, rz_0, rz_1, r.i2_14, hwin, if_neg k10, bI_f h]
end K2
