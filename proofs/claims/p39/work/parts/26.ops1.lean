section O1
variable {σ : SG} {A : Nat → List Int32} {I : Nat → Nat → Int32} {fu : Nat}
/-- what a stone's work in a cell is -/
def wk (σ : SG) (s c : Nat) : Nat := (if σ 3 s = 2 then 3 else 1) * (σ 5 s * (σ 6 s + c + 1))
/-- what a stone holds -/
def hold (σ : SG) (s : Nat) : Nat := σ 5 s + (if σ 3 s = 0 then 0 else 3)
theorem c_holdOf (r : RR σ A I) {s : Nat} (hs : s < σ 0 3) : U_X0_holdOf fu [.ref 2, .int (nI s)] (enc A I) = some (some (.int (nI (hold σ s))), enc A I) := by
  have h1 := r.sto hs
  simp only [u_X0_holdOf, M_X0_holdOf, io_1, gr_1_0, gr_1_1, gr_1_2, gr_1_3, gr_1_4, gr_1_5, gi_1_6, pf_1_6, gi_1_7, pf_1_7, io_2, gr_2_0, gr_2_1, gr_2_2, gr_2_3, gr_2_4, gr_2_5, gr_2_6, gr_2_7, gi_2_8, pf_2_8, gi_2_9, pf_2_9, gi_2_10, pf_2_10, gi_2_11, pf_2_11, gi_2_12, pf_2_12, gi_2_13, pf_2_13, gi_2_14, pf_2_14, io_11, gr_11_0, gr_11_1, gr_11_2, io_15, gr_15_0, gr_15_1, gi_15_2, pf_15_2, gi_15_3, pf_15_3, gi_15_4, pf_15_4, gi_15_5, pf_15_5, io_18, gr_18_0, gr_18_1, gi_18_2, pf_18_2, io_21, gr_21_0, gr_21_1, gr_21_2, gr_21_3, gi_21_4, pf_21_4, gi_21_5, pf_21_5, gi_21_6, pf_21_6, gi_21_7, pf_21_7, io_34, gr_34_0, gi_34_1, pf_34_1, al_3, al_4, al_5, al_6, al_7, al_8, al_9, al_10, al_12, al_13, al_14, al_16, al_17, al_19, al_20, al_22, al_23, al_24, al_26, al_27, al_28, al_29, al_30, al_31, al_32, al_33, al_35, ↓reduceIte, Option.bind_some, cI_some, cL_some, cV_some, rz_0, rz_1, r.a8 hs, r.a6 hs, n_lit 1, n_lt (show σ 3 s < 2147483648 by omega) (show 1 < 2147483648 by decide), nI_add, n_lit 3, hold]
  by_cases h : σ 3 s = 0
  · rw [if_pos (by omega), if_pos h, Nat.add_zero]
  · rw [if_neg (by omega), if_neg h]
theorem c_cellOf_loop (r : RR σ A I) {s : Nat} (hs : s < σ 0 3) : ∀ (d c n : Nat), c + d = σ 0 0 → d < n → (∀ b, b < c → ¬ σ 7 b = s + 1) → F_X0_cellOf fu n 2 (nI s) (nI c) (enc A I) = some (some (.int (if σ 8 s = 100 then -9 else pl (σ 8 s))), enc A I) := by
  have hm := r.m6
  have hn7 := r.n7
  intro d
  induction d with
  | zero =>
    intro c n hcd hn hmin
    obtain ⟨n, rfl⟩ : ∃ k, n = k + 1 := ⟨n - 1, by omega⟩
    simp only [F_X0_cellOf, io_1, gr_1_0, gr_1_1, gr_1_2, gr_1_3, gr_1_4, gr_1_5, gi_1_6, pf_1_6, gi_1_7, pf_1_7, io_2, gr_2_0, gr_2_1, gr_2_2, gr_2_3, gr_2_4, gr_2_5, gr_2_6, gr_2_7, gi_2_8, pf_2_8, gi_2_9, pf_2_9, gi_2_10, pf_2_10, gi_2_11, pf_2_11, gi_2_12, pf_2_12, gi_2_13, pf_2_13, gi_2_14, pf_2_14, io_11, gr_11_0, gr_11_1, gr_11_2, io_15, gr_15_0, gr_15_1, gi_15_2, pf_15_2, gi_15_3, pf_15_3, gi_15_4, pf_15_4, gi_15_5, pf_15_5, io_18, gr_18_0, gr_18_1, gi_18_2, pf_18_2, io_21, gr_21_0, gr_21_1, gr_21_2, gr_21_3, gi_21_4, pf_21_4, gi_21_5, pf_21_5, gi_21_6, pf_21_6, gi_21_7, pf_21_7, io_34, gr_34_0, gi_34_1, pf_34_1, al_3, al_4, al_5, al_6, al_7, al_8, al_9, al_10, al_12, al_13, al_14, al_16, al_17, al_19, al_20, al_22, al_23, al_24, al_26, al_27, al_28, al_29, al_30, al_31, al_32, al_33, al_35, ↓reduceIte, Option.bind_some, cI_some, cL_some, cV_some, rz_0, rz_1, r.i2_8, n_lt (show c < 2147483648 by omega) (show σ 0 0 < 2147483648 by omega)]
    rw [if_neg (by omega)]
    rcases r.plc hs with h | h | ⟨b, h1, h2, h3⟩
    · rw [if_neg (by omega), h]; rfl
    · rw [if_pos h]
    · exact absurd h3 (hmin b (by omega))
  | succ d ih =>
    intro c n hcd hn hmin
    obtain ⟨n, rfl⟩ : ∃ k, n = k + 1 := ⟨n - 1, by omega⟩
    have hc : c < σ 0 0 := by omega
    have h6 := r.row_lt hc
    simp only [F_X0_cellOf, io_1, gr_1_0, gr_1_1, gr_1_2, gr_1_3, gr_1_4, gr_1_5, gi_1_6, pf_1_6, gi_1_7, pf_1_7, io_2, gr_2_0, gr_2_1, gr_2_2, gr_2_3, gr_2_4, gr_2_5, gr_2_6, gr_2_7, gi_2_8, pf_2_8, gi_2_9, pf_2_9, gi_2_10, pf_2_10, gi_2_11, pf_2_11, gi_2_12, pf_2_12, gi_2_13, pf_2_13, gi_2_14, pf_2_14, io_11, gr_11_0, gr_11_1, gr_11_2, io_15, gr_15_0, gr_15_1, gi_15_2, pf_15_2, gi_15_3, pf_15_3, gi_15_4, pf_15_4, gi_15_5, pf_15_5, io_18, gr_18_0, gr_18_1, gi_18_2, pf_18_2, io_21, gr_21_0, gr_21_1, gr_21_2, gr_21_3, gi_21_4, pf_21_4, gi_21_5, pf_21_5, gi_21_6, pf_21_6, gi_21_7, pf_21_7, io_34, gr_34_0, gi_34_1, pf_34_1, al_3, al_4, al_5, al_6, al_7, al_8, al_9, al_10, al_12, al_13, al_14, al_16, al_17, al_19, al_20, al_22, al_23, al_24, al_26, al_27, al_28, al_29, al_30, al_31, al_32, al_33, al_35, ↓reduceIte, Option.bind_some, cI_some, cL_some, cV_some, rz_0, rz_1, r.i2_8, n_lt (show c < 2147483648 by omega) (show σ 0 0 < 2147483648 by omega), r.a5 hc, ro_eq (show s < 2147483648 by omega) (show σ 7 c < 2147483648 by omega)]
    rw [if_pos hc]
    by_cases h : σ 7 c = s + 1
    · rw [if_pos h]
      have h2 := (r.row hc h).2
      rw [h2, if_neg (by omega), pl, if_neg (by omega), if_neg (by omega), Nat.add_sub_cancel]
    · rw [if_neg h, nI_1]
      exact ih (c + 1) n (by omega) (by omega) (fun b hb => by
        rcases Nat.lt_succ_iff_lt_or_eq.mp hb with q | q
        · exact hmin b q
        · rw [q]; exact h)
theorem c_cellOf (hf : 1000 ≤ fu) (r : RR σ A I) {s : Nat} (hs : s < σ 0 3) : U_X0_cellOf fu [.ref 2, .int (nI s)] (enc A I) = some (some (.int (if σ 8 s = 100 then -9 else pl (σ 8 s))), enc A I) := by
  have hn7 := r.n7
  simp only [u_X0_cellOf, M_X0_cellOf, io_1, gr_1_0, gr_1_1, gr_1_2, gr_1_3, gr_1_4, gr_1_5, gi_1_6, pf_1_6, gi_1_7, pf_1_7, io_2, gr_2_0, gr_2_1, gr_2_2, gr_2_3, gr_2_4, gr_2_5, gr_2_6, gr_2_7, gi_2_8, pf_2_8, gi_2_9, pf_2_9, gi_2_10, pf_2_10, gi_2_11, pf_2_11, gi_2_12, pf_2_12, gi_2_13, pf_2_13, gi_2_14, pf_2_14, io_11, gr_11_0, gr_11_1, gr_11_2, io_15, gr_15_0, gr_15_1, gi_15_2, pf_15_2, gi_15_3, pf_15_3, gi_15_4, pf_15_4, gi_15_5, pf_15_5, io_18, gr_18_0, gr_18_1, gi_18_2, pf_18_2, io_21, gr_21_0, gr_21_1, gr_21_2, gr_21_3, gi_21_4, pf_21_4, gi_21_5, pf_21_5, gi_21_6, pf_21_6, gi_21_7, pf_21_7, io_34, gr_34_0, gi_34_1, pf_34_1, al_3, al_4, al_5, al_6, al_7, al_8, al_9, al_10, al_12, al_13, al_14, al_16, al_17, al_19, al_20, al_22, al_23, al_24, al_26, al_27, al_28, al_29, al_30, al_31, al_32, al_33, al_35, ↓reduceIte, Option.bind_some, cI_some, cL_some, cV_some, rz_0, rz_1]
  exact c_cellOf_loop r hs (σ 0 0) 0 fu (by omega) (by omega) (fun b hb => by omega)
/-- the top of a stone above depth and water -/
def topI (σ : SG) (s c : Nat) (v : Int32) : Int32 := nI (σ 4 s) - nI (σ 1 c) - v
theorem c_topOf (r : RR σ A I) {s c : Nat} (hs : s < σ 0 3) (hc : c < σ 0 0) (v : Int32) : U_X0_topOf fu [.ref 2, .int (nI s), .int (nI c), .int v] (enc A I) = some (some (.int (topI σ s c v)), enc A I) := by
  simp only [u_X0_topOf, M_X0_topOf, io_1, gr_1_0, gr_1_1, gr_1_2, gr_1_3, gr_1_4, gr_1_5, gi_1_6, pf_1_6, gi_1_7, pf_1_7, io_2, gr_2_0, gr_2_1, gr_2_2, gr_2_3, gr_2_4, gr_2_5, gr_2_6, gr_2_7, gi_2_8, pf_2_8, gi_2_9, pf_2_9, gi_2_10, pf_2_10, gi_2_11, pf_2_11, gi_2_12, pf_2_12, gi_2_13, pf_2_13, gi_2_14, pf_2_14, io_11, gr_11_0, gr_11_1, gr_11_2, io_15, gr_15_0, gr_15_1, gi_15_2, pf_15_2, gi_15_3, pf_15_3, gi_15_4, pf_15_4, gi_15_5, pf_15_5, io_18, gr_18_0, gr_18_1, gi_18_2, pf_18_2, io_21, gr_21_0, gr_21_1, gr_21_2, gr_21_3, gi_21_4, pf_21_4, gi_21_5, pf_21_5, gi_21_6, pf_21_6, gi_21_7, pf_21_7, io_34, gr_34_0, gi_34_1, pf_34_1, al_3, al_4, al_5, al_6, al_7, al_8, al_9, al_10, al_12, al_13, al_14, al_16, al_17, al_19, al_20, al_22, al_23, al_24, al_26, al_27, al_28, al_29, al_30, al_31, al_32, al_33, al_35, ↓reduceIte, Option.bind_some, cI_some, cL_some, cV_some, rz_0, rz_1, r.a7 hs, r.a3 hc, topI]
end O1

