section O6
variable {σ : SG} {A : Nat → List Int32} {I : Nat → Nat → Int32} {fu : Nat}
theorem c_reachOf (r : RR σ A I) {x g : Nat} (hx : x < σ 0 4) (hg : g ≤ 1) : U_X0_reachOf fu [.ref 2, .int (nI x), .int (nI g)] (enc A I) = some (some (.int (nI (σ 10 x - g))), enc A I) := by
  have hw := r.wal hx
  simp only [u_X0_reachOf, M_X0_reachOf, io_1, gr_1_0, gr_1_1, gr_1_2, gr_1_3, gr_1_4, gr_1_5, gi_1_6, pf_1_6, gi_1_7, pf_1_7, io_2, gr_2_0, gr_2_1, gr_2_2, gr_2_3, gr_2_4, gr_2_5, gr_2_6, gr_2_7, gi_2_8, pf_2_8, gi_2_9, pf_2_9, gi_2_10, pf_2_10, gi_2_11, pf_2_11, gi_2_12, pf_2_12, gi_2_13, pf_2_13, gi_2_14, pf_2_14, io_11, gr_11_0, gr_11_1, gr_11_2, io_15, gr_15_0, gr_15_1, gi_15_2, pf_15_2, gi_15_3, pf_15_3, gi_15_4, pf_15_4, gi_15_5, pf_15_5, io_18, gr_18_0, gr_18_1, gi_18_2, pf_18_2, io_21, gr_21_0, gr_21_1, gr_21_2, gr_21_3, gi_21_4, pf_21_4, gi_21_5, pf_21_5, gi_21_6, pf_21_6, gi_21_7, pf_21_7, io_34, gr_34_0, gi_34_1, pf_34_1, al_3, al_4, al_5, al_6, al_7, al_8, al_9, al_10, al_12, al_13, al_14, al_16, al_17, al_19, al_20, al_22, al_23, al_24, al_26, al_27, al_28, al_29, al_30, al_31, al_32, al_33, al_35, ↓reduceIte, Option.bind_some, cI_some, cL_some, cV_some, rz_0, rz_1, nI_pe0 (show g < 2147483648 by omega), r.a10 hx]
  by_cases h : g = 0
  · rw [if_pos h, h]; rfl
  · rw [if_neg h, show g = 1 by omega]
    obtain ⟨y, hy⟩ : ∃ y, σ 10 x = y + 1 := ⟨σ 10 x - 1, by omega⟩
    rw [hy, n_sub1]
    rfl
/-- the highest water, of those below one, by which a thing holds -/
def topv (P : Nat → Bool) : Nat → Int32
  | 0 => -9
  | j + 1 => if P j = true then nI j else topv P j
theorem c_highest (hf : 1000 ≤ fu) (r : RR σ A I) {x g : Nat} (hx : x < σ 0 4) (hg : g ≤ 1) : ∀ j n, j ≤ 10 → j < n → F_X7_highest fu n 1 (nI x) (nI g) (nI j - 1) (enc A I) = some (some (.int (topv (fun v => decide (X σ (σ 7) v (σ 10 x - g))) j)), enc A I) := by
  have hw := r.wal hx
  intro j
  induction j with
  | zero =>
    intro n _ hn
    obtain ⟨n, rfl⟩ : ∃ k, n = k + 1 := ⟨n - 1, by omega⟩
    simp only [F_X7_highest]
    rw [if_pos (by decide)]
    rfl
  | succ j ih =>
    intro n hj hn
    obtain ⟨n, rfl⟩ : ∃ k, n = k + 1 := ⟨n - 1, by omega⟩
    simp only [F_X7_highest, n_sub1, n_neg (show j < 2147483648 by omega), io_1, gr_1_0, gr_1_1, gr_1_2, gr_1_3, gr_1_4, gr_1_5, gi_1_6, pf_1_6, gi_1_7, pf_1_7, io_2, gr_2_0, gr_2_1, gr_2_2, gr_2_3, gr_2_4, gr_2_5, gr_2_6, gr_2_7, gi_2_8, pf_2_8, gi_2_9, pf_2_9, gi_2_10, pf_2_10, gi_2_11, pf_2_11, gi_2_12, pf_2_12, gi_2_13, pf_2_13, gi_2_14, pf_2_14, io_11, gr_11_0, gr_11_1, gr_11_2, io_15, gr_15_0, gr_15_1, gi_15_2, pf_15_2, gi_15_3, pf_15_3, gi_15_4, pf_15_4, gi_15_5, pf_15_5, io_18, gr_18_0, gr_18_1, gi_18_2, pf_18_2, io_21, gr_21_0, gr_21_1, gr_21_2, gr_21_3, gi_21_4, pf_21_4, gi_21_5, pf_21_5, gi_21_6, pf_21_6, gi_21_7, pf_21_7, io_34, gr_34_0, gi_34_1, pf_34_1, al_3, al_4, al_5, al_6, al_7, al_8, al_9, al_10, al_12, al_13, al_14, al_16, al_17, al_19, al_20, al_22, al_23, al_24, al_26, al_27, al_28, al_29, al_30, al_31, al_32, al_33, al_35, ↓reduceIte, Option.bind_some, cI_some, cL_some, cV_some, rz_0, rz_1, c_filled hf r, c_reachOf r hx hg, c_cross hf r (show j ≤ 9 by omega) (show σ 10 x - g ≤ 9 by omega), bI_0, if_false]
    by_cases q : X σ (σ 7) j (σ 10 x - g)
    · rw [if_neg (fun y => y q), topv, if_pos (decide_eq_true q)]
    · rw [if_pos q, topv, if_neg (by rw [decide_eq_true_iff]; exact q)]
      rw [show nI j + (-1) = nI j - 1 from (Int32.sub_eq_add_neg _ _).symm]
      exact ih n (by omega) (by omega)
end O6

