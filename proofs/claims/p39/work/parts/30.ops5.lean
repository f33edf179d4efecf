section O5
variable {σ : SG} {A : Nat → List Int32} {I : Nat → Nat → Int32} {fu : Nat}
/-- a stone moved: k is 0, or its cell and 1 -/
def setS (σ : SG) (s k : Nat) : SG := fun t i => if t = 7 then (if i + 1 = k then s + 1 else if σ 7 i = s + 1 then 0 else σ 7 i) else if t = 8 ∧ i = s then k else σ t i
theorem RR.uniq (r : RR σ A I) {c b s : Nat} (hc : c < σ 0 0) (hb : b < σ 0 0) (h1 : σ 7 c = s + 1) (h2 : σ 7 b = s + 1) : c = b := by
  have e1 := (r.row hc h1).2
  have e2 := (r.row hb h2).2
  omega
theorem c_takeUp (hf : 1000 ≤ fu) (r : RR σ A I) {s : Nat} (hs : s < σ 0 3) (hg : σ 8 s ≠ 100) : ∃ A1, U_X0_takeUp fu [.ref 2, .int (nI s)] (enc A I) = some (none, enc A1 I) ∧ (∀ k, k ≠ 5 → A1 k = A k) ∧ (A1 5).length = 7 ∧ ∀ i, i < σ 0 0 → rd (A1 5) i = ro (if σ 7 i = s + 1 then 0 else σ 7 i) := by
  have hn := r.n7
  have hl : (A 5).length = 7 := r.len rfl
  simp only [u_X0_takeUp, M_X0_takeUp, c_cellOf hf r hs, io_1, gr_1_0, gr_1_1, gr_1_2, gr_1_3, gr_1_4, gr_1_5, gi_1_6, pf_1_6, gi_1_7, pf_1_7, io_2, gr_2_0, gr_2_1, gr_2_2, gr_2_3, gr_2_4, gr_2_5, gr_2_6, gr_2_7, gi_2_8, pf_2_8, gi_2_9, pf_2_9, gi_2_10, pf_2_10, gi_2_11, pf_2_11, gi_2_12, pf_2_12, gi_2_13, pf_2_13, gi_2_14, pf_2_14, io_11, gr_11_0, gr_11_1, gr_11_2, io_15, gr_15_0, gr_15_1, gi_15_2, pf_15_2, gi_15_3, pf_15_3, gi_15_4, pf_15_4, gi_15_5, pf_15_5, io_18, gr_18_0, gr_18_1, gi_18_2, pf_18_2, io_21, gr_21_0, gr_21_1, gr_21_2, gr_21_3, gi_21_4, pf_21_4, gi_21_5, pf_21_5, gi_21_6, pf_21_6, gi_21_7, pf_21_7, io_34, gr_34_0, gi_34_1, pf_34_1, al_3, al_4, al_5, al_6, al_7, al_8, al_9, al_10, al_12, al_13, al_14, al_16, al_17, al_19, al_20, al_22, al_23, al_24, al_26, al_27, al_28, al_29, al_30, al_31, al_32, al_33, al_35, ↓reduceIte, Option.bind_some, cI_some, cL_some, cV_some, rz_0, rz_1, if_neg hg]
  rcases r.plc hs with h | h | ⟨b, h1, h2, h3⟩
  · refine ⟨A, by rw [h]; rfl, fun _ _ => rfl, hl, fun i hi => ?_⟩
    rw [r.v5 hi, if_neg]
    intro q
    have := (r.row hi q).2
    omega
  · exact absurd h hg
  · have e : pl (σ 8 s) = nI b := by rw [h2, pl, if_neg (by omega), if_neg (by omega), Nat.add_sub_cancel]
    have hlb : b < (A 5).length := by omega
    refine ⟨uA A 5 ((A 5).set b (-9)), ?_, fun k hk => uA_n _ _ _ hk, by rw [uA_s, List.length_set]; exact hl, fun i hi => ?_⟩
    · rw [e, if_neg (by rw [n_m9 (by omega)]; exact id), si_5 A I (-9) hlb (by omega)]
      rfl
    · rw [uA_s, rd_set _ _ hlb, r.v5 hi]
      by_cases q : i = b
      · rw [if_pos q, if_pos (by rw [q]; exact h3)]; rfl
      · rw [if_neg q, if_neg (fun z => q (r.uniq hi h1 z h3))]
theorem c_set2 (hf : 1000 ≤ fu) (r : RR σ A I) {s k : Nat} (hs : s < σ 0 3) (hg : σ 8 s ≠ 100) (hk : k ≤ σ 0 0) (hk2 : ∀ c, k = c + 1 → σ 7 c = 0) {y : Int32} (hy : y = ro k) (n : Nat) :
    ∃ A1, (F_X7_set fu (n + 1)).2 1 (nI s) y (enc A I) = some (some (.int 1), enc A1 I) ∧ (∀ k, k ≠ 5 → A1 k = A k) ∧ (A1 5).length = 7 ∧ ∀ i, i < σ 0 0 → rd (A1 5) i = ro (setS σ s k 7 i) := by
  have hn := r.n7
  obtain ⟨A1, e1, e2, e3, e4⟩ := c_takeUp hf r hs hg
  have hset : ∀ i, setS σ s k 7 i = if i + 1 = k then s + 1 else if σ 7 i = s + 1 then 0 else σ 7 i := fun i => by simp [setS]
  simp only [F_X7_set, io_1, gr_1_0, gr_1_1, gr_1_2, gr_1_3, gr_1_4, gr_1_5, gi_1_6, pf_1_6, gi_1_7, pf_1_7, io_2, gr_2_0, gr_2_1, gr_2_2, gr_2_3, gr_2_4, gr_2_5, gr_2_6, gr_2_7, gi_2_8, pf_2_8, gi_2_9, pf_2_9, gi_2_10, pf_2_10, gi_2_11, pf_2_11, gi_2_12, pf_2_12, gi_2_13, pf_2_13, gi_2_14, pf_2_14, io_11, gr_11_0, gr_11_1, gr_11_2, io_15, gr_15_0, gr_15_1, gi_15_2, pf_15_2, gi_15_3, pf_15_3, gi_15_4, pf_15_4, gi_15_5, pf_15_5, io_18, gr_18_0, gr_18_1, gi_18_2, pf_18_2, io_21, gr_21_0, gr_21_1, gr_21_2, gr_21_3, gi_21_4, pf_21_4, gi_21_5, pf_21_5, gi_21_6, pf_21_6, gi_21_7, pf_21_7, io_34, gr_34_0, gi_34_1, pf_34_1, al_3, al_4, al_5, al_6, al_7, al_8, al_9, al_10, al_12, al_13, al_14, al_16, al_17, al_19, al_20, al_22, al_23, al_24, al_26, al_27, al_28, al_29, al_30, al_31, al_32, al_33, al_35, ↓reduceIte, Option.bind_some, cI_some, cL_some, cV_some, rz_0, rz_1, e1]
  cases k with
  | zero =>
    subst hy
    refine ⟨A1, by rw [if_pos (show ro 0 = -9 from rfl)], e2, e3, fun i hi => ?_⟩
    rw [hset, if_neg (by omega)]
    exact e4 i hi
  | succ c =>
    subst hy
    have hlc : c < (A1 5).length := by omega
    have hM := r.m6
    refine ⟨uA A1 5 ((A1 5).set c (nI s)), ?_, fun j hj => (uA_n _ _ _ hj).trans (e2 j hj), by rw [uA_s, List.length_set]; exact e3, fun i hi => ?_⟩
    · rw [if_neg (by show ¬ nI c = -9; rw [n_m9 (by omega)]; exact id), show ro (c + 1) = nI c from rfl, si_5 A1 I (nI s) hlc (by omega)]
      rfl
    · rw [uA_s, rd_set _ _ hlc, hset]
      by_cases q : i = c
      · rw [if_pos q, if_pos (by omega)]; rfl
      · rw [if_neg q, if_neg (by omega)]
        exact e4 i hi
end O5

