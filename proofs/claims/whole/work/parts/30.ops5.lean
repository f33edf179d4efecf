section O5
variable {σ : SG} {A : Nat → List Int32} {I : Nat → Nat → Int32} {fu : Nat}
/-- a stone moved: k is 0, or its cell and 1 -/
def setS (σ : SG) (s k : Nat) : SG := fun t i => if t = 7 then (if i + 1 = k then s + 1 else if σ 7 i = s + 1 then 0 else σ 7 i) else if t = 8 ∧ i = s then k else σ t i
theorem RR.uniq (r : RR σ A I) {c b s : Nat} (hc : c < σ 0 0) (hb : b < σ 0 0) (h1 : σ 7 c = s + 1) (h2 : σ 7 b = s + 1) : c = b := by
  have e1 := (r.row hc h1).2
  have e2 := (r.row hb h2).2
  omega
theorem c_takeUp (hf : 1000 ≤ fu) (r : RR σ A I) {s : Nat} (hs : s < σ 0 3) (hg : σ 8 s ≠ 100) : ∃ A1, U_X0_takeUp fu [.ref 2, .int (nI s)] (enc A I) = some (none, enc A1 I) ∧ (∀ k, k ≠ 5 → A1 k = A k) ∧ (A1 5).length = 7 ∧ ∀ i, i < σ 0 0 → rd (A1 5) i = ro (if σ 7 i = s + 1 then 0 else σ 7 i) := by
  have hn := r.n7
  have hl : (A 5).length = 7 := r.len rfl
  simp only [u_X0_takeUp, M_X0_takeUp, c_cellOf hf r hs, io_1, gr_1_0, gr_1_1, gr_1_2, gr_1_3, gr_1_4, gr_1_5, gi_1_6, pf_1_6, gi_1_7, pf_1_7, io_2, gr_2_0, gr_2_1, gr_2_2, gr_2_3, gr_2_4, gr_2_5, gr_2_6, gr_2_7, gi_2_8, pf_2_8, gi_2_9, pf_2_9, gi_2_10, pf_2_10, gi_2_11, pf_2_11, gi_2_12, pf_2_12, gi_2_13, pf_2_13, gi_2_14, pf_2_14, io_11, gr_11_0, gr_11_1, gr_11_2, io_15, gr_15_0, gr_15_1, gi_15_2, pf_15_2, gi_15_3, pf_15_3, gi_15_4, pf_15_4, gi_15_5, pf_15_5, io_18, gr_18_0, gr_18_1, gi_18_2, pf_18_2, io_21, gr_21_0, gr_21_1, gr_21_2, gr_21_3, gi_21_4, pf_21_4, gi_21_5, pf_21_5, gi_21_6, pf_21_6, gi_21_7, pf_21_7, io_34, gr_34_0, gi_34_1, pf_34_1, io_36, gi_36_0, pf_36_0, gi_36_1, pf_36_1, gr_36_2, gr_36_3, gr_36_4, gi_36_5, pf_36_5, gi_36_6, pf_36_6, gi_36_7, pf_36_7, gr_36_8, gr_36_9, gr_36_10, gr_36_11, gi_36_12, pf_36_12, gi_36_13, pf_36_13, gi_36_14, pf_36_14, gr_36_15, gr_36_16, gi_36_17, pf_36_17, gr_36_18, gr_36_19, gr_36_20, gr_36_21, gr_36_22, gi_36_23, pf_36_23, gr_36_24, gr_36_25, gi_36_26, pf_36_26, gr_36_27, gr_36_28, gr_36_29, gr_36_30, gi_36_31, pf_36_31, gr_36_32, gr_36_33, gi_36_34, pf_36_34, gi_36_35, pf_36_35, gr_36_36, al_3, al_4, al_5, al_6, al_7, al_8, al_9, al_10, al_12, al_13, al_14, al_16, al_17, al_19, al_20, al_22, al_23, al_24, al_26, al_27, al_28, al_29, al_30, al_31, al_32, al_33, al_35, al_37, al_38, al_39, al_40, al_41, al_42, al_43, al_44, al_45, al_46, al_47, al_48, al_49, al_50, al_51, al_52, al_53, al_54, al_55, al_56, al_57, al_58, al_59, ↓reduceIte, Option.bind_some, cI_some, cL_some, cV_some, rz_0, rz_1, if_neg hg]
  rcases r.plc hs with h | h | ⟨b, h1, h2, h3⟩
  · refine ⟨A, by rw [h]; rfl, fun _ _ => rfl, hl, fun i hi => ?_⟩
    rw [r.v5 hi, if_neg]
    intro q
    have := (r.row hi q).2
    omega
  · exact absurd h hg
  · have e : pl (σ 8 s) = nI b := by rw [h2, pl, if_neg (by omega), if_neg (by omega), Nat.add_sub_cancel]
    have hlb : b < (A 5).length := by omega
    refine ⟨uA A 5 ((A 5).set b (-9)), ?_, fun k hk => uA_n _ _ _ hk, by rw [uA_s, List.length_set]; exact hl, fun i hi => ?_⟩
    · rw [e, if_neg (by rw [n_m9 (by omega)]; exact id), si_5 A I (-9) hlb (by omega)]
      rfl
    · rw [uA_s, rd_set _ _ hlb, r.v5 hi]
      by_cases q : i = b
      · rw [if_pos q, if_pos (by rw [q]; exact h3)]; rfl
      · rw [if_neg q, if_neg (fun z => q (r.uniq hi h1 z h3))]
theorem c_set2 (hf : 1000 ≤ fu) (r : RR σ A I) {s k : Nat} (hs : s < σ 0 3) (hg : σ 8 s ≠ 100) (hk : k ≤ σ 0 0) (hk2 : ∀ c, k = c + 1 → σ 7 c = 0) {y : Int32} (hy : y = ro k) (n : Nat) :
    ∃ A1, (F_X7_set fu (n + 1)).2 1 (nI s) y (enc A I) = some (some (.int 1), enc A1 I) ∧ (∀ k, k ≠ 5 → A1 k = A k) ∧ (A1 5).length = 7 ∧ ∀ i, i < σ 0 0 → rd (A1 5) i = ro (setS σ s k 7 i) := by
  have hn := r.n7
  obtain ⟨A1, e1, e2, e3, e4⟩ := c_takeUp hf r hs hg
  have hset : ∀ i, setS σ s k 7 i = if i + 1 = k then s + 1 else if σ 7 i = s + 1 then 0 else σ 7 i := fun i => by simp [setS]
  simp only [F_X7_set, io_1, gr_1_0, gr_1_1, gr_1_2, gr_1_3, gr_1_4, gr_1_5, gi_1_6, pf_1_6, gi_1_7, pf_1_7, io_2, gr_2_0, gr_2_1, gr_2_2, gr_2_3, gr_2_4, gr_2_5, gr_2_6, gr_2_7, gi_2_8, pf_2_8, gi_2_9, pf_2_9, gi_2_10, pf_2_10, gi_2_11, pf_2_11, gi_2_12, pf_2_12, gi_2_13, pf_2_13, gi_2_14, pf_2_14, io_11, gr_11_0, gr_11_1, gr_11_2, io_15, gr_15_0, gr_15_1, gi_15_2, pf_15_2, gi_15_3, pf_15_3, gi_15_4, pf_15_4, gi_15_5, pf_15_5, io_18, gr_18_0, gr_18_1, gi_18_2, pf_18_2, io_21, gr_21_0, gr_21_1, gr_21_2, gr_21_3, gi_21_4, pf_21_4, gi_21_5, pf_21_5, gi_21_6, pf_21_6, gi_21_7, pf_21_7, io_34, gr_34_0, gi_34_1, pf_34_1, io_36, gi_36_0, pf_36_0, gi_36_1, pf_36_1, gr_36_2, gr_36_3, gr_36_4, gi_36_5, pf_36_5, gi_36_6, pf_36_6, gi_36_7, pf_36_7, gr_36_8, gr_36_9, gr_36_10, gr_36_11, gi_36_12, pf_36_12, gi_36_13, pf_36_13, gi_36_14, pf_36_14, gr_36_15, gr_36_16, gi_36_17, pf_36_17, gr_36_18, gr_36_19, gr_36_20, gr_36_21, gr_36_22, gi_36_23, pf_36_23, gr_36_24, gr_36_25, gi_36_26, pf_36_26, gr_36_27, gr_36_28, gr_36_29, gr_36_30, gi_36_31, pf_36_31, gr_36_32, gr_36_33, gi_36_34, pf_36_34, gi_36_35, pf_36_35, gr_36_36, al_3, al_4, al_5, al_6, al_7, al_8, al_9, al_10, al_12, al_13, al_14, al_16, al_17, al_19, al_20, al_22, al_23, al_24, al_26, al_27, al_28, al_29, al_30, al_31, al_32, al_33, al_35, al_37, al_38, al_39, al_40, al_41, al_42, al_43, al_44, al_45, al_46, al_47, al_48, al_49, al_50, al_51, al_52, al_53, al_54, al_55, al_56, al_57, al_58, al_59, ↓reduceIte, Option.bind_some, cI_some, cL_some, cV_some, rz_0, rz_1, e1]
  cases k with
  | zero =>
    subst hy
    refine ⟨A1, by rw [if_pos (show ro 0 = -9 from rfl)], e2, e3, fun i hi => ?_⟩
    rw [hset, if_neg (by omega)]
    exact e4 i hi
  | succ c =>
    subst hy
    have hlc : c < (A1 5).length := by omega
    have hM := r.m6
    refine ⟨uA A1 5 ((A1 5).set c (nI s)), ?_, fun j hj => (uA_n _ _ _ hj).trans (e2 j hj), by rw [uA_s, List.length_set]; exact e3, fun i hi => ?_⟩
    · rw [if_neg (by show ¬ nI c = -9; rw [n_m9 (by omega)]; exact id), show ro (c + 1) = nI c from rfl, si_5 A1 I (nI s) hlc (by omega)]
      rfl
    · rw [uA_s, rd_set _ _ hlc, hset]
      by_cases q : i = c
      · rw [if_pos q, if_pos (by omega)]; rfl
      · rw [if_neg q, if_neg (by omega)]
        exact e4 i hi
theorem m_set2 {A0 : Nat → List Int32} (r : RR σ A0 I) (hA : ∀ j, j ≠ 5 → A j = A0 j) {s k : Nat} (hs : s < σ 0 3) (hg : σ 8 s ≠ 100) (hk : k ≤ σ 0 0) (hk2 : ∀ c, k = c + 1 → σ 7 c = 0) {y : Int32} (hy : y = ro k) (n : Nat) :
    ∃ A1, (F_X8_set fu (n + 2)).2.1 36 (nI s) y (enc A I) = some (some (.int 1), enc A1 I) ∧ (∀ k, k ≠ 43 → k ≠ 50 → A1 k = A k) ∧ (A1 43).length = 7 ∧ (A1 50).length = 6 ∧ (∀ i, i < σ 0 0 → rd (A1 43) i = ro (setS σ s k 7 i)) ∧ (∀ i, i < σ 0 3 → rd (A1 50) i = pl (setS σ s k 8 i)) := by
  have hn := r.n7
  have hm := r.m6
  have hl : (A 43).length = 7 := by rw [hA 43 (by decide)]; exact r.len rfl
  have hl2 : (A 50).length = 6 := by rw [hA 50 (by decide)]; exact r.len rfl
  have e50 : aI (enc A I) 50 (nI s) = some (pl (σ 8 s)) := by rw [ai_50 A I (by omega) (by omega), hA 50 (by decide), r.v50 hs]
  have hset : ∀ i, setS σ s k 7 i = if i + 1 = k then s + 1 else if σ 7 i = s + 1 then 0 else σ 7 i := fun i => by simp [setS]
  have hset8 : ∀ i, setS σ s k 8 i = if i = s then k else σ 8 i := fun i => by simp [setS]
  have hyk : y = pl k := by
    rw [hy]
    cases k with
    | zero => rfl
    | succ c => rw [pl, if_neg (by omega), if_neg (by omega)]; rfl
  -- behind the first step
  have step : ∃ B, (F_X8_set fu (n + 2)).2.1 36 (nI s) y (enc A I) = (F_X8_set fu (n + 1)).2.2 36 (nI s) y (enc B I) ∧ (∀ k, k ≠ 43 → B k = A k) ∧ (B 43).length = 7 ∧ ∀ i, i < σ 0 0 → rd (B 43) i = ro (if σ 7 i = s + 1 then 0 else σ 7 i) := by
    have e : (F_X8_set fu (n + 2)).2.1 36 (nI s) y (enc A I) = (if pl (σ 8 s) = -9 then (F_X8_set fu (n + 1)).2.2 36 (nI s) y (enc A I) else (sI (enc A I) 43 (pl (σ 8 s)) (-9)).bind fun w10 => (F_X8_set fu (n + 1)).2.2 36 (nI s) y w10) := by
      show (F_X8_set fu (n + 1 + 1)).2.1 36 (nI s) y (enc A I) = _
      rw [F_X8_set]
      simp only [io_1, gr_1_0, gr_1_1, gr_1_2, gr_1_3, gr_1_4, gr_1_5, gi_1_6, pf_1_6, gi_1_7, pf_1_7, io_2, gr_2_0, gr_2_1, gr_2_2, gr_2_3, gr_2_4, gr_2_5, gr_2_6, gr_2_7, gi_2_8, pf_2_8, gi_2_9, pf_2_9, gi_2_10, pf_2_10, gi_2_11, pf_2_11, gi_2_12, pf_2_12, gi_2_13, pf_2_13, gi_2_14, pf_2_14, io_11, gr_11_0, gr_11_1, gr_11_2, io_15, gr_15_0, gr_15_1, gi_15_2, pf_15_2, gi_15_3, pf_15_3, gi_15_4, pf_15_4, gi_15_5, pf_15_5, io_18, gr_18_0, gr_18_1, gi_18_2, pf_18_2, io_21, gr_21_0, gr_21_1, gr_21_2, gr_21_3, gi_21_4, pf_21_4, gi_21_5, pf_21_5, gi_21_6, pf_21_6, gi_21_7, pf_21_7, io_34, gr_34_0, gi_34_1, pf_34_1, io_36, gi_36_0, pf_36_0, gi_36_1, pf_36_1, gr_36_2, gr_36_3, gr_36_4, gi_36_5, pf_36_5, gi_36_6, pf_36_6, gi_36_7, pf_36_7, gr_36_8, gr_36_9, gr_36_10, gr_36_11, gi_36_12, pf_36_12, gi_36_13, pf_36_13, gi_36_14, pf_36_14, gr_36_15, gr_36_16, gi_36_17, pf_36_17, gr_36_18, gr_36_19, gr_36_20, gr_36_21, gr_36_22, gi_36_23, pf_36_23, gr_36_24, gr_36_25, gi_36_26, pf_36_26, gr_36_27, gr_36_28, gr_36_29, gr_36_30, gi_36_31, pf_36_31, gr_36_32, gr_36_33, gi_36_34, pf_36_34, gi_36_35, pf_36_35, gr_36_36, al_3, al_4, al_5, al_6, al_7, al_8, al_9, al_10, al_12, al_13, al_14, al_16, al_17, al_19, al_20, al_22, al_23, al_24, al_26, al_27, al_28, al_29, al_30, al_31, al_32, al_33, al_35, al_37, al_38, al_39, al_40, al_41, al_42, al_43, al_44, al_45, al_46, al_47, al_48, al_49, al_50, al_51, al_52, al_53, al_54, al_55, al_56, al_57, al_58, al_59, ↓reduceIte, Option.bind_some, cI_some, cL_some, cV_some, rz_0, rz_1, e50]
    rw [e]
    rcases r.plc hs with h | h | ⟨b, h1, h2, h3⟩
    · refine ⟨A, by rw [h, if_pos (show pl 0 = -9 from rfl)], fun _ _ => rfl, hl, fun i hi => ?_⟩
      rw [hA 43 (by decide), r.v43 hi, if_neg]
      intro q
      have := (r.row hi q).2
      omega
    · exact absurd h hg
    · have e : pl (σ 8 s) = nI b := by rw [h2, pl, if_neg (by omega), if_neg (by omega), Nat.add_sub_cancel]
      have hlb : b < (A 43).length := by omega
      refine ⟨uA A 43 ((A 43).set b (-9)), ?_, fun k hk => uA_n _ _ _ hk, by rw [uA_s, List.length_set]; exact hl, fun i hi => ?_⟩
      · rw [e, if_neg (by rw [n_m9 (by omega)]; exact id), si_43 A I (-9) hlb (by omega)]
        rfl
      · rw [uA_s, rd_set _ _ hlb, hA 43 (by decide), r.v43 hi]
        by_cases q : i = b
        · rw [if_pos q, if_pos (by rw [q]; exact h3)]; rfl
        · rw [if_neg q, if_neg (fun z => q (r.uniq hi h1 z h3))]
  obtain ⟨B, e1, e2, e3, e4⟩ := step
  have hB50 : B 50 = A 50 := e2 50 (by decide)
  have hls : s < (B 50).length := by rw [hB50]; omega
  have e5 := si_50 B I y hls (by omega)
  have h50 : ∀ i, i < σ 0 3 → rd ((B 50).set s y) i = pl (setS σ s k 8 i) := fun i hi => by
    rw [rd_set _ _ hls, hset8, hB50]
    by_cases q : i = s
    · rw [if_pos q, if_pos q, hyk]
    · rw [if_neg q, if_neg q, hA 50 (by decide), r.v50 hi]
  rw [e1]
  simp only [F_X8_set, io_1, gr_1_0, gr_1_1, gr_1_2, gr_1_3, gr_1_4, gr_1_5, gi_1_6, pf_1_6, gi_1_7, pf_1_7, io_2, gr_2_0, gr_2_1, gr_2_2, gr_2_3, gr_2_4, gr_2_5, gr_2_6, gr_2_7, gi_2_8, pf_2_8, gi_2_9, pf_2_9, gi_2_10, pf_2_10, gi_2_11, pf_2_11, gi_2_12, pf_2_12, gi_2_13, pf_2_13, gi_2_14, pf_2_14, io_11, gr_11_0, gr_11_1, gr_11_2, io_15, gr_15_0, gr_15_1, gi_15_2, pf_15_2, gi_15_3, pf_15_3, gi_15_4, pf_15_4, gi_15_5, pf_15_5, io_18, gr_18_0, gr_18_1, gi_18_2, pf_18_2, io_21, gr_21_0, gr_21_1, gr_21_2, gr_21_3, gi_21_4, pf_21_4, gi_21_5, pf_21_5, gi_21_6, pf_21_6, gi_21_7, pf_21_7, io_34, gr_34_0, gi_34_1, pf_34_1, io_36, gi_36_0, pf_36_0, gi_36_1, pf_36_1, gr_36_2, gr_36_3, gr_36_4, gi_36_5, pf_36_5, gi_36_6, pf_36_6, gi_36_7, pf_36_7, gr_36_8, gr_36_9, gr_36_10, gr_36_11, gi_36_12, pf_36_12, gi_36_13, pf_36_13, gi_36_14, pf_36_14, gr_36_15, gr_36_16, gi_36_17, pf_36_17, gr_36_18, gr_36_19, gr_36_20, gr_36_21, gr_36_22, gi_36_23, pf_36_23, gr_36_24, gr_36_25, gi_36_26, pf_36_26, gr_36_27, gr_36_28, gr_36_29, gr_36_30, gi_36_31, pf_36_31, gr_36_32, gr_36_33, gi_36_34, pf_36_34, gi_36_35, pf_36_35, gr_36_36, al_3, al_4, al_5, al_6, al_7, al_8, al_9, al_10, al_12, al_13, al_14, al_16, al_17, al_19, al_20, al_22, al_23, al_24, al_26, al_27, al_28, al_29, al_30, al_31, al_32, al_33, al_35, al_37, al_38, al_39, al_40, al_41, al_42, al_43, al_44, al_45, al_46, al_47, al_48, al_49, al_50, al_51, al_52, al_53, al_54, al_55, al_56, al_57, al_58, al_59, ↓reduceIte, Option.bind_some, cI_some, cL_some, cV_some, rz_0, rz_1, e5]
  cases k with
  | zero =>
    refine ⟨uA B 50 ((B 50).set s y), by rw [if_pos (by rw [hy]; rfl)], fun j h1 h2 => (uA_n _ _ _ h2).trans (e2 j h1), e3, by rw [uA_s, List.length_set, hB50]; exact hl2, fun i hi => ?_, fun i hi => by rw [uA_s]; exact h50 i hi⟩
    rw [hset, if_neg (by omega)]
    exact e4 i hi
  | succ c =>
    have hyc : y = nI c := hy
    have hlc : c < (uA B 50 ((B 50).set s y) 43).length := by show c < (B 43).length; omega
    refine ⟨uA (uA B 50 ((B 50).set s y)) 43 ((B 43).set c (nI s)), ?_, fun j h1 h2 => (uA_n _ _ _ h1).trans ((uA_n _ _ _ h2).trans (e2 j h1)), by rw [uA_s, List.length_set]; exact e3, by show ((B 50).set s y).length = 6; rw [List.length_set, hB50]; exact hl2, fun i hi => ?_, fun i hi => ?_⟩
    · rw [if_neg (by rw [hyc, n_m9 (by omega)]; exact id)]
      have e6 := si_43 (uA B 50 ((B 50).set s y)) I (nI s) hlc (by omega)
      rw [← hyc] at e6
      rw [e6]
      rfl
    · rw [uA_s, rd_set _ _ (show c < (B 43).length by omega), hset]
      by_cases q : i = c
      · rw [if_pos q, if_pos (by omega)]; rfl
      · rw [if_neg q, if_neg (by omega)]
        exact e4 i hi
    · exact h50 i hi
theorem RR.set (r : RR σ A I) {s k : Nat} (hs : s < σ 0 3) (hg : σ 8 s ≠ 100) (hk : k ≤ σ 0 0) (hk2 : ∀ c, k = c + 1 → σ 7 c = 0) {B : Nat → List Int32}
    (h1 : ∀ j, j ≠ 5 → j ≠ 43 → j ≠ 50 → B j = A j) (l5 : (B 5).length = 7) (l43 : (B 43).length = 7) (l50 : (B 50).length = 6)
    (h5 : ∀ i, i < σ 0 0 → rd (B 5) i = ro (setS σ s k 7 i)) (h43 : ∀ i, i < σ 0 0 → rd (B 43) i = ro (setS σ s k 7 i)) (h50 : ∀ i, i < σ 0 3 → rd (B 50) i = pl (setS σ s k 8 i)) : RR (setS σ s k) B I := by
  have hn := r.n7
  have hset : ∀ i, setS σ s k 7 i = if i + 1 = k then s + 1 else if σ 7 i = s + 1 then 0 else σ 7 i := fun i => by simp [setS]
  have hset8 : ∀ i, setS σ s k 8 i = if i = s then k else σ 8 i := fun i => by simp [setS]
  obtain ⟨⟨w1, w2, w3, w4, w5, w6, w7, w8, w9, w10, w11, w12⟩, r2, ⟨⟨c1, c2, c3, c4, c5, c6, c7⟩, c8, c9, c10⟩, ⟨m1, m7, m8, m9⟩, r5⟩ := r
  have hgone : bits (fun i => setS σ s k 8 i == 100) (σ 0 3) = bits (fun i => σ 8 i == 100) (σ 0 3) := bits_congr _ fun i hi => by
    rw [hset8]
    by_cases q : i = s
    · rw [if_pos q, q]
      have e1 : (k == 100) = false := by simp; omega
      have e2 : (σ 8 s == 100) = false := by simp [hg]
      rw [e1, e2]
    · rw [if_neg q]
  refine ⟨⟨w1, w2, w3, w4, w5, w6, w7, w8, w9, w10, fun c hc t ht => ?_, fun t ht => ?_⟩, fun j hj => ?_, ⟨⟨c1, c2, c3, c4, c5, c6.trans (congrArg nI hgone.symm), c7⟩, fun c hc => ?_, fun t ht => ?_, fun t ht => ?_⟩, ⟨m1, fun c hc => ?_, fun t ht => ?_, fun t ht => ?_⟩, ?_⟩
  · rw [hset] at ht
    rw [hset8]
    by_cases q : c + 1 = k
    · rw [if_pos q] at ht
      have : t = s := by omega
      subst this
      exact ⟨hs, by rw [if_pos rfl]; exact q.symm⟩
    · rw [if_neg q] at ht
      by_cases q2 : σ 7 c = s + 1
      · rw [if_pos q2] at ht; omega
      · rw [if_neg q2] at ht
        have h := w11 c hc t ht
        exact ⟨h.1, by rw [if_neg (fun z => q2 (by rw [ht, z]))]; exact h.2⟩
  · rw [hset8]
    by_cases q : t = s
    · rw [if_pos q]
      cases k with
      | zero => exact Or.inl rfl
      | succ c => exact Or.inr (Or.inr ⟨c, hk, rfl, by rw [hset, if_pos rfl, q]⟩)
    · rw [if_neg q]
      rcases w12 t ht with h | h | ⟨c, a1, a2, a3⟩
      · exact Or.inl h
      · exact Or.inr (Or.inl h)
      · refine Or.inr (Or.inr ⟨c, a1, a2, ?_⟩)
        rw [hset, if_neg (fun z => by have := hk2 c z.symm; omega), if_neg (by omega)]
        exact a3
  · by_cases q5 : j = 5
    · subst q5; exact l5
    · by_cases q43 : j = 43
      · subst q43; exact l43
      · by_cases q50 : j = 50
        · subst q50; exact l50
        · rw [h1 j q5 q43 q50]; exact r2 j hj
  · rw [h1 3 (by decide) (by decide) (by decide), h1 4 (by decide) (by decide) (by decide)]
    exact ⟨(c8 c hc).1, (c8 c hc).2.1, h5 c hc⟩
  · rw [h1 6 (by decide) (by decide) (by decide), h1 7 (by decide) (by decide) (by decide), h1 8 (by decide) (by decide) (by decide), h1 9 (by decide) (by decide) (by decide)]
    exact c9 t ht
  · rw [h1 10 (by decide) (by decide) (by decide)]
    exact c10 t ht
  · rw [h1 40 (by decide) (by decide) (by decide), h1 41 (by decide) (by decide) (by decide), h1 42 (by decide) (by decide) (by decide)]
    exact ⟨(m7 c hc).1, (m7 c hc).2.1, h43 c hc, (m7 c hc).2.2.2⟩
  · rw [h1 46 (by decide) (by decide) (by decide), h1 47 (by decide) (by decide) (by decide), h1 48 (by decide) (by decide) (by decide), h1 49 (by decide) (by decide) (by decide)]
    exact ⟨(m8 t ht).1, (m8 t ht).2.1, (m8 t ht).2.2.1, (m8 t ht).2.2.2.1, h50 t ht⟩
  · rw [h1 51 (by decide) (by decide) (by decide)]
    exact m9 t ht
  · unfold RS at *
    rw [h1 12 (by decide) (by decide) (by decide), h1 13 (by decide) (by decide) (by decide), h1 14 (by decide) (by decide) (by decide), h1 37 (by decide) (by decide) (by decide), h1 38 (by decide) (by decide) (by decide), h1 39 (by decide) (by decide) (by decide)]
    exact r5
theorem op_set (hf : 1000 ≤ fu) (r : RR σ A I) (x y : Int32) : OP (U_X7_set fu) (U_X8_set fu) [.ref 1, .int x, .int y] [.ref 36, .int x, .int y] A I := by
  have hn := r.n7
  have hm := r.m6
  obtain ⟨n, rfl⟩ : ∃ k, fu = k + 1000 := ⟨fu - 1000, by omega⟩
  obtain ⟨n, rfl⟩ : ∃ k, n = k := ⟨n, rfl⟩
  rcases n_in x (n := σ 0 3) (by omega) with ⟨s, hs, rfl⟩ | h
  rotate_left
  · refine OP.q0 (v := -1) r ?_ ?_
    · simp only [u_X7_set, M_X7_set, c_isStone, io_1, gr_1_0, gr_1_1, gr_1_2, gr_1_3, gr_1_4, gr_1_5, gi_1_6, pf_1_6, gi_1_7, pf_1_7, io_2, gr_2_0, gr_2_1, gr_2_2, gr_2_3, gr_2_4, gr_2_5, gr_2_6, gr_2_7, gi_2_8, pf_2_8, gi_2_9, pf_2_9, gi_2_10, pf_2_10, gi_2_11, pf_2_11, gi_2_12, pf_2_12, gi_2_13, pf_2_13, gi_2_14, pf_2_14, io_11, gr_11_0, gr_11_1, gr_11_2, io_15, gr_15_0, gr_15_1, gi_15_2, pf_15_2, gi_15_3, pf_15_3, gi_15_4, pf_15_4, gi_15_5, pf_15_5, io_18, gr_18_0, gr_18_1, gi_18_2, pf_18_2, io_21, gr_21_0, gr_21_1, gr_21_2, gr_21_3, gi_21_4, pf_21_4, gi_21_5, pf_21_5, gi_21_6, pf_21_6, gi_21_7, pf_21_7, io_34, gr_34_0, gi_34_1, pf_34_1, io_36, gi_36_0, pf_36_0, gi_36_1, pf_36_1, gr_36_2, gr_36_3, gr_36_4, gi_36_5, pf_36_5, gi_36_6, pf_36_6, gi_36_7, pf_36_7, gr_36_8, gr_36_9, gr_36_10, gr_36_11, gi_36_12, pf_36_12, gi_36_13, pf_36_13, gi_36_14, pf_36_14, gr_36_15, gr_36_16, gi_36_17, pf_36_17, gr_36_18, gr_36_19, gr_36_20, gr_36_21, gr_36_22, gi_36_23, pf_36_23, gr_36_24, gr_36_25, gi_36_26, pf_36_26, gr_36_27, gr_36_28, gr_36_29, gr_36_30, gi_36_31, pf_36_31, gr_36_32, gr_36_33, gi_36_34, pf_36_34, gi_36_35, pf_36_35, gr_36_36, al_3, al_4, al_5, al_6, al_7, al_8, al_9, al_10, al_12, al_13, al_14, al_16, al_17, al_19, al_20, al_22, al_23, al_24, al_26, al_27, al_28, al_29, al_30, al_31, al_32, al_33, al_35, al_37, al_38, al_39, al_40, al_41, al_42, al_43, al_44, al_45, al_46, al_47, al_48, al_49, al_50, al_51, al_52, al_53, al_54, al_55, al_56, al_57, al_58, al_59, ↓reduceIte, Option.bind_some, cI_some, cL_some, cV_some, rz_0, rz_1, r.i2_12, bI_f h]
    · simp only [u_X8_set, M_X8_set, m_isStone, io_1, gr_1_0, gr_1_1, gr_1_2, gr_1_3, gr_1_4, gr_1_5, gi_1_6, pf_1_6, gi_1_7, pf_1_7, io_2, gr_2_0, gr_2_1, gr_2_2, gr_2_3, gr_2_4, gr_2_5, gr_2_6, gr_2_7, gi_2_8, pf_2_8, gi_2_9, pf_2_9, gi_2_10, pf_2_10, gi_2_11, pf_2_11, gi_2_12, pf_2_12, gi_2_13, pf_2_13, gi_2_14, pf_2_14, io_11, gr_11_0, gr_11_1, gr_11_2, io_15, gr_15_0, gr_15_1, gi_15_2, pf_15_2, gi_15_3, pf_15_3, gi_15_4, pf_15_4, gi_15_5, pf_15_5, io_18, gr_18_0, gr_18_1, gi_18_2, pf_18_2, io_21, gr_21_0, gr_21_1, gr_21_2, gr_21_3, gi_21_4, pf_21_4, gi_21_5, pf_21_5, gi_21_6, pf_21_6, gi_21_7, pf_21_7, io_34, gr_34_0, gi_34_1, pf_34_1, io_36, gi_36_0, pf_36_0, gi_36_1, pf_36_1, gr_36_2, gr_36_3, gr_36_4, gi_36_5, pf_36_5, gi_36_6, pf_36_6, gi_36_7, pf_36_7, gr_36_8, gr_36_9, gr_36_10, gr_36_11, gi_36_12, pf_36_12, gi_36_13, pf_36_13, gi_36_14, pf_36_14, gr_36_15, gr_36_16, gi_36_17, pf_36_17, gr_36_18, gr_36_19, gr_36_20, gr_36_21, gr_36_22, gi_36_23, pf_36_23, gr_36_24, gr_36_25, gi_36_26, pf_36_26, gr_36_27, gr_36_28, gr_36_29, gr_36_30, gi_36_31, pf_36_31, gr_36_32, gr_36_33, gi_36_34, pf_36_34, gi_36_35, pf_36_35, gr_36_36, al_3, al_4, al_5, al_6, al_7, al_8, al_9, al_10, al_12, al_13, al_14, al_16, al_17, al_19, al_20, al_22, al_23, al_24, al_26, al_27, al_28, al_29, al_30, al_31, al_32, al_33, al_35, al_37, al_38, al_39, al_40, al_41, al_42, al_43, al_44, al_45, al_46, al_47, al_48, al_49, al_50, al_51, al_52, al_53, al_54, al_55, al_56, al_57, al_58, al_59, ↓reduceIte, Option.bind_some, cI_some, cL_some, cV_some, rz_0, rz_1, r.i36_17, bI_f h]
  have hb := bits_lt (fun s => σ 8 s == 100) (σ 0 3)
  have hb2 : 2 ^ σ 0 3 ≤ 64 := Nat.pow_le_pow_right (by omega) hm
  have hgb : bI ((bits (fun s => σ 8 s == 100) (σ 0 3)).testBit s = true) = bI (σ 8 s = 100) := by
    rw [bits_test]
    by_cases q : σ 8 s = 100 <;> simp [hs, q, bI]
  -- behind the tests of numbers
  have main : ∀ k, k ≤ σ 0 0 → y = ro k → ∃ (v : Int32) (A1 A2 : Nat → List Int32) (σ' : SG), (F_X7_set (n + 1000) (n + 1000)).1 1 (nI s) y (enc A I) = some (some (.int v), enc A1 I) ∧ A1 0 = A 0 ∧ (F_X8_set (n + 1000) (n + 1000)).1 36 (nI s) y (enc A1 I) = some (some (.int v), enc A2 I) ∧ A2 0 = A 0 ∧ RR σ' A2 I := by
    intro k hk hy
    have hk6 : ∀ c, k = c + 1 → c < σ 0 0 := fun c h => by omega
    by_cases hg : σ 8 s = 100
    · refine ⟨-3, A, A, σ, ?_, rfl, ?_, rfl, r⟩
      · show (F_X7_set (n + 1000) (n + 999 + 1)).1 1 (nI s) y (enc A I) = _
        rw [F_X7_set]
        simp only [io_1, gr_1_0, gr_1_1, gr_1_2, gr_1_3, gr_1_4, gr_1_5, gi_1_6, pf_1_6, gi_1_7, pf_1_7, io_2, gr_2_0, gr_2_1, gr_2_2, gr_2_3, gr_2_4, gr_2_5, gr_2_6, gr_2_7, gi_2_8, pf_2_8, gi_2_9, pf_2_9, gi_2_10, pf_2_10, gi_2_11, pf_2_11, gi_2_12, pf_2_12, gi_2_13, pf_2_13, gi_2_14, pf_2_14, io_11, gr_11_0, gr_11_1, gr_11_2, io_15, gr_15_0, gr_15_1, gi_15_2, pf_15_2, gi_15_3, pf_15_3, gi_15_4, pf_15_4, gi_15_5, pf_15_5, io_18, gr_18_0, gr_18_1, gi_18_2, pf_18_2, io_21, gr_21_0, gr_21_1, gr_21_2, gr_21_3, gi_21_4, pf_21_4, gi_21_5, pf_21_5, gi_21_6, pf_21_6, gi_21_7, pf_21_7, io_34, gr_34_0, gi_34_1, pf_34_1, io_36, gi_36_0, pf_36_0, gi_36_1, pf_36_1, gr_36_2, gr_36_3, gr_36_4, gi_36_5, pf_36_5, gi_36_6, pf_36_6, gi_36_7, pf_36_7, gr_36_8, gr_36_9, gr_36_10, gr_36_11, gi_36_12, pf_36_12, gi_36_13, pf_36_13, gi_36_14, pf_36_14, gr_36_15, gr_36_16, gi_36_17, pf_36_17, gr_36_18, gr_36_19, gr_36_20, gr_36_21, gr_36_22, gi_36_23, pf_36_23, gr_36_24, gr_36_25, gi_36_26, pf_36_26, gr_36_27, gr_36_28, gr_36_29, gr_36_30, gi_36_31, pf_36_31, gr_36_32, gr_36_33, gi_36_34, pf_36_34, gi_36_35, pf_36_35, gr_36_36, al_3, al_4, al_5, al_6, al_7, al_8, al_9, al_10, al_12, al_13, al_14, al_16, al_17, al_19, al_20, al_22, al_23, al_24, al_26, al_27, al_28, al_29, al_30, al_31, al_32, al_33, al_35, al_37, al_38, al_39, al_40, al_41, al_42, al_43, al_44, al_45, al_46, al_47, al_48, al_49, al_50, al_51, al_52, al_53, al_54, al_55, al_56, al_57, al_58, al_59, ↓reduceIte, Option.bind_some, cI_some, cL_some, cV_some, rz_0, rz_1, r.i2_13, c_hasn _ (show bits (fun s => σ 8 s == 100) (σ 0 3) < 2147483648 by omega) (show s < 31 by omega), hgb, bI_t hg, if_neg (by decide : ¬ (1 : Int32) = 0)]
      · show (F_X8_set (n + 1000) (n + 999 + 1)).1 36 (nI s) y (enc A I) = _
        rw [F_X8_set]
        simp only [io_1, gr_1_0, gr_1_1, gr_1_2, gr_1_3, gr_1_4, gr_1_5, gi_1_6, pf_1_6, gi_1_7, pf_1_7, io_2, gr_2_0, gr_2_1, gr_2_2, gr_2_3, gr_2_4, gr_2_5, gr_2_6, gr_2_7, gi_2_8, pf_2_8, gi_2_9, pf_2_9, gi_2_10, pf_2_10, gi_2_11, pf_2_11, gi_2_12, pf_2_12, gi_2_13, pf_2_13, gi_2_14, pf_2_14, io_11, gr_11_0, gr_11_1, gr_11_2, io_15, gr_15_0, gr_15_1, gi_15_2, pf_15_2, gi_15_3, pf_15_3, gi_15_4, pf_15_4, gi_15_5, pf_15_5, io_18, gr_18_0, gr_18_1, gi_18_2, pf_18_2, io_21, gr_21_0, gr_21_1, gr_21_2, gr_21_3, gi_21_4, pf_21_4, gi_21_5, pf_21_5, gi_21_6, pf_21_6, gi_21_7, pf_21_7, io_34, gr_34_0, gi_34_1, pf_34_1, io_36, gi_36_0, pf_36_0, gi_36_1, pf_36_1, gr_36_2, gr_36_3, gr_36_4, gi_36_5, pf_36_5, gi_36_6, pf_36_6, gi_36_7, pf_36_7, gr_36_8, gr_36_9, gr_36_10, gr_36_11, gi_36_12, pf_36_12, gi_36_13, pf_36_13, gi_36_14, pf_36_14, gr_36_15, gr_36_16, gi_36_17, pf_36_17, gr_36_18, gr_36_19, gr_36_20, gr_36_21, gr_36_22, gi_36_23, pf_36_23, gr_36_24, gr_36_25, gi_36_26, pf_36_26, gr_36_27, gr_36_28, gr_36_29, gr_36_30, gi_36_31, pf_36_31, gr_36_32, gr_36_33, gi_36_34, pf_36_34, gi_36_35, pf_36_35, gr_36_36, al_3, al_4, al_5, al_6, al_7, al_8, al_9, al_10, al_12, al_13, al_14, al_16, al_17, al_19, al_20, al_22, al_23, al_24, al_26, al_27, al_28, al_29, al_30, al_31, al_32, al_33, al_35, al_37, al_38, al_39, al_40, al_41, al_42, al_43, al_44, al_45, al_46, al_47, al_48, al_49, al_50, al_51, al_52, al_53, al_54, al_55, al_56, al_57, al_58, al_59, ↓reduceIte, Option.bind_some, cI_some, cL_some, cV_some, rz_0, rz_1, r.a50 hs, hg, if_pos (show pl 100 = -5 from rfl)]
    · have hpl : ¬ pl (σ 8 s) = -5 := by
        rcases r.plc hs with h | h | ⟨b, h1, h2, h3⟩
        · rw [h]; decide
        · exact absurd h hg
        · rw [h2, pl, if_neg (by omega), if_neg (by omega), Nat.add_sub_cancel]
          intro q
          exact nI_pos (show b < 2147483648 by omega) (by rw [q]; decide)
      by_cases hfree : ∀ c, k = c + 1 → σ 7 c = 0
      · obtain ⟨A1, a1, a2, a3, a4⟩ := c_set2 (fu := n + 1000) (by omega) r hs hg hk hfree hy (n + 998)
        obtain ⟨A2, b1, b2, b3, b4, b5, b6⟩ := m_set2 (A := A1) (fu := n + 1000) r a2 hs hg hk hfree hy (n + 997)
        refine ⟨1, A1, A2, setS σ s k, ?_, a2 0 (by decide), ?_, (b2 0 (by decide) (by decide)).trans (a2 0 (by decide)), ?_⟩
        · show (F_X7_set (n + 1000) (n + 999 + 1)).1 1 (nI s) y (enc A I) = _
          rw [F_X7_set]
          simp only [io_1, gr_1_0, gr_1_1, gr_1_2, gr_1_3, gr_1_4, gr_1_5, gi_1_6, pf_1_6, gi_1_7, pf_1_7, io_2, gr_2_0, gr_2_1, gr_2_2, gr_2_3, gr_2_4, gr_2_5, gr_2_6, gr_2_7, gi_2_8, pf_2_8, gi_2_9, pf_2_9, gi_2_10, pf_2_10, gi_2_11, pf_2_11, gi_2_12, pf_2_12, gi_2_13, pf_2_13, gi_2_14, pf_2_14, io_11, gr_11_0, gr_11_1, gr_11_2, io_15, gr_15_0, gr_15_1, gi_15_2, pf_15_2, gi_15_3, pf_15_3, gi_15_4, pf_15_4, gi_15_5, pf_15_5, io_18, gr_18_0, gr_18_1, gi_18_2, pf_18_2, io_21, gr_21_0, gr_21_1, gr_21_2, gr_21_3, gi_21_4, pf_21_4, gi_21_5, pf_21_5, gi_21_6, pf_21_6, gi_21_7, pf_21_7, io_34, gr_34_0, gi_34_1, pf_34_1, io_36, gi_36_0, pf_36_0, gi_36_1, pf_36_1, gr_36_2, gr_36_3, gr_36_4, gi_36_5, pf_36_5, gi_36_6, pf_36_6, gi_36_7, pf_36_7, gr_36_8, gr_36_9, gr_36_10, gr_36_11, gi_36_12, pf_36_12, gi_36_13, pf_36_13, gi_36_14, pf_36_14, gr_36_15, gr_36_16, gi_36_17, pf_36_17, gr_36_18, gr_36_19, gr_36_20, gr_36_21, gr_36_22, gi_36_23, pf_36_23, gr_36_24, gr_36_25, gi_36_26, pf_36_26, gr_36_27, gr_36_28, gr_36_29, gr_36_30, gi_36_31, pf_36_31, gr_36_32, gr_36_33, gi_36_34, pf_36_34, gi_36_35, pf_36_35, gr_36_36, al_3, al_4, al_5, al_6, al_7, al_8, al_9, al_10, al_12, al_13, al_14, al_16, al_17, al_19, al_20, al_22, al_23, al_24, al_26, al_27, al_28, al_29, al_30, al_31, al_32, al_33, al_35, al_37, al_38, al_39, al_40, al_41, al_42, al_43, al_44, al_45, al_46, al_47, al_48, al_49, al_50, al_51, al_52, al_53, al_54, al_55, al_56, al_57, al_58, al_59, ↓reduceIte, Option.bind_some, cI_some, cL_some, cV_some, rz_0, rz_1, r.i2_13, c_hasn _ (show bits (fun s => σ 8 s == 100) (σ 0 3) < 2147483648 by omega) (show s < 31 by omega), hgb, bI_f hg]
          cases k with
          | zero => rw [if_pos (show y = -9 from hy)]; exact a1
          | succ c =>
            have hc := hk6 c rfl
            have hyc : y = nI c := hy
            rw [if_neg (by rw [hyc, n_m9 (by omega)]; exact id), hyc, r.a5 hc, hfree c rfl]
            rw [hyc] at a1
            exact a1
        · have e50 : aI (enc A1 I) 50 (nI s) = some (pl (σ 8 s)) := by rw [ai_50 A1 I (by rw [a2 50 (by decide), r.len rfl]; show s < 6; omega) (by omega), a2 50 (by decide), r.v50 hs]
          show (F_X8_set (n + 1000) (n + 999 + 1)).1 36 (nI s) y (enc A1 I) = _
          rw [F_X8_set]
          simp only [io_1, gr_1_0, gr_1_1, gr_1_2, gr_1_3, gr_1_4, gr_1_5, gi_1_6, pf_1_6, gi_1_7, pf_1_7, io_2, gr_2_0, gr_2_1, gr_2_2, gr_2_3, gr_2_4, gr_2_5, gr_2_6, gr_2_7, gi_2_8, pf_2_8, gi_2_9, pf_2_9, gi_2_10, pf_2_10, gi_2_11, pf_2_11, gi_2_12, pf_2_12, gi_2_13, pf_2_13, gi_2_14, pf_2_14, io_11, gr_11_0, gr_11_1, gr_11_2, io_15, gr_15_0, gr_15_1, gi_15_2, pf_15_2, gi_15_3, pf_15_3, gi_15_4, pf_15_4, gi_15_5, pf_15_5, io_18, gr_18_0, gr_18_1, gi_18_2, pf_18_2, io_21, gr_21_0, gr_21_1, gr_21_2, gr_21_3, gi_21_4, pf_21_4, gi_21_5, pf_21_5, gi_21_6, pf_21_6, gi_21_7, pf_21_7, io_34, gr_34_0, gi_34_1, pf_34_1, io_36, gi_36_0, pf_36_0, gi_36_1, pf_36_1, gr_36_2, gr_36_3, gr_36_4, gi_36_5, pf_36_5, gi_36_6, pf_36_6, gi_36_7, pf_36_7, gr_36_8, gr_36_9, gr_36_10, gr_36_11, gi_36_12, pf_36_12, gi_36_13, pf_36_13, gi_36_14, pf_36_14, gr_36_15, gr_36_16, gi_36_17, pf_36_17, gr_36_18, gr_36_19, gr_36_20, gr_36_21, gr_36_22, gi_36_23, pf_36_23, gr_36_24, gr_36_25, gi_36_26, pf_36_26, gr_36_27, gr_36_28, gr_36_29, gr_36_30, gi_36_31, pf_36_31, gr_36_32, gr_36_33, gi_36_34, pf_36_34, gi_36_35, pf_36_35, gr_36_36, al_3, al_4, al_5, al_6, al_7, al_8, al_9, al_10, al_12, al_13, al_14, al_16, al_17, al_19, al_20, al_22, al_23, al_24, al_26, al_27, al_28, al_29, al_30, al_31, al_32, al_33, al_35, al_37, al_38, al_39, al_40, al_41, al_42, al_43, al_44, al_45, al_46, al_47, al_48, al_49, al_50, al_51, al_52, al_53, al_54, al_55, al_56, al_57, al_58, al_59, ↓reduceIte, Option.bind_some, cI_some, cL_some, cV_some, rz_0, rz_1, e50, if_neg hpl]
          cases k with
          | zero => rw [if_pos (show y = -9 from hy)]; exact b1
          | succ c =>
            have hc := hk6 c rfl
            have hyc : y = nI c := hy
            have e43 : aI (enc A1 I) 43 (nI c) = some (ro (σ 7 c)) := by rw [ai_43 A1 I (by rw [a2 43 (by decide), r.len rfl]; show c < 7; omega) (by omega), a2 43 (by decide), r.v43 hc]
            rw [if_neg (by rw [hyc, n_m9 (by omega)]; exact id), hyc, e43, hfree c rfl]
            rw [hyc] at b1
            exact b1
        · refine r.set hs hg hk hfree (fun j h1 h2 h3 => (b2 j h2 h3).trans (a2 j h1)) ?_ b3 b4 ?_ b5 b6
          · rw [b2 5 (by decide) (by decide)]; exact a3
          · rw [b2 5 (by decide) (by decide)]; exact a4
      · obtain ⟨c, hkc, hc7⟩ : ∃ c, k = c + 1 ∧ σ 7 c ≠ 0 := by
          cases k with
          | zero => exact absurd (fun c h => by omega) hfree
          | succ c => exact ⟨c, rfl, fun q => hfree fun b hb => by rw [show b = c by omega]; exact q⟩
        have hc := hk6 c hkc
        have hyc : y = nI c := by rw [hy, hkc]; rfl
        have h6 := r.row_lt hc
        have hro : ¬ ro (σ 7 c) = -9 := by rw [ro_9 (by omega)]; exact hc7
        have hy9 : ¬ nI c = -9 := by rw [n_m9 (by omega)]; exact id
        refine ⟨-3, A, A, σ, ?_, rfl, ?_, rfl, r⟩
        · show (F_X7_set (n + 1000) (n + 999 + 1)).1 1 (nI s) y (enc A I) = _
          rw [F_X7_set, hyc]
          simp only [io_1, gr_1_0, gr_1_1, gr_1_2, gr_1_3, gr_1_4, gr_1_5, gi_1_6, pf_1_6, gi_1_7, pf_1_7, io_2, gr_2_0, gr_2_1, gr_2_2, gr_2_3, gr_2_4, gr_2_5, gr_2_6, gr_2_7, gi_2_8, pf_2_8, gi_2_9, pf_2_9, gi_2_10, pf_2_10, gi_2_11, pf_2_11, gi_2_12, pf_2_12, gi_2_13, pf_2_13, gi_2_14, pf_2_14, io_11, gr_11_0, gr_11_1, gr_11_2, io_15, gr_15_0, gr_15_1, gi_15_2, pf_15_2, gi_15_3, pf_15_3, gi_15_4, pf_15_4, gi_15_5, pf_15_5, io_18, gr_18_0, gr_18_1, gi_18_2, pf_18_2, io_21, gr_21_0, gr_21_1, gr_21_2, gr_21_3, gi_21_4, pf_21_4, gi_21_5, pf_21_5, gi_21_6, pf_21_6, gi_21_7, pf_21_7, io_34, gr_34_0, gi_34_1, pf_34_1, io_36, gi_36_0, pf_36_0, gi_36_1, pf_36_1, gr_36_2, gr_36_3, gr_36_4, gi_36_5, pf_36_5, gi_36_6, pf_36_6, gi_36_7, pf_36_7, gr_36_8, gr_36_9, gr_36_10, gr_36_11, gi_36_12, pf_36_12, gi_36_13, pf_36_13, gi_36_14, pf_36_14, gr_36_15, gr_36_16, gi_36_17, pf_36_17, gr_36_18, gr_36_19, gr_36_20, gr_36_21, gr_36_22, gi_36_23, pf_36_23, gr_36_24, gr_36_25, gi_36_26, pf_36_26, gr_36_27, gr_36_28, gr_36_29, gr_36_30, gi_36_31, pf_36_31, gr_36_32, gr_36_33, gi_36_34, pf_36_34, gi_36_35, pf_36_35, gr_36_36, al_3, al_4, al_5, al_6, al_7, al_8, al_9, al_10, al_12, al_13, al_14, al_16, al_17, al_19, al_20, al_22, al_23, al_24, al_26, al_27, al_28, al_29, al_30, al_31, al_32, al_33, al_35, al_37, al_38, al_39, al_40, al_41, al_42, al_43, al_44, al_45, al_46, al_47, al_48, al_49, al_50, al_51, al_52, al_53, al_54, al_55, al_56, al_57, al_58, al_59, ↓reduceIte, Option.bind_some, cI_some, cL_some, cV_some, rz_0, rz_1, r.i2_13, c_hasn _ (show bits (fun s => σ 8 s == 100) (σ 0 3) < 2147483648 by omega) (show s < 31 by omega), hgb, bI_f hg, if_neg hy9, r.a5 hc, if_neg hro]
        · show (F_X8_set (n + 1000) (n + 999 + 1)).1 36 (nI s) y (enc A I) = _
          rw [F_X8_set, hyc]
          simp only [io_1, gr_1_0, gr_1_1, gr_1_2, gr_1_3, gr_1_4, gr_1_5, gi_1_6, pf_1_6, gi_1_7, pf_1_7, io_2, gr_2_0, gr_2_1, gr_2_2, gr_2_3, gr_2_4, gr_2_5, gr_2_6, gr_2_7, gi_2_8, pf_2_8, gi_2_9, pf_2_9, gi_2_10, pf_2_10, gi_2_11, pf_2_11, gi_2_12, pf_2_12, gi_2_13, pf_2_13, gi_2_14, pf_2_14, io_11, gr_11_0, gr_11_1, gr_11_2, io_15, gr_15_0, gr_15_1, gi_15_2, pf_15_2, gi_15_3, pf_15_3, gi_15_4, pf_15_4, gi_15_5, pf_15_5, io_18, gr_18_0, gr_18_1, gi_18_2, pf_18_2, io_21, gr_21_0, gr_21_1, gr_21_2, gr_21_3, gi_21_4, pf_21_4, gi_21_5, pf_21_5, gi_21_6, pf_21_6, gi_21_7, pf_21_7, io_34, gr_34_0, gi_34_1, pf_34_1, io_36, gi_36_0, pf_36_0, gi_36_1, pf_36_1, gr_36_2, gr_36_3, gr_36_4, gi_36_5, pf_36_5, gi_36_6, pf_36_6, gi_36_7, pf_36_7, gr_36_8, gr_36_9, gr_36_10, gr_36_11, gi_36_12, pf_36_12, gi_36_13, pf_36_13, gi_36_14, pf_36_14, gr_36_15, gr_36_16, gi_36_17, pf_36_17, gr_36_18, gr_36_19, gr_36_20, gr_36_21, gr_36_22, gi_36_23, pf_36_23, gr_36_24, gr_36_25, gi_36_26, pf_36_26, gr_36_27, gr_36_28, gr_36_29, gr_36_30, gi_36_31, pf_36_31, gr_36_32, gr_36_33, gi_36_34, pf_36_34, gi_36_35, pf_36_35, gr_36_36, al_3, al_4, al_5, al_6, al_7, al_8, al_9, al_10, al_12, al_13, al_14, al_16, al_17, al_19, al_20, al_22, al_23, al_24, al_26, al_27, al_28, al_29, al_30, al_31, al_32, al_33, al_35, al_37, al_38, al_39, al_40, al_41, al_42, al_43, al_44, al_45, al_46, al_47, al_48, al_49, al_50, al_51, al_52, al_53, al_54, al_55, al_56, al_57, al_58, al_59, ↓reduceIte, Option.bind_some, cI_some, cL_some, cV_some, rz_0, rz_1, r.a50 hs, if_neg hpl, if_neg hy9, r.a43 hc, if_neg hro]
  by_cases hy9 : y = -9
  · obtain ⟨v, A1, A2, σ', q1, q2, q3, q4, q5⟩ := main 0 (Nat.zero_le _) hy9
    refine ⟨v, A1, I, A2, I, σ', ?_, q2, ?_, q4, fun h => h, q5⟩
    · simp only [u_X7_set, M_X7_set, c_isStone, io_1, gr_1_0, gr_1_1, gr_1_2, gr_1_3, gr_1_4, gr_1_5, gi_1_6, pf_1_6, gi_1_7, pf_1_7, io_2, gr_2_0, gr_2_1, gr_2_2, gr_2_3, gr_2_4, gr_2_5, gr_2_6, gr_2_7, gi_2_8, pf_2_8, gi_2_9, pf_2_9, gi_2_10, pf_2_10, gi_2_11, pf_2_11, gi_2_12, pf_2_12, gi_2_13, pf_2_13, gi_2_14, pf_2_14, io_11, gr_11_0, gr_11_1, gr_11_2, io_15, gr_15_0, gr_15_1, gi_15_2, pf_15_2, gi_15_3, pf_15_3, gi_15_4, pf_15_4, gi_15_5, pf_15_5, io_18, gr_18_0, gr_18_1, gi_18_2, pf_18_2, io_21, gr_21_0, gr_21_1, gr_21_2, gr_21_3, gi_21_4, pf_21_4, gi_21_5, pf_21_5, gi_21_6, pf_21_6, gi_21_7, pf_21_7, io_34, gr_34_0, gi_34_1, pf_34_1, io_36, gi_36_0, pf_36_0, gi_36_1, pf_36_1, gr_36_2, gr_36_3, gr_36_4, gi_36_5, pf_36_5, gi_36_6, pf_36_6, gi_36_7, pf_36_7, gr_36_8, gr_36_9, gr_36_10, gr_36_11, gi_36_12, pf_36_12, gi_36_13, pf_36_13, gi_36_14, pf_36_14, gr_36_15, gr_36_16, gi_36_17, pf_36_17, gr_36_18, gr_36_19, gr_36_20, gr_36_21, gr_36_22, gi_36_23, pf_36_23, gr_36_24, gr_36_25, gi_36_26, pf_36_26, gr_36_27, gr_36_28, gr_36_29, gr_36_30, gi_36_31, pf_36_31, gr_36_32, gr_36_33, gi_36_34, pf_36_34, gi_36_35, pf_36_35, gr_36_36, al_3, al_4, al_5, al_6, al_7, al_8, al_9, al_10, al_12, al_13, al_14, al_16, al_17, al_19, al_20, al_22, al_23, al_24, al_26, al_27, al_28, al_29, al_30, al_31, al_32, al_33, al_35, al_37, al_38, al_39, al_40, al_41, al_42, al_43, al_44, al_45, al_46, al_47, al_48, al_49, al_50, al_51, al_52, al_53, al_54, al_55, al_56, al_57, al_58, al_59, ↓reduceIte, Option.bind_some, cI_some, cL_some, cV_some, rz_0, rz_1, r.i2_12, bI_t (n_win hs (show σ 0 3 < 2147483648 by omega)), if_neg (by decide : ¬ (1 : Int32) = 0), if_pos hy9]
      exact q1
    · simp only [u_X8_set, M_X8_set, m_isStone, io_1, gr_1_0, gr_1_1, gr_1_2, gr_1_3, gr_1_4, gr_1_5, gi_1_6, pf_1_6, gi_1_7, pf_1_7, io_2, gr_2_0, gr_2_1, gr_2_2, gr_2_3, gr_2_4, gr_2_5, gr_2_6, gr_2_7, gi_2_8, pf_2_8, gi_2_9, pf_2_9, gi_2_10, pf_2_10, gi_2_11, pf_2_11, gi_2_12, pf_2_12, gi_2_13, pf_2_13, gi_2_14, pf_2_14, io_11, gr_11_0, gr_11_1, gr_11_2, io_15, gr_15_0, gr_15_1, gi_15_2, pf_15_2, gi_15_3, pf_15_3, gi_15_4, pf_15_4, gi_15_5, pf_15_5, io_18, gr_18_0, gr_18_1, gi_18_2, pf_18_2, io_21, gr_21_0, gr_21_1, gr_21_2, gr_21_3, gi_21_4, pf_21_4, gi_21_5, pf_21_5, gi_21_6, pf_21_6, gi_21_7, pf_21_7, io_34, gr_34_0, gi_34_1, pf_34_1, io_36, gi_36_0, pf_36_0, gi_36_1, pf_36_1, gr_36_2, gr_36_3, gr_36_4, gi_36_5, pf_36_5, gi_36_6, pf_36_6, gi_36_7, pf_36_7, gr_36_8, gr_36_9, gr_36_10, gr_36_11, gi_36_12, pf_36_12, gi_36_13, pf_36_13, gi_36_14, pf_36_14, gr_36_15, gr_36_16, gi_36_17, pf_36_17, gr_36_18, gr_36_19, gr_36_20, gr_36_21, gr_36_22, gi_36_23, pf_36_23, gr_36_24, gr_36_25, gi_36_26, pf_36_26, gr_36_27, gr_36_28, gr_36_29, gr_36_30, gi_36_31, pf_36_31, gr_36_32, gr_36_33, gi_36_34, pf_36_34, gi_36_35, pf_36_35, gr_36_36, al_3, al_4, al_5, al_6, al_7, al_8, al_9, al_10, al_12, al_13, al_14, al_16, al_17, al_19, al_20, al_22, al_23, al_24, al_26, al_27, al_28, al_29, al_30, al_31, al_32, al_33, al_35, al_37, al_38, al_39, al_40, al_41, al_42, al_43, al_44, al_45, al_46, al_47, al_48, al_49, al_50, al_51, al_52, al_53, al_54, al_55, al_56, al_57, al_58, al_59, ↓reduceIte, Option.bind_some, cI_some, cL_some, cV_some, rz_0, rz_1, r.i36_17, bI_t (n_win hs (show σ 0 3 < 2147483648 by omega)), if_neg (by decide : ¬ (1 : Int32) = 0), if_pos hy9]
      exact q3
  · rcases n_in y (n := σ 0 0) (by omega) with ⟨c, hc, hyc⟩ | h
    · obtain ⟨v, A1, A2, σ', q1, q2, q3, q4, q5⟩ := main (c + 1) (by omega) hyc
      have hin : 0 ≤ y ∧ y < nI (σ 0 0) := by rw [hyc]; exact n_win hc (by omega)
      refine ⟨v, A1, I, A2, I, σ', ?_, q2, ?_, q4, fun h => h, q5⟩
      · simp only [u_X7_set, M_X7_set, c_isStone, c_isCell, io_1, gr_1_0, gr_1_1, gr_1_2, gr_1_3, gr_1_4, gr_1_5, gi_1_6, pf_1_6, gi_1_7, pf_1_7, io_2, gr_2_0, gr_2_1, gr_2_2, gr_2_3, gr_2_4, gr_2_5, gr_2_6, gr_2_7, gi_2_8, pf_2_8, gi_2_9, pf_2_9, gi_2_10, pf_2_10, gi_2_11, pf_2_11, gi_2_12, pf_2_12, gi_2_13, pf_2_13, gi_2_14, pf_2_14, io_11, gr_11_0, gr_11_1, gr_11_2, io_15, gr_15_0, gr_15_1, gi_15_2, pf_15_2, gi_15_3, pf_15_3, gi_15_4, pf_15_4, gi_15_5, pf_15_5, io_18, gr_18_0, gr_18_1, gi_18_2, pf_18_2, io_21, gr_21_0, gr_21_1, gr_21_2, gr_21_3, gi_21_4, pf_21_4, gi_21_5, pf_21_5, gi_21_6, pf_21_6, gi_21_7, pf_21_7, io_34, gr_34_0, gi_34_1, pf_34_1, io_36, gi_36_0, pf_36_0, gi_36_1, pf_36_1, gr_36_2, gr_36_3, gr_36_4, gi_36_5, pf_36_5, gi_36_6, pf_36_6, gi_36_7, pf_36_7, gr_36_8, gr_36_9, gr_36_10, gr_36_11, gi_36_12, pf_36_12, gi_36_13, pf_36_13, gi_36_14, pf_36_14, gr_36_15, gr_36_16, gi_36_17, pf_36_17, gr_36_18, gr_36_19, gr_36_20, gr_36_21, gr_36_22, gi_36_23, pf_36_23, gr_36_24, gr_36_25, gi_36_26, pf_36_26, gr_36_27, gr_36_28, gr_36_29, gr_36_30, gi_36_31, pf_36_31, gr_36_32, gr_36_33, gi_36_34, pf_36_34, gi_36_35, pf_36_35, gr_36_36, al_3, al_4, al_5, al_6, al_7, al_8, al_9, al_10, al_12, al_13, al_14, al_16, al_17, al_19, al_20, al_22, al_23, al_24, al_26, al_27, al_28, al_29, al_30, al_31, al_32, al_33, al_35, al_37, al_38, al_39, al_40, al_41, al_42, al_43, al_44, al_45, al_46, al_47, al_48, al_49, al_50, al_51, al_52, al_53, al_54, al_55, al_56, al_57, al_58, al_59, ↓reduceIte, Option.bind_some, cI_some, cL_some, cV_some, rz_0, rz_1, r.i2_12, r.i2_8, bI_t hin, bI_t (n_win hs (show σ 0 3 < 2147483648 by omega)), if_neg (by decide : ¬ (1 : Int32) = 0), if_neg hy9]
        exact q1
      · simp only [u_X8_set, M_X8_set, m_isStone, m_isCell, io_1, gr_1_0, gr_1_1, gr_1_2, gr_1_3, gr_1_4, gr_1_5, gi_1_6, pf_1_6, gi_1_7, pf_1_7, io_2, gr_2_0, gr_2_1, gr_2_2, gr_2_3, gr_2_4, gr_2_5, gr_2_6, gr_2_7, gi_2_8, pf_2_8, gi_2_9, pf_2_9, gi_2_10, pf_2_10, gi_2_11, pf_2_11, gi_2_12, pf_2_12, gi_2_13, pf_2_13, gi_2_14, pf_2_14, io_11, gr_11_0, gr_11_1, gr_11_2, io_15, gr_15_0, gr_15_1, gi_15_2, pf_15_2, gi_15_3, pf_15_3, gi_15_4, pf_15_4, gi_15_5, pf_15_5, io_18, gr_18_0, gr_18_1, gi_18_2, pf_18_2, io_21, gr_21_0, gr_21_1, gr_21_2, gr_21_3, gi_21_4, pf_21_4, gi_21_5, pf_21_5, gi_21_6, pf_21_6, gi_21_7, pf_21_7, io_34, gr_34_0, gi_34_1, pf_34_1, io_36, gi_36_0, pf_36_0, gi_36_1, pf_36_1, gr_36_2, gr_36_3, gr_36_4, gi_36_5, pf_36_5, gi_36_6, pf_36_6, gi_36_7, pf_36_7, gr_36_8, gr_36_9, gr_36_10, gr_36_11, gi_36_12, pf_36_12, gi_36_13, pf_36_13, gi_36_14, pf_36_14, gr_36_15, gr_36_16, gi_36_17, pf_36_17, gr_36_18, gr_36_19, gr_36_20, gr_36_21, gr_36_22, gi_36_23, pf_36_23, gr_36_24, gr_36_25, gi_36_26, pf_36_26, gr_36_27, gr_36_28, gr_36_29, gr_36_30, gi_36_31, pf_36_31, gr_36_32, gr_36_33, gi_36_34, pf_36_34, gi_36_35, pf_36_35, gr_36_36, al_3, al_4, al_5, al_6, al_7, al_8, al_9, al_10, al_12, al_13, al_14, al_16, al_17, al_19, al_20, al_22, al_23, al_24, al_26, al_27, al_28, al_29, al_30, al_31, al_32, al_33, al_35, al_37, al_38, al_39, al_40, al_41, al_42, al_43, al_44, al_45, al_46, al_47, al_48, al_49, al_50, al_51, al_52, al_53, al_54, al_55, al_56, al_57, al_58, al_59, ↓reduceIte, Option.bind_some, cI_some, cL_some, cV_some, rz_0, rz_1, r.i36_17, r.i36_5, bI_t hin, bI_t (n_win hs (show σ 0 3 < 2147483648 by omega)), if_neg (by decide : ¬ (1 : Int32) = 0), if_neg hy9]
        exact q3
    · refine OP.q0 (v := -1) r ?_ ?_
      · simp only [u_X7_set, M_X7_set, c_isStone, c_isCell, io_1, gr_1_0, gr_1_1, gr_1_2, gr_1_3, gr_1_4, gr_1_5, gi_1_6, pf_1_6, gi_1_7, pf_1_7, io_2, gr_2_0, gr_2_1, gr_2_2, gr_2_3, gr_2_4, gr_2_5, gr_2_6, gr_2_7, gi_2_8, pf_2_8, gi_2_9, pf_2_9, gi_2_10, pf_2_10, gi_2_11, pf_2_11, gi_2_12, pf_2_12, gi_2_13, pf_2_13, gi_2_14, pf_2_14, io_11, gr_11_0, gr_11_1, gr_11_2, io_15, gr_15_0, gr_15_1, gi_15_2, pf_15_2, gi_15_3, pf_15_3, gi_15_4, pf_15_4, gi_15_5, pf_15_5, io_18, gr_18_0, gr_18_1, gi_18_2, pf_18_2, io_21, gr_21_0, gr_21_1, gr_21_2, gr_21_3, gi_21_4, pf_21_4, gi_21_5, pf_21_5, gi_21_6, pf_21_6, gi_21_7, pf_21_7, io_34, gr_34_0, gi_34_1, pf_34_1, io_36, gi_36_0, pf_36_0, gi_36_1, pf_36_1, gr_36_2, gr_36_3, gr_36_4, gi_36_5, pf_36_5, gi_36_6, pf_36_6, gi_36_7, pf_36_7, gr_36_8, gr_36_9, gr_36_10, gr_36_11, gi_36_12, pf_36_12, gi_36_13, pf_36_13, gi_36_14, pf_36_14, gr_36_15, gr_36_16, gi_36_17, pf_36_17, gr_36_18, gr_36_19, gr_36_20, gr_36_21, gr_36_22, gi_36_23, pf_36_23, gr_36_24, gr_36_25, gi_36_26, pf_36_26, gr_36_27, gr_36_28, gr_36_29, gr_36_30, gi_36_31, pf_36_31, gr_36_32, gr_36_33, gi_36_34, pf_36_34, gi_36_35, pf_36_35, gr_36_36, al_3, al_4, al_5, al_6, al_7, al_8, al_9, al_10, al_12, al_13, al_14, al_16, al_17, al_19, al_20, al_22, al_23, al_24, al_26, al_27, al_28, al_29, al_30, al_31, al_32, al_33, al_35, al_37, al_38, al_39, al_40, al_41, al_42, al_43, al_44, al_45, al_46, al_47, al_48, al_49, al_50, al_51, al_52, al_53, al_54, al_55, al_56, al_57, al_58, al_59, ↓reduceIte, Option.bind_some, cI_some, cL_some, cV_some, rz_0, rz_1, r.i2_12, r.i2_8, bI_f h, bI_t (n_win hs (show σ 0 3 < 2147483648 by omega)), if_neg (by decide : ¬ (1 : Int32) = 0), if_neg hy9]
      · simp only [u_X8_set, M_X8_set, m_isStone, m_isCell, io_1, gr_1_0, gr_1_1, gr_1_2, gr_1_3, gr_1_4, gr_1_5, gi_1_6, pf_1_6, gi_1_7, pf_1_7, io_2, gr_2_0, gr_2_1, gr_2_2, gr_2_3, gr_2_4, gr_2_5, gr_2_6, gr_2_7, gi_2_8, pf_2_8, gi_2_9, pf_2_9, gi_2_10, pf_2_10, gi_2_11, pf_2_11, gi_2_12, pf_2_12, gi_2_13, pf_2_13, gi_2_14, pf_2_14, io_11, gr_11_0, gr_11_1, gr_11_2, io_15, gr_15_0, gr_15_1, gi_15_2, pf_15_2, gi_15_3, pf_15_3, gi_15_4, pf_15_4, gi_15_5, pf_15_5, io_18, gr_18_0, gr_18_1, gi_18_2, pf_18_2, io_21, gr_21_0, gr_21_1, gr_21_2, gr_21_3, gi_21_4, pf_21_4, gi_21_5, pf_21_5, gi_21_6, pf_21_6, gi_21_7, pf_21_7, io_34, gr_34_0, gi_34_1, pf_34_1, io_36, gi_36_0, pf_36_0, gi_36_1, pf_36_1, gr_36_2, gr_36_3, gr_36_4, gi_36_5, pf_36_5, gi_36_6, pf_36_6, gi_36_7, pf_36_7, gr_36_8, gr_36_9, gr_36_10, gr_36_11, gi_36_12, pf_36_12, gi_36_13, pf_36_13, gi_36_14, pf_36_14, gr_36_15, gr_36_16, gi_36_17, pf_36_17, gr_36_18, gr_36_19, gr_36_20, gr_36_21, gr_36_22, gi_36_23, pf_36_23, gr_36_24, gr_36_25, gi_36_26, pf_36_26, gr_36_27, gr_36_28, gr_36_29, gr_36_30, gi_36_31, pf_36_31, gr_36_32, gr_36_33, gi_36_34, pf_36_34, gi_36_35, pf_36_35, gr_36_36, al_3, al_4, al_5, al_6, al_7, al_8, al_9, al_10, al_12, al_13, al_14, al_16, al_17, al_19, al_20, al_22, al_23, al_24, al_26, al_27, al_28, al_29, al_30, al_31, al_32, al_33, al_35, al_37, al_38, al_39, al_40, al_41, al_42, al_43, al_44, al_45, al_46, al_47, al_48, al_49, al_50, al_51, al_52, al_53, al_54, al_55, al_56, al_57, al_58, al_59, ↓reduceIte, Option.bind_some, cI_some, cL_some, cV_some, rz_0, rz_1, r.i36_17, r.i36_5, bI_f h, bI_t (n_win hs (show σ 0 3 < 2147483648 by omega)), if_neg (by decide : ¬ (1 : Int32) = 0), if_neg hy9]
end O5
