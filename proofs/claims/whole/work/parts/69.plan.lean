section PE
variable {σ : SG} {fu d f rds : Nat} {nd : Nat → Nat}
/-- the machine's state of a search at a place -/
def NodeC (σ : SG) (fu d f rds : Nat) (nd : Nat → Nat) (c k : Nat) : Prop :=
  ∀ (R : Nat → Nat) (u : Nat → Bool) (A : Nat → List Int32) (I : Nat → Nat → Int32) (o : Option (Nat → Nat)), PC σ d f rds nd A I → (∀ i, i < c → rd (A 25) i = ro (R i)) → Pt σ d f rds R c u → BSc σ o A I → (∀ b, o = some b → lx R c < lx b c) →
    ∃ A1 I1 o', U_X3_layFrom fu k [.ref 21, .ref 2, .int (nI c), .int (nI (bits (ubB σ u) (σ 0 3))), .int (nI (wr σ R c)), .int (nI (GsR σ d f rds R c) - 1)] (enc A I) = some (none, enc A1 I1) ∧ FrQ A I A1 I1 ∧ (∀ i, i < c → rd (A1 25) i = rd (A 25) i) ∧ BSc σ o' A1 I1 ∧ UpB σ (VU σ d f rds) o o' (Cm R c)
theorem node_loop (hf : 1000 ≤ fu) (hd : d ≤ 9) {c k : Nat} (hc : c < σ 0 0) (hN : NodeC σ fu d f rds nd (c + 1) k) {R : Nat → Nat} {u : Nat → Bool} (hp : Pt σ d f rds R c u) : ∀ j n (A : Nat → List Int32) (I : Nat → Nat → Int32) (o : Option (Nat → Nat)), j ≤ σ 0 3 → 2 * j < n → PC σ d f rds nd A I → (∀ i, i < c → rd (A 25) i = ro (R i)) → BSc σ o A I → (∀ b, o = some b → lx R c * 7 + j ≤ lx b (c + 1)) →
    ∃ A1 I1 o', F_X3_layFrom fu (U_X3_layFrom fu k) n 21 2 (nI c) (nI (bits (ubB σ u) (σ 0 3))) (nI (wr σ R c)) (nI (GsR σ d f rds R c) - 1) (nI j - 1) (enc A I) = some (none, enc A1 I1) ∧ FrQ A I A1 I1 ∧ (∀ i, i < c → rd (A1 25) i = rd (A 25) i) ∧ BSc σ o' A1 I1 ∧ UpB σ (VU σ d f rds) o o' (fun R' => Cm R c R' ∧ ∃ s, s < j ∧ R' c = s + 1) := by
  intro j
  induction j with
  | zero =>
    intro n A I o hj hn2 pc h25 hb hba
    have r := pc.1
    have hn := r.n7
    obtain ⟨n, rfl⟩ : ∃ i, n = i + 1 := ⟨n - 1, by omega⟩
    refine ⟨A, I, o, ?_, FrQ.rf A I, fun i hi => rfl, hb, UpB.rf fun R' hR' _ => ?_⟩
    · rw [F_X3_layFrom]
      dsimp only
      rw [if_pos (by decide)]
    · obtain ⟨s, hs, _⟩ := hR'.2
      omega
  | succ j ih =>
    intro n A I o hj hn2 pc h25 hb hba
    have r := pc.1
    have hn := r.n7
    have hm := r.m6
    have hjM : j < σ 0 3 := by omega
    have l25 : (A 25).length = 7 := r.len rfl
    have l27 : (A 27).length = 6 := r.len rfl
    obtain ⟨n, rfl⟩ : ∃ i, n = i + 2 := ⟨n - 2, by omega⟩
    have hbu : bits (ubB σ u) (σ 0 3) < 2147483648 := Nat.lt_trans (bits_ge (by omega)) (by decide)
    have tu : (bits (ubB σ u) (σ 0 3)).testBit j = ubB σ u j := by rw [bits_test, decide_eq_true hjM, Bool.true_and]
    have he := esN_le σ j
    have hGs := Gs_lt (σ := σ) (d := d) (f := f) (rds := rds) R c
    have hh := hold_lt r.1 hjM
    -- without this stone
    have skip : ∀ N, 2 * j < N → (∀ R', Cm R c R' → R' c = j + 1 → ¬ VU σ d f rds R') → ∃ A1 I1 o', F_X3_layFrom fu (U_X3_layFrom fu k) N 21 2 (nI c) (nI (bits (ubB σ u) (σ 0 3))) (nI (wr σ R c)) (nI (GsR σ d f rds R c) - 1) (nI j - 1) (enc A I) = some (none, enc A1 I1) ∧ FrQ A I A1 I1 ∧ (∀ i, i < c → rd (A1 25) i = rd (A 25) i) ∧ BSc σ o' A1 I1 ∧ UpB σ (VU σ d f rds) o o' (fun R' => Cm R c R' ∧ ∃ s, s < j + 1 ∧ R' c = s + 1) := fun N hN2 hno => by
      obtain ⟨A1, I1, o', a1, a2, a3, a4, a5⟩ := ih N A I o (by omega) hN2 pc h25 hb (fun b hb2 => by have := hba b hb2; omega)
      refine ⟨A1, I1, o', a1, a2, a3, a4, UpB.tr (UpB.rf (C := fun _ => False) (fun _ h _ => h.elim)) a5 (fun _ h => h.elim) (fun R' h => ?_) (fun R' h hV => ?_)⟩
      · obtain ⟨h1, s, hs, h2⟩ := h
        exact ⟨h1, s, by omega, h2⟩
      · obtain ⟨h1, s, hs, h2⟩ := h
        by_cases y : s = j
        · rw [y] at h2; exact absurd hV (hno R' h1 h2)
        · exact Or.inr ⟨h1, s, by omega, h2⟩
    have e27 : aI (enc A I) 27 (nI j) = some (nI (bits (syB σ f rds j) (σ 0 0))) := by rw [ai_27 A I (by omega) (by omega), pc.2.2.2.2.1 j hjM]
    have hb1 : bits (syB σ f rds j) (σ 0 0) < 2147483648 := Nat.lt_trans (bits_ge hn) (by decide)
    have t1 : (bits (syB σ f rds j) (σ 0 0)).testBit c = syB σ f rds j c := by rw [bits_test, decide_eq_true hc, Bool.true_and]
    have eto : nI (c + 1 + esN σ j + d) - 1 = nI (c + esN σ j + d) := by
      rw [show c + 1 + esN σ j + d = c + esN σ j + d + 1 by omega, n_sub1]
    have f1 := far_lt (GsR σ d f rds R c) (by omega) c (by omega) (esN σ j) (by omega)
    rw [F_X3_layFrom]
    simp -implicitDefEqProofs only [n_sub1, n_neg (show j < 2147483648 by omega), if_false, io_1, gr_1_0, gr_1_1, gr_1_2, gr_1_3, gr_1_4, gr_1_5, gi_1_6, pf_1_6, gi_1_7, pf_1_7, io_2, gr_2_0, gr_2_1, gr_2_2, gr_2_3, gr_2_4, gr_2_5, gr_2_6, gr_2_7, gi_2_8, pf_2_8, gi_2_9, pf_2_9, gi_2_10, pf_2_10, gi_2_11, pf_2_11, gi_2_12, pf_2_12, gi_2_13, pf_2_13, gi_2_14, pf_2_14, io_11, gr_11_0, gr_11_1, gr_11_2, io_15, gr_15_0, gr_15_1, gi_15_2, pf_15_2, gi_15_3, pf_15_3, gi_15_4, pf_15_4, gi_15_5, pf_15_5, io_18, gr_18_0, gr_18_1, gi_18_2, pf_18_2, io_21, gr_21_0, gr_21_1, gr_21_2, gr_21_3, gr_21_4, gi_21_5, pf_21_5, gi_21_6, pf_21_6, gi_21_7, pf_21_7, gi_21_8, pf_21_8, gi_21_9, pf_21_9, io_22, gr_22_0, gr_22_1, gi_22_2, pf_22_2, io_29, gr_29_0, gi_29_1, pf_29_1, io_31, gi_31_0, pf_31_0, gi_31_1, pf_31_1, gr_31_2, gr_31_3, gr_31_4, gi_31_5, pf_31_5, gi_31_6, pf_31_6, gi_31_7, pf_31_7, gr_31_8, gr_31_9, gr_31_10, gr_31_11, gi_31_12, pf_31_12, gi_31_13, pf_31_13, gi_31_14, pf_31_14, gr_31_15, gr_31_16, gi_31_17, pf_31_17, gr_31_18, gr_31_19, gr_31_20, gr_31_21, gr_31_22, gi_31_23, pf_31_23, gr_31_24, gr_31_25, gi_31_26, pf_31_26, gr_31_27, gr_31_28, gr_31_29, gr_31_30, gi_31_31, pf_31_31, gr_31_32, gr_31_33, gi_31_34, pf_31_34, gi_31_35, pf_31_35, gr_31_36, al_3, al_4, al_5, al_6, al_7, al_8, al_9, al_10, al_12, al_13, al_14, al_16, al_17, al_19, al_20, al_23, al_24, al_25, al_26, al_27, al_28, al_30, al_32, al_33, al_34, al_35, al_36, al_37, al_38, al_39, al_40, al_41, al_42, al_43, al_44, al_45, al_46, al_47, al_48, al_49, al_50, al_51, al_52, al_53, al_54, ↓reduceIte, Option.bind_some, cI_some, cL_some, cV_some, rz_0, rz_1, c_easeOf r hjM, c_hasn _ hbu (show j < 31 by omega), tu, bI_0, n_m1, e27, c_hasn _ hb1 (show c < 31 by omega), t1]
    by_cases z1 : ubB σ u j = true
    · rw [if_neg (fun w => w z1)]
      refine skip (n + 1) (by omega) (fun R' h1 h2 hV => ?_)
      unfold ubB at z1
      rw [Bool.or_eq_true] at z1
      have ho := hV.1.1
      rcases z1 with z1 | z1
      · have := (ho.1 c hc (by omega)).2
        rw [h2, Nat.add_sub_cancel] at this
        exact this (by simpa using z1)
      · obtain ⟨i, hi, hr⟩ := (hp.2.1 j).mp z1
        have hri := h1 i hi
        exact ho.2 i c hi hc (by rw [hri, hr]; exact Nat.succ_ne_zero j) (by rw [hri, hr, h2])
    rw [if_pos z1]
    by_cases y1 : syB σ f rds j c = true
    rotate_left
    · rw [if_pos y1]
      refine skip (n + 1) (by omega) (fun R' h1 h2 hV => y1 ?_)
      have := hV.2 c hc (by omega)
      rw [h2, Nat.add_sub_cancel] at this
      exact this
    rw [if_neg (fun w => w y1)]
    by_cases z2 : GsR σ d f rds R c + esN σ j < c + 1
    · rw [if_pos (f1.mpr z2)]
      refine skip (n + 1) (by omega) (fun R' h1 h2 hV => ?_)
      have q1c := (hV.1.near r.1).1 c hc
      have eC := Ss_x (σ := σ) (f := f) (rds := rds) hc h2
      have e1 : GsR σ d f rds R' c = GsR σ d f rds R c := Gs_congr c h1
      rw [eC.1, eC.2, e1] at q1c
      have := q1c y1
      omega
    rw [if_neg (fun w => z2 (f1.mp w))]
    -- with it
    have hu : u j = false := by
      unfold ubB at z1
      rw [Bool.or_eq_true] at z1
      exact Bool.eq_false_iff.mpr fun w => z1 (Or.inr w)
    have h100 : σ 8 j ≠ 100 := fun w => by
      unfold ubB at z1
      rw [Bool.or_eq_true] at z1
      exact z1 (Or.inl (by simp [w]))
    have hp1 := hp.stone hc hjM h100 hu y1 (Nat.le_of_not_lt z2)
    have ag : ∀ i, i < c → updN R c (j + 1) i = R i := fun i hi => updN_o R _ (by omega)
    have eC := Ss_x (σ := σ) (f := f) (rds := rds) hc (updN_c R c (j + 1))
    have g2 : GsR σ d f rds (updN R c (j + 1)) (c + 1) = c + 1 + esN σ j + d := by
      unfold GsR
      rw [gp, eC.1, eC.2, if_pos y1]
    have gw : wr σ (updN R c (j + 1)) (c + 1) = wr σ R c + wk σ j c := by
      rw [wr, updN_c, if_neg (Nat.succ_ne_zero j), Nat.add_sub_cancel, wr_congr c ag]
    have glx : lx (updN R c (j + 1)) (c + 1) = lx R c * 7 + j := by
      rw [lx, updN_c, lx_congr c ag]
      unfold dg
      rw [if_neg (Nat.succ_ne_zero j), Nat.add_sub_cancel]
    have s25 := si_25 A I (nI j) (show c < (A 25).length by omega) (show c < 2147483648 by omega)
    have hF : FrQ A I (uA A 25 ((A 25).set c (nI j))) I := (FrQ.rf A I).arr (k := 25) (xs := (A 25).set c (nI j)) (by omega) (by rw [List.length_set])
    have v25 : ∀ i, rd (uA A 25 ((A 25).set c (nI j)) 25) i = if i = c then nI j else rd (A 25) i := fun i => by rw [uA_s, rd_set _ _ (by omega)]
    obtain ⟨A1, I1, o1, c1, c2, c3, c4, c5⟩ := hN (updN R c (j + 1)) _ _ I o (hF.pc pc) (fun i hi => by
      rw [v25]
      by_cases y : i = c
      · rw [if_pos y, y, updN_c]; rfl
      · rw [if_neg y, ag i (by omega)]; exact h25 i (by omega)) hp1 (hb.cg (uA_n _ _ _ (by decide)) rfl rfl) (fun b hb2 => by rw [glx]; have := hba b hb2; omega)
    have hF1 := hF.tr c2
    have p25 : ∀ i, i < c → rd (A1 25) i = rd (A 25) i := fun i hi => by rw [c3 i (by omega), v25, if_neg (by omega)]
    -- what it has found lies behind the next stones
    have hba1 : ∀ b, o1 = some b → lx R c * 7 + j ≤ lx b (c + 1) := fun b hb2 => by
      rcases c5.1 with q | ⟨b', q1, q2, q3⟩
      · rw [q] at hb2; have := hba b hb2; omega
      · rw [hb2] at q1
        cases q1
        have e : lx b (c + 1) = lx (updN R c (j + 1)) (c + 1) := lx_congr _ q2
        rw [e, glx]
        exact Nat.le_refl _
    obtain ⟨A2, I2, o2, a1, a2, a3, a4, a5⟩ := ih (n + 1) A1 I1 o1 (by omega) (by omega) (hF1.pc pc) (fun i hi => by rw [p25 i hi]; exact h25 i hi) c4 hba1
    have ub1 : nI (bits (ubB σ u) (σ 0 3)) ||| ((1 : Int32) <<< (nI j &&& 31)) = nI (bits (ubB σ (fun t => u t || decide (t = j))) (σ 0 3)) := by
      rw [sh_1 (by omega), n_or, bits_one _ hjM]
      congr 1
      exact bits_congr _ fun i _ => by unfold ubB; rw [Bool.or_assoc]
    rw [gw, g2, eto] at c1
    refine ⟨A2, I2, o2, ?_, hF1.tr a2, fun i hi => by rw [a3 i hi, p25 i hi], a4, UpB.tr c5 a5 (fun R' h => ?_) (fun R' h => ?_) (fun R' h hV => ?_)⟩
    · have p27 : I 21 7 = nI d := pc.2.1
      simp -implicitDefEqProofs only [io_1, gr_1_0, gr_1_1, gr_1_2, gr_1_3, gr_1_4, gr_1_5, gi_1_6, pf_1_6, gi_1_7, pf_1_7, io_2, gr_2_0, gr_2_1, gr_2_2, gr_2_3, gr_2_4, gr_2_5, gr_2_6, gr_2_7, gi_2_8, pf_2_8, gi_2_9, pf_2_9, gi_2_10, pf_2_10, gi_2_11, pf_2_11, gi_2_12, pf_2_12, gi_2_13, pf_2_13, gi_2_14, pf_2_14, io_11, gr_11_0, gr_11_1, gr_11_2, io_15, gr_15_0, gr_15_1, gi_15_2, pf_15_2, gi_15_3, pf_15_3, gi_15_4, pf_15_4, gi_15_5, pf_15_5, io_18, gr_18_0, gr_18_1, gi_18_2, pf_18_2, io_21, gr_21_0, gr_21_1, gr_21_2, gr_21_3, gr_21_4, gi_21_5, pf_21_5, gi_21_6, pf_21_6, gi_21_7, pf_21_7, gi_21_8, pf_21_8, gi_21_9, pf_21_9, io_22, gr_22_0, gr_22_1, gi_22_2, pf_22_2, io_29, gr_29_0, gi_29_1, pf_29_1, io_31, gi_31_0, pf_31_0, gi_31_1, pf_31_1, gr_31_2, gr_31_3, gr_31_4, gi_31_5, pf_31_5, gi_31_6, pf_31_6, gi_31_7, pf_31_7, gr_31_8, gr_31_9, gr_31_10, gr_31_11, gi_31_12, pf_31_12, gi_31_13, pf_31_13, gi_31_14, pf_31_14, gr_31_15, gr_31_16, gi_31_17, pf_31_17, gr_31_18, gr_31_19, gr_31_20, gr_31_21, gr_31_22, gi_31_23, pf_31_23, gr_31_24, gr_31_25, gi_31_26, pf_31_26, gr_31_27, gr_31_28, gr_31_29, gr_31_30, gi_31_31, pf_31_31, gr_31_32, gr_31_33, gi_31_34, pf_31_34, gi_31_35, pf_31_35, gr_31_36, al_3, al_4, al_5, al_6, al_7, al_8, al_9, al_10, al_12, al_13, al_14, al_16, al_17, al_19, al_20, al_23, al_24, al_25, al_26, al_27, al_28, al_30, al_32, al_33, al_34, al_35, al_36, al_37, al_38, al_39, al_40, al_41, al_42, al_43, al_44, al_45, al_46, al_47, al_48, al_49, al_50, al_51, al_52, al_53, al_54, ↓reduceIte, Option.bind_some, cI_some, cL_some, cV_some, rz_0, rz_1, s25, c_workOf (hF.Fr.R r) hjM (show c < 1000 by omega), p27, ub1, nI_add, nI_1, c1, n_m1]
      exact a1
    · refine ⟨fun i hi => by rw [h i (by omega), ag i hi], j, by omega, ?_⟩
      rw [h c (by omega), updN_c]
    · obtain ⟨h1, s, hs, h2⟩ := h
      exact ⟨h1, s, by omega, h2⟩
    · obtain ⟨h1, s, hs, h2⟩ := h
      by_cases y : s = j
      · refine Or.inl fun i hi => ?_
        by_cases q : i = c
        · rw [q, updN_c, h2, y]
        · rw [ag i (by omega), h1 i (by omega)]
      · exact Or.inr ⟨h1, s, by omega, h2⟩
theorem node_step (hf : 1000 ≤ fu) (hd : d ≤ 9) (hf9 : f ≤ 9) (hrd : rds ≤ 30) (hNd : NDP σ d f rds nd) {c k : Nat} (hcN : c ≤ σ 0 0) (hN : c < σ 0 0 → NodeC σ fu d f rds nd (c + 1) k) : NodeC σ fu d f rds nd c (k + 1) := by
  intro R u A I o pc h25 hp hb hba
  have r := pc.1
  have hw := r.1
  have hn := r.n7
  have hm := r.m6
  have l28 : (A 28).length = 8 := r.len rfl
  have hGs := Gs_lt (σ := σ) (d := d) (f := f) (rds := rds) R c
  obtain ⟨v1, v2⟩ := pc.2.2.2.2.2 c hcN
  have e28 : aI (enc A I) 28 (nI c) = some (nI (nd c) - 1) := by rw [ai_28 A I (by omega) (by omega), v1]
  have cb := cmpB (GsR σ d f rds R c) (by omega) (nd c) (by omega)
  have hwr : wr σ R c ≤ 3024 := wr_lt hw hcN hp.1
  have hu := hp.u100
  have ci := c_isWorse (fu := fu) r hb hu hwr
  rw [hp.2.2.1] at ci
  have none' : (∀ R', Cm R c R' → VU σ d f rds R' → ∃ b', o = some b' ∧ cdR σ b' ≤ cdR σ R') → U_X3_layFrom fu (k + 1) [.ref 21, .ref 2, .int (nI c), .int (nI (bits (ubB σ u) (σ 0 3))), .int (nI (wr σ R c)), .int (nI (GsR σ d f rds R c) - 1)] (enc A I) = some (none, enc A I) →
      ∃ A1 I1 o', U_X3_layFrom fu (k + 1) [.ref 21, .ref 2, .int (nI c), .int (nI (bits (ubB σ u) (σ 0 3))), .int (nI (wr σ R c)), .int (nI (GsR σ d f rds R c) - 1)] (enc A I) = some (none, enc A1 I1) ∧ FrQ A I A1 I1 ∧ (∀ i, i < c → rd (A1 25) i = rd (A 25) i) ∧ BSc σ o' A1 I1 ∧ UpB σ (VU σ d f rds) o o' (Cm R c) := fun h1 h2 =>
    ⟨A, I, o, h2, FrQ.rf A I, fun _ _ => rfl, hb, UpB.rf h1⟩
  by_cases z1 : GsR σ d f rds R c < nd c
  · refine none' (fun R' h1 hV => ?_) ?_
    · obtain ⟨q1, q2⟩ := hV.1.near hw
      have := nd_le hNd hV.1.1 q1 q2 (σ 0 0 - c) c (by omega)
      have e : GsR σ d f rds R' c = GsR σ d f rds R c := Gs_congr c h1
      unfold GsR at e z1
      omega
    · simp -implicitDefEqProofs only [u_X3_layFrom, M_X3_layFrom, io_1, gr_1_0, gr_1_1, gr_1_2, gr_1_3, gr_1_4, gr_1_5, gi_1_6, pf_1_6, gi_1_7, pf_1_7, io_2, gr_2_0, gr_2_1, gr_2_2, gr_2_3, gr_2_4, gr_2_5, gr_2_6, gr_2_7, gi_2_8, pf_2_8, gi_2_9, pf_2_9, gi_2_10, pf_2_10, gi_2_11, pf_2_11, gi_2_12, pf_2_12, gi_2_13, pf_2_13, gi_2_14, pf_2_14, io_11, gr_11_0, gr_11_1, gr_11_2, io_15, gr_15_0, gr_15_1, gi_15_2, pf_15_2, gi_15_3, pf_15_3, gi_15_4, pf_15_4, gi_15_5, pf_15_5, io_18, gr_18_0, gr_18_1, gi_18_2, pf_18_2, io_21, gr_21_0, gr_21_1, gr_21_2, gr_21_3, gr_21_4, gi_21_5, pf_21_5, gi_21_6, pf_21_6, gi_21_7, pf_21_7, gi_21_8, pf_21_8, gi_21_9, pf_21_9, io_22, gr_22_0, gr_22_1, gi_22_2, pf_22_2, io_29, gr_29_0, gi_29_1, pf_29_1, io_31, gi_31_0, pf_31_0, gi_31_1, pf_31_1, gr_31_2, gr_31_3, gr_31_4, gi_31_5, pf_31_5, gi_31_6, pf_31_6, gi_31_7, pf_31_7, gr_31_8, gr_31_9, gr_31_10, gr_31_11, gi_31_12, pf_31_12, gi_31_13, pf_31_13, gi_31_14, pf_31_14, gr_31_15, gr_31_16, gi_31_17, pf_31_17, gr_31_18, gr_31_19, gr_31_20, gr_31_21, gr_31_22, gi_31_23, pf_31_23, gr_31_24, gr_31_25, gi_31_26, pf_31_26, gr_31_27, gr_31_28, gr_31_29, gr_31_30, gi_31_31, pf_31_31, gr_31_32, gr_31_33, gi_31_34, pf_31_34, gi_31_35, pf_31_35, gr_31_36, al_3, al_4, al_5, al_6, al_7, al_8, al_9, al_10, al_12, al_13, al_14, al_16, al_17, al_19, al_20, al_23, al_24, al_25, al_26, al_27, al_28, al_30, al_32, al_33, al_34, al_35, al_36, al_37, al_38, al_39, al_40, al_41, al_42, al_43, al_44, al_45, al_46, al_47, al_48, al_49, al_50, al_51, al_52, al_53, al_54, ↓reduceIte, Option.bind_some, cI_some, cL_some, cV_some, rz_0, rz_1, e28]
      rw [if_pos (cb.mpr z1)]
  by_cases z2 : wse σ o (wr σ R c) (mr R c) = true
  · refine none' (fun R' h1 hV => ?_) ?_
    · unfold wse at z2
      cases o with
      | none => cases z2
      | some b =>
        rw [decide_eq_true_iff] at z2
        refine ⟨b, rfl, cd_worse hw hb.1 ?_⟩
        have m1 := wr_mono (σ := σ) R' c (σ 0 0 - c)
        rw [show c + (σ 0 0 - c) = σ 0 0 by omega, wr_congr c h1, mr_congr c h1] at m1
        omega
    · simp -implicitDefEqProofs only [u_X3_layFrom, M_X3_layFrom, io_1, gr_1_0, gr_1_1, gr_1_2, gr_1_3, gr_1_4, gr_1_5, gi_1_6, pf_1_6, gi_1_7, pf_1_7, io_2, gr_2_0, gr_2_1, gr_2_2, gr_2_3, gr_2_4, gr_2_5, gr_2_6, gr_2_7, gi_2_8, pf_2_8, gi_2_9, pf_2_9, gi_2_10, pf_2_10, gi_2_11, pf_2_11, gi_2_12, pf_2_12, gi_2_13, pf_2_13, gi_2_14, pf_2_14, io_11, gr_11_0, gr_11_1, gr_11_2, io_15, gr_15_0, gr_15_1, gi_15_2, pf_15_2, gi_15_3, pf_15_3, gi_15_4, pf_15_4, gi_15_5, pf_15_5, io_18, gr_18_0, gr_18_1, gi_18_2, pf_18_2, io_21, gr_21_0, gr_21_1, gr_21_2, gr_21_3, gr_21_4, gi_21_5, pf_21_5, gi_21_6, pf_21_6, gi_21_7, pf_21_7, gi_21_8, pf_21_8, gi_21_9, pf_21_9, io_22, gr_22_0, gr_22_1, gi_22_2, pf_22_2, io_29, gr_29_0, gi_29_1, pf_29_1, io_31, gi_31_0, pf_31_0, gi_31_1, pf_31_1, gr_31_2, gr_31_3, gr_31_4, gi_31_5, pf_31_5, gi_31_6, pf_31_6, gi_31_7, pf_31_7, gr_31_8, gr_31_9, gr_31_10, gr_31_11, gi_31_12, pf_31_12, gi_31_13, pf_31_13, gi_31_14, pf_31_14, gr_31_15, gr_31_16, gi_31_17, pf_31_17, gr_31_18, gr_31_19, gr_31_20, gr_31_21, gr_31_22, gi_31_23, pf_31_23, gr_31_24, gr_31_25, gi_31_26, pf_31_26, gr_31_27, gr_31_28, gr_31_29, gr_31_30, gi_31_31, pf_31_31, gr_31_32, gr_31_33, gi_31_34, pf_31_34, gi_31_35, pf_31_35, gr_31_36, al_3, al_4, al_5, al_6, al_7, al_8, al_9, al_10, al_12, al_13, al_14, al_16, al_17, al_19, al_20, al_23, al_24, al_25, al_26, al_27, al_28, al_30, al_32, al_33, al_34, al_35, al_36, al_37, al_38, al_39, al_40, al_41, al_42, al_43, al_44, al_45, al_46, al_47, al_48, al_49, al_50, al_51, al_52, al_53, al_54, ↓reduceIte, Option.bind_some, cI_some, cL_some, cV_some, rz_0, rz_1, e28, ci, bI_t z2]
      rw [if_neg (fun w => z1 (cb.mp w)), if_neg (by decide)]
  have hhead : ∀ x y : Option XO, (if nI (GsR σ d f rds R c) - 1 < nI (nd c) - 1 then x else (if bI (wse σ o (wr σ R c) (mr R c) = true) = 0 then y else x)) = y := fun x y => by
    rw [if_neg (fun w => z1 (cb.mp w)), if_pos (bI_f z2)]
  by_cases hc : c < σ 0 0
  · -- a cell more
    have hp0 := hp.none hc
    have ag : ∀ i, i < c → updN R c 0 i = R i := fun i hi => updN_o R 0 (by omega)
    have l25 : (A 25).length = 7 := r.len rfl
    have s25 := si_25 A I (-9) (show c < (A 25).length by omega) (show c < 2147483648 by omega)
    have hF : FrQ A I (uA A 25 ((A 25).set c (-9))) I := (FrQ.rf A I).arr (k := 25) (xs := (A 25).set c (-9)) (by omega) (by rw [List.length_set])
    have v25 : ∀ i, rd (uA A 25 ((A 25).set c (-9)) 25) i = if i = c then -9 else rd (A 25) i := fun i => by rw [uA_s, rd_set _ _ (by omega)]
    have g2 : GsR σ d f rds (updN R c 0) (c + 1) = GsR σ d f rds R c := by
      unfold GsR
      rw [gp, if_neg]
      · exact Gs_congr c ag
      · rw [Ss_c hc, updN_c, Bool.and_eq_true, decide_eq_true_iff]
        exact fun w => w.1 rfl
    have gw : wr σ (updN R c 0) (c + 1) = wr σ R c := by rw [wr, updN_c, if_pos rfl, Nat.add_zero, wr_congr c ag]
    have glx : lx (updN R c 0) (c + 1) = lx R c * 7 + 6 := by rw [lx, updN_c, lx_congr c ag]; rfl
    obtain ⟨A1, I1, o1, c1, c2, c3, c4, c5⟩ := hN hc (updN R c 0) u _ I o (hF.pc pc) (fun i hi => by
      rw [v25]
      by_cases y : i = c
      · rw [if_pos y, y, updN_c]; rfl
      · rw [if_neg y, ag i (by omega)]; exact h25 i (by omega)) hp0 (hb.cg (uA_n _ _ _ (by decide)) rfl rfl) (fun b hb2 => by
      rw [glx, lx]
      have := hba b hb2
      omega)
    rw [g2, gw] at c1
    have hF1 := hF.tr c2
    have p25 : ∀ i, i < c → rd (A1 25) i = rd (A 25) i := fun i hi => by rw [c3 i (by omega), v25, if_neg (by omega)]
    obtain ⟨A2, I2, o2, a1, a2, a3, a4, a5⟩ := node_loop hf hd hc (hN hc) hp (σ 0 3) fu A1 I1 o1 (Nat.le_refl _) (by omega) (hF1.pc pc) (fun i hi => by rw [p25 i hi]; exact h25 i hi) c4 (fun b hb2 => by
      rcases c5.1 with q | ⟨b', q1, q2, q3⟩
      · rw [q] at hb2
        have := hba b hb2
        rw [lx]
        omega
      · rw [hb2] at q1
        cases q1
        have e : lx b (c + 1) = lx (updN R c 0) (c + 1) := lx_congr _ q2
        rw [e, glx]
        omega)
    have r1 := (hF1.pc pc).1
    refine ⟨A2, I2, o2, ?_, hF1.tr a2, fun i hi => by rw [a3 i hi, p25 i hi], a4, UpB.tr c5 a5 (fun R' h i hi => by rw [h i (by omega), ag i hi]) (fun R' h => h.1) (fun R' h hV => ?_)⟩
    · simp -implicitDefEqProofs only [u_X3_layFrom, M_X3_layFrom, io_1, gr_1_0, gr_1_1, gr_1_2, gr_1_3, gr_1_4, gr_1_5, gi_1_6, pf_1_6, gi_1_7, pf_1_7, io_2, gr_2_0, gr_2_1, gr_2_2, gr_2_3, gr_2_4, gr_2_5, gr_2_6, gr_2_7, gi_2_8, pf_2_8, gi_2_9, pf_2_9, gi_2_10, pf_2_10, gi_2_11, pf_2_11, gi_2_12, pf_2_12, gi_2_13, pf_2_13, gi_2_14, pf_2_14, io_11, gr_11_0, gr_11_1, gr_11_2, io_15, gr_15_0, gr_15_1, gi_15_2, pf_15_2, gi_15_3, pf_15_3, gi_15_4, pf_15_4, gi_15_5, pf_15_5, io_18, gr_18_0, gr_18_1, gi_18_2, pf_18_2, io_21, gr_21_0, gr_21_1, gr_21_2, gr_21_3, gr_21_4, gi_21_5, pf_21_5, gi_21_6, pf_21_6, gi_21_7, pf_21_7, gi_21_8, pf_21_8, gi_21_9, pf_21_9, io_22, gr_22_0, gr_22_1, gi_22_2, pf_22_2, io_29, gr_29_0, gi_29_1, pf_29_1, io_31, gi_31_0, pf_31_0, gi_31_1, pf_31_1, gr_31_2, gr_31_3, gr_31_4, gi_31_5, pf_31_5, gi_31_6, pf_31_6, gi_31_7, pf_31_7, gr_31_8, gr_31_9, gr_31_10, gr_31_11, gi_31_12, pf_31_12, gi_31_13, pf_31_13, gi_31_14, pf_31_14, gr_31_15, gr_31_16, gi_31_17, pf_31_17, gr_31_18, gr_31_19, gr_31_20, gr_31_21, gr_31_22, gi_31_23, pf_31_23, gr_31_24, gr_31_25, gi_31_26, pf_31_26, gr_31_27, gr_31_28, gr_31_29, gr_31_30, gi_31_31, pf_31_31, gr_31_32, gr_31_33, gi_31_34, pf_31_34, gi_31_35, pf_31_35, gr_31_36, al_3, al_4, al_5, al_6, al_7, al_8, al_9, al_10, al_12, al_13, al_14, al_16, al_17, al_19, al_20, al_23, al_24, al_25, al_26, al_27, al_28, al_30, al_32, al_33, al_34, al_35, al_36, al_37, al_38, al_39, al_40, al_41, al_42, al_43, al_44, al_45, al_46, al_47, al_48, al_49, al_50, al_51, al_52, al_53, al_54, ↓reduceIte, Option.bind_some, cI_some, cL_some, cV_some, rz_0, rz_1, e28, ci, hhead, r.i2_8, n_lt (show c < 2147483648 by omega) (show σ 0 0 < 2147483648 by omega), s25, nI_1, c1, r1.i2_12]
      rw [if_pos hc]
      exact a1
    · by_cases y : R' c = 0
      · refine Or.inl fun i hi => ?_
        by_cases q : i = c
        · rw [q, updN_c, y]
        · rw [ag i (by omega), h i (by omega)]
      · have := (hV.1.1.1 c hc y).1
        exact Or.inr ⟨h, R' c - 1, this, by omega⟩
  · -- the row is whole
    have e : c = σ 0 0 := by omega
    subst e
    have q2 : σ 0 0 + 1 ≤ GsR σ d f rds R (σ 0 0) := by rw [hNd.1] at z1; omega
    have hst : σ 0 0 + 1 ≤ grN (σ 0 0) (Ss σ f rds R) (ez σ R) d := grN_gp.mpr ⟨hp.2.2.2.1, q2⟩
    have hX : X σ R (σ 0 2) d := stay_dry hst
    obtain ⟨A1, I1, o1, t1, t2, t3, t4, t5⟩ := c_take (fu := fu) hf pc hd hf9 hrd h25 hp.1 hp.2.2.2.2 hb hu hp.2.2.1
    refine ⟨A1, I1, o1, ?_, t2, fun i _ => by rw [t3], t4, ?_⟩
    · simp -implicitDefEqProofs only [u_X3_layFrom, M_X3_layFrom, io_1, gr_1_0, gr_1_1, gr_1_2, gr_1_3, gr_1_4, gr_1_5, gi_1_6, pf_1_6, gi_1_7, pf_1_7, io_2, gr_2_0, gr_2_1, gr_2_2, gr_2_3, gr_2_4, gr_2_5, gr_2_6, gr_2_7, gi_2_8, pf_2_8, gi_2_9, pf_2_9, gi_2_10, pf_2_10, gi_2_11, pf_2_11, gi_2_12, pf_2_12, gi_2_13, pf_2_13, gi_2_14, pf_2_14, io_11, gr_11_0, gr_11_1, gr_11_2, io_15, gr_15_0, gr_15_1, gi_15_2, pf_15_2, gi_15_3, pf_15_3, gi_15_4, pf_15_4, gi_15_5, pf_15_5, io_18, gr_18_0, gr_18_1, gi_18_2, pf_18_2, io_21, gr_21_0, gr_21_1, gr_21_2, gr_21_3, gr_21_4, gi_21_5, pf_21_5, gi_21_6, pf_21_6, gi_21_7, pf_21_7, gi_21_8, pf_21_8, gi_21_9, pf_21_9, io_22, gr_22_0, gr_22_1, gi_22_2, pf_22_2, io_29, gr_29_0, gi_29_1, pf_29_1, io_31, gi_31_0, pf_31_0, gi_31_1, pf_31_1, gr_31_2, gr_31_3, gr_31_4, gi_31_5, pf_31_5, gi_31_6, pf_31_6, gi_31_7, pf_31_7, gr_31_8, gr_31_9, gr_31_10, gr_31_11, gi_31_12, pf_31_12, gi_31_13, pf_31_13, gi_31_14, pf_31_14, gr_31_15, gr_31_16, gi_31_17, pf_31_17, gr_31_18, gr_31_19, gr_31_20, gr_31_21, gr_31_22, gi_31_23, pf_31_23, gr_31_24, gr_31_25, gi_31_26, pf_31_26, gr_31_27, gr_31_28, gr_31_29, gr_31_30, gi_31_31, pf_31_31, gr_31_32, gr_31_33, gi_31_34, pf_31_34, gi_31_35, pf_31_35, gr_31_36, al_3, al_4, al_5, al_6, al_7, al_8, al_9, al_10, al_12, al_13, al_14, al_16, al_17, al_19, al_20, al_23, al_24, al_25, al_26, al_27, al_28, al_30, al_32, al_33, al_34, al_35, al_36, al_37, al_38, al_39, al_40, al_41, al_42, al_43, al_44, al_45, al_46, al_47, al_48, al_49, al_50, al_51, al_52, al_53, al_54, ↓reduceIte, Option.bind_some, cI_some, cL_some, cV_some, rz_0, rz_1, e28, ci, hhead, r.i2_8, n_lt (show σ 0 0 < 2147483648 by omega) (show σ 0 0 < 2147483648 by omega), t1]
      rw [if_neg (Nat.lt_irrefl _)]
    · rcases t5 with ⟨h1, h2⟩ | ⟨h1, h2⟩
      · rw [h1]
        refine ⟨Or.inr ⟨R, rfl, fun _ _ => rfl, ⟨hp.1, hX, h2⟩, hp.2.2.2.2⟩, fun b hb2 => ⟨R, rfl, ?_⟩, fun R' hR' _ => ⟨R, rfl, ?_⟩⟩
        · refine cd_better ?_ hn (hba b hb2)
          unfold wse at z2
          rw [hb2] at z2
          intro w
          exact z2 (decide_eq_true w)
        · rw [cd_cg (fun i hi => (hR' i hi).symm)]
          exact Nat.le_refl _
      · rw [h1]
        refine UpB.rf fun R' hR' hV => absurd ?_ h2
        rcases hV.1.2.2 with y | y
        · exact Or.inl y
        · exact Or.inr (X_cg (Lb_cg hR') y)
theorem node_all (hf : 1000 ≤ fu) (hd : d ≤ 9) (hf9 : f ≤ 9) (hrd : rds ≤ 30) (hNd : NDP σ d f rds nd) : ∀ m c k, c + m = σ 0 0 → m < k → NodeC σ fu d f rds nd c k := by
  intro m
  induction m with
  | zero =>
    intro c k hc hk
    obtain ⟨k, rfl⟩ : ∃ i, k = i + 1 := ⟨k - 1, by omega⟩
    exact node_step hf hd hf9 hrd hNd (by omega) (fun h => by omega)
  | succ m ih =>
    intro c k hc hk
    obtain ⟨k, rfl⟩ : ∃ i, k = i + 1 := ⟨k - 1, by omega⟩
    exact node_step hf hd hf9 hrd hNd (by omega) (fun _ => ih (c + 1) k (by omega) (by omega))
end PE
