section PF
variable {σ : SG} {A : Nat → List Int32} {I : Nat → Nat → Int32} {fu d f rds : Nat} {nd : Nat → Nat}
theorem c_fill25 (hf : 1000 ≤ fu) (h5 : (A 25).length = 7) : ∃ xs, xs.length = 7 ∧ U_J7_fill_53178 fu [.ref 25, .int (-9)] (enc A I) = some (none, enc (uA A 25 xs) I) := by
  have loop : ∀ d c n xs, c + d = 7 → d < n → xs.length = 7 → ∃ ys, ys.length = 7 ∧ F_J7_fill_53178 fu n 25 (-9) (nI c) (nI 7) (enc (uA A 25 xs) I) = some (none, enc (uA A 25 ys) I) := by
    intro d
    induction d with
    | zero =>
      intro c n xs hc hn hl
      obtain ⟨n, rfl⟩ : ∃ j, n = j + 1 := ⟨n - 1, by omega⟩
      refine ⟨xs, hl, ?_⟩
      simp only [F_J7_fill_53178, n_lt (show c < 2147483648 by omega) (show 7 < 2147483648 by omega)]
      rw [if_neg (by omega)]
    | succ d ih =>
      intro c n xs hc hn hl
      obtain ⟨n, rfl⟩ : ∃ j, n = j + 1 := ⟨n - 1, by omega⟩
      have hlc : c < xs.length := by omega
      obtain ⟨ys, g1, g3⟩ := ih (c + 1) n (xs.set c (-9)) (by omega) (by omega) (by rw [List.length_set]; exact hl)
      refine ⟨ys, g1, ?_⟩
      simp only [F_J7_fill_53178, n_lt (show c < 2147483648 by omega) (show 7 < 2147483648 by omega), nI_1]
      rw [if_pos (by omega), si_25 _ _ _ (by rw [uA_s]; exact hlc) (by omega), uA_s, uA_uA]
      exact g3
  obtain ⟨ys, g1, g3⟩ := loop 7 0 fu (A 25) (by omega) (by omega) h5
  rw [uA_self] at g3
  refine ⟨ys, g1, ?_⟩
  have hal : aL (enc A I) 25 = some (nI 7) := by rw [al_25, h5]; rfl
  simp only [u_J7_fill_53178, M_J7_fill_53178, hal, Option.bind_some]
  exact g3
theorem Pt.zero (σ : SG) (d f rds : Nat) : Pt σ d f rds (fun _ => 0) 0 (fun _ => false) :=
  ⟨⟨fun i hi => by omega, fun i j _ hj => by omega⟩, fun s => ⟨fun h => (by cases h), fun ⟨i, hi, _⟩ => by omega⟩, cnt_z _ fun _ _ => rfl, fun i hi => by omega, fun i hi => by omega⟩
theorem c_findL (hf : 1000 ≤ fu) (hd : d ≤ 9) (hf9 : f ≤ 9) (hrd : rds ≤ 30) (h8 : I 21 7 = nI d) (h9 : I 21 8 = nI f) (h10 : I 21 9 = nI rds) (h6 : I 21 5 = nI 1000000) (h7 : I 21 6 = nI 0) : ∀ m s n (A : Nat → List Int32), s + m = σ 0 3 → m < n → RR σ A I → (∀ t, t < s → rd (A 27) t = nI (bits (syB σ f rds t) (σ 0 0))) →
    ∃ A1 I1 o, F_X3_find fu n 21 2 (nI s) (enc A I) = some (none, enc A1 I1) ∧ Fr A I A1 I1 ∧ BSc σ o A1 I1 ∧ UpB σ (VU σ d f rds) none o (fun _ => True) := by
  intro m
  induction m with
  | zero =>
    intro s n A hs hn2 r h27
    have hn := r.n7
    have hm := r.m6
    obtain ⟨n, rfl⟩ : ∃ j, n = j + 1 := ⟨n - 1, by omega⟩
    have e : s = σ 0 3 := by omega
    subst e
    obtain ⟨xs, nd, g1, g2, g3, g4⟩ := c_lookAhead (fu := fu) (f := f) (rds := rds) hf r hd h8 h27
    have hF : Fr A I (uA A 28 xs) I := Fr.arr (Fr.rf A I) rfl (by rw [g2]; exact (r.len (k := 28) rfl).symm)
    have r1 := hF.R r
    have pc : PC σ d f rds nd (uA A 28 xs) I := ⟨r1, h8, h9, h10, fun t ht => by rw [uA_n _ _ _ (by decide)]; exact h27 t ht, fun c hc => by rw [uA_s]; exact g3 c hc⟩
    have node := node_all (σ := σ) (nd := nd) hf hd hf9 hrd g4 (σ 0 0) 0 10 (by omega) (by omega)
    obtain ⟨A1, I1, o, a1, a2, a3, a4, a5⟩ := node (fun _ => 0) (fun _ => false) (uA A 28 xs) I none pc (fun i hi => by omega) (Pt.zero σ d f rds) ⟨h6, h7⟩ (fun b hb => by cases hb)
    have eu : bits (ubB σ (fun _ => false)) (σ 0 3) = bits (fun s => σ 8 s == 100) (σ 0 3) := bits_congr _ fun i _ => by unfold ubB; rw [Bool.or_false]
    have eg2 : GsR σ d f rds (fun _ => 0) 0 = d := rfl
    have ew : wr σ (fun _ => 0) 0 = 0 := rfl
    rw [eu, eg2, ew, show nI 0 = (0 : Int32) from rfl] at a1
    refine ⟨A1, I1, o, ?_, hF.tr a2.Fr, a4, ?_⟩
    · simp -implicitDefEqProofs only [F_X3_find, io_1, gr_1_0, gr_1_1, gr_1_2, gr_1_3, gr_1_4, gr_1_5, gi_1_6, pf_1_6, gi_1_7, pf_1_7, io_2, gr_2_0, gr_2_1, gr_2_2, gr_2_3, gr_2_4, gr_2_5, gr_2_6, gr_2_7, gi_2_8, pf_2_8, gi_2_9, pf_2_9, gi_2_10, pf_2_10, gi_2_11, pf_2_11, gi_2_12, pf_2_12, gi_2_13, pf_2_13, gi_2_14, pf_2_14, io_11, gr_11_0, gr_11_1, gr_11_2, io_15, gr_15_0, gr_15_1, gi_15_2, pf_15_2, gi_15_3, pf_15_3, gi_15_4, pf_15_4, gi_15_5, pf_15_5, io_18, gr_18_0, gr_18_1, gi_18_2, pf_18_2, io_21, gr_21_0, gr_21_1, gr_21_2, gr_21_3, gr_21_4, gi_21_5, pf_21_5, gi_21_6, pf_21_6, gi_21_7, pf_21_7, gi_21_8, pf_21_8, gi_21_9, pf_21_9, io_22, gr_22_0, gr_22_1, gi_22_2, pf_22_2, io_29, gr_29_0, gi_29_1, pf_29_1, io_31, gi_31_0, pf_31_0, gi_31_1, pf_31_1, gr_31_2, gr_31_3, gr_31_4, gi_31_5, pf_31_5, gi_31_6, pf_31_6, gi_31_7, pf_31_7, gr_31_8, gr_31_9, gr_31_10, gr_31_11, gi_31_12, pf_31_12, gi_31_13, pf_31_13, gi_31_14, pf_31_14, gr_31_15, gr_31_16, gi_31_17, pf_31_17, gr_31_18, gr_31_19, gr_31_20, gr_31_21, gr_31_22, gi_31_23, pf_31_23, gr_31_24, gr_31_25, gi_31_26, pf_31_26, gr_31_27, gr_31_28, gr_31_29, gr_31_30, gi_31_31, pf_31_31, gr_31_32, gr_31_33, gi_31_34, pf_31_34, gi_31_35, pf_31_35, gr_31_36, al_3, al_4, al_5, al_6, al_7, al_8, al_9, al_10, al_12, al_13, al_14, al_16, al_17, al_19, al_20, al_23, al_24, al_25, al_26, al_27, al_28, al_30, al_32, al_33, al_34, al_35, al_36, al_37, al_38, al_39, al_40, al_41, al_42, al_43, al_44, al_45, al_46, al_47, al_48, al_49, al_50, al_51, al_52, al_53, al_54, ↓reduceIte, Option.bind_some, cI_some, cL_some, cV_some, rz_0, rz_1, r.i2_12, n_lt (show σ 0 3 < 2147483648 by omega) (show σ 0 3 < 2147483648 by omega), g1, r1.i2_13, h8, a1]
      rw [if_neg (Nat.lt_irrefl _)]
    · obtain ⟨q1, q2, q3⟩ := a5
      exact ⟨q1.imp id (fun ⟨b, x, y, z⟩ => ⟨b, x, trivial, z⟩), q2, fun R _ hV => q3 R (fun i hi => by omega) hV⟩
  | succ m ih =>
    intro s n A hs hn2 r h27
    have hm := r.m6
    obtain ⟨n, rfl⟩ : ∃ j, n = j + 1 := ⟨n - 1, by omega⟩
    obtain ⟨C, c1, c2, c3, c5⟩ := c_lookAt (fu := fu) hf r hf9 hrd h9 h10 (show s < σ 0 3 by omega)
    obtain ⟨A1, I1, o, a1, a2, a3, a4⟩ := ih (s + 1) n C (by omega) (by omega) ((c2.Fr I).R r) (fun t ht => by
      by_cases y : t = s
      · rw [y]; exact c3
      · rw [c5 t y]; exact h27 t (by omega))
    refine ⟨A1, I1, o, ?_, (c2.Fr I).tr a2, a3, a4⟩
    simp -implicitDefEqProofs only [F_X3_find, io_1, gr_1_0, gr_1_1, gr_1_2, gr_1_3, gr_1_4, gr_1_5, gi_1_6, pf_1_6, gi_1_7, pf_1_7, io_2, gr_2_0, gr_2_1, gr_2_2, gr_2_3, gr_2_4, gr_2_5, gr_2_6, gr_2_7, gi_2_8, pf_2_8, gi_2_9, pf_2_9, gi_2_10, pf_2_10, gi_2_11, pf_2_11, gi_2_12, pf_2_12, gi_2_13, pf_2_13, gi_2_14, pf_2_14, io_11, gr_11_0, gr_11_1, gr_11_2, io_15, gr_15_0, gr_15_1, gi_15_2, pf_15_2, gi_15_3, pf_15_3, gi_15_4, pf_15_4, gi_15_5, pf_15_5, io_18, gr_18_0, gr_18_1, gi_18_2, pf_18_2, io_21, gr_21_0, gr_21_1, gr_21_2, gr_21_3, gr_21_4, gi_21_5, pf_21_5, gi_21_6, pf_21_6, gi_21_7, pf_21_7, gi_21_8, pf_21_8, gi_21_9, pf_21_9, io_22, gr_22_0, gr_22_1, gi_22_2, pf_22_2, io_29, gr_29_0, gi_29_1, pf_29_1, io_31, gi_31_0, pf_31_0, gi_31_1, pf_31_1, gr_31_2, gr_31_3, gr_31_4, gi_31_5, pf_31_5, gi_31_6, pf_31_6, gi_31_7, pf_31_7, gr_31_8, gr_31_9, gr_31_10, gr_31_11, gi_31_12, pf_31_12, gi_31_13, pf_31_13, gi_31_14, pf_31_14, gr_31_15, gr_31_16, gi_31_17, pf_31_17, gr_31_18, gr_31_19, gr_31_20, gr_31_21, gr_31_22, gi_31_23, pf_31_23, gr_31_24, gr_31_25, gi_31_26, pf_31_26, gr_31_27, gr_31_28, gr_31_29, gr_31_30, gi_31_31, pf_31_31, gr_31_32, gr_31_33, gi_31_34, pf_31_34, gi_31_35, pf_31_35, gr_31_36, al_3, al_4, al_5, al_6, al_7, al_8, al_9, al_10, al_12, al_13, al_14, al_16, al_17, al_19, al_20, al_23, al_24, al_25, al_26, al_27, al_28, al_30, al_32, al_33, al_34, al_35, al_36, al_37, al_38, al_39, al_40, al_41, al_42, al_43, al_44, al_45, al_46, al_47, al_48, al_49, al_50, al_51, al_52, al_53, al_54, ↓reduceIte, Option.bind_some, cI_some, cL_some, cV_some, rz_0, rz_1, r.i2_12, n_lt (show s < 2147483648 by omega) (show σ 0 3 < 2147483648 by omega), c1, nI_1]
    rw [if_pos (by omega)]
    exact a1
/-- what the class finds -/
theorem c_findP (hf : 1000 ≤ fu) (r : RR σ A I) (hd : d ≤ 9) (hf9 : f ≤ 9) (hrd : rds ≤ 30) :
    ∃ A1 I1 o, U_X3_find fu [.ref 21, .ref 2, .int (nI d), .int (nI f), .int (nI rds)] (enc A I) = some (none, enc A1 I1) ∧ Fr A I A1 I1 ∧ BSc σ o A1 I1 ∧ UpB σ (Vd σ d f rds) none o (fun _ => True) := by
  have hm := r.m6
  obtain ⟨J, hJ⟩ : ∃ J, J = uI (uI (uI (uI (uI I 21 7 (nI d)) 21 8 (nI f)) 21 9 (nI rds)) 21 5 1000000) 21 6 0 := ⟨_, rfl⟩
  have hF : Fr A I A J := by
    rw [hJ]
    exact Fr.int (Fr.int (Fr.int (Fr.int (Fr.int (Fr.rf A I) (o := 21) (j := 7) rfl) (o := 21) (j := 8) rfl) (o := 21) (j := 9) rfl) (o := 21) (j := 5) rfl) (o := 21) (j := 6) rfl
  obtain ⟨xs, x1, x2⟩ := c_fill25 (fu := fu) (A := A) (I := J) hf (r.len rfl)
  have hF2 : Fr A I (uA A 25 xs) J := hF.arr rfl (by rw [x1]; exact (r.len (k := 25) rfl).symm)
  obtain ⟨A1, I1, o, a1, a2, a3, a4⟩ := c_findL (fu := fu) (I := J) hf hd hf9 hrd (by rw [hJ]; rfl) (by rw [hJ]; rfl) (by rw [hJ]; rfl) (by rw [hJ]; rfl) (by rw [hJ]; rfl) (σ 0 3) 0 fu (uA A 25 xs) (by omega) (by omega) (hF2.R r) (fun t ht => by omega)
  refine ⟨A1, I1, o, ?_, hF2.tr a2, a3, UpB.vu r.1 a4⟩
  simp -implicitDefEqProofs only [u_X3_find, M_X3_find, io_1, gr_1_0, gr_1_1, gr_1_2, gr_1_3, gr_1_4, gr_1_5, gi_1_6, pf_1_6, gi_1_7, pf_1_7, io_2, gr_2_0, gr_2_1, gr_2_2, gr_2_3, gr_2_4, gr_2_5, gr_2_6, gr_2_7, gi_2_8, pf_2_8, gi_2_9, pf_2_9, gi_2_10, pf_2_10, gi_2_11, pf_2_11, gi_2_12, pf_2_12, gi_2_13, pf_2_13, gi_2_14, pf_2_14, io_11, gr_11_0, gr_11_1, gr_11_2, io_15, gr_15_0, gr_15_1, gi_15_2, pf_15_2, gi_15_3, pf_15_3, gi_15_4, pf_15_4, gi_15_5, pf_15_5, io_18, gr_18_0, gr_18_1, gi_18_2, pf_18_2, io_21, gr_21_0, gr_21_1, gr_21_2, gr_21_3, gr_21_4, gi_21_5, pf_21_5, gi_21_6, pf_21_6, gi_21_7, pf_21_7, gi_21_8, pf_21_8, gi_21_9, pf_21_9, io_22, gr_22_0, gr_22_1, gi_22_2, pf_22_2, io_29, gr_29_0, gi_29_1, pf_29_1, io_31, gi_31_0, pf_31_0, gi_31_1, pf_31_1, gr_31_2, gr_31_3, gr_31_4, gi_31_5, pf_31_5, gi_31_6, pf_31_6, gi_31_7, pf_31_7, gr_31_8, gr_31_9, gr_31_10, gr_31_11, gi_31_12, pf_31_12, gi_31_13, pf_31_13, gi_31_14, pf_31_14, gr_31_15, gr_31_16, gi_31_17, pf_31_17, gr_31_18, gr_31_19, gr_31_20, gr_31_21, gr_31_22, gi_31_23, pf_31_23, gr_31_24, gr_31_25, gi_31_26, pf_31_26, gr_31_27, gr_31_28, gr_31_29, gr_31_30, gi_31_31, pf_31_31, gr_31_32, gr_31_33, gi_31_34, pf_31_34, gi_31_35, pf_31_35, gr_31_36, al_3, al_4, al_5, al_6, al_7, al_8, al_9, al_10, al_12, al_13, al_14, al_16, al_17, al_19, al_20, al_23, al_24, al_25, al_26, al_27, al_28, al_30, al_32, al_33, al_34, al_35, al_36, al_37, al_38, al_39, al_40, al_41, al_42, al_43, al_44, al_45, al_46, al_47, al_48, al_49, al_50, al_51, al_52, al_53, al_54, ↓reduceIte, Option.bind_some, cI_some, cL_some, cV_some, rz_0, rz_1, ← hJ, x2]
  exact a1
end PF
