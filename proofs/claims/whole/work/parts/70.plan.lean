section PF
variable {σ : SG} {A : Nat → List Int32} {I : Nat → Nat → Int32} {fu d f rds : Nat}
theorem Pt.zero (σ : SG) (d f rds : Nat) : Pt σ d f rds (fun _ => 0) 0 (fun _ => false) :=
  ⟨⟨fun i hi => by omega, fun i j _ hj => by omega⟩, fun s => ⟨fun h => (by cases h), fun ⟨i, hi, _⟩ => by omega⟩, cnt_z _ fun _ _ => rfl, fun i hi => by omega, fun i hi => by omega, fun i hi => by omega⟩
/-- of the arrays only the row of uses changes -/
theorem Fr.a24 {B : Nat → List Int32} (h : Fr A I B I) {xs : List Int32} (hl : xs.length = (B 24).length) : Fr A I (uA B 24 xs) I := h.arr rfl hl
theorem c_findL (hf : 1000 ≤ fu) (hd1 : 1 ≤ d) (hd : d ≤ 9) (hf9 : f ≤ 9) (hrd : rds ≤ 30) (h5 : I 21 5 = nI d) (h6 : I 21 6 = nI f) (h7 : I 21 7 = nI rds) (h4 : I 21 4 = nI 1000000) : ∀ m s n (A : Nat → List Int32), s + m = σ 0 3 → m < n → RR σ A I → (∀ t, t < s → rd (A 24) t = nI (bits (uyB σ f rds t) (σ 0 0))) →
    ∃ A1 I1 o, F_X3_find fu n 21 2 (nI s) (enc A I) = some (none, enc A1 I1) ∧ Fr A I A1 I1 ∧ BSc σ o A1 I1 ∧ UpB σ (VS σ d f rds) none o (fun _ => True) := by
  intro m
  induction m with
  | zero =>
    intro s n A hs hn2 r hU
    have hn := r.n7
    have hm := r.m6
    obtain ⟨n, rfl⟩ : ∃ j, n = j + 1 := ⟨n - 1, by omega⟩
    have e : s = σ 0 3 := by omega
    subst e
    obtain ⟨C, g1, g2, g3⟩ := c_lookAhead (fu := fu) (f := f) (rds := rds) hf r hd h5 hU
    have hF1 := g2.Fr I
    have r1 := hF1.R r
    have fi := c_fillE (fu := fu) (n0 := 7) (w := enc C I) (k := 22) (xs := C 22) (v := -9) (by omega) rfl (by decide) (r1.len rfl)
    have fi' : U_J7_fill_53178 fu [.ref 22, .int (-9)] (enc C I) = some (none, enc (uA C 22 (List.replicate 7 (-9))) I) := fi
    have hF2 : Fr A I (uA C 22 (List.replicate 7 (-9))) I := hF1.arr (k := 22) rfl (by rw [List.length_replicate]; exact (r1.len (k := 22) rfl).symm)
    have pc : PC σ d f rds (uA C 22 (List.replicate 7 (-9))) I := by
      refine ⟨hF2.R r, h5, h6, h7, fun t ht => ?_, fun c hc F hF => ?_⟩
      · rw [uA_n _ _ _ (by decide)]; exact g2.US hU t ht
      · rw [uA_n _ _ _ (by omega)]; exact g3 c hc F hF
    have node := node_all (σ := σ) hf hd1 hd hf9 hrd (σ 0 0) 0 10 (by omega) (by omega)
    obtain ⟨A1, I1, o, a1, a2, a3, a4, a5⟩ := node (fun _ => 0) (fun _ => false) _ I none pc (fun i hi => by omega) (Pt.zero σ d f rds) ⟨h4, fun b hb => by cases hb⟩ (fun b hb => by cases hb)
    have eu : bits (fun _ => false) (σ 0 3) = 0 := bits_z _ fun _ _ => rfl
    have ep : bits (pre (fun _ => 0) 0) (σ 0 0) = 0 := bits_z _ fun _ _ => rfl
    have ec : ct σ (fun _ => 0) 0 = 0 := rfl
    have mn : oMin [.int (nI d - 1), .int (nI (σ 0 0))] (enc (uA C 22 (List.replicate 7 (-9))) I) = some (some (.int (nI (FaR σ d f rds (fun _ => 0) 0))), enc (uA C 22 (List.replicate 7 (-9))) I) := by
      obtain ⟨d', rfl⟩ : ∃ d', d = d' + 1 := ⟨d - 1, by omega⟩
      unfold oMin
      dsimp only
      simp only [n_sub1, n_lt (show σ 0 0 < 2147483648 by omega) (show d' < 2147483648 by omega)]
      have e : FaR σ (d' + 1) f rds (fun _ => 0) 0 = if σ 0 0 < d' then σ 0 0 else d' := rfl
      rw [e]
      by_cases y : σ 0 0 < d'
      · rw [if_pos y, if_pos y]
      · rw [if_neg y, if_neg y]
    rw [eu, ep, ec, show nI 0 = (0 : Int32) from rfl] at a1
    refine ⟨A1, I1, o, ?_, hF2.tr a2.Fr, a4, ?_⟩
    · simp -implicitDefEqProofs only [F_X3_find, io_1, gr_1_0, gr_1_1, gr_1_2, gr_1_3, gr_1_4, gr_1_5, gi_1_6, pf_1_6, gi_1_7, pf_1_7, io_2, gr_2_0, gr_2_1, gr_2_2, gr_2_3, gr_2_4, gr_2_5, gr_2_6, gr_2_7, gi_2_8, pf_2_8, gi_2_9, pf_2_9, gi_2_10, pf_2_10, gi_2_11, pf_2_11, gi_2_12, pf_2_12, gi_2_13, pf_2_13, gi_2_14, pf_2_14, io_11, gr_11_0, gr_11_1, gr_11_2, io_15, gr_15_0, gr_15_1, gi_15_2, pf_15_2, gi_15_3, pf_15_3, gi_15_4, pf_15_4, gi_15_5, pf_15_5, io_18, gr_18_0, gr_18_1, gi_18_2, pf_18_2, io_21, gr_21_0, gr_21_1, gr_21_2, gr_21_3, gi_21_4, pf_21_4, gi_21_5, pf_21_5, gi_21_6, pf_21_6, gi_21_7, pf_21_7, io_34, gr_34_0, gi_34_1, pf_34_1, io_36, gi_36_0, pf_36_0, gi_36_1, pf_36_1, gr_36_2, gr_36_3, gr_36_4, gi_36_5, pf_36_5, gi_36_6, pf_36_6, gi_36_7, pf_36_7, gr_36_8, gr_36_9, gr_36_10, gr_36_11, gi_36_12, pf_36_12, gi_36_13, pf_36_13, gi_36_14, pf_36_14, gr_36_15, gr_36_16, gi_36_17, pf_36_17, gr_36_18, gr_36_19, gr_36_20, gr_36_21, gr_36_22, gi_36_23, pf_36_23, gr_36_24, gr_36_25, gi_36_26, pf_36_26, gr_36_27, gr_36_28, gr_36_29, gr_36_30, gi_36_31, pf_36_31, gr_36_32, gr_36_33, gi_36_34, pf_36_34, gi_36_35, pf_36_35, gr_36_36, al_3, al_4, al_5, al_6, al_7, al_8, al_9, al_10, al_12, al_13, al_14, al_16, al_17, al_19, al_20, al_22, al_23, al_24, al_26, al_27, al_28, al_29, al_30, al_31, al_32, al_33, al_35, al_37, al_38, al_39, al_40, al_41, al_42, al_43, al_44, al_45, al_46, al_47, al_48, al_49, al_50, al_51, al_52, al_53, al_54, al_55, al_56, al_57, al_58, al_59, ↓reduceIte, Option.bind_some, cI_some, cL_some, cV_some, rz_0, rz_1, r.i2_12, n_lt (show σ 0 3 < 2147483648 by omega) (show σ 0 3 < 2147483648 by omega), g1, fi', r.i2_8, h5, mn, a1]
      rw [if_neg (Nat.lt_irrefl _)]
    · obtain ⟨q1, q2, q3⟩ := a5
      exact ⟨q1.imp id (fun ⟨b, x, y, z⟩ => ⟨b, x, trivial, z⟩), q2, fun R _ hV => q3 R (fun i hi => by omega) hV⟩
  | succ m ih =>
    intro s n A hs hn2 r hU
    have hm := r.m6
    obtain ⟨n, rfl⟩ : ∃ j, n = j + 1 := ⟨n - 1, by omega⟩
    have hsM : s < σ 0 3 := by omega
    have l24 : (A 24).length = 6 := r.len rfl
    have us := c_usesOf (fu := fu) hf r hf9 hrd h6 h7 hsM
    have hb2 : bits (fun s => σ 8 s == 100) (σ 0 3) < 2147483648 := Nat.lt_trans (bits_ge (by omega)) (by decide)
    have t2 : (bits (fun s => σ 8 s == 100) (σ 0 3)).testBit s = (σ 8 s == 100) := by rw [bits_test, decide_eq_true hsM, Bool.true_and]
    have s24 := fun x => si_24 A I x (show s < (A 24).length by omega) (show s < 2147483648 by omega)
    have hF : Fr A I (uA A 24 ((A 24).set s (nI (bits (uyB σ f rds s) (σ 0 0))))) I := (Fr.rf A I).arr rfl (by rw [List.length_set])
    obtain ⟨A1, I1, o, a1, a2, a3, a4⟩ := ih (s + 1) n _ (by omega) (by omega) (hF.R r) (fun t ht => by
      rw [uA_s, rd_set _ _ (by omega)]
      by_cases y : t = s
      · rw [if_pos y, y]
      · rw [if_neg y]; exact hU t (by omega))
    refine ⟨A1, I1, o, ?_, hF.tr a2, a3, a4⟩
    simp -implicitDefEqProofs only [F_X3_find, io_1, gr_1_0, gr_1_1, gr_1_2, gr_1_3, gr_1_4, gr_1_5, gi_1_6, pf_1_6, gi_1_7, pf_1_7, io_2, gr_2_0, gr_2_1, gr_2_2, gr_2_3, gr_2_4, gr_2_5, gr_2_6, gr_2_7, gi_2_8, pf_2_8, gi_2_9, pf_2_9, gi_2_10, pf_2_10, gi_2_11, pf_2_11, gi_2_12, pf_2_12, gi_2_13, pf_2_13, gi_2_14, pf_2_14, io_11, gr_11_0, gr_11_1, gr_11_2, io_15, gr_15_0, gr_15_1, gi_15_2, pf_15_2, gi_15_3, pf_15_3, gi_15_4, pf_15_4, gi_15_5, pf_15_5, io_18, gr_18_0, gr_18_1, gi_18_2, pf_18_2, io_21, gr_21_0, gr_21_1, gr_21_2, gr_21_3, gi_21_4, pf_21_4, gi_21_5, pf_21_5, gi_21_6, pf_21_6, gi_21_7, pf_21_7, io_34, gr_34_0, gi_34_1, pf_34_1, io_36, gi_36_0, pf_36_0, gi_36_1, pf_36_1, gr_36_2, gr_36_3, gr_36_4, gi_36_5, pf_36_5, gi_36_6, pf_36_6, gi_36_7, pf_36_7, gr_36_8, gr_36_9, gr_36_10, gr_36_11, gi_36_12, pf_36_12, gi_36_13, pf_36_13, gi_36_14, pf_36_14, gr_36_15, gr_36_16, gi_36_17, pf_36_17, gr_36_18, gr_36_19, gr_36_20, gr_36_21, gr_36_22, gi_36_23, pf_36_23, gr_36_24, gr_36_25, gi_36_26, pf_36_26, gr_36_27, gr_36_28, gr_36_29, gr_36_30, gi_36_31, pf_36_31, gr_36_32, gr_36_33, gi_36_34, pf_36_34, gi_36_35, pf_36_35, gr_36_36, al_3, al_4, al_5, al_6, al_7, al_8, al_9, al_10, al_12, al_13, al_14, al_16, al_17, al_19, al_20, al_22, al_23, al_24, al_26, al_27, al_28, al_29, al_30, al_31, al_32, al_33, al_35, al_37, al_38, al_39, al_40, al_41, al_42, al_43, al_44, al_45, al_46, al_47, al_48, al_49, al_50, al_51, al_52, al_53, al_54, al_55, al_56, al_57, al_58, al_59, ↓reduceIte, Option.bind_some, cI_some, cL_some, cV_some, rz_0, rz_1, r.i2_12, r.i2_13, n_lt (show s < 2147483648 by omega) (show σ 0 3 < 2147483648 by omega), c_hasn _ hb2 (show s < 31 by omega), t2, us, s24, bI_0, nI_1]
    rw [if_pos hsM]
    by_cases z : σ 8 s = 100
    · have e0 : bits (uyB σ f rds s) (σ 0 0) = 0 := bits_z _ fun i _ => by unfold uyB; rw [decide_eq_false (fun w => w z), Bool.false_and]
      rw [e0] at a1
      rw [if_neg (by rw [z]; intro w; exact w rfl)]
      exact a1
    · have e0 : bits (uyB σ f rds s) (σ 0 0) = bits (syB σ f rds s) (σ 0 0) := bits_congr _ fun i _ => by unfold uyB; rw [decide_eq_true z, Bool.true_and]
      rw [e0] at a1
      rw [if_pos (by intro w; exact z (by simpa using w))]
      exact a1
/-- what the class finds -/
theorem c_findP (hf : 1000 ≤ fu) (r : RR σ A I) (hd1 : 1 ≤ d) (hd : d ≤ 9) (hf9 : f ≤ 9) (hrd : rds ≤ 30) :
    ∃ A1 I1 o, U_X3_find fu [.ref 21, .ref 2, .int (nI d), .int (nI f), .int (nI rds)] (enc A I) = some (none, enc A1 I1) ∧ Fr A I A1 I1 ∧ BSc σ o A1 I1 ∧ UpB σ (Vd σ d f rds) none o (fun _ => True) := by
  have hm := r.m6
  obtain ⟨J, hJ⟩ : ∃ J, J = uI (uI (uI (uI I 21 5 (nI d)) 21 6 (nI f)) 21 7 (nI rds)) 21 4 1000000 := ⟨_, rfl⟩
  have hF : Fr A I A J := by
    rw [hJ]
    exact Fr.int (Fr.int (Fr.int (Fr.int (Fr.rf A I) (o := 21) (j := 5) rfl) (o := 21) (j := 6) rfl) (o := 21) (j := 7) rfl) (o := 21) (j := 4) rfl
  obtain ⟨A1, I1, o, a1, a2, a3, a4⟩ := c_findL (fu := fu) (I := J) hf hd1 hd hf9 hrd (by rw [hJ]; rfl) (by rw [hJ]; rfl) (by rw [hJ]; rfl) (by rw [hJ]; rfl) (σ 0 3) 0 fu A (by omega) (by omega) (hF.R r) (fun t ht => by omega)
  refine ⟨A1, I1, o, ?_, hF.tr a2, a3, UpB.vs r.1 a4⟩
  simp -implicitDefEqProofs only [u_X3_find, M_X3_find, io_1, gr_1_0, gr_1_1, gr_1_2, gr_1_3, gr_1_4, gr_1_5, gi_1_6, pf_1_6, gi_1_7, pf_1_7, io_2, gr_2_0, gr_2_1, gr_2_2, gr_2_3, gr_2_4, gr_2_5, gr_2_6, gr_2_7, gi_2_8, pf_2_8, gi_2_9, pf_2_9, gi_2_10, pf_2_10, gi_2_11, pf_2_11, gi_2_12, pf_2_12, gi_2_13, pf_2_13, gi_2_14, pf_2_14, io_11, gr_11_0, gr_11_1, gr_11_2, io_15, gr_15_0, gr_15_1, gi_15_2, pf_15_2, gi_15_3, pf_15_3, gi_15_4, pf_15_4, gi_15_5, pf_15_5, io_18, gr_18_0, gr_18_1, gi_18_2, pf_18_2, io_21, gr_21_0, gr_21_1, gr_21_2, gr_21_3, gi_21_4, pf_21_4, gi_21_5, pf_21_5, gi_21_6, pf_21_6, gi_21_7, pf_21_7, io_34, gr_34_0, gi_34_1, pf_34_1, io_36, gi_36_0, pf_36_0, gi_36_1, pf_36_1, gr_36_2, gr_36_3, gr_36_4, gi_36_5, pf_36_5, gi_36_6, pf_36_6, gi_36_7, pf_36_7, gr_36_8, gr_36_9, gr_36_10, gr_36_11, gi_36_12, pf_36_12, gi_36_13, pf_36_13, gi_36_14, pf_36_14, gr_36_15, gr_36_16, gi_36_17, pf_36_17, gr_36_18, gr_36_19, gr_36_20, gr_36_21, gr_36_22, gi_36_23, pf_36_23, gr_36_24, gr_36_25, gi_36_26, pf_36_26, gr_36_27, gr_36_28, gr_36_29, gr_36_30, gi_36_31, pf_36_31, gr_36_32, gr_36_33, gi_36_34, pf_36_34, gi_36_35, pf_36_35, gr_36_36, al_3, al_4, al_5, al_6, al_7, al_8, al_9, al_10, al_12, al_13, al_14, al_16, al_17, al_19, al_20, al_22, al_23, al_24, al_26, al_27, al_28, al_29, al_30, al_31, al_32, al_33, al_35, al_37, al_38, al_39, al_40, al_41, al_42, al_43, al_44, al_45, al_46, al_47, al_48, al_49, al_50, al_51, al_52, al_53, al_54, al_55, al_56, al_57, al_58, al_59, ↓reduceIte, Option.bind_some, cI_some, cL_some, cV_some, rz_0, rz_1, ← hJ]
  exact a1
end PF
