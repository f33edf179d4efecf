/-! ===== the least cost from a cell on ===== -/
section PL
variable (σ : SG) (d f rds : Nat)
/-- over some stones in a cell; nx is the row behind it -/
def lsS (nx : Nat → Nat) (c F : Nat) : Nat → Nat
  | 0 => nx F
  | s + 1 => if uyB σ f rds s c = true ∧ c ≤ F + esN σ s then min (lsS nx c F s) (csN σ s c + nx (fbN σ d s c)) else lsS nx c F s
/-- with so many cells to go -/
def lsF : Nat → Nat → Nat
  | 0 => fun F => if F = σ 0 0 then 0 else 1000001
  | m + 1 => fun F => lsS σ d f rds (lsF m) (σ 0 0 - (m + 1)) F (σ 0 3)
variable {σ d f rds}
theorem lsF_0 (F : Nat) : lsF σ d f rds 0 F = if F = σ 0 0 then 0 else 1000001 := rfl
theorem lsF_s (m F : Nat) : lsF σ d f rds (m + 1) F = lsS σ d f rds (lsF σ d f rds m) (σ 0 0 - (m + 1)) F (σ 0 3) := rfl
theorem lsS_le (nx : Nat → Nat) (c F : Nat) : ∀ m s, lsS σ d f rds nx c F (s + m) ≤ lsS σ d f rds nx c F s := by
  intro m
  induction m with
  | zero => intro s; exact Nat.le_refl _
  | succ m ih =>
    intro s
    have h := ih s
    rw [← Nat.add_assoc, lsS]
    split
    · exact Nat.le_trans (Nat.min_le_left _ _) h
    · exact h
theorem lsS_one (nx : Nat → Nat) {c F s : Nat} (h : uyB σ f rds s c = true ∧ c ≤ F + esN σ s) {n : Nat} (hs : s < n) : lsS σ d f rds nx c F n ≤ csN σ s c + nx (fbN σ d s c) := by
  have h1 := lsS_le (σ := σ) (d := d) (f := f) (rds := rds) nx c F (n - (s + 1)) (s + 1)
  rw [show s + 1 + (n - (s + 1)) = n by omega] at h1
  refine Nat.le_trans h1 ?_
  rw [lsS, if_pos h]
  exact Nat.min_le_right _ _
theorem lsF_le : ∀ m F, lsF σ d f rds m F ≤ 1000001 := by
  intro m
  induction m with
  | zero => intro F; rw [lsF_0]; split <;> omega
  | succ m ih =>
    intro F
    have h1 := lsS_le (σ := σ) (d := d) (f := f) (rds := rds) (lsF σ d f rds m) (σ 0 0 - (m + 1)) F (σ 0 3) 0
    rw [Nat.zero_add] at h1
    exact Nat.le_trans h1 (ih F)
end PL
section PB
variable {σ : SG} {A : Nat → List Int32} {I : Nat → Nat → Int32} {fu d f rds : Nat}
/-- a row of the least costs -/
def RLc (σ : SG) (d f rds : Nat) (A : Nat → List Int32) (c : Nat) : Prop := ∀ F, F ≤ σ 0 0 → rd (A (26 + c)) F = nI (lsF σ d f rds (σ 0 0 - c) F)
theorem c_leastL (r : RR σ A I) (hd : d ≤ 9) (h5 : I 21 5 = nI d) (hU : US σ f rds A) {c F : Nat} (hc : c < σ 0 0) (hF : F ≤ σ 0 0) (hL : RLc σ d f rds A (c + 1)) : ∀ m s n, s + m = σ 0 3 → m < n →
    F_X3_leastFrom fu n 21 2 (nI c) (nI F) (nI (lsS σ d f rds (lsF σ d f rds (σ 0 0 - (c + 1))) c F s)) (nI s) (enc A I) = some (some (.int (nI (lsS σ d f rds (lsF σ d f rds (σ 0 0 - (c + 1))) c F (σ 0 3)))), enc A I) := by
  intro m
  induction m with
  | zero =>
    intro s n hs hm
    have hm6 := r.m6
    obtain ⟨n, rfl⟩ : ∃ k, n = k + 1 := ⟨n - 1, by omega⟩
    have e : s = σ 0 3 := by omega
    subst e
    simp -implicitDefEqProofs only [F_X3_leastFrom, io_1, gr_1_0, gr_1_1, gr_1_2, gr_1_3, gr_1_4, gr_1_5, gi_1_6, pf_1_6, gi_1_7, pf_1_7, io_2, gr_2_0, gr_2_1, gr_2_2, gr_2_3, gr_2_4, gr_2_5, gr_2_6, gr_2_7, gi_2_8, pf_2_8, gi_2_9, pf_2_9, gi_2_10, pf_2_10, gi_2_11, pf_2_11, gi_2_12, pf_2_12, gi_2_13, pf_2_13, gi_2_14, pf_2_14, io_11, gr_11_0, gr_11_1, gr_11_2, io_15, gr_15_0, gr_15_1, gi_15_2, pf_15_2, gi_15_3, pf_15_3, gi_15_4, pf_15_4, gi_15_5, pf_15_5, io_18, gr_18_0, gr_18_1, gi_18_2, pf_18_2, io_21, gr_21_0, gr_21_1, gr_21_2, gr_21_3, gi_21_4, pf_21_4, gi_21_5, pf_21_5, gi_21_6, pf_21_6, gi_21_7, pf_21_7, io_34, gr_34_0, gi_34_1, pf_34_1, io_36, gi_36_0, pf_36_0, gi_36_1, pf_36_1, gr_36_2, gr_36_3, gr_36_4, gi_36_5, pf_36_5, gi_36_6, pf_36_6, gi_36_7, pf_36_7, gr_36_8, gr_36_9, gr_36_10, gr_36_11, gi_36_12, pf_36_12, gi_36_13, pf_36_13, gi_36_14, pf_36_14, gr_36_15, gr_36_16, gi_36_17, pf_36_17, gr_36_18, gr_36_19, gr_36_20, gr_36_21, gr_36_22, gi_36_23, pf_36_23, gr_36_24, gr_36_25, gi_36_26, pf_36_26, gr_36_27, gr_36_28, gr_36_29, gr_36_30, gi_36_31, pf_36_31, gr_36_32, gr_36_33, gi_36_34, pf_36_34, gi_36_35, pf_36_35, gr_36_36, al_3, al_4, al_5, al_6, al_7, al_8, al_9, al_10, al_12, al_13, al_14, al_16, al_17, al_19, al_20, al_22, al_23, al_24, al_26, al_27, al_28, al_29, al_30, al_31, al_32, al_33, al_35, al_37, al_38, al_39, al_40, al_41, al_42, al_43, al_44, al_45, al_46, al_47, al_48, al_49, al_50, al_51, al_52, al_53, al_54, al_55, al_56, al_57, al_58, al_59, ↓reduceIte, Option.bind_some, cI_some, cL_some, cV_some, rz_0, rz_1, r.i2_12, n_lt (show σ 0 3 < 2147483648 by omega) (show σ 0 3 < 2147483648 by omega)]
    rw [if_neg (by omega)]
  | succ m ih =>
    intro s n hsm hm
    have hm6 := r.m6
    have hn := r.n7
    obtain ⟨n, rfl⟩ : ∃ k, n = k + 1 := ⟨n - 1, by omega⟩
    have hs : s < σ 0 3 := by omega
    have hh := c_helps (fu := fu) (f := f) (rds := rds) r hU hs hc hF
    have hfb := fbN_le σ d s c
    have e8 : aI (enc A I) (26 + (c + 1)) (nI (fbN σ d s c)) = some (nI (lsF σ d f rds (σ 0 0 - (c + 1)) (fbN σ d s c))) := by
      rw [ai_L A I (by omega) (by rw [len_L r (by omega)]; omega) (by omega), hL _ hfb]
    have nx := ih (s + 1) n (by omega) (by omega)
    have b1 : lsS σ d f rds (lsF σ d f rds (σ 0 0 - (c + 1))) c F s ≤ 1000001 := by
      have h1 := lsS_le (σ := σ) (d := d) (f := f) (rds := rds) (lsF σ d f rds (σ 0 0 - (c + 1))) c F s 0
      rw [Nat.zero_add] at h1
      exact Nat.le_trans h1 (lsF_le _ F)
    have b2 : lsF σ d f rds (σ 0 0 - (c + 1)) (fbN σ d s c) ≤ 1000001 := lsF_le _ _
    have b3 := csN_le r.1 hs hc
    have co := c_costOf (fu := fu) r hs hc
    have fb := c_farBehind (fu := fu) r h5 hd hs hc
    have ar := ar_L A I (show c + 1 < 8 by omega)
    rw [lsS] at nx
    simp -implicitDefEqProofs only [F_X3_leastFrom, io_1, gr_1_0, gr_1_1, gr_1_2, gr_1_3, gr_1_4, gr_1_5, gi_1_6, pf_1_6, gi_1_7, pf_1_7, io_2, gr_2_0, gr_2_1, gr_2_2, gr_2_3, gr_2_4, gr_2_5, gr_2_6, gr_2_7, gi_2_8, pf_2_8, gi_2_9, pf_2_9, gi_2_10, pf_2_10, gi_2_11, pf_2_11, gi_2_12, pf_2_12, gi_2_13, pf_2_13, gi_2_14, pf_2_14, io_11, gr_11_0, gr_11_1, gr_11_2, io_15, gr_15_0, gr_15_1, gi_15_2, pf_15_2, gi_15_3, pf_15_3, gi_15_4, pf_15_4, gi_15_5, pf_15_5, io_18, gr_18_0, gr_18_1, gi_18_2, pf_18_2, io_21, gr_21_0, gr_21_1, gr_21_2, gr_21_3, gi_21_4, pf_21_4, gi_21_5, pf_21_5, gi_21_6, pf_21_6, gi_21_7, pf_21_7, io_34, gr_34_0, gi_34_1, pf_34_1, io_36, gi_36_0, pf_36_0, gi_36_1, pf_36_1, gr_36_2, gr_36_3, gr_36_4, gi_36_5, pf_36_5, gi_36_6, pf_36_6, gi_36_7, pf_36_7, gr_36_8, gr_36_9, gr_36_10, gr_36_11, gi_36_12, pf_36_12, gi_36_13, pf_36_13, gi_36_14, pf_36_14, gr_36_15, gr_36_16, gi_36_17, pf_36_17, gr_36_18, gr_36_19, gr_36_20, gr_36_21, gr_36_22, gi_36_23, pf_36_23, gr_36_24, gr_36_25, gi_36_26, pf_36_26, gr_36_27, gr_36_28, gr_36_29, gr_36_30, gi_36_31, pf_36_31, gr_36_32, gr_36_33, gi_36_34, pf_36_34, gi_36_35, pf_36_35, gr_36_36, al_3, al_4, al_5, al_6, al_7, al_8, al_9, al_10, al_12, al_13, al_14, al_16, al_17, al_19, al_20, al_22, al_23, al_24, al_26, al_27, al_28, al_29, al_30, al_31, al_32, al_33, al_35, al_37, al_38, al_39, al_40, al_41, al_42, al_43, al_44, al_45, al_46, al_47, al_48, al_49, al_50, al_51, al_52, al_53, al_54, al_55, al_56, al_57, al_58, al_59, ↓reduceIte, Option.bind_some, cI_some, cL_some, cV_some, rz_0, rz_1, r.i2_12, n_lt (show s < 2147483648 by omega) (show σ 0 3 < 2147483648 by omega), hh, bI_0, nI_1]
    rw [if_pos hs]
    by_cases z : uyB σ f rds s c = true ∧ c ≤ F + esN σ s
    · rw [if_neg (fun w => w z)]
      rw [if_pos z] at nx
      simp -implicitDefEqProofs only [io_1, gr_1_0, gr_1_1, gr_1_2, gr_1_3, gr_1_4, gr_1_5, gi_1_6, pf_1_6, gi_1_7, pf_1_7, io_2, gr_2_0, gr_2_1, gr_2_2, gr_2_3, gr_2_4, gr_2_5, gr_2_6, gr_2_7, gi_2_8, pf_2_8, gi_2_9, pf_2_9, gi_2_10, pf_2_10, gi_2_11, pf_2_11, gi_2_12, pf_2_12, gi_2_13, pf_2_13, gi_2_14, pf_2_14, io_11, gr_11_0, gr_11_1, gr_11_2, io_15, gr_15_0, gr_15_1, gi_15_2, pf_15_2, gi_15_3, pf_15_3, gi_15_4, pf_15_4, gi_15_5, pf_15_5, io_18, gr_18_0, gr_18_1, gi_18_2, pf_18_2, io_21, gr_21_0, gr_21_1, gr_21_2, gr_21_3, gi_21_4, pf_21_4, gi_21_5, pf_21_5, gi_21_6, pf_21_6, gi_21_7, pf_21_7, io_34, gr_34_0, gi_34_1, pf_34_1, io_36, gi_36_0, pf_36_0, gi_36_1, pf_36_1, gr_36_2, gr_36_3, gr_36_4, gi_36_5, pf_36_5, gi_36_6, pf_36_6, gi_36_7, pf_36_7, gr_36_8, gr_36_9, gr_36_10, gr_36_11, gi_36_12, pf_36_12, gi_36_13, pf_36_13, gi_36_14, pf_36_14, gr_36_15, gr_36_16, gi_36_17, pf_36_17, gr_36_18, gr_36_19, gr_36_20, gr_36_21, gr_36_22, gi_36_23, pf_36_23, gr_36_24, gr_36_25, gi_36_26, pf_36_26, gr_36_27, gr_36_28, gr_36_29, gr_36_30, gi_36_31, pf_36_31, gr_36_32, gr_36_33, gi_36_34, pf_36_34, gi_36_35, pf_36_35, gr_36_36, al_3, al_4, al_5, al_6, al_7, al_8, al_9, al_10, al_12, al_13, al_14, al_16, al_17, al_19, al_20, al_22, al_23, al_24, al_26, al_27, al_28, al_29, al_30, al_31, al_32, al_33, al_35, al_37, al_38, al_39, al_40, al_41, al_42, al_43, al_44, al_45, al_46, al_47, al_48, al_49, al_50, al_51, al_52, al_53, al_54, al_55, al_56, al_57, al_58, al_59, ↓reduceIte, Option.bind_some, cI_some, cL_some, cV_some, rz_0, rz_1, ar, fb, e8, co, nI_add]
      have hy : csN σ s c + lsF σ d f rds (σ 0 0 - (c + 1)) (fbN σ d s c) ≤ 1005000 := by omega
      generalize lsS σ d f rds (lsF σ d f rds (σ 0 0 - (c + 1))) c F s = x at *
      generalize csN σ s c + lsF σ d f rds (σ 0 0 - (c + 1)) (fbN σ d s c) = y at *
      have mn : oMin [.int (nI x), .int (nI y)] (enc A I) = some (some (.int (nI (min x y))), enc A I) := by
        unfold oMin
        dsimp only
        simp only [n_lt (show y < 2147483648 by omega) (show x < 2147483648 by omega)]
        by_cases q : y < x
        · rw [if_pos q, Nat.min_eq_right (by omega)]
        · rw [if_neg q, Nat.min_eq_left (by omega)]
      rw [mn, cI_some]
      exact nx
    · rw [if_pos z]
      rw [if_neg z] at nx
      exact nx
theorem c_leastFrom (hf : 1000 ≤ fu) (r : RR σ A I) (hd : d ≤ 9) (h5 : I 21 5 = nI d) (hU : US σ f rds A) {c F : Nat} (hc : c < σ 0 0) (hF : F ≤ σ 0 0) (hL : RLc σ d f rds A (c + 1)) :
    U_X3_leastFrom fu [.ref 21, .ref 2, .int (nI c), .int (nI F)] (enc A I) = some (some (.int (nI (lsF σ d f rds (σ 0 0 - c) F))), enc A I) := by
  have hn := r.n7
  have hm6 := r.m6
  have e8 : aI (enc A I) (26 + (c + 1)) (nI F) = some (nI (lsF σ d f rds (σ 0 0 - (c + 1)) F)) := by
    rw [ai_L A I (by omega) (by rw [len_L r (by omega)]; omega) (by omega), hL _ hF]
  have ar := ar_L A I (show c + 1 < 8 by omega)
  have lo := c_leastL (fu := fu) r hd h5 hU hc hF hL (σ 0 3) 0 fu (by omega) (by omega)
  have e : lsF σ d f rds (σ 0 0 - c) F = lsS σ d f rds (lsF σ d f rds (σ 0 0 - (c + 1))) c F (σ 0 3) := by
    rw [show σ 0 0 - c = (σ 0 0 - (c + 1)) + 1 by omega, lsF_s, show σ 0 0 - (σ 0 0 - (c + 1) + 1) = c by omega]
  rw [e]
  rw [lsS] at lo
  simp -implicitDefEqProofs only [u_X3_leastFrom, M_X3_leastFrom, io_1, gr_1_0, gr_1_1, gr_1_2, gr_1_3, gr_1_4, gr_1_5, gi_1_6, pf_1_6, gi_1_7, pf_1_7, io_2, gr_2_0, gr_2_1, gr_2_2, gr_2_3, gr_2_4, gr_2_5, gr_2_6, gr_2_7, gi_2_8, pf_2_8, gi_2_9, pf_2_9, gi_2_10, pf_2_10, gi_2_11, pf_2_11, gi_2_12, pf_2_12, gi_2_13, pf_2_13, gi_2_14, pf_2_14, io_11, gr_11_0, gr_11_1, gr_11_2, io_15, gr_15_0, gr_15_1, gi_15_2, pf_15_2, gi_15_3, pf_15_3, gi_15_4, pf_15_4, gi_15_5, pf_15_5, io_18, gr_18_0, gr_18_1, gi_18_2, pf_18_2, io_21, gr_21_0, gr_21_1, gr_21_2, gr_21_3, gi_21_4, pf_21_4, gi_21_5, pf_21_5, gi_21_6, pf_21_6, gi_21_7, pf_21_7, io_34, gr_34_0, gi_34_1, pf_34_1, io_36, gi_36_0, pf_36_0, gi_36_1, pf_36_1, gr_36_2, gr_36_3, gr_36_4, gi_36_5, pf_36_5, gi_36_6, pf_36_6, gi_36_7, pf_36_7, gr_36_8, gr_36_9, gr_36_10, gr_36_11, gi_36_12, pf_36_12, gi_36_13, pf_36_13, gi_36_14, pf_36_14, gr_36_15, gr_36_16, gi_36_17, pf_36_17, gr_36_18, gr_36_19, gr_36_20, gr_36_21, gr_36_22, gi_36_23, pf_36_23, gr_36_24, gr_36_25, gi_36_26, pf_36_26, gr_36_27, gr_36_28, gr_36_29, gr_36_30, gi_36_31, pf_36_31, gr_36_32, gr_36_33, gi_36_34, pf_36_34, gi_36_35, pf_36_35, gr_36_36, al_3, al_4, al_5, al_6, al_7, al_8, al_9, al_10, al_12, al_13, al_14, al_16, al_17, al_19, al_20, al_22, al_23, al_24, al_26, al_27, al_28, al_29, al_30, al_31, al_32, al_33, al_35, al_37, al_38, al_39, al_40, al_41, al_42, al_43, al_44, al_45, al_46, al_47, al_48, al_49, al_50, al_51, al_52, al_53, al_54, al_55, al_56, al_57, al_58, al_59, ↓reduceIte, Option.bind_some, cI_some, cL_some, cV_some, rz_0, rz_1, nI_1, ar, e8]
  exact lo
/-- of the arrays only the rows of the least costs change -/
def FrLc (A B : Nat → List Int32) : Prop := (∀ k, (∀ j, j < 8 → k ≠ 26 + j) → B k = A k) ∧ ∀ k, (B k).length = (A k).length
theorem FrLc.rf (A : Nat → List Int32) : FrLc A A := ⟨fun _ _ => rfl, fun _ => rfl⟩
theorem FrLc.tr {A B C : Nat → List Int32} (h : FrLc A B) (g : FrLc B C) : FrLc A C := ⟨fun k a => (g.1 k a).trans (h.1 k a), fun k => (g.2 k).trans (h.2 k)⟩
theorem FrLc.arr {A B : Nat → List Int32} (h : FrLc A B) {j : Nat} {xs : List Int32} (hj : j < 8) (hl : xs.length = (B (26 + j)).length) : FrLc A (uA B (26 + j) xs) :=
  h.tr ⟨fun k a => uA_n _ _ _ (a j hj), fun k => by
    by_cases y : k = 26 + j
    · rw [y, uA_s, hl]
    · rw [uA_n _ _ _ y]⟩
theorem FrLc.Fr {A B : Nat → List Int32} (h : FrLc A B) (I : Nat → Nat → Int32) : Fr A I B I :=
  ⟨fun k hk => h.1 k (fun j hj z => by rw [z, scr_L hj] at hk; cases hk), h.2, fun _ _ _ => rfl⟩
theorem FrLc.US {A B : Nat → List Int32} (h : FrLc A B) (hU : US σ f rds A) : US σ f rds B := fun s hs => by
  rw [h.1 24 (fun j _ => by omega)]
  exact hU s hs
theorem c_aheadF (hf : 1000 ≤ fu) (hd : d ≤ 9) (h5 : I 21 5 = nI d) {c : Nat} (hc : c < σ 0 0) : ∀ m F n B, F + m = σ 0 0 + 1 → RR σ B I → US σ f rds B → RLc σ d f rds B (c + 1) → (∀ G, G < F → rd (B (26 + c)) G = nI (lsF σ d f rds (σ 0 0 - c) G)) →
    ∃ C, (F_X3_lookAhead fu (n + (m + 1))).2 21 2 (nI c) (nI F) (enc B I) = (F_X3_lookAhead fu n).1 21 2 (nI c - 1) (enc C I) ∧ FrLc B C ∧ (∀ k, k ≠ 26 + c → C k = B k) ∧ RLc σ d f rds C c := by
  intro m
  induction m with
  | zero =>
    intro F n B hF r hU hL hG
    have hn := r.n7
    refine ⟨B, ?_, FrLc.rf B, fun _ _ => rfl, fun G hG2 => hG G (by omega)⟩
    rw [show n + (0 + 1) = n + 1 by omega, F_X3_lookAhead]
    simp -implicitDefEqProofs only [io_1, gr_1_0, gr_1_1, gr_1_2, gr_1_3, gr_1_4, gr_1_5, gi_1_6, pf_1_6, gi_1_7, pf_1_7, io_2, gr_2_0, gr_2_1, gr_2_2, gr_2_3, gr_2_4, gr_2_5, gr_2_6, gr_2_7, gi_2_8, pf_2_8, gi_2_9, pf_2_9, gi_2_10, pf_2_10, gi_2_11, pf_2_11, gi_2_12, pf_2_12, gi_2_13, pf_2_13, gi_2_14, pf_2_14, io_11, gr_11_0, gr_11_1, gr_11_2, io_15, gr_15_0, gr_15_1, gi_15_2, pf_15_2, gi_15_3, pf_15_3, gi_15_4, pf_15_4, gi_15_5, pf_15_5, io_18, gr_18_0, gr_18_1, gi_18_2, pf_18_2, io_21, gr_21_0, gr_21_1, gr_21_2, gr_21_3, gi_21_4, pf_21_4, gi_21_5, pf_21_5, gi_21_6, pf_21_6, gi_21_7, pf_21_7, io_34, gr_34_0, gi_34_1, pf_34_1, io_36, gi_36_0, pf_36_0, gi_36_1, pf_36_1, gr_36_2, gr_36_3, gr_36_4, gi_36_5, pf_36_5, gi_36_6, pf_36_6, gi_36_7, pf_36_7, gr_36_8, gr_36_9, gr_36_10, gr_36_11, gi_36_12, pf_36_12, gi_36_13, pf_36_13, gi_36_14, pf_36_14, gr_36_15, gr_36_16, gi_36_17, pf_36_17, gr_36_18, gr_36_19, gr_36_20, gr_36_21, gr_36_22, gi_36_23, pf_36_23, gr_36_24, gr_36_25, gi_36_26, pf_36_26, gr_36_27, gr_36_28, gr_36_29, gr_36_30, gi_36_31, pf_36_31, gr_36_32, gr_36_33, gi_36_34, pf_36_34, gi_36_35, pf_36_35, gr_36_36, al_3, al_4, al_5, al_6, al_7, al_8, al_9, al_10, al_12, al_13, al_14, al_16, al_17, al_19, al_20, al_22, al_23, al_24, al_26, al_27, al_28, al_29, al_30, al_31, al_32, al_33, al_35, al_37, al_38, al_39, al_40, al_41, al_42, al_43, al_44, al_45, al_46, al_47, al_48, al_49, al_50, al_51, al_52, al_53, al_54, al_55, al_56, al_57, al_58, al_59, ↓reduceIte, Option.bind_some, cI_some, cL_some, cV_some, rz_0, rz_1, r.i2_8, n_lt (show σ 0 0 < 2147483648 by omega) (show F < 2147483648 by omega), n_m1]
    rw [if_pos (by omega)]
  | succ m ih =>
    intro F n B hF r hU hL hG
    have hn := r.n7
    have lf := c_leastFrom (fu := fu) hf r hd h5 hU hc (show F ≤ σ 0 0 by omega) hL
    have ar := ar_L B I (show c < 8 by omega)
    have lc := len_L r (show c < 8 by omega)
    have si := si_L B I (nI (lsF σ d f rds (σ 0 0 - c) F)) (show c < 8 by omega) (show F < (B (26 + c)).length by omega) (show F < 2147483648 by omega)
    have hF1 : FrLc B (uA B (26 + c) ((B (26 + c)).set F (nI (lsF σ d f rds (σ 0 0 - c) F)))) := (FrLc.rf B).arr (by omega) (by rw [List.length_set])
    obtain ⟨C, g1, g2, g3, g4⟩ := ih (F + 1) n _ (by omega) ((hF1.Fr I).R r) (hF1.US hU) (fun G hG2 => by rw [uA_n _ _ _ (by omega)]; exact hL G hG2) (fun G hG2 => by
      rw [uA_s, rd_set _ _ (by omega)]
      by_cases y : G = F
      · rw [if_pos y, y]
      · rw [if_neg y]; exact hG G (by omega))
    refine ⟨C, ?_, hF1.tr g2, fun k hk => by rw [g3 k hk, uA_n _ _ _ hk], g4⟩
    rw [show n + (m + 1 + 1) = n + (m + 1) + 1 by omega, F_X3_lookAhead]
    simp -implicitDefEqProofs only [io_1, gr_1_0, gr_1_1, gr_1_2, gr_1_3, gr_1_4, gr_1_5, gi_1_6, pf_1_6, gi_1_7, pf_1_7, io_2, gr_2_0, gr_2_1, gr_2_2, gr_2_3, gr_2_4, gr_2_5, gr_2_6, gr_2_7, gi_2_8, pf_2_8, gi_2_9, pf_2_9, gi_2_10, pf_2_10, gi_2_11, pf_2_11, gi_2_12, pf_2_12, gi_2_13, pf_2_13, gi_2_14, pf_2_14, io_11, gr_11_0, gr_11_1, gr_11_2, io_15, gr_15_0, gr_15_1, gi_15_2, pf_15_2, gi_15_3, pf_15_3, gi_15_4, pf_15_4, gi_15_5, pf_15_5, io_18, gr_18_0, gr_18_1, gi_18_2, pf_18_2, io_21, gr_21_0, gr_21_1, gr_21_2, gr_21_3, gi_21_4, pf_21_4, gi_21_5, pf_21_5, gi_21_6, pf_21_6, gi_21_7, pf_21_7, io_34, gr_34_0, gi_34_1, pf_34_1, io_36, gi_36_0, pf_36_0, gi_36_1, pf_36_1, gr_36_2, gr_36_3, gr_36_4, gi_36_5, pf_36_5, gi_36_6, pf_36_6, gi_36_7, pf_36_7, gr_36_8, gr_36_9, gr_36_10, gr_36_11, gi_36_12, pf_36_12, gi_36_13, pf_36_13, gi_36_14, pf_36_14, gr_36_15, gr_36_16, gi_36_17, pf_36_17, gr_36_18, gr_36_19, gr_36_20, gr_36_21, gr_36_22, gi_36_23, pf_36_23, gr_36_24, gr_36_25, gi_36_26, pf_36_26, gr_36_27, gr_36_28, gr_36_29, gr_36_30, gi_36_31, pf_36_31, gr_36_32, gr_36_33, gi_36_34, pf_36_34, gi_36_35, pf_36_35, gr_36_36, al_3, al_4, al_5, al_6, al_7, al_8, al_9, al_10, al_12, al_13, al_14, al_16, al_17, al_19, al_20, al_22, al_23, al_24, al_26, al_27, al_28, al_29, al_30, al_31, al_32, al_33, al_35, al_37, al_38, al_39, al_40, al_41, al_42, al_43, al_44, al_45, al_46, al_47, al_48, al_49, al_50, al_51, al_52, al_53, al_54, al_55, al_56, al_57, al_58, al_59, ↓reduceIte, Option.bind_some, cI_some, cL_some, cV_some, rz_0, rz_1, r.i2_8, n_lt (show σ 0 0 < 2147483648 by omega) (show F < 2147483648 by omega), ar, lf, si, nI_1]
    rw [if_neg (by omega)]
    exact g1
theorem c_aheadC (hf : 1000 ≤ fu) (hd : d ≤ 9) (h5 : I 21 5 = nI d) : ∀ k n B, k ≤ σ 0 0 → k * 10 < n → RR σ B I → US σ f rds B → (∀ c, k ≤ c → c ≤ σ 0 0 → RLc σ d f rds B c) →
    ∃ C, (F_X3_lookAhead fu n).1 21 2 (nI k - 1) (enc B I) = some (none, enc C I) ∧ FrLc B C ∧ ∀ c, c ≤ σ 0 0 → RLc σ d f rds C c := by
  intro k
  induction k with
  | zero =>
    intro n B hk hn2 r hU hL
    obtain ⟨n, rfl⟩ : ∃ i, n = i + 1 := ⟨n - 1, by omega⟩
    refine ⟨B, ?_, FrLc.rf B, fun c hc => hL c (by omega) hc⟩
    rw [F_X3_lookAhead]
    dsimp only
    rw [if_pos (by decide)]
  | succ k ih =>
    intro n B hk hn2 r hU hL
    have hn := r.n7
    obtain ⟨n, rfl⟩ : ∃ i, n = i + (σ 0 0 + 1 + 1) + 1 := ⟨n - (σ 0 0 + 3), by omega⟩
    obtain ⟨C, g1, g2, g3, g4⟩ := c_aheadF (fu := fu) hf hd h5 (show k < σ 0 0 by omega) (σ 0 0 + 1) 0 n B (by omega) r hU (hL (k + 1) (by omega) (by omega)) (fun G hG => by omega)
    obtain ⟨C2, l1, l2, l3⟩ := ih n C (by omega) (by omega) ((g2.Fr I).R r) (g2.US hU) (fun c hc1 hc2 => by
      by_cases y : c = k
      · rw [y]; exact g4
      · intro F hF
        rw [g3 _ (by omega)]
        exact hL c (by omega) hc2 F hF)
    refine ⟨C2, ?_, g2.tr l2, l3⟩
    rw [F_X3_lookAhead]
    simp only [n_sub1, n_neg (show k < 2147483648 by omega), if_false]
    exact g1.trans l1
theorem c_lookAhead (hf : 1000 ≤ fu) (r : RR σ A I) (hd : d ≤ 9) (h5 : I 21 5 = nI d) (hU : US σ f rds A) :
    ∃ C, U_X3_lookAhead fu [.ref 21, .ref 2] (enc A I) = some (none, enc C I) ∧ FrLc A C ∧ ∀ c, c ≤ σ 0 0 → RLc σ d f rds C c := by
  have hn := r.n7
  have ar := fun B => ar_L B I (show σ 0 0 < 8 by omega)
  have fi := c_fillE (fu := fu) (n0 := 8) (w := enc A I) (k := 26 + σ 0 0) (v := 1000001) (by omega) (at_L A I (by omega)) (by omega) (len_L r (show σ 0 0 < 8 by omega))
  rw [set_L A I (by omega)] at fi
  have l8 : (uA A (26 + σ 0 0) (List.replicate 8 1000001) (26 + σ 0 0)).length = 8 := by rw [uA_s, List.length_replicate]
  have si := si_L (uA A (26 + σ 0 0) (List.replicate 8 1000001)) I 0 (show σ 0 0 < 8 by omega) (show σ 0 0 < _ by rw [l8]; omega) (show σ 0 0 < 2147483648 by omega)
  rw [uA_s, uA_uA] at si
  have hF : FrLc A (uA A (26 + σ 0 0) ((List.replicate 8 (1000001 : Int32)).set (σ 0 0) 0)) := (FrLc.rf A).arr (by omega) (by rw [List.length_set, List.length_replicate, len_L r (by omega)])
  have hL : RLc σ d f rds (uA A (26 + σ 0 0) ((List.replicate 8 (1000001 : Int32)).set (σ 0 0) 0)) (σ 0 0) := fun F hF => by
    rw [uA_s, rd_set _ _ (by rw [List.length_replicate]; omega), Nat.sub_self, lsF_0]
    by_cases y : F = σ 0 0
    · rw [if_pos y, if_pos y]; rfl
    · rw [if_neg y, if_neg y]
      unfold rd
      rw [List.getD_eq_getElem?_getD, List.getElem?_replicate, if_pos (by omega)]; rfl
  obtain ⟨C, g1, g2, g3⟩ := c_aheadC (fu := fu) (f := f) (rds := rds) hf hd h5 (σ 0 0) fu _ (Nat.le_refl _) (by omega) ((hF.Fr I).R r) (hF.US hU) (fun c hc1 hc2 => by rw [show c = σ 0 0 by omega]; exact hL)
  refine ⟨C, ?_, hF.tr g2, g3⟩
  simp -implicitDefEqProofs only [u_X3_lookAhead, M_X3_lookAhead, io_1, gr_1_0, gr_1_1, gr_1_2, gr_1_3, gr_1_4, gr_1_5, gi_1_6, pf_1_6, gi_1_7, pf_1_7, io_2, gr_2_0, gr_2_1, gr_2_2, gr_2_3, gr_2_4, gr_2_5, gr_2_6, gr_2_7, gi_2_8, pf_2_8, gi_2_9, pf_2_9, gi_2_10, pf_2_10, gi_2_11, pf_2_11, gi_2_12, pf_2_12, gi_2_13, pf_2_13, gi_2_14, pf_2_14, io_11, gr_11_0, gr_11_1, gr_11_2, io_15, gr_15_0, gr_15_1, gi_15_2, pf_15_2, gi_15_3, pf_15_3, gi_15_4, pf_15_4, gi_15_5, pf_15_5, io_18, gr_18_0, gr_18_1, gi_18_2, pf_18_2, io_21, gr_21_0, gr_21_1, gr_21_2, gr_21_3, gi_21_4, pf_21_4, gi_21_5, pf_21_5, gi_21_6, pf_21_6, gi_21_7, pf_21_7, io_34, gr_34_0, gi_34_1, pf_34_1, io_36, gi_36_0, pf_36_0, gi_36_1, pf_36_1, gr_36_2, gr_36_3, gr_36_4, gi_36_5, pf_36_5, gi_36_6, pf_36_6, gi_36_7, pf_36_7, gr_36_8, gr_36_9, gr_36_10, gr_36_11, gi_36_12, pf_36_12, gi_36_13, pf_36_13, gi_36_14, pf_36_14, gr_36_15, gr_36_16, gi_36_17, pf_36_17, gr_36_18, gr_36_19, gr_36_20, gr_36_21, gr_36_22, gi_36_23, pf_36_23, gr_36_24, gr_36_25, gi_36_26, pf_36_26, gr_36_27, gr_36_28, gr_36_29, gr_36_30, gi_36_31, pf_36_31, gr_36_32, gr_36_33, gi_36_34, pf_36_34, gi_36_35, pf_36_35, gr_36_36, al_3, al_4, al_5, al_6, al_7, al_8, al_9, al_10, al_12, al_13, al_14, al_16, al_17, al_19, al_20, al_22, al_23, al_24, al_26, al_27, al_28, al_29, al_30, al_31, al_32, al_33, al_35, al_37, al_38, al_39, al_40, al_41, al_42, al_43, al_44, al_45, al_46, al_47, al_48, al_49, al_50, al_51, al_52, al_53, al_54, al_55, al_56, al_57, al_58, al_59, ↓reduceIte, Option.bind_some, cI_some, cL_some, cV_some, rz_0, rz_1, r.i2_8, ar, fi, si]
  exact g1
end PB
