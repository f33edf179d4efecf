section OC
variable {σ : SG} {A : Nat → List Int32} {I : Nat → Nat → Int32} {fu : Nat} {d : Nat}
theorem gN_lt (hd : d ≤ 9) (hn : σ 0 0 ≤ 7) (s : Nat) : gN σ d s < 18 := grN_le σ (Lt σ s) (σ 0 2) hd hn
theorem sub_lt {s : Nat} (hs : s &&& fil σ = s) : s < 2 ^ σ 0 0 := by
  have h1 : s ≤ fil σ := by rw [← hs]; exact Nat.and_le_right
  have h2 : fil σ < 2 ^ σ 0 0 := bits_lt _ _
  omega
theorem or_1 (s c : Nat) (hc : c < 31) : nI s ||| ((1 : Int32) <<< (nI c &&& 31)) = nI (s ||| 2 ^ c) := by rw [sh_1 hc, n_or]
theorem c_layable (hf : 1000 ≤ fu) (r : RR σ A I) (hd : d ≤ 9) {s : Nat} (hs : s &&& fil σ = s) (ha : I 34 1 = nI (fil σ)) : U_X2_layable fu [.ref 34, .ref 2, .int (nI s), .int (nI d)] (enc A I) = some (some (.int (nI (bits (nxb σ d s) (σ 0 0)))), enc A I) := by
  have hn := r.n7
  have hs2 := sub_lt hs
  have hsb : s = bits (fun i => s.testBit i) (σ 0 0) := bits_of hs2
  have ok := c_ofKind (fu := fu) hf r (show 2 ≤ 2 by omega)
  rw [show nI 2 = (2 : Int32) from rfl] at ok
  have dr := c_dry (fu := fu) hf r (show σ 0 2 ≤ 9 from r.1.2.2.2.1)
  have fa := c_far (fu := fu) hf r (v := σ 0 2) hd (fun i => s.testBit i) (enc A I)
  rw [← hsb] at fa
  have hk := bits_ge (p := kndB σ 2) hn
  have hG := gN_lt hd hn s
  have hal : nI (fil σ) &&& (nI s ^^^ (-1)) = nI (bits (fun i => (σ 7 i != 0) && !s.testBit i) (σ 0 0)) := by
    have e := bits_sub (fun c => σ 7 c != 0) (fun i => s.testBit i) hn
    rw [← hsb] at e
    rw [n_not, n_and]
    exact congrArg nI e
  have hlt : bits (fun i => (σ 7 i != 0) && !s.testBit i) (σ 0 0) < 2147483648 := Nat.lt_trans (bits_ge hn) (by decide)
  have loop : ∀ m c n, c + m = σ 0 0 → m < n → F_X2_layable fu n 34 2 (nI s) (nI (bits (kndB σ 2) (σ 0 0))) (nI (gN σ d s) - 1) (nI (bits (nxb σ d s) c)) (nI c) (enc A I) = some (some (.int (nI (bits (nxb σ d s) (σ 0 0)))), enc A I) := by
    intro m
    induction m with
    | zero =>
      intro c n hc hm
      obtain ⟨n, rfl⟩ : ∃ k, n = k + 1 := ⟨n - 1, by omega⟩
      simp only [F_X2_layable, io_1, gr_1_0, gr_1_1, gr_1_2, gr_1_3, gr_1_4, gr_1_5, gi_1_6, pf_1_6, gi_1_7, pf_1_7, io_2, gr_2_0, gr_2_1, gr_2_2, gr_2_3, gr_2_4, gr_2_5, gr_2_6, gr_2_7, gi_2_8, pf_2_8, gi_2_9, pf_2_9, gi_2_10, pf_2_10, gi_2_11, pf_2_11, gi_2_12, pf_2_12, gi_2_13, pf_2_13, gi_2_14, pf_2_14, io_11, gr_11_0, gr_11_1, gr_11_2, io_15, gr_15_0, gr_15_1, gi_15_2, pf_15_2, gi_15_3, pf_15_3, gi_15_4, pf_15_4, gi_15_5, pf_15_5, io_18, gr_18_0, gr_18_1, gi_18_2, pf_18_2, io_21, gr_21_0, gr_21_1, gr_21_2, gr_21_3, gi_21_4, pf_21_4, gi_21_5, pf_21_5, gi_21_6, pf_21_6, gi_21_7, pf_21_7, io_34, gr_34_0, gi_34_1, pf_34_1, io_36, gi_36_0, pf_36_0, gi_36_1, pf_36_1, gr_36_2, gr_36_3, gr_36_4, gi_36_5, pf_36_5, gi_36_6, pf_36_6, gi_36_7, pf_36_7, gr_36_8, gr_36_9, gr_36_10, gr_36_11, gi_36_12, pf_36_12, gi_36_13, pf_36_13, gi_36_14, pf_36_14, gr_36_15, gr_36_16, gi_36_17, pf_36_17, gr_36_18, gr_36_19, gr_36_20, gr_36_21, gr_36_22, gi_36_23, pf_36_23, gr_36_24, gr_36_25, gi_36_26, pf_36_26, gr_36_27, gr_36_28, gr_36_29, gr_36_30, gi_36_31, pf_36_31, gr_36_32, gr_36_33, gi_36_34, pf_36_34, gi_36_35, pf_36_35, gr_36_36, al_3, al_4, al_5, al_6, al_7, al_8, al_9, al_10, al_12, al_13, al_14, al_16, al_17, al_19, al_20, al_22, al_23, al_24, al_26, al_27, al_28, al_29, al_30, al_31, al_32, al_33, al_35, al_37, al_38, al_39, al_40, al_41, al_42, al_43, al_44, al_45, al_46, al_47, al_48, al_49, al_50, al_51, al_52, al_53, al_54, al_55, al_56, al_57, al_58, al_59, ↓reduceIte, Option.bind_some, cI_some, cL_some, cV_some, rz_0, rz_1, r.i2_8, n_lt (show c < 2147483648 by omega) (show σ 0 0 < 2147483648 by omega)]
      rw [if_neg (by omega), show c = σ 0 0 by omega]
    | succ m ih =>
      intro c n hcm hm
      obtain ⟨n, rfl⟩ : ∃ k, n = k + 1 := ⟨n - 1, by omega⟩
      have hc : c < σ 0 0 := by omega
      have e := ih (c + 1) n (by omega) (by omega)
      rw [← bits_step (nxb σ d s) (show c < 31 by omega)] at e
      have t1 : (bits (fun i => (σ 7 i != 0) && !s.testBit i) (σ 0 0)).testBit c = ((fil σ).testBit c && !s.testBit c) := by
        rw [bits_test, fil_t, decide_eq_true hc, Bool.true_and, Bool.true_and]
      have t2 : (bits (kndB σ 2) (σ 0 0)).testBit c = kndB σ 2 c := by rw [bits_test, decide_eq_true hc, Bool.true_and]
      simp only [F_X2_layable, io_1, gr_1_0, gr_1_1, gr_1_2, gr_1_3, gr_1_4, gr_1_5, gi_1_6, pf_1_6, gi_1_7, pf_1_7, io_2, gr_2_0, gr_2_1, gr_2_2, gr_2_3, gr_2_4, gr_2_5, gr_2_6, gr_2_7, gi_2_8, pf_2_8, gi_2_9, pf_2_9, gi_2_10, pf_2_10, gi_2_11, pf_2_11, gi_2_12, pf_2_12, gi_2_13, pf_2_13, gi_2_14, pf_2_14, io_11, gr_11_0, gr_11_1, gr_11_2, io_15, gr_15_0, gr_15_1, gi_15_2, pf_15_2, gi_15_3, pf_15_3, gi_15_4, pf_15_4, gi_15_5, pf_15_5, io_18, gr_18_0, gr_18_1, gi_18_2, pf_18_2, io_21, gr_21_0, gr_21_1, gr_21_2, gr_21_3, gi_21_4, pf_21_4, gi_21_5, pf_21_5, gi_21_6, pf_21_6, gi_21_7, pf_21_7, io_34, gr_34_0, gi_34_1, pf_34_1, io_36, gi_36_0, pf_36_0, gi_36_1, pf_36_1, gr_36_2, gr_36_3, gr_36_4, gi_36_5, pf_36_5, gi_36_6, pf_36_6, gi_36_7, pf_36_7, gr_36_8, gr_36_9, gr_36_10, gr_36_11, gi_36_12, pf_36_12, gi_36_13, pf_36_13, gi_36_14, pf_36_14, gr_36_15, gr_36_16, gi_36_17, pf_36_17, gr_36_18, gr_36_19, gr_36_20, gr_36_21, gr_36_22, gi_36_23, pf_36_23, gr_36_24, gr_36_25, gi_36_26, pf_36_26, gr_36_27, gr_36_28, gr_36_29, gr_36_30, gi_36_31, pf_36_31, gr_36_32, gr_36_33, gi_36_34, pf_36_34, gi_36_35, pf_36_35, gr_36_36, al_3, al_4, al_5, al_6, al_7, al_8, al_9, al_10, al_12, al_13, al_14, al_16, al_17, al_19, al_20, al_22, al_23, al_24, al_26, al_27, al_28, al_29, al_30, al_31, al_32, al_33, al_35, al_37, al_38, al_39, al_40, al_41, al_42, al_43, al_44, al_45, al_46, al_47, al_48, al_49, al_50, al_51, al_52, al_53, al_54, al_55, al_56, al_57, al_58, al_59, ↓reduceIte, Option.bind_some, cI_some, cL_some, cV_some, rz_0, rz_1, r.i2_8, n_lt (show c < 2147483648 by omega) (show σ 0 0 < 2147483648 by omega), ha, hal, c_hasn _ hlt (show c < 31 by omega), t1, bI_0, bit_n (show bits (kndB σ 2) (σ 0 0) < 2147483648 by omega) (show c < 31 by omega), t2, nI_1]
      rw [if_pos hc]
      have fl := far_lt (gN σ d s) (by omega) c (by omega) (if kndB σ 2 c = true then 1 else 0) (by split <;> omega)
      by_cases z1 : ((fil σ).testBit c && !s.testBit c) = true
      · rw [if_neg (fun y => y z1)]
        by_cases z2 : c + 1 ≤ gN σ d s + (if kndB σ 2 c = true then 1 else 0)
        · rw [if_neg (fun y => by have := fl.mp y; omega)]
          rw [if_pos (show nxb σ d s c = true by unfold nxb; rw [z1, decide_eq_true z2]; rfl)] at e
          exact e
        · rw [if_pos (fl.mpr (by omega))]
          rw [if_neg (show ¬ nxb σ d s c = true by unfold nxb; rw [z1, decide_eq_false z2]; decide)] at e
          exact e
      · rw [if_pos z1]
        rw [if_neg (show ¬ nxb σ d s c = true by unfold nxb; rw [Bool.eq_false_iff.mpr z1, Bool.false_and]; exact Bool.false_ne_true)] at e
        exact e
  simp only [u_X2_layable, M_X2_layable, io_1, gr_1_0, gr_1_1, gr_1_2, gr_1_3, gr_1_4, gr_1_5, gi_1_6, pf_1_6, gi_1_7, pf_1_7, io_2, gr_2_0, gr_2_1, gr_2_2, gr_2_3, gr_2_4, gr_2_5, gr_2_6, gr_2_7, gi_2_8, pf_2_8, gi_2_9, pf_2_9, gi_2_10, pf_2_10, gi_2_11, pf_2_11, gi_2_12, pf_2_12, gi_2_13, pf_2_13, gi_2_14, pf_2_14, io_11, gr_11_0, gr_11_1, gr_11_2, io_15, gr_15_0, gr_15_1, gi_15_2, pf_15_2, gi_15_3, pf_15_3, gi_15_4, pf_15_4, gi_15_5, pf_15_5, io_18, gr_18_0, gr_18_1, gi_18_2, pf_18_2, io_21, gr_21_0, gr_21_1, gr_21_2, gr_21_3, gi_21_4, pf_21_4, gi_21_5, pf_21_5, gi_21_6, pf_21_6, gi_21_7, pf_21_7, io_34, gr_34_0, gi_34_1, pf_34_1, io_36, gi_36_0, pf_36_0, gi_36_1, pf_36_1, gr_36_2, gr_36_3, gr_36_4, gi_36_5, pf_36_5, gi_36_6, pf_36_6, gi_36_7, pf_36_7, gr_36_8, gr_36_9, gr_36_10, gr_36_11, gi_36_12, pf_36_12, gi_36_13, pf_36_13, gi_36_14, pf_36_14, gr_36_15, gr_36_16, gi_36_17, pf_36_17, gr_36_18, gr_36_19, gr_36_20, gr_36_21, gr_36_22, gi_36_23, pf_36_23, gr_36_24, gr_36_25, gi_36_26, pf_36_26, gr_36_27, gr_36_28, gr_36_29, gr_36_30, gi_36_31, pf_36_31, gr_36_32, gr_36_33, gi_36_34, pf_36_34, gi_36_35, pf_36_35, gr_36_36, al_3, al_4, al_5, al_6, al_7, al_8, al_9, al_10, al_12, al_13, al_14, al_16, al_17, al_19, al_20, al_22, al_23, al_24, al_26, al_27, al_28, al_29, al_30, al_31, al_32, al_33, al_35, al_37, al_38, al_39, al_40, al_41, al_42, al_43, al_44, al_45, al_46, al_47, al_48, al_49, al_50, al_51, al_52, al_53, al_54, al_55, al_56, al_57, al_58, al_59, ↓reduceIte, Option.bind_some, cI_some, cL_some, cV_some, rz_0, rz_1, ok, r.i2_11, dr, r.i2_8, n_and, fa]
  exact loop (σ 0 0) 0 fu (by omega) (by omega)
/-- what the class's row of ways holds -/
def WT (σ : SG) (d k : Nat) (xs : List Int32) : Prop := ∀ s, k ≤ s → s < 128 → s &&& fil σ = s → rd xs s = nI (Wc σ d s)
theorem c_waysFrom (hf : 1000 ≤ fu) (r : RR σ A I) (hd : d ≤ 9) {s : Nat} (hs : s &&& fil σ = s) (ha : I 34 1 = nI (fil σ)) (hw : WT σ d (s + 1) (A 35)) : U_X2_waysFrom fu [.ref 34, .ref 2, .int (nI s), .int (nI d)] (enc A I) = some (some (.int (nI (Wc σ d s))), enc A I) := by
  have hn := r.n7
  have hfl := fil_lt hn
  have l35 : (A 35).length = 128 := r.len rfl
  have hs2 : s < 128 := by have := Nat.and_le_right (n := s) (m := fil σ); rw [hs] at this; omega
  have hW := Wc_eq hn d hs2
  unfold vl at hW
  rw [if_pos hs] at hW
  simp only [u_X2_waysFrom, M_X2_waysFrom, io_1, gr_1_0, gr_1_1, gr_1_2, gr_1_3, gr_1_4, gr_1_5, gi_1_6, pf_1_6, gi_1_7, pf_1_7, io_2, gr_2_0, gr_2_1, gr_2_2, gr_2_3, gr_2_4, gr_2_5, gr_2_6, gr_2_7, gi_2_8, pf_2_8, gi_2_9, pf_2_9, gi_2_10, pf_2_10, gi_2_11, pf_2_11, gi_2_12, pf_2_12, gi_2_13, pf_2_13, gi_2_14, pf_2_14, io_11, gr_11_0, gr_11_1, gr_11_2, io_15, gr_15_0, gr_15_1, gi_15_2, pf_15_2, gi_15_3, pf_15_3, gi_15_4, pf_15_4, gi_15_5, pf_15_5, io_18, gr_18_0, gr_18_1, gi_18_2, pf_18_2, io_21, gr_21_0, gr_21_1, gr_21_2, gr_21_3, gi_21_4, pf_21_4, gi_21_5, pf_21_5, gi_21_6, pf_21_6, gi_21_7, pf_21_7, io_34, gr_34_0, gi_34_1, pf_34_1, io_36, gi_36_0, pf_36_0, gi_36_1, pf_36_1, gr_36_2, gr_36_3, gr_36_4, gi_36_5, pf_36_5, gi_36_6, pf_36_6, gi_36_7, pf_36_7, gr_36_8, gr_36_9, gr_36_10, gr_36_11, gi_36_12, pf_36_12, gi_36_13, pf_36_13, gi_36_14, pf_36_14, gr_36_15, gr_36_16, gi_36_17, pf_36_17, gr_36_18, gr_36_19, gr_36_20, gr_36_21, gr_36_22, gi_36_23, pf_36_23, gr_36_24, gr_36_25, gi_36_26, pf_36_26, gr_36_27, gr_36_28, gr_36_29, gr_36_30, gi_36_31, pf_36_31, gr_36_32, gr_36_33, gi_36_34, pf_36_34, gi_36_35, pf_36_35, gr_36_36, al_3, al_4, al_5, al_6, al_7, al_8, al_9, al_10, al_12, al_13, al_14, al_16, al_17, al_19, al_20, al_22, al_23, al_24, al_26, al_27, al_28, al_29, al_30, al_31, al_32, al_33, al_35, al_37, al_38, al_39, al_40, al_41, al_42, al_43, al_44, al_45, al_46, al_47, al_48, al_49, al_50, al_51, al_52, al_53, al_54, al_55, al_56, al_57, al_58, al_59, ↓reduceIte, Option.bind_some, cI_some, cL_some, cV_some, rz_0, rz_1, ha, n_eq (show s < 2147483648 by omega) (show fil σ < 2147483648 by omega), c_layable hf r hd hs ha]
  by_cases z : s = fil σ
  · rw [if_pos z] at hW ⊢
    rw [hW]; rfl
  rw [if_neg z] at hW ⊢
  have hnx : bits (nxb σ d s) (σ 0 0) < 2147483648 := Nat.lt_trans (bits_ge hn) (by decide)
  have loop : ∀ m c n, c + m = σ 0 0 → m < n → F_X2_waysFrom fu n 34 2 (nI s) (nI (bits (nxb σ d s) (σ 0 0))) (nI (sm (fun c => if nxb σ d s c = true then Wc σ d (s ||| 2 ^ c) else 0) c)) (nI c) (enc A I) = some (some (.int (nI (sm (fun c => if nxb σ d s c = true then Wc σ d (s ||| 2 ^ c) else 0) (σ 0 0)))), enc A I) := by
    intro m
    induction m with
    | zero =>
      intro c n hc hm
      obtain ⟨n, rfl⟩ : ∃ k, n = k + 1 := ⟨n - 1, by omega⟩
      simp only [F_X2_waysFrom, io_1, gr_1_0, gr_1_1, gr_1_2, gr_1_3, gr_1_4, gr_1_5, gi_1_6, pf_1_6, gi_1_7, pf_1_7, io_2, gr_2_0, gr_2_1, gr_2_2, gr_2_3, gr_2_4, gr_2_5, gr_2_6, gr_2_7, gi_2_8, pf_2_8, gi_2_9, pf_2_9, gi_2_10, pf_2_10, gi_2_11, pf_2_11, gi_2_12, pf_2_12, gi_2_13, pf_2_13, gi_2_14, pf_2_14, io_11, gr_11_0, gr_11_1, gr_11_2, io_15, gr_15_0, gr_15_1, gi_15_2, pf_15_2, gi_15_3, pf_15_3, gi_15_4, pf_15_4, gi_15_5, pf_15_5, io_18, gr_18_0, gr_18_1, gi_18_2, pf_18_2, io_21, gr_21_0, gr_21_1, gr_21_2, gr_21_3, gi_21_4, pf_21_4, gi_21_5, pf_21_5, gi_21_6, pf_21_6, gi_21_7, pf_21_7, io_34, gr_34_0, gi_34_1, pf_34_1, io_36, gi_36_0, pf_36_0, gi_36_1, pf_36_1, gr_36_2, gr_36_3, gr_36_4, gi_36_5, pf_36_5, gi_36_6, pf_36_6, gi_36_7, pf_36_7, gr_36_8, gr_36_9, gr_36_10, gr_36_11, gi_36_12, pf_36_12, gi_36_13, pf_36_13, gi_36_14, pf_36_14, gr_36_15, gr_36_16, gi_36_17, pf_36_17, gr_36_18, gr_36_19, gr_36_20, gr_36_21, gr_36_22, gi_36_23, pf_36_23, gr_36_24, gr_36_25, gi_36_26, pf_36_26, gr_36_27, gr_36_28, gr_36_29, gr_36_30, gi_36_31, pf_36_31, gr_36_32, gr_36_33, gi_36_34, pf_36_34, gi_36_35, pf_36_35, gr_36_36, al_3, al_4, al_5, al_6, al_7, al_8, al_9, al_10, al_12, al_13, al_14, al_16, al_17, al_19, al_20, al_22, al_23, al_24, al_26, al_27, al_28, al_29, al_30, al_31, al_32, al_33, al_35, al_37, al_38, al_39, al_40, al_41, al_42, al_43, al_44, al_45, al_46, al_47, al_48, al_49, al_50, al_51, al_52, al_53, al_54, al_55, al_56, al_57, al_58, al_59, ↓reduceIte, Option.bind_some, cI_some, cL_some, cV_some, rz_0, rz_1, r.i2_8, n_lt (show c < 2147483648 by omega) (show σ 0 0 < 2147483648 by omega)]
      rw [if_neg (by omega), show c = σ 0 0 by omega]
    | succ m ih =>
      intro c n hcm hm
      obtain ⟨n, rfl⟩ : ∃ k, n = k + 1 := ⟨n - 1, by omega⟩
      have hc : c < σ 0 0 := by omega
      have e := ih (c + 1) n (by omega) (by omega)
      have es : sm (fun c => if nxb σ d s c = true then Wc σ d (s ||| 2 ^ c) else 0) (c + 1) = sm (fun c => if nxb σ d s c = true then Wc σ d (s ||| 2 ^ c) else 0) c + (if nxb σ d s c = true then Wc σ d (s ||| 2 ^ c) else 0) := rfl
      rw [es] at e
      have t1 : (bits (nxb σ d s) (σ 0 0)).testBit c = nxb σ d s c := by rw [bits_test, decide_eq_true hc, Bool.true_and]
      simp only [F_X2_waysFrom, io_1, gr_1_0, gr_1_1, gr_1_2, gr_1_3, gr_1_4, gr_1_5, gi_1_6, pf_1_6, gi_1_7, pf_1_7, io_2, gr_2_0, gr_2_1, gr_2_2, gr_2_3, gr_2_4, gr_2_5, gr_2_6, gr_2_7, gi_2_8, pf_2_8, gi_2_9, pf_2_9, gi_2_10, pf_2_10, gi_2_11, pf_2_11, gi_2_12, pf_2_12, gi_2_13, pf_2_13, gi_2_14, pf_2_14, io_11, gr_11_0, gr_11_1, gr_11_2, io_15, gr_15_0, gr_15_1, gi_15_2, pf_15_2, gi_15_3, pf_15_3, gi_15_4, pf_15_4, gi_15_5, pf_15_5, io_18, gr_18_0, gr_18_1, gi_18_2, pf_18_2, io_21, gr_21_0, gr_21_1, gr_21_2, gr_21_3, gi_21_4, pf_21_4, gi_21_5, pf_21_5, gi_21_6, pf_21_6, gi_21_7, pf_21_7, io_34, gr_34_0, gi_34_1, pf_34_1, io_36, gi_36_0, pf_36_0, gi_36_1, pf_36_1, gr_36_2, gr_36_3, gr_36_4, gi_36_5, pf_36_5, gi_36_6, pf_36_6, gi_36_7, pf_36_7, gr_36_8, gr_36_9, gr_36_10, gr_36_11, gi_36_12, pf_36_12, gi_36_13, pf_36_13, gi_36_14, pf_36_14, gr_36_15, gr_36_16, gi_36_17, pf_36_17, gr_36_18, gr_36_19, gr_36_20, gr_36_21, gr_36_22, gi_36_23, pf_36_23, gr_36_24, gr_36_25, gi_36_26, pf_36_26, gr_36_27, gr_36_28, gr_36_29, gr_36_30, gi_36_31, pf_36_31, gr_36_32, gr_36_33, gi_36_34, pf_36_34, gi_36_35, pf_36_35, gr_36_36, al_3, al_4, al_5, al_6, al_7, al_8, al_9, al_10, al_12, al_13, al_14, al_16, al_17, al_19, al_20, al_22, al_23, al_24, al_26, al_27, al_28, al_29, al_30, al_31, al_32, al_33, al_35, al_37, al_38, al_39, al_40, al_41, al_42, al_43, al_44, al_45, al_46, al_47, al_48, al_49, al_50, al_51, al_52, al_53, al_54, al_55, al_56, al_57, al_58, al_59, ↓reduceIte, Option.bind_some, cI_some, cL_some, cV_some, rz_0, rz_1, r.i2_8, n_lt (show c < 2147483648 by omega) (show σ 0 0 < 2147483648 by omega), c_hasn _ hnx (show c < 31 by omega), t1, bI_0, or_1 s c (show c < 31 by omega), nI_1]
      rw [if_pos hc]
      by_cases z1 : nxb σ d s c = true
      · have hh := nxb_f z1
        have h128 := or_128 hs2 (show c < 7 by omega)
        have e35 : aI (enc A I) 35 (nI (s ||| 2 ^ c)) = some (nI (Wc σ d (s ||| 2 ^ c))) := by
          rw [ai_35 A I (by omega) (by omega), hw _ (by have := or_gt hh.2.1; omega) h128 (sub_or hs hh.1)]
        rw [if_neg (fun y => y z1), e35, Option.bind_some, nI_add]
        rw [if_pos z1] at e
        exact e
      · rw [if_pos z1]
        rw [if_neg z1, Nat.add_zero] at e
        exact e
  rw [hW]
  exact loop (σ 0 0) 0 fu (by omega) (by omega)
theorem c_countL (hf : 1000 ≤ fu) (hd : d ≤ 9) (ha : I 34 1 = nI (fil σ)) : ∀ k n (A : Nat → List Int32), RR σ A I → k ≤ 128 → k < n → WT σ d k (A 35) →
    ∃ xs, xs.length = 128 ∧ WT σ d 0 xs ∧ F_X2_count fu n 34 2 (nI d) (nI k - 1) (enc A I) = some (some (.int (nI (Wc σ d 0))), enc (uA A 35 xs) I) := by
  intro k
  induction k with
  | zero =>
    intro n A r hk hn2 hw
    obtain ⟨n, rfl⟩ : ∃ k, n = k + 1 := ⟨n - 1, by omega⟩
    have l35 : (A 35).length = 128 := r.len rfl
    have e35 : aI (enc A I) 35 0 = some (nI (Wc σ d 0)) := by
      rw [← hw 0 (Nat.le_refl _) (by omega) (Nat.zero_and _)]
      exact ai_35 (j := 0) A I (by omega) (by omega)
    refine ⟨A 35, l35, hw, ?_⟩
    rw [uA_self]
    simp only [F_X2_count, io_1, gr_1_0, gr_1_1, gr_1_2, gr_1_3, gr_1_4, gr_1_5, gi_1_6, pf_1_6, gi_1_7, pf_1_7, io_2, gr_2_0, gr_2_1, gr_2_2, gr_2_3, gr_2_4, gr_2_5, gr_2_6, gr_2_7, gi_2_8, pf_2_8, gi_2_9, pf_2_9, gi_2_10, pf_2_10, gi_2_11, pf_2_11, gi_2_12, pf_2_12, gi_2_13, pf_2_13, gi_2_14, pf_2_14, io_11, gr_11_0, gr_11_1, gr_11_2, io_15, gr_15_0, gr_15_1, gi_15_2, pf_15_2, gi_15_3, pf_15_3, gi_15_4, pf_15_4, gi_15_5, pf_15_5, io_18, gr_18_0, gr_18_1, gi_18_2, pf_18_2, io_21, gr_21_0, gr_21_1, gr_21_2, gr_21_3, gi_21_4, pf_21_4, gi_21_5, pf_21_5, gi_21_6, pf_21_6, gi_21_7, pf_21_7, io_34, gr_34_0, gi_34_1, pf_34_1, io_36, gi_36_0, pf_36_0, gi_36_1, pf_36_1, gr_36_2, gr_36_3, gr_36_4, gi_36_5, pf_36_5, gi_36_6, pf_36_6, gi_36_7, pf_36_7, gr_36_8, gr_36_9, gr_36_10, gr_36_11, gi_36_12, pf_36_12, gi_36_13, pf_36_13, gi_36_14, pf_36_14, gr_36_15, gr_36_16, gi_36_17, pf_36_17, gr_36_18, gr_36_19, gr_36_20, gr_36_21, gr_36_22, gi_36_23, pf_36_23, gr_36_24, gr_36_25, gi_36_26, pf_36_26, gr_36_27, gr_36_28, gr_36_29, gr_36_30, gi_36_31, pf_36_31, gr_36_32, gr_36_33, gi_36_34, pf_36_34, gi_36_35, pf_36_35, gr_36_36, al_3, al_4, al_5, al_6, al_7, al_8, al_9, al_10, al_12, al_13, al_14, al_16, al_17, al_19, al_20, al_22, al_23, al_24, al_26, al_27, al_28, al_29, al_30, al_31, al_32, al_33, al_35, al_37, al_38, al_39, al_40, al_41, al_42, al_43, al_44, al_45, al_46, al_47, al_48, al_49, al_50, al_51, al_52, al_53, al_54, al_55, al_56, al_57, al_58, al_59, ↓reduceIte, Option.bind_some, cI_some, cL_some, cV_some, rz_0, rz_1, e35]
    rw [if_pos (by decide)]
  | succ k ih =>
    intro n A r hk hn2 hw
    obtain ⟨n, rfl⟩ : ∃ k, n = k + 1 := ⟨n - 1, by omega⟩
    have hn := r.n7
    have hfl := fil_lt hn
    have l35 : (A 35).length = 128 := r.len rfl
    have sz := sub_z k (by omega) (fil σ) hfl
    have nx : ∀ (x : Int32), F_X2_count fu n 34 2 (nI d) (nI k + (-1)) = F_X2_count fu n 34 2 (nI d) (nI k - 1) := fun _ => by rw [n_m1]
    simp only [F_X2_count, n_sub1, n_neg (show k < 2147483648 by omega), if_false, io_1, gr_1_0, gr_1_1, gr_1_2, gr_1_3, gr_1_4, gr_1_5, gi_1_6, pf_1_6, gi_1_7, pf_1_7, io_2, gr_2_0, gr_2_1, gr_2_2, gr_2_3, gr_2_4, gr_2_5, gr_2_6, gr_2_7, gi_2_8, pf_2_8, gi_2_9, pf_2_9, gi_2_10, pf_2_10, gi_2_11, pf_2_11, gi_2_12, pf_2_12, gi_2_13, pf_2_13, gi_2_14, pf_2_14, io_11, gr_11_0, gr_11_1, gr_11_2, io_15, gr_15_0, gr_15_1, gi_15_2, pf_15_2, gi_15_3, pf_15_3, gi_15_4, pf_15_4, gi_15_5, pf_15_5, io_18, gr_18_0, gr_18_1, gi_18_2, pf_18_2, io_21, gr_21_0, gr_21_1, gr_21_2, gr_21_3, gi_21_4, pf_21_4, gi_21_5, pf_21_5, gi_21_6, pf_21_6, gi_21_7, pf_21_7, io_34, gr_34_0, gi_34_1, pf_34_1, io_36, gi_36_0, pf_36_0, gi_36_1, pf_36_1, gr_36_2, gr_36_3, gr_36_4, gi_36_5, pf_36_5, gi_36_6, pf_36_6, gi_36_7, pf_36_7, gr_36_8, gr_36_9, gr_36_10, gr_36_11, gi_36_12, pf_36_12, gi_36_13, pf_36_13, gi_36_14, pf_36_14, gr_36_15, gr_36_16, gi_36_17, pf_36_17, gr_36_18, gr_36_19, gr_36_20, gr_36_21, gr_36_22, gi_36_23, pf_36_23, gr_36_24, gr_36_25, gi_36_26, pf_36_26, gr_36_27, gr_36_28, gr_36_29, gr_36_30, gi_36_31, pf_36_31, gr_36_32, gr_36_33, gi_36_34, pf_36_34, gi_36_35, pf_36_35, gr_36_36, al_3, al_4, al_5, al_6, al_7, al_8, al_9, al_10, al_12, al_13, al_14, al_16, al_17, al_19, al_20, al_22, al_23, al_24, al_26, al_27, al_28, al_29, al_30, al_31, al_32, al_33, al_35, al_37, al_38, al_39, al_40, al_41, al_42, al_43, al_44, al_45, al_46, al_47, al_48, al_49, al_50, al_51, al_52, al_53, al_54, al_55, al_56, al_57, al_58, al_59, ↓reduceIte, Option.bind_some, cI_some, cL_some, cV_some, rz_0, rz_1, ha]
    rw [n_m1]
    by_cases z : k &&& fil σ = k
    · have l1 : k < (A 35).length := by omega
      have s35 := si_35 A I (nI (Wc σ d k)) l1 (show k < 2147483648 by omega)
      rw [if_pos (sz.mpr z), c_waysFrom hf r hd z ha hw, cI_some, s35, Option.bind_some]
      obtain ⟨xs, a1, a2, a3⟩ := ih n (uA A 35 ((A 35).set k (nI (Wc σ d k)))) (r.sc rfl (by rw [List.length_set])) (by omega) (by omega) (fun s h1 h2 h3 => by
        rw [uA_s, rd_set _ _ l1]
        by_cases y : s = k
        · rw [if_pos y, y]
        · rw [if_neg y]; exact hw s (by omega) h2 h3)
      rw [uA_uA] at a3
      exact ⟨xs, a1, a2, a3⟩
    · rw [if_neg (fun y => z (sz.mp y))]
      exact ih n A r (by omega) (by omega) (fun s h1 h2 h3 => hw s (by
        by_cases y : s = k
        · rw [y] at h3; exact absurd h3 z
        · omega) h2 h3)
/-- how the class counts -/
theorem c_count (hf : 1000 ≤ fu) (r : RR σ A I) (hd : d ≤ 9) : ∃ A1 I1, U_X2_count fu [.ref 34, .ref 2, .int (nI d)] (enc A I) = some (some (.int (nI (Wc σ d 0))), enc A1 I1) ∧ Fr A I A1 I1 ∧ I1 34 1 = nI (fil σ) ∧ WT σ d 0 (A1 35) := by
  have hn := r.n7
  have hfl := fil_lt hn
  have hF : Fr A I A (uI I 34 1 (nI (fil σ))) := Fr.int (Fr.rf A I) rfl
  have r1 := hF.R r
  obtain ⟨xs, a1, a2, a3⟩ := c_countL (fu := fu) hf hd (I := uI I 34 1 (nI (fil σ))) (σ := σ) (uI_s _ _ _ _) (fil σ + 1) fu A r1 (by omega) (by omega) (fun s h1 h2 h3 => by
    have := Nat.and_le_right (n := s) (m := fil σ)
    rw [h3] at this
    omega)
  refine ⟨_, _, ?_, hF.arr (k := 35) (xs := xs) rfl (by rw [a1]; exact (r.len (k := 35) rfl).symm), uI_s _ _ _ _, by rw [uA_s]; exact a2⟩
  have cf := c_filled (fu := fu) hf r
  have e1 : uI I 34 1 (nI (fil σ)) 34 1 = nI (fil σ) := uI_s _ _ _ _
  have cf' : U_X0_filled fu [.ref 2] (enc A I) = some (some (.int (nI (fil σ))), enc A I) := cf
  simp only [u_X2_count, M_X2_count, io_1, gr_1_0, gr_1_1, gr_1_2, gr_1_3, gr_1_4, gr_1_5, gi_1_6, pf_1_6, gi_1_7, pf_1_7, io_2, gr_2_0, gr_2_1, gr_2_2, gr_2_3, gr_2_4, gr_2_5, gr_2_6, gr_2_7, gi_2_8, pf_2_8, gi_2_9, pf_2_9, gi_2_10, pf_2_10, gi_2_11, pf_2_11, gi_2_12, pf_2_12, gi_2_13, pf_2_13, gi_2_14, pf_2_14, io_11, gr_11_0, gr_11_1, gr_11_2, io_15, gr_15_0, gr_15_1, gi_15_2, pf_15_2, gi_15_3, pf_15_3, gi_15_4, pf_15_4, gi_15_5, pf_15_5, io_18, gr_18_0, gr_18_1, gi_18_2, pf_18_2, io_21, gr_21_0, gr_21_1, gr_21_2, gr_21_3, gi_21_4, pf_21_4, gi_21_5, pf_21_5, gi_21_6, pf_21_6, gi_21_7, pf_21_7, io_34, gr_34_0, gi_34_1, pf_34_1, io_36, gi_36_0, pf_36_0, gi_36_1, pf_36_1, gr_36_2, gr_36_3, gr_36_4, gi_36_5, pf_36_5, gi_36_6, pf_36_6, gi_36_7, pf_36_7, gr_36_8, gr_36_9, gr_36_10, gr_36_11, gi_36_12, pf_36_12, gi_36_13, pf_36_13, gi_36_14, pf_36_14, gr_36_15, gr_36_16, gi_36_17, pf_36_17, gr_36_18, gr_36_19, gr_36_20, gr_36_21, gr_36_22, gi_36_23, pf_36_23, gr_36_24, gr_36_25, gi_36_26, pf_36_26, gr_36_27, gr_36_28, gr_36_29, gr_36_30, gi_36_31, pf_36_31, gr_36_32, gr_36_33, gi_36_34, pf_36_34, gi_36_35, pf_36_35, gr_36_36, al_3, al_4, al_5, al_6, al_7, al_8, al_9, al_10, al_12, al_13, al_14, al_16, al_17, al_19, al_20, al_22, al_23, al_24, al_26, al_27, al_28, al_29, al_30, al_31, al_32, al_33, al_35, al_37, al_38, al_39, al_40, al_41, al_42, al_43, al_44, al_45, al_46, al_47, al_48, al_49, al_50, al_51, al_52, al_53, al_54, al_55, al_56, al_57, al_58, al_59, ↓reduceIte, Option.bind_some, cI_some, cL_some, cV_some, rz_0, rz_1, cf', e1]
  rw [n_sub1] at a3
  exact a3
theorem c_firstOn (hf : 1000 ≤ fu) (r : RR σ A I) (hd : d ≤ 9) {s : Nat} (hs : s &&& fil σ = s) (ha : I 34 1 = nI (fil σ)) (hw : WT σ d 0 (A 35)) (hne : s ≠ fil σ) (hp : 0 < Wc σ d s) : U_X2_firstThatGoesOn fu [.ref 34, .ref 2, .int (nI s), .int (nI d)] (enc A I) = some (some (.int (nI (fst0 σ d s))), enc A I) := by
  have hn := r.n7
  have hfl := fil_lt hn
  have l35 : (A 35).length = 128 := r.len rfl
  have hs2 : s < 128 := by have := Nat.and_le_right (n := s) (m := fil σ); rw [hs] at this; omega
  have hlt := fst_lt hn (d := d) hs2 hs hne hp
  have hnx : bits (nxb σ d s) (σ 0 0) < 2147483648 := Nat.lt_trans (bits_ge hn) (by decide)
  have loop : ∀ m c n, c + m = σ 0 0 → m < n → fsc σ d s m c < σ 0 0 → F_X2_firstThatGoesOn fu n 34 2 (nI s) (nI (bits (nxb σ d s) (σ 0 0))) (nI c) (enc A I) = some (some (.int (nI (fsc σ d s m c))), enc A I) := by
    intro m
    induction m with
    | zero => intro c n hc hm h; rw [fsc] at h; omega
    | succ m ih =>
      intro c n hcm hm h
      obtain ⟨n, rfl⟩ : ∃ k, n = k + 1 := ⟨n - 1, by omega⟩
      have hc : c < σ 0 0 := by omega
      have t1 : (bits (nxb σ d s) (σ 0 0)).testBit c = nxb σ d s c := by rw [bits_test, decide_eq_true hc, Bool.true_and]
      rw [fsc] at h ⊢
      simp only [F_X2_firstThatGoesOn, io_1, gr_1_0, gr_1_1, gr_1_2, gr_1_3, gr_1_4, gr_1_5, gi_1_6, pf_1_6, gi_1_7, pf_1_7, io_2, gr_2_0, gr_2_1, gr_2_2, gr_2_3, gr_2_4, gr_2_5, gr_2_6, gr_2_7, gi_2_8, pf_2_8, gi_2_9, pf_2_9, gi_2_10, pf_2_10, gi_2_11, pf_2_11, gi_2_12, pf_2_12, gi_2_13, pf_2_13, gi_2_14, pf_2_14, io_11, gr_11_0, gr_11_1, gr_11_2, io_15, gr_15_0, gr_15_1, gi_15_2, pf_15_2, gi_15_3, pf_15_3, gi_15_4, pf_15_4, gi_15_5, pf_15_5, io_18, gr_18_0, gr_18_1, gi_18_2, pf_18_2, io_21, gr_21_0, gr_21_1, gr_21_2, gr_21_3, gi_21_4, pf_21_4, gi_21_5, pf_21_5, gi_21_6, pf_21_6, gi_21_7, pf_21_7, io_34, gr_34_0, gi_34_1, pf_34_1, io_36, gi_36_0, pf_36_0, gi_36_1, pf_36_1, gr_36_2, gr_36_3, gr_36_4, gi_36_5, pf_36_5, gi_36_6, pf_36_6, gi_36_7, pf_36_7, gr_36_8, gr_36_9, gr_36_10, gr_36_11, gi_36_12, pf_36_12, gi_36_13, pf_36_13, gi_36_14, pf_36_14, gr_36_15, gr_36_16, gi_36_17, pf_36_17, gr_36_18, gr_36_19, gr_36_20, gr_36_21, gr_36_22, gi_36_23, pf_36_23, gr_36_24, gr_36_25, gi_36_26, pf_36_26, gr_36_27, gr_36_28, gr_36_29, gr_36_30, gi_36_31, pf_36_31, gr_36_32, gr_36_33, gi_36_34, pf_36_34, gi_36_35, pf_36_35, gr_36_36, al_3, al_4, al_5, al_6, al_7, al_8, al_9, al_10, al_12, al_13, al_14, al_16, al_17, al_19, al_20, al_22, al_23, al_24, al_26, al_27, al_28, al_29, al_30, al_31, al_32, al_33, al_35, al_37, al_38, al_39, al_40, al_41, al_42, al_43, al_44, al_45, al_46, al_47, al_48, al_49, al_50, al_51, al_52, al_53, al_54, al_55, al_56, al_57, al_58, al_59, ↓reduceIte, Option.bind_some, cI_some, cL_some, cV_some, rz_0, rz_1, r.i2_8, n_lt (show c < 2147483648 by omega) (show σ 0 0 < 2147483648 by omega), c_hasn _ hnx (show c < 31 by omega), t1, bI_0, or_1 s c (show c < 31 by omega), nI_1]
      rw [if_pos hc]
      by_cases z1 : nxb σ d s c = true
      · have hh := nxb_f z1
        have h128 := or_128 hs2 (show c < 7 by omega)
        have e35 : aI (enc A I) 35 (nI (s ||| 2 ^ c)) = some (nI (Wc σ d (s ||| 2 ^ c))) := by
          rw [ai_35 A I (by omega) (by omega), hw _ (Nat.zero_le _) h128 (sub_or hs hh.1)]
        have hWl := Wc_lt hn d h128
        rw [if_neg (fun y => y z1), e35, Option.bind_some]
        simp only [nI_0lt hWl]
        by_cases z2 : 0 < Wc σ d (s ||| 2 ^ c)
        · have hg : gob σ d s c = true := by unfold gob; rw [z1, decide_eq_true z2]; rfl
          rw [if_pos z2, if_pos hg]
        · have hg : ¬ gob σ d s c = true := by unfold gob; rw [z1, decide_eq_false z2]; decide
          rw [if_neg z2, if_neg hg]
          rw [if_neg hg] at h
          exact ih (c + 1) n (by omega) (by omega) h
      · have hg : ¬ gob σ d s c = true := by unfold gob; rw [Bool.eq_false_iff.mpr z1, Bool.false_and]; exact Bool.false_ne_true
        rw [if_pos z1, if_neg hg]
        rw [if_neg hg] at h
        exact ih (c + 1) n (by omega) (by omega) h
  simp only [u_X2_firstThatGoesOn, M_X2_firstThatGoesOn, io_1, gr_1_0, gr_1_1, gr_1_2, gr_1_3, gr_1_4, gr_1_5, gi_1_6, pf_1_6, gi_1_7, pf_1_7, io_2, gr_2_0, gr_2_1, gr_2_2, gr_2_3, gr_2_4, gr_2_5, gr_2_6, gr_2_7, gi_2_8, pf_2_8, gi_2_9, pf_2_9, gi_2_10, pf_2_10, gi_2_11, pf_2_11, gi_2_12, pf_2_12, gi_2_13, pf_2_13, gi_2_14, pf_2_14, io_11, gr_11_0, gr_11_1, gr_11_2, io_15, gr_15_0, gr_15_1, gi_15_2, pf_15_2, gi_15_3, pf_15_3, gi_15_4, pf_15_4, gi_15_5, pf_15_5, io_18, gr_18_0, gr_18_1, gi_18_2, pf_18_2, io_21, gr_21_0, gr_21_1, gr_21_2, gr_21_3, gi_21_4, pf_21_4, gi_21_5, pf_21_5, gi_21_6, pf_21_6, gi_21_7, pf_21_7, io_34, gr_34_0, gi_34_1, pf_34_1, io_36, gi_36_0, pf_36_0, gi_36_1, pf_36_1, gr_36_2, gr_36_3, gr_36_4, gi_36_5, pf_36_5, gi_36_6, pf_36_6, gi_36_7, pf_36_7, gr_36_8, gr_36_9, gr_36_10, gr_36_11, gi_36_12, pf_36_12, gi_36_13, pf_36_13, gi_36_14, pf_36_14, gr_36_15, gr_36_16, gi_36_17, pf_36_17, gr_36_18, gr_36_19, gr_36_20, gr_36_21, gr_36_22, gi_36_23, pf_36_23, gr_36_24, gr_36_25, gi_36_26, pf_36_26, gr_36_27, gr_36_28, gr_36_29, gr_36_30, gi_36_31, pf_36_31, gr_36_32, gr_36_33, gi_36_34, pf_36_34, gi_36_35, pf_36_35, gr_36_36, al_3, al_4, al_5, al_6, al_7, al_8, al_9, al_10, al_12, al_13, al_14, al_16, al_17, al_19, al_20, al_22, al_23, al_24, al_26, al_27, al_28, al_29, al_30, al_31, al_32, al_33, al_35, al_37, al_38, al_39, al_40, al_41, al_42, al_43, al_44, al_45, al_46, al_47, al_48, al_49, al_50, al_51, al_52, al_53, al_54, al_55, al_56, al_57, al_58, al_59, ↓reduceIte, Option.bind_some, cI_some, cL_some, cV_some, rz_0, rz_1, c_layable hf r hd hs ha]
  exact loop (σ 0 0) 0 fu (by omega) (by omega) hlt.1
theorem c_cellL (hf : 1000 ≤ fu) (r : RR σ A I) (hd : d ≤ 9) (ha : I 34 1 = nI (fil σ)) (hw : WT σ d 0 (A 35)) : ∀ j k s n (x : Int32), j + 1 < n → k + j < 1000 → s &&& fil σ = s → 0 < Wc σ d s → j < lft σ s → F_X2_cellOfFirst fu n 34 2 (nI d) (nI (k + j)) (nI s) x (nI k) (enc A I) = some (some (.int (nI (an σ d j s))), enc A I) := by
  have hn := r.n7
  have hfl := fil_lt hn
  intro j
  induction j with
  | zero =>
    intro k s n x hn2 hk hs hp hl
    obtain ⟨n, rfl⟩ : ∃ k, n = k + 2 := ⟨n - 2, by omega⟩
    have hs2 : s < 128 := by have := Nat.and_le_right (n := s) (m := fil σ); rw [hs] at this; omega
    have hne : s ≠ fil σ := fun z => by have := (lft_0 hs).mpr z; omega
    have hlt := fst_lt hn (d := d) hs2 hs hne hp
    simp only [F_X2_cellOfFirst, Nat.add_zero, n_lt (show k < 2147483648 by omega) (show k < 2147483648 by omega), c_firstOn hf r hd hs ha hw hne hp, io_1, gr_1_0, gr_1_1, gr_1_2, gr_1_3, gr_1_4, gr_1_5, gi_1_6, pf_1_6, gi_1_7, pf_1_7, io_2, gr_2_0, gr_2_1, gr_2_2, gr_2_3, gr_2_4, gr_2_5, gr_2_6, gr_2_7, gi_2_8, pf_2_8, gi_2_9, pf_2_9, gi_2_10, pf_2_10, gi_2_11, pf_2_11, gi_2_12, pf_2_12, gi_2_13, pf_2_13, gi_2_14, pf_2_14, io_11, gr_11_0, gr_11_1, gr_11_2, io_15, gr_15_0, gr_15_1, gi_15_2, pf_15_2, gi_15_3, pf_15_3, gi_15_4, pf_15_4, gi_15_5, pf_15_5, io_18, gr_18_0, gr_18_1, gi_18_2, pf_18_2, io_21, gr_21_0, gr_21_1, gr_21_2, gr_21_3, gi_21_4, pf_21_4, gi_21_5, pf_21_5, gi_21_6, pf_21_6, gi_21_7, pf_21_7, io_34, gr_34_0, gi_34_1, pf_34_1, io_36, gi_36_0, pf_36_0, gi_36_1, pf_36_1, gr_36_2, gr_36_3, gr_36_4, gi_36_5, pf_36_5, gi_36_6, pf_36_6, gi_36_7, pf_36_7, gr_36_8, gr_36_9, gr_36_10, gr_36_11, gi_36_12, pf_36_12, gi_36_13, pf_36_13, gi_36_14, pf_36_14, gr_36_15, gr_36_16, gi_36_17, pf_36_17, gr_36_18, gr_36_19, gr_36_20, gr_36_21, gr_36_22, gi_36_23, pf_36_23, gr_36_24, gr_36_25, gi_36_26, pf_36_26, gr_36_27, gr_36_28, gr_36_29, gr_36_30, gi_36_31, pf_36_31, gr_36_32, gr_36_33, gi_36_34, pf_36_34, gi_36_35, pf_36_35, gr_36_36, al_3, al_4, al_5, al_6, al_7, al_8, al_9, al_10, al_12, al_13, al_14, al_16, al_17, al_19, al_20, al_22, al_23, al_24, al_26, al_27, al_28, al_29, al_30, al_31, al_32, al_33, al_35, al_37, al_38, al_39, al_40, al_41, al_42, al_43, al_44, al_45, al_46, al_47, al_48, al_49, al_50, al_51, al_52, al_53, al_54, al_55, al_56, al_57, al_58, al_59, ↓reduceIte, Option.bind_some, cI_some, cL_some, cV_some, rz_0, rz_1, n_m9 (show fst0 σ d s < 2147483648 by omega), if_false, nI_1, n_lt (show k < 2147483648 by omega) (show k + 1 < 2147483648 by omega)]
    rw [if_neg (by omega), if_pos (by omega)]
    rfl
  | succ j ih =>
    intro k s n x hn2 hk hs hp hl
    obtain ⟨n, rfl⟩ : ∃ k, n = k + 1 := ⟨n - 1, by omega⟩
    have hs2 : s < 128 := by have := Nat.and_le_right (n := s) (m := fil σ); rw [hs] at this; omega
    have hne : s ≠ fil σ := fun z => by have := (lft_0 hs).mpr z; omega
    have hlt := fst_lt hn (d := d) hs2 hs hne hp
    have hgo := gob_or hs hlt.2
    have e := ih (k + 1) (s ||| 2 ^ fst0 σ d s) n (nI (fst0 σ d s)) (by omega) (by omega) hgo.1 hgo.2.1 (by omega)
    rw [show k + 1 + j = k + (j + 1) by omega] at e
    simp only [F_X2_cellOfFirst, n_lt (show k + (j + 1) < 2147483648 by omega) (show k < 2147483648 by omega), c_firstOn hf r hd hs ha hw hne hp, io_1, gr_1_0, gr_1_1, gr_1_2, gr_1_3, gr_1_4, gr_1_5, gi_1_6, pf_1_6, gi_1_7, pf_1_7, io_2, gr_2_0, gr_2_1, gr_2_2, gr_2_3, gr_2_4, gr_2_5, gr_2_6, gr_2_7, gi_2_8, pf_2_8, gi_2_9, pf_2_9, gi_2_10, pf_2_10, gi_2_11, pf_2_11, gi_2_12, pf_2_12, gi_2_13, pf_2_13, gi_2_14, pf_2_14, io_11, gr_11_0, gr_11_1, gr_11_2, io_15, gr_15_0, gr_15_1, gi_15_2, pf_15_2, gi_15_3, pf_15_3, gi_15_4, pf_15_4, gi_15_5, pf_15_5, io_18, gr_18_0, gr_18_1, gi_18_2, pf_18_2, io_21, gr_21_0, gr_21_1, gr_21_2, gr_21_3, gi_21_4, pf_21_4, gi_21_5, pf_21_5, gi_21_6, pf_21_6, gi_21_7, pf_21_7, io_34, gr_34_0, gi_34_1, pf_34_1, io_36, gi_36_0, pf_36_0, gi_36_1, pf_36_1, gr_36_2, gr_36_3, gr_36_4, gi_36_5, pf_36_5, gi_36_6, pf_36_6, gi_36_7, pf_36_7, gr_36_8, gr_36_9, gr_36_10, gr_36_11, gi_36_12, pf_36_12, gi_36_13, pf_36_13, gi_36_14, pf_36_14, gr_36_15, gr_36_16, gi_36_17, pf_36_17, gr_36_18, gr_36_19, gr_36_20, gr_36_21, gr_36_22, gi_36_23, pf_36_23, gr_36_24, gr_36_25, gi_36_26, pf_36_26, gr_36_27, gr_36_28, gr_36_29, gr_36_30, gi_36_31, pf_36_31, gr_36_32, gr_36_33, gi_36_34, pf_36_34, gi_36_35, pf_36_35, gr_36_36, al_3, al_4, al_5, al_6, al_7, al_8, al_9, al_10, al_12, al_13, al_14, al_16, al_17, al_19, al_20, al_22, al_23, al_24, al_26, al_27, al_28, al_29, al_30, al_31, al_32, al_33, al_35, al_37, al_38, al_39, al_40, al_41, al_42, al_43, al_44, al_45, al_46, al_47, al_48, al_49, al_50, al_51, al_52, al_53, al_54, al_55, al_56, al_57, al_58, al_59, ↓reduceIte, Option.bind_some, cI_some, cL_some, cV_some, rz_0, rz_1, n_m9 (show fst0 σ d s < 2147483648 by omega), if_false, nI_1, or_1 s (fst0 σ d s) (show fst0 σ d s < 31 by omega)]
    rw [if_neg (by omega), an]
    exact e
theorem pc_fil (hn : σ 0 0 ≤ 7) : pc (fil σ) = lft σ 0 := by
  unfold fil lft
  rw [pc_bits _ hn]
  exact cnt_congr _ fun c hc => by rw [fil_t, decide_eq_true hc, Nat.zero_testBit]; simp
theorem c_cellOfFirst (hf : 1000 ≤ fu) (r : RR σ A I) (hd : d ≤ 9) {q : Nat} (hq : q < 2147483648) : ∃ A1 I1, U_X2_cellOfFirst fu [.ref 34, .ref 2, .int (nI d), .int (nI q)] (enc A I) = some (some (.int (if 0 < Wc σ d 0 ∧ q < lft σ 0 then nI (an σ d q 0) else -9)), enc A1 I1) ∧ Fr A I A1 I1 := by
  have hn := r.n7
  have hfl := fil_lt hn
  obtain ⟨A1, I1, a1, a2, a3, a4⟩ := c_count (fu := fu) hf r hd
  have r1 := a2.R r
  refine ⟨A1, I1, ?_, a2⟩
  have hWl := Wc_lt hn d (show 0 < 128 by omega)
  have hl7 : lft σ 0 ≤ 7 := Nat.le_trans (cnt_le _ _) hn
  simp only [u_X2_cellOfFirst, M_X2_cellOfFirst, io_1, gr_1_0, gr_1_1, gr_1_2, gr_1_3, gr_1_4, gr_1_5, gi_1_6, pf_1_6, gi_1_7, pf_1_7, io_2, gr_2_0, gr_2_1, gr_2_2, gr_2_3, gr_2_4, gr_2_5, gr_2_6, gr_2_7, gi_2_8, pf_2_8, gi_2_9, pf_2_9, gi_2_10, pf_2_10, gi_2_11, pf_2_11, gi_2_12, pf_2_12, gi_2_13, pf_2_13, gi_2_14, pf_2_14, io_11, gr_11_0, gr_11_1, gr_11_2, io_15, gr_15_0, gr_15_1, gi_15_2, pf_15_2, gi_15_3, pf_15_3, gi_15_4, pf_15_4, gi_15_5, pf_15_5, io_18, gr_18_0, gr_18_1, gi_18_2, pf_18_2, io_21, gr_21_0, gr_21_1, gr_21_2, gr_21_3, gi_21_4, pf_21_4, gi_21_5, pf_21_5, gi_21_6, pf_21_6, gi_21_7, pf_21_7, io_34, gr_34_0, gi_34_1, pf_34_1, io_36, gi_36_0, pf_36_0, gi_36_1, pf_36_1, gr_36_2, gr_36_3, gr_36_4, gi_36_5, pf_36_5, gi_36_6, pf_36_6, gi_36_7, pf_36_7, gr_36_8, gr_36_9, gr_36_10, gr_36_11, gi_36_12, pf_36_12, gi_36_13, pf_36_13, gi_36_14, pf_36_14, gr_36_15, gr_36_16, gi_36_17, pf_36_17, gr_36_18, gr_36_19, gr_36_20, gr_36_21, gr_36_22, gi_36_23, pf_36_23, gr_36_24, gr_36_25, gi_36_26, pf_36_26, gr_36_27, gr_36_28, gr_36_29, gr_36_30, gi_36_31, pf_36_31, gr_36_32, gr_36_33, gi_36_34, pf_36_34, gi_36_35, pf_36_35, gr_36_36, al_3, al_4, al_5, al_6, al_7, al_8, al_9, al_10, al_12, al_13, al_14, al_16, al_17, al_19, al_20, al_22, al_23, al_24, al_26, al_27, al_28, al_29, al_30, al_31, al_32, al_33, al_35, al_37, al_38, al_39, al_40, al_41, al_42, al_43, al_44, al_45, al_46, al_47, al_48, al_49, al_50, al_51, al_52, al_53, al_54, al_55, al_56, al_57, al_58, al_59, ↓reduceIte, Option.bind_some, cI_some, cL_some, cV_some, rz_0, rz_1, a1, nI_pe0 hWl, a3, c_bitCount fu _ hfl, pc_fil hn, n_lt hq (show lft σ 0 < 2147483648 by omega)]
  by_cases z1 : Wc σ d 0 = 0
  · rw [if_pos z1, if_neg (fun y => by omega)]
  · rw [if_neg z1]
    by_cases z2 : q < lft σ 0
    · rw [if_pos z2, if_pos ⟨by omega, z2⟩]
      have e := c_cellL (fu := fu) hf r1 hd a3 a4 q 0 0 fu (-9) (by omega) (by omega) (Nat.zero_and _) (by omega) z2
      rw [Nat.zero_add] at e
      exact e
    · rw [if_neg z2, if_neg (fun y => z2 y.2)]
end OC
