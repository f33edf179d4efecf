/-! ===== the class's plan: stones of use, what helps, what outlasts ===== -/
theorem cmpF : ∀ F, F < 8 → ∀ c, c < 8 → ∀ e, e < 2 → (nI F < nI c - nI e ↔ F + e < c) := by decide +kernel
section PA
variable {σ : SG} {A : Nat → List Int32} {I : Nat → Nat → Int32} {fu d f rds : Nat}
def esN (σ : SG) (s : Nat) : Nat := if σ 3 s = 2 then 1 else 0
theorem esN_le (σ : SG) (s : Nat) : esN σ s ≤ 1 := by unfold esN; split <;> omega
theorem c_easeOf (r : RR σ A I) {s : Nat} (hs : s < σ 0 3) : U_X0_easeOf fu [.ref 2, .int (nI s)] (enc A I) = some (some (.int (nI (esN σ s))), enc A I) := by
  have h := (r.sto hs).1
  have e2 : (nI (σ 3 s) = 2) = (σ 3 s = 2) := n_eq (by omega) (by decide)
  simp only [u_X0_easeOf, M_X0_easeOf, io_1, gr_1_0, gr_1_1, gr_1_2, gr_1_3, gr_1_4, gr_1_5, gi_1_6, pf_1_6, gi_1_7, pf_1_7, io_2, gr_2_0, gr_2_1, gr_2_2, gr_2_3, gr_2_4, gr_2_5, gr_2_6, gr_2_7, gi_2_8, pf_2_8, gi_2_9, pf_2_9, gi_2_10, pf_2_10, gi_2_11, pf_2_11, gi_2_12, pf_2_12, gi_2_13, pf_2_13, gi_2_14, pf_2_14, io_11, gr_11_0, gr_11_1, gr_11_2, io_15, gr_15_0, gr_15_1, gi_15_2, pf_15_2, gi_15_3, pf_15_3, gi_15_4, pf_15_4, gi_15_5, pf_15_5, io_18, gr_18_0, gr_18_1, gi_18_2, pf_18_2, io_21, gr_21_0, gr_21_1, gr_21_2, gr_21_3, gi_21_4, pf_21_4, gi_21_5, pf_21_5, gi_21_6, pf_21_6, gi_21_7, pf_21_7, io_34, gr_34_0, gi_34_1, pf_34_1, io_36, gi_36_0, pf_36_0, gi_36_1, pf_36_1, gr_36_2, gr_36_3, gr_36_4, gi_36_5, pf_36_5, gi_36_6, pf_36_6, gi_36_7, pf_36_7, gr_36_8, gr_36_9, gr_36_10, gr_36_11, gi_36_12, pf_36_12, gi_36_13, pf_36_13, gi_36_14, pf_36_14, gr_36_15, gr_36_16, gi_36_17, pf_36_17, gr_36_18, gr_36_19, gr_36_20, gr_36_21, gr_36_22, gi_36_23, pf_36_23, gr_36_24, gr_36_25, gi_36_26, pf_36_26, gr_36_27, gr_36_28, gr_36_29, gr_36_30, gi_36_31, pf_36_31, gr_36_32, gr_36_33, gi_36_34, pf_36_34, gi_36_35, pf_36_35, gr_36_36, al_3, al_4, al_5, al_6, al_7, al_8, al_9, al_10, al_12, al_13, al_14, al_16, al_17, al_19, al_20, al_22, al_23, al_24, al_26, al_27, al_28, al_29, al_30, al_31, al_32, al_33, al_35, al_37, al_38, al_39, al_40, al_41, al_42, al_43, al_44, al_45, al_46, al_47, al_48, al_49, al_50, al_51, al_52, al_53, al_54, al_55, al_56, al_57, al_58, al_59, ↓reduceIte, Option.bind_some, cI_some, cL_some, cV_some, rz_0, rz_1, r.a6 hs, e2]
  unfold esN
  by_cases z : σ 3 s = 2
  · rw [if_pos z, if_pos z]; rfl
  · rw [if_neg z, if_neg z]; rfl
/-! the array of arrays -/
theorem at_L (A : Nat → List Int32) (I : Nat → Nat → Int32) {j : Nat} (hj : j < 8) : (enc A I)[26 + j]? = some (.inr (0, A (26 + j))) := by
  have h : j = 0 ∨ j = 1 ∨ j = 2 ∨ j = 3 ∨ j = 4 ∨ j = 5 ∨ j = 6 ∨ j = 7 := by omega
  rcases h with h | h | h | h | h | h | h | h <;> subst h <;> rfl
theorem set_L (A : Nat → List Int32) (I : Nat → Nat → Int32) {j : Nat} (hj : j < 8) (xs : List Int32) : (enc A I).set (26 + j) (.inr (0, xs)) = enc (uA A (26 + j) xs) I := by
  have h : j = 0 ∨ j = 1 ∨ j = 2 ∨ j = 3 ∨ j = 4 ∨ j = 5 ∨ j = 6 ∨ j = 7 := by omega
  rcases h with h | h | h | h | h | h | h | h <;> subst h <;> rfl
theorem len_L (r : RR σ A I) {j : Nat} (hj : j < 8) : (A (26 + j)).length = 8 := by
  have h : j = 0 ∨ j = 1 ∨ j = 2 ∨ j = 3 ∨ j = 4 ∨ j = 5 ∨ j = 6 ∨ j = 7 := by omega
  rcases h with h | h | h | h | h | h | h | h <;> subst h <;> exact r.len rfl
theorem scr_L {j : Nat} (hj : j < 8) : scrA (26 + j) = true := by
  have h : j = 0 ∨ j = 1 ∨ j = 2 ∨ j = 3 ∨ j = 4 ∨ j = 5 ∨ j = 6 ∨ j = 7 := by omega
  rcases h with h | h | h | h | h | h | h | h <;> subst h <;> rfl
theorem ai_L (A : Nat → List Int32) (I : Nat → Nat → Int32) {j i : Nat} (hj : j < 8) (hl : i < (A (26 + j)).length) (h : i < 2147483648) : aI (enc A I) (26 + j) (nI i) = some (rd (A (26 + j)) i) := aI_enc (at_L A I hj) hl h
theorem si_L (A : Nat → List Int32) (I : Nat → Nat → Int32) {j i : Nat} (x : Int32) (hj : j < 8) (hl : i < (A (26 + j)).length) (h : i < 2147483648) : sI (enc A I) (26 + j) (nI i) x = some (enc (uA A (26 + j) ((A (26 + j)).set i x)) I) := by
  rw [sI_enc (at_L A I hj) (by omega) hl h, set_L A I hj]
theorem ar_L (A : Nat → List Int32) (I : Nat → Nat → Int32) {j : Nat} (hj : j < 8) : aR (enc A I) 25 (nI j) = some (26 + j) := by
  unfold aR
  rw [show (enc A I)[25]? = some (.inr (3, [26, 27, 28, 29, 30, 31, 32, 33])) from rfl]
  dsimp only
  rw [if_pos ⟨rfl, by decide, nI_pos' (by omega)⟩, nI_clamp (by omega)]
  have h : j = 0 ∨ j = 1 ∨ j = 2 ∨ j = 3 ∨ j = 4 ∨ j = 5 ∨ j = 6 ∨ j = 7 := by omega
  rcases h with h | h | h | h | h | h | h | h <;> subst h <;> rfl
/-! of use -/
def uyB (σ : SG) (f rds s c : Nat) : Bool := decide (σ 8 s ≠ 100) && syB σ f rds s c
theorem c_outlasts (r : RR σ A I) (hf9 : f ≤ 9) (hrd : rds ≤ 30) (h6 : I 21 6 = nI f) (h7 : I 21 7 = nI rds) {s c : Nat} (hs : s < σ 0 3) (hc : c < σ 0 0) (st : Nat → Bool) :
    U_X3_outlasts fu [.ref 21, .ref 2, .int (nI s), .int (nI c), .int (nI (bits st (σ 0 0)))] (enc A I) = some (some (.int (bI (rds * mor σ (gG σ) f st c < hold σ s))), enc A I) := by
  have dg0 := c_digging (fu := fu) r hc hf9 st (gG σ)
  have mlt : mor σ (gG σ) f st c < 21 := mor_lt r.1.2.2.1 hf9 c
  have prod : rds * mor σ (gG σ) f st c ≤ 30 * 20 := Nat.mul_le_mul hrd (by omega)
  have hh := hold_lt r.1 hs
  have ho := c_holdOf (fu := fu) r hs
  simp -implicitDefEqProofs only [u_X3_outlasts, M_X3_outlasts, io_1, gr_1_0, gr_1_1, gr_1_2, gr_1_3, gr_1_4, gr_1_5, gi_1_6, pf_1_6, gi_1_7, pf_1_7, io_2, gr_2_0, gr_2_1, gr_2_2, gr_2_3, gr_2_4, gr_2_5, gr_2_6, gr_2_7, gi_2_8, pf_2_8, gi_2_9, pf_2_9, gi_2_10, pf_2_10, gi_2_11, pf_2_11, gi_2_12, pf_2_12, gi_2_13, pf_2_13, gi_2_14, pf_2_14, io_11, gr_11_0, gr_11_1, gr_11_2, io_15, gr_15_0, gr_15_1, gi_15_2, pf_15_2, gi_15_3, pf_15_3, gi_15_4, pf_15_4, gi_15_5, pf_15_5, io_18, gr_18_0, gr_18_1, gi_18_2, pf_18_2, io_21, gr_21_0, gr_21_1, gr_21_2, gr_21_3, gi_21_4, pf_21_4, gi_21_5, pf_21_5, gi_21_6, pf_21_6, gi_21_7, pf_21_7, io_34, gr_34_0, gi_34_1, pf_34_1, io_36, gi_36_0, pf_36_0, gi_36_1, pf_36_1, gr_36_2, gr_36_3, gr_36_4, gi_36_5, pf_36_5, gi_36_6, pf_36_6, gi_36_7, pf_36_7, gr_36_8, gr_36_9, gr_36_10, gr_36_11, gi_36_12, pf_36_12, gi_36_13, pf_36_13, gi_36_14, pf_36_14, gr_36_15, gr_36_16, gi_36_17, pf_36_17, gr_36_18, gr_36_19, gr_36_20, gr_36_21, gr_36_22, gi_36_23, pf_36_23, gr_36_24, gr_36_25, gi_36_26, pf_36_26, gr_36_27, gr_36_28, gr_36_29, gr_36_30, gi_36_31, pf_36_31, gr_36_32, gr_36_33, gi_36_34, pf_36_34, gi_36_35, pf_36_35, gr_36_36, al_3, al_4, al_5, al_6, al_7, al_8, al_9, al_10, al_12, al_13, al_14, al_16, al_17, al_19, al_20, al_22, al_23, al_24, al_26, al_27, al_28, al_29, al_30, al_31, al_32, al_33, al_35, al_37, al_38, al_39, al_40, al_41, al_42, al_43, al_44, al_45, al_46, al_47, al_48, al_49, al_50, al_51, al_52, al_53, al_54, al_55, al_56, al_57, al_58, al_59, ↓reduceIte, Option.bind_some, cI_some, cL_some, cV_some, rz_0, rz_1, r.i2_10, h6, h7, dg0, ho, pk_mul, n_lt (show rds * mor σ (gG σ) f st c < 2147483648 by omega) (show hold σ s < 2147483648 by omega)]
  by_cases z : rds * mor σ (gG σ) f st c < hold σ s
  · rw [if_pos z, bI_t z]
  · rw [if_neg z, bI_f z]
theorem c_usesL (hf9 : f ≤ 9) (hrd : rds ≤ 30) (r : RR σ A I) (h6 : I 21 6 = nI f) (h7 : I 21 7 = nI rds) {s : Nat} (hs : s < σ 0 3) : ∀ m c n, c + m = σ 0 0 → m < n →
    F_X3_usesOf fu n 21 2 (nI s) (nI (bits (syB σ f rds s) c)) (nI c) (enc A I) = some (some (.int (nI (bits (syB σ f rds s) (σ 0 0)))), enc A I) := by
  intro m
  induction m with
  | zero =>
    intro c n hc hm
    have hn := r.n7
    obtain ⟨n, rfl⟩ : ∃ k, n = k + 1 := ⟨n - 1, by omega⟩
    have e : c = σ 0 0 := by omega
    subst e
    simp -implicitDefEqProofs only [F_X3_usesOf, io_1, gr_1_0, gr_1_1, gr_1_2, gr_1_3, gr_1_4, gr_1_5, gi_1_6, pf_1_6, gi_1_7, pf_1_7, io_2, gr_2_0, gr_2_1, gr_2_2, gr_2_3, gr_2_4, gr_2_5, gr_2_6, gr_2_7, gi_2_8, pf_2_8, gi_2_9, pf_2_9, gi_2_10, pf_2_10, gi_2_11, pf_2_11, gi_2_12, pf_2_12, gi_2_13, pf_2_13, gi_2_14, pf_2_14, io_11, gr_11_0, gr_11_1, gr_11_2, io_15, gr_15_0, gr_15_1, gi_15_2, pf_15_2, gi_15_3, pf_15_3, gi_15_4, pf_15_4, gi_15_5, pf_15_5, io_18, gr_18_0, gr_18_1, gi_18_2, pf_18_2, io_21, gr_21_0, gr_21_1, gr_21_2, gr_21_3, gi_21_4, pf_21_4, gi_21_5, pf_21_5, gi_21_6, pf_21_6, gi_21_7, pf_21_7, io_34, gr_34_0, gi_34_1, pf_34_1, io_36, gi_36_0, pf_36_0, gi_36_1, pf_36_1, gr_36_2, gr_36_3, gr_36_4, gi_36_5, pf_36_5, gi_36_6, pf_36_6, gi_36_7, pf_36_7, gr_36_8, gr_36_9, gr_36_10, gr_36_11, gi_36_12, pf_36_12, gi_36_13, pf_36_13, gi_36_14, pf_36_14, gr_36_15, gr_36_16, gi_36_17, pf_36_17, gr_36_18, gr_36_19, gr_36_20, gr_36_21, gr_36_22, gi_36_23, pf_36_23, gr_36_24, gr_36_25, gi_36_26, pf_36_26, gr_36_27, gr_36_28, gr_36_29, gr_36_30, gi_36_31, pf_36_31, gr_36_32, gr_36_33, gi_36_34, pf_36_34, gi_36_35, pf_36_35, gr_36_36, al_3, al_4, al_5, al_6, al_7, al_8, al_9, al_10, al_12, al_13, al_14, al_16, al_17, al_19, al_20, al_22, al_23, al_24, al_26, al_27, al_28, al_29, al_30, al_31, al_32, al_33, al_35, al_37, al_38, al_39, al_40, al_41, al_42, al_43, al_44, al_45, al_46, al_47, al_48, al_49, al_50, al_51, al_52, al_53, al_54, al_55, al_56, al_57, al_58, al_59, ↓reduceIte, Option.bind_some, cI_some, cL_some, cV_some, rz_0, rz_1, r.i2_8, n_lt (show σ 0 0 < 2147483648 by omega) (show σ 0 0 < 2147483648 by omega)]
    rw [if_neg (by omega)]
  | succ m ih =>
    intro c n hcm hm
    have hn := r.n7
    obtain ⟨n, rfl⟩ : ∃ k, n = k + 1 := ⟨n - 1, by omega⟩
    have hc : c < σ 0 0 := by omega
    have t1 := r.sto hs
    have t2 := (r.cel hc).1
    have tw : σ 0 2 ≤ 9 := r.1.2.2.2.1
    have eT := top_lt _ (show σ 4 s < 21 by omega) _ (show σ 1 c < 10 by omega) _ (show σ 0 2 < 10 by omega)
    have ou := c_outlasts (fu := fu) r hf9 hrd h6 h7 hs hc (fun _ => false)
    rw [show bits (fun _ => false) (σ 0 0) = 0 from bits_z _ (fun _ _ => rfl), show nI 0 = (0 : Int32) from rfl] at ou
    have b2 := bits_step (syB σ f rds s) (show c < 31 by omega)
    have top : U_X0_topOf fu [.ref 2, .int (nI s), .int (nI c), .int (nI (σ 0 2))] (enc A I) = some (some (.int (nI (σ 4 s) - nI (σ 1 c) - nI (σ 0 2))), enc A I) := c_topOf r hs hc _
    have nx := ih (c + 1) n (by omega) (by omega)
    rw [← b2] at nx
    simp -implicitDefEqProofs only [F_X3_usesOf, io_1, gr_1_0, gr_1_1, gr_1_2, gr_1_3, gr_1_4, gr_1_5, gi_1_6, pf_1_6, gi_1_7, pf_1_7, io_2, gr_2_0, gr_2_1, gr_2_2, gr_2_3, gr_2_4, gr_2_5, gr_2_6, gr_2_7, gi_2_8, pf_2_8, gi_2_9, pf_2_9, gi_2_10, pf_2_10, gi_2_11, pf_2_11, gi_2_12, pf_2_12, gi_2_13, pf_2_13, gi_2_14, pf_2_14, io_11, gr_11_0, gr_11_1, gr_11_2, io_15, gr_15_0, gr_15_1, gi_15_2, pf_15_2, gi_15_3, pf_15_3, gi_15_4, pf_15_4, gi_15_5, pf_15_5, io_18, gr_18_0, gr_18_1, gi_18_2, pf_18_2, io_21, gr_21_0, gr_21_1, gr_21_2, gr_21_3, gi_21_4, pf_21_4, gi_21_5, pf_21_5, gi_21_6, pf_21_6, gi_21_7, pf_21_7, io_34, gr_34_0, gi_34_1, pf_34_1, io_36, gi_36_0, pf_36_0, gi_36_1, pf_36_1, gr_36_2, gr_36_3, gr_36_4, gi_36_5, pf_36_5, gi_36_6, pf_36_6, gi_36_7, pf_36_7, gr_36_8, gr_36_9, gr_36_10, gr_36_11, gi_36_12, pf_36_12, gi_36_13, pf_36_13, gi_36_14, pf_36_14, gr_36_15, gr_36_16, gi_36_17, pf_36_17, gr_36_18, gr_36_19, gr_36_20, gr_36_21, gr_36_22, gi_36_23, pf_36_23, gr_36_24, gr_36_25, gi_36_26, pf_36_26, gr_36_27, gr_36_28, gr_36_29, gr_36_30, gi_36_31, pf_36_31, gr_36_32, gr_36_33, gi_36_34, pf_36_34, gi_36_35, pf_36_35, gr_36_36, al_3, al_4, al_5, al_6, al_7, al_8, al_9, al_10, al_12, al_13, al_14, al_16, al_17, al_19, al_20, al_22, al_23, al_24, al_26, al_27, al_28, al_29, al_30, al_31, al_32, al_33, al_35, al_37, al_38, al_39, al_40, al_41, al_42, al_43, al_44, al_45, al_46, al_47, al_48, al_49, al_50, al_51, al_52, al_53, al_54, al_55, al_56, al_57, al_58, al_59, ↓reduceIte, Option.bind_some, cI_some, cL_some, cV_some, rz_0, rz_1, r.i2_8, n_lt (show c < 2147483648 by omega) (show σ 0 0 < 2147483648 by omega), r.i2_11, top, ou, nI_1, bI_0]
    rw [if_pos hc]
    by_cases z1 : σ 1 c + σ 0 2 < σ 4 s
    rotate_left
    · rw [if_pos (eT.mpr z1)]
      rw [if_neg (by unfold syB; rw [decide_eq_false z1, Bool.false_and]; exact Bool.false_ne_true)] at nx
      exact nx
    rw [if_neg (fun y => eT.mp y z1)]
    by_cases z2 : rds * mor σ (gG σ) f (fun _ => false) c < hold σ s
    rotate_left
    · rw [if_pos z2]
      rw [if_neg (by unfold syB; rw [decide_eq_false z2, Bool.and_false]; exact Bool.false_ne_true)] at nx
      exact nx
    rw [if_neg (fun w => w z2)]
    rw [if_pos (by unfold syB; rw [decide_eq_true z1, decide_eq_true z2]; rfl)] at nx
    exact nx
theorem c_usesOf (hf : 1000 ≤ fu) (r : RR σ A I) (hf9 : f ≤ 9) (hrd : rds ≤ 30) (h6 : I 21 6 = nI f) (h7 : I 21 7 = nI rds) {s : Nat} (hs : s < σ 0 3) :
    U_X3_usesOf fu [.ref 21, .ref 2, .int (nI s)] (enc A I) = some (some (.int (nI (bits (syB σ f rds s) (σ 0 0)))), enc A I) := by
  have hn := r.n7
  simp -implicitDefEqProofs only [u_X3_usesOf, M_X3_usesOf, io_1, gr_1_0, gr_1_1, gr_1_2, gr_1_3, gr_1_4, gr_1_5, gi_1_6, pf_1_6, gi_1_7, pf_1_7, io_2, gr_2_0, gr_2_1, gr_2_2, gr_2_3, gr_2_4, gr_2_5, gr_2_6, gr_2_7, gi_2_8, pf_2_8, gi_2_9, pf_2_9, gi_2_10, pf_2_10, gi_2_11, pf_2_11, gi_2_12, pf_2_12, gi_2_13, pf_2_13, gi_2_14, pf_2_14, io_11, gr_11_0, gr_11_1, gr_11_2, io_15, gr_15_0, gr_15_1, gi_15_2, pf_15_2, gi_15_3, pf_15_3, gi_15_4, pf_15_4, gi_15_5, pf_15_5, io_18, gr_18_0, gr_18_1, gi_18_2, pf_18_2, io_21, gr_21_0, gr_21_1, gr_21_2, gr_21_3, gi_21_4, pf_21_4, gi_21_5, pf_21_5, gi_21_6, pf_21_6, gi_21_7, pf_21_7, io_34, gr_34_0, gi_34_1, pf_34_1, io_36, gi_36_0, pf_36_0, gi_36_1, pf_36_1, gr_36_2, gr_36_3, gr_36_4, gi_36_5, pf_36_5, gi_36_6, pf_36_6, gi_36_7, pf_36_7, gr_36_8, gr_36_9, gr_36_10, gr_36_11, gi_36_12, pf_36_12, gi_36_13, pf_36_13, gi_36_14, pf_36_14, gr_36_15, gr_36_16, gi_36_17, pf_36_17, gr_36_18, gr_36_19, gr_36_20, gr_36_21, gr_36_22, gi_36_23, pf_36_23, gr_36_24, gr_36_25, gi_36_26, pf_36_26, gr_36_27, gr_36_28, gr_36_29, gr_36_30, gi_36_31, pf_36_31, gr_36_32, gr_36_33, gi_36_34, pf_36_34, gi_36_35, pf_36_35, gr_36_36, al_3, al_4, al_5, al_6, al_7, al_8, al_9, al_10, al_12, al_13, al_14, al_16, al_17, al_19, al_20, al_22, al_23, al_24, al_26, al_27, al_28, al_29, al_30, al_31, al_32, al_33, al_35, al_37, al_38, al_39, al_40, al_41, al_42, al_43, al_44, al_45, al_46, al_47, al_48, al_49, al_50, al_51, al_52, al_53, al_54, al_55, al_56, al_57, al_58, al_59, ↓reduceIte, Option.bind_some, cI_some, cL_some, cV_some, rz_0, rz_1]
  exact c_usesL hf9 hrd r h6 h7 hs (σ 0 0) 0 fu (by omega) (by omega)
/-- what stands in the row of uses -/
def US (σ : SG) (f rds : Nat) (A : Nat → List Int32) : Prop := ∀ s, s < σ 0 3 → rd (A 24) s = nI (bits (uyB σ f rds s) (σ 0 0))
theorem c_helps (r : RR σ A I) (hU : US σ f rds A) {s c F : Nat} (hs : s < σ 0 3) (hc : c < σ 0 0) (hF : F ≤ σ 0 0) :
    U_X3_helps fu [.ref 21, .ref 2, .int (nI s), .int (nI c), .int (nI F)] (enc A I) = some (some (.int (bI (uyB σ f rds s c = true ∧ c ≤ F + esN σ s))), enc A I) := by
  have hn := r.n7
  have hm := r.m6
  have he := esN_le σ s
  have l24 : (A 24).length = 6 := r.len rfl
  have e24 : aI (enc A I) 24 (nI s) = some (nI (bits (uyB σ f rds s) (σ 0 0))) := by rw [ai_24 A I (by omega) (by omega), hU s hs]
  have hb1 : bits (uyB σ f rds s) (σ 0 0) < 2147483648 := Nat.lt_trans (bits_ge hn) (by decide)
  have t1 : (bits (uyB σ f rds s) (σ 0 0)).testBit c = uyB σ f rds s c := by rw [bits_test, decide_eq_true hc, Bool.true_and]
  have cF := cmpF F (by omega) c (by omega) (esN σ s) (by omega)
  simp -implicitDefEqProofs only [u_X3_helps, M_X3_helps, io_1, gr_1_0, gr_1_1, gr_1_2, gr_1_3, gr_1_4, gr_1_5, gi_1_6, pf_1_6, gi_1_7, pf_1_7, io_2, gr_2_0, gr_2_1, gr_2_2, gr_2_3, gr_2_4, gr_2_5, gr_2_6, gr_2_7, gi_2_8, pf_2_8, gi_2_9, pf_2_9, gi_2_10, pf_2_10, gi_2_11, pf_2_11, gi_2_12, pf_2_12, gi_2_13, pf_2_13, gi_2_14, pf_2_14, io_11, gr_11_0, gr_11_1, gr_11_2, io_15, gr_15_0, gr_15_1, gi_15_2, pf_15_2, gi_15_3, pf_15_3, gi_15_4, pf_15_4, gi_15_5, pf_15_5, io_18, gr_18_0, gr_18_1, gi_18_2, pf_18_2, io_21, gr_21_0, gr_21_1, gr_21_2, gr_21_3, gi_21_4, pf_21_4, gi_21_5, pf_21_5, gi_21_6, pf_21_6, gi_21_7, pf_21_7, io_34, gr_34_0, gi_34_1, pf_34_1, io_36, gi_36_0, pf_36_0, gi_36_1, pf_36_1, gr_36_2, gr_36_3, gr_36_4, gi_36_5, pf_36_5, gi_36_6, pf_36_6, gi_36_7, pf_36_7, gr_36_8, gr_36_9, gr_36_10, gr_36_11, gi_36_12, pf_36_12, gi_36_13, pf_36_13, gi_36_14, pf_36_14, gr_36_15, gr_36_16, gi_36_17, pf_36_17, gr_36_18, gr_36_19, gr_36_20, gr_36_21, gr_36_22, gi_36_23, pf_36_23, gr_36_24, gr_36_25, gi_36_26, pf_36_26, gr_36_27, gr_36_28, gr_36_29, gr_36_30, gi_36_31, pf_36_31, gr_36_32, gr_36_33, gi_36_34, pf_36_34, gi_36_35, pf_36_35, gr_36_36, al_3, al_4, al_5, al_6, al_7, al_8, al_9, al_10, al_12, al_13, al_14, al_16, al_17, al_19, al_20, al_22, al_23, al_24, al_26, al_27, al_28, al_29, al_30, al_31, al_32, al_33, al_35, al_37, al_38, al_39, al_40, al_41, al_42, al_43, al_44, al_45, al_46, al_47, al_48, al_49, al_50, al_51, al_52, al_53, al_54, al_55, al_56, al_57, al_58, al_59, ↓reduceIte, Option.bind_some, cI_some, cL_some, cV_some, rz_0, rz_1, e24, c_hasn _ hb1 (show c < 31 by omega), t1, bI_0, c_easeOf r hs]
  by_cases z : uyB σ f rds s c = true
  · rw [if_neg (fun w => w z)]
    by_cases y : F + esN σ s < c
    · rw [if_pos (cF.mpr y), bI_f (fun w => by omega)]
    · rw [if_neg (fun w => y (cF.mp w)), bI_t ⟨z, by omega⟩]
  · rw [if_pos z, bI_f (fun w => z w.1)]
/-- how far one comes from a stone -/
def fbN (σ : SG) (d s c : Nat) : Nat := if σ 0 0 < c + esN σ s + d then σ 0 0 else c + esN σ s + d
theorem fbN_le (σ : SG) (d s c : Nat) : fbN σ d s c ≤ σ 0 0 := by unfold fbN; split <;> omega
theorem c_farBehind (r : RR σ A I) (h5 : I 21 5 = nI d) (hd : d ≤ 9) {s c : Nat} (hs : s < σ 0 3) (hc : c < σ 0 0) :
    U_X3_farBehind fu [.ref 21, .ref 2, .int (nI s), .int (nI c)] (enc A I) = some (some (.int (nI (fbN σ d s c))), enc A I) := by
  have hn := r.n7
  have he := esN_le σ s
  have mn : oMin [.int (nI (c + esN σ s + d)), .int (nI (σ 0 0))] (enc A I) = some (some (.int (nI (fbN σ d s c))), enc A I) := by
    unfold oMin fbN
    dsimp only
    simp only [n_lt (show σ 0 0 < 2147483648 by omega) (show c + esN σ s + d < 2147483648 by omega)]
    by_cases y : σ 0 0 < c + esN σ s + d
    · rw [if_pos y, if_pos y]
    · rw [if_neg y, if_neg y]
  simp -implicitDefEqProofs only [u_X3_farBehind, M_X3_farBehind, io_1, gr_1_0, gr_1_1, gr_1_2, gr_1_3, gr_1_4, gr_1_5, gi_1_6, pf_1_6, gi_1_7, pf_1_7, io_2, gr_2_0, gr_2_1, gr_2_2, gr_2_3, gr_2_4, gr_2_5, gr_2_6, gr_2_7, gi_2_8, pf_2_8, gi_2_9, pf_2_9, gi_2_10, pf_2_10, gi_2_11, pf_2_11, gi_2_12, pf_2_12, gi_2_13, pf_2_13, gi_2_14, pf_2_14, io_11, gr_11_0, gr_11_1, gr_11_2, io_15, gr_15_0, gr_15_1, gi_15_2, pf_15_2, gi_15_3, pf_15_3, gi_15_4, pf_15_4, gi_15_5, pf_15_5, io_18, gr_18_0, gr_18_1, gi_18_2, pf_18_2, io_21, gr_21_0, gr_21_1, gr_21_2, gr_21_3, gi_21_4, pf_21_4, gi_21_5, pf_21_5, gi_21_6, pf_21_6, gi_21_7, pf_21_7, io_34, gr_34_0, gi_34_1, pf_34_1, io_36, gi_36_0, pf_36_0, gi_36_1, pf_36_1, gr_36_2, gr_36_3, gr_36_4, gi_36_5, pf_36_5, gi_36_6, pf_36_6, gi_36_7, pf_36_7, gr_36_8, gr_36_9, gr_36_10, gr_36_11, gi_36_12, pf_36_12, gi_36_13, pf_36_13, gi_36_14, pf_36_14, gr_36_15, gr_36_16, gi_36_17, pf_36_17, gr_36_18, gr_36_19, gr_36_20, gr_36_21, gr_36_22, gi_36_23, pf_36_23, gr_36_24, gr_36_25, gi_36_26, pf_36_26, gr_36_27, gr_36_28, gr_36_29, gr_36_30, gi_36_31, pf_36_31, gr_36_32, gr_36_33, gi_36_34, pf_36_34, gi_36_35, pf_36_35, gr_36_36, al_3, al_4, al_5, al_6, al_7, al_8, al_9, al_10, al_12, al_13, al_14, al_16, al_17, al_19, al_20, al_22, al_23, al_24, al_26, al_27, al_28, al_29, al_30, al_31, al_32, al_33, al_35, al_37, al_38, al_39, al_40, al_41, al_42, al_43, al_44, al_45, al_46, al_47, al_48, al_49, al_50, al_51, al_52, al_53, al_54, al_55, al_56, al_57, al_58, al_59, ↓reduceIte, Option.bind_some, cI_some, cL_some, cV_some, rz_0, rz_1, c_easeOf r hs, h5, r.i2_8, nI_add, mn]
def csN (σ : SG) (s c : Nat) : Nat := 7 * wk σ s c + 1
theorem c_costOf (r : RR σ A I) {s c : Nat} (hs : s < σ 0 3) (hc : c < σ 0 0) :
    U_X3_costOf fu [.ref 2, .int (nI s), .int (nI c)] (enc A I) = some (some (.int (nI (csN σ s c))), enc A I) := by
  have hn := r.n7
  have e7 : (7 : Int32) = nI 7 := rfl
  simp -implicitDefEqProofs only [u_X3_costOf, M_X3_costOf, io_1, gr_1_0, gr_1_1, gr_1_2, gr_1_3, gr_1_4, gr_1_5, gi_1_6, pf_1_6, gi_1_7, pf_1_7, io_2, gr_2_0, gr_2_1, gr_2_2, gr_2_3, gr_2_4, gr_2_5, gr_2_6, gr_2_7, gi_2_8, pf_2_8, gi_2_9, pf_2_9, gi_2_10, pf_2_10, gi_2_11, pf_2_11, gi_2_12, pf_2_12, gi_2_13, pf_2_13, gi_2_14, pf_2_14, io_11, gr_11_0, gr_11_1, gr_11_2, io_15, gr_15_0, gr_15_1, gi_15_2, pf_15_2, gi_15_3, pf_15_3, gi_15_4, pf_15_4, gi_15_5, pf_15_5, io_18, gr_18_0, gr_18_1, gi_18_2, pf_18_2, io_21, gr_21_0, gr_21_1, gr_21_2, gr_21_3, gi_21_4, pf_21_4, gi_21_5, pf_21_5, gi_21_6, pf_21_6, gi_21_7, pf_21_7, io_34, gr_34_0, gi_34_1, pf_34_1, io_36, gi_36_0, pf_36_0, gi_36_1, pf_36_1, gr_36_2, gr_36_3, gr_36_4, gi_36_5, pf_36_5, gi_36_6, pf_36_6, gi_36_7, pf_36_7, gr_36_8, gr_36_9, gr_36_10, gr_36_11, gi_36_12, pf_36_12, gi_36_13, pf_36_13, gi_36_14, pf_36_14, gr_36_15, gr_36_16, gi_36_17, pf_36_17, gr_36_18, gr_36_19, gr_36_20, gr_36_21, gr_36_22, gi_36_23, pf_36_23, gr_36_24, gr_36_25, gi_36_26, pf_36_26, gr_36_27, gr_36_28, gr_36_29, gr_36_30, gi_36_31, pf_36_31, gr_36_32, gr_36_33, gi_36_34, pf_36_34, gi_36_35, pf_36_35, gr_36_36, al_3, al_4, al_5, al_6, al_7, al_8, al_9, al_10, al_12, al_13, al_14, al_16, al_17, al_19, al_20, al_22, al_23, al_24, al_26, al_27, al_28, al_29, al_30, al_31, al_32, al_33, al_35, al_37, al_38, al_39, al_40, al_41, al_42, al_43, al_44, al_45, al_46, al_47, al_48, al_49, al_50, al_51, al_52, al_53, al_54, al_55, al_56, al_57, al_58, al_59, ↓reduceIte, Option.bind_some, cI_some, cL_some, cV_some, rz_0, rz_1, c_workOf r hs (show c < 1000 by omega)]
  rw [e7, pk_mul, nI_1]
  rfl
theorem csN_le (hw : WF σ) {s c : Nat} (hs : s < σ 0 3) (hc : c < σ 0 0) : csN σ s c ≤ 4000 := by
  have hn : σ 0 0 ≤ 7 := hw.2.1
  have := wk_le hw hs (show c < 7 by omega)
  unfold csN
  omega
end PA
