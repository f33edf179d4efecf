section Q6
variable {σ : SG} {A : Nat → List Int32} {I : Nat → Nat → Int32} {fu : Nat}
/-- what reading a text has left -/
def RB (A : Nat → List Int32) (I : Nat → Nat → Int32) (v : Nat → Int32) (n b m p : Nat) (B : Nat → List Int32) (J : Nat → Nat → Int32) : Prop :=
  Fr A I B J ∧ J 36 12 = nI (b + p) ∧ StT v n m p ∧ (p = n ∧ p = 2 * m + 6 → J 36 13 = nI m ∧ J 36 14 = v (2 * m + 5) - 48 ∧ ∀ c, c < m → rd (B 44) c = v (1 + c) - 48 ∧ rd (B 45) c = v (m + 3 + c) - 48)
theorem RB.no {v : Nat → Int32} {n b m p : Nat} {B : Nat → List Int32} {J : Nat → Nat → Int32} (hF : Fr A I B J) (hat : J 36 12 = nI (b + p)) (hs : StT v n m p) (h : ¬ (p = n ∧ p = 2 * m + 6)) (w : XW) (hw : w = enc B J) :
    ∃ p B' J', (some (some (.int 0), w) : Option XO) = some (some (.int (bI (p = n ∧ p = 2 * m + 6))), enc B' J') ∧ RB A I v n b m p B' J' :=
  ⟨p, B, J, by rw [bI_f h, hw], hF, hat, hs, fun z => absurd z h⟩
/-- the codes behind the beds -/
theorem m_tail (hL : LEN A) {v : Nat → Int32} {n b m : Nat} (hm3 : 3 ≤ m) (hm7 : m ≤ 7) (hb : b + n ≤ 240) (hv : ∀ p, p < n → rd (A 39) (b + p) = v p) {B : Nat → List Int32} {J : Nat → Nat → Int32} (hF : Fr A I B J) (h13 : J 36 13 = nI m) (hat : J 36 12 = nI (b + (2 * m + 3))) (ho : OkT v n m (2 * m + 3)) (h44 : ∀ c, c < m → rd (B 44) c = v (1 + c) - 48) (h45 : ∀ c, c < m → rd (B 45) c = v (m + 3 + c) - 48) (N : Nat) :
    ∃ p B' J', (F_X8_readBrook fu (N + 1)).2.2 36 (nI (b + n)) (nI m) (enc B J) = some (some (.int (bI (p = n ∧ p = 2 * m + 6))), enc B' J') ∧ RB A I v n b m p B' J' := by
  have B39 : B 39 = A 39 := hF.1 39 rfl
  have l39 : (B 39).length = 240 := by rw [B39]; exact hL 39 rfl
  have hrd : ∀ p, p < n → rd (B 39) (b + p) = v p := by rw [B39]; exact hv
  have hpn := ho.n
  rw [F_X8_readBrook]
  simp only [io_1, gr_1_0, gr_1_1, gr_1_2, gr_1_3, gr_1_4, gr_1_5, gi_1_6, pf_1_6, gi_1_7, pf_1_7, io_2, gr_2_0, gr_2_1, gr_2_2, gr_2_3, gr_2_4, gr_2_5, gr_2_6, gr_2_7, gi_2_8, pf_2_8, gi_2_9, pf_2_9, gi_2_10, pf_2_10, gi_2_11, pf_2_11, gi_2_12, pf_2_12, gi_2_13, pf_2_13, gi_2_14, pf_2_14, io_11, gr_11_0, gr_11_1, gr_11_2, io_15, gr_15_0, gr_15_1, gi_15_2, pf_15_2, gi_15_3, pf_15_3, gi_15_4, pf_15_4, gi_15_5, pf_15_5, io_18, gr_18_0, gr_18_1, gi_18_2, pf_18_2, io_21, gr_21_0, gr_21_1, gr_21_2, gr_21_3, gi_21_4, pf_21_4, gi_21_5, pf_21_5, gi_21_6, pf_21_6, gi_21_7, pf_21_7, io_34, gr_34_0, gi_34_1, pf_34_1, io_36, gi_36_0, pf_36_0, gi_36_1, pf_36_1, gr_36_2, gr_36_3, gr_36_4, gi_36_5, pf_36_5, gi_36_6, pf_36_6, gi_36_7, pf_36_7, gr_36_8, gr_36_9, gr_36_10, gr_36_11, gi_36_12, pf_36_12, gi_36_13, pf_36_13, gi_36_14, pf_36_14, gr_36_15, gr_36_16, gi_36_17, pf_36_17, gr_36_18, gr_36_19, gr_36_20, gr_36_21, gr_36_22, gi_36_23, pf_36_23, gr_36_24, gr_36_25, gi_36_26, pf_36_26, gr_36_27, gr_36_28, gr_36_29, gr_36_30, gi_36_31, pf_36_31, gr_36_32, gr_36_33, gi_36_34, pf_36_34, gi_36_35, pf_36_35, gr_36_36, al_3, al_4, al_5, al_6, al_7, al_8, al_9, al_10, al_12, al_13, al_14, al_16, al_17, al_19, al_20, al_22, al_23, al_24, al_26, al_27, al_28, al_29, al_30, al_31, al_32, al_33, al_35, al_37, al_38, al_39, al_40, al_41, al_42, al_43, al_44, al_45, al_46, al_47, al_48, al_49, al_50, al_51, al_52, al_53, al_54, al_55, al_56, al_57, al_58, al_59, ↓reduceIte, Option.bind_some, cI_some, cL_some, cV_some, rz_0, rz_1, h13, m_isCode (fu := fu) (x := 59) l39 hat hb hpn.1, bI_0]
  rw [if_neg (by rw [n_lt (by omega) (by omega)]; omega)]
  by_cases z1 : 2 * m + 3 < n ∧ rd (B 39) (b + (2 * m + 3)) = 59
  rotate_left
  · rw [if_pos z1]
    refine RB.no hF hat ⟨ho, ?_⟩ (by omega) _ rfl
    by_cases z : 2 * m + 3 < n
    · rw [hrd _ z] at z1
      exact Or.inr (Or.inr (by rw [gon_c hm3]; exact decide_eq_false (fun w => z1 ⟨z, w⟩)))
    · exact Or.inl (by omega)
  rw [if_neg (fun z => z z1), hat, nI_1]
  have ho1 : OkT v n m (2 * m + 3 + 1) := ho.s z1.1 (by omega) (by rw [gon_c hm3, ← hrd _ z1.1]; exact decide_eq_true z1.2)
  have hF1 : Fr A I B (uI J 36 12 (nI (b + (2 * m + 3) + 1))) := hF.int rfl
  have hat1 : uI J 36 12 (nI (b + (2 * m + 3) + 1)) 36 12 = nI (b + (2 * m + 4)) := uI_s _ _ _ _
  have hpn1 := ho1.n
  simp only [m_isCode (fu := fu) (x := 112) l39 hat1 hb (show 2 * m + 4 ≤ n by omega), bI_0, io_1, gr_1_0, gr_1_1, gr_1_2, gr_1_3, gr_1_4, gr_1_5, gi_1_6, pf_1_6, gi_1_7, pf_1_7, io_2, gr_2_0, gr_2_1, gr_2_2, gr_2_3, gr_2_4, gr_2_5, gr_2_6, gr_2_7, gi_2_8, pf_2_8, gi_2_9, pf_2_9, gi_2_10, pf_2_10, gi_2_11, pf_2_11, gi_2_12, pf_2_12, gi_2_13, pf_2_13, gi_2_14, pf_2_14, io_11, gr_11_0, gr_11_1, gr_11_2, io_15, gr_15_0, gr_15_1, gi_15_2, pf_15_2, gi_15_3, pf_15_3, gi_15_4, pf_15_4, gi_15_5, pf_15_5, io_18, gr_18_0, gr_18_1, gi_18_2, pf_18_2, io_21, gr_21_0, gr_21_1, gr_21_2, gr_21_3, gi_21_4, pf_21_4, gi_21_5, pf_21_5, gi_21_6, pf_21_6, gi_21_7, pf_21_7, io_34, gr_34_0, gi_34_1, pf_34_1, io_36, gi_36_0, pf_36_0, gi_36_1, pf_36_1, gr_36_2, gr_36_3, gr_36_4, gi_36_5, pf_36_5, gi_36_6, pf_36_6, gi_36_7, pf_36_7, gr_36_8, gr_36_9, gr_36_10, gr_36_11, gi_36_12, pf_36_12, gi_36_13, pf_36_13, gi_36_14, pf_36_14, gr_36_15, gr_36_16, gi_36_17, pf_36_17, gr_36_18, gr_36_19, gr_36_20, gr_36_21, gr_36_22, gi_36_23, pf_36_23, gr_36_24, gr_36_25, gi_36_26, pf_36_26, gr_36_27, gr_36_28, gr_36_29, gr_36_30, gi_36_31, pf_36_31, gr_36_32, gr_36_33, gi_36_34, pf_36_34, gi_36_35, pf_36_35, gr_36_36, al_3, al_4, al_5, al_6, al_7, al_8, al_9, al_10, al_12, al_13, al_14, al_16, al_17, al_19, al_20, al_22, al_23, al_24, al_26, al_27, al_28, al_29, al_30, al_31, al_32, al_33, al_35, al_37, al_38, al_39, al_40, al_41, al_42, al_43, al_44, al_45, al_46, al_47, al_48, al_49, al_50, al_51, al_52, al_53, al_54, al_55, al_56, al_57, al_58, al_59, ↓reduceIte, Option.bind_some, cI_some, cL_some, cV_some, rz_0, rz_1]
  by_cases z2 : 2 * m + 4 < n ∧ rd (B 39) (b + (2 * m + 4)) = 112
  rotate_left
  · rw [if_pos z2]
    refine RB.no hF1 hat1 ⟨ho1, ?_⟩ (by omega) _ rfl
    by_cases z : 2 * m + 4 < n
    · rw [hrd _ z] at z2
      exact Or.inr (Or.inr (by rw [gon_d hm3]; exact decide_eq_false (fun w => z2 ⟨z, w⟩)))
    · exact Or.inl (by omega)
  rw [if_neg (fun z => z z2), hat1, nI_1, uI_uI]
  have ho2 : OkT v n m (2 * m + 4 + 1) := OkT.s (p := 2 * m + 4) ho1 z2.1 (by omega) (by rw [gon_d hm3, ← hrd _ z2.1]; exact decide_eq_true z2.2)
  have hF2 : Fr A I B (uI J 36 12 (nI (b + (2 * m + 4) + 1))) := hF.int rfl
  have hat2 : uI J 36 12 (nI (b + (2 * m + 4) + 1)) 36 12 = nI (b + (2 * m + 5)) := uI_s _ _ _ _
  have hpn2 := ho2.n
  simp only [m_isDigit (fu := fu) l39 hat2 hb (show 2 * m + 5 ≤ n by omega), bI_0, io_1, gr_1_0, gr_1_1, gr_1_2, gr_1_3, gr_1_4, gr_1_5, gi_1_6, pf_1_6, gi_1_7, pf_1_7, io_2, gr_2_0, gr_2_1, gr_2_2, gr_2_3, gr_2_4, gr_2_5, gr_2_6, gr_2_7, gi_2_8, pf_2_8, gi_2_9, pf_2_9, gi_2_10, pf_2_10, gi_2_11, pf_2_11, gi_2_12, pf_2_12, gi_2_13, pf_2_13, gi_2_14, pf_2_14, io_11, gr_11_0, gr_11_1, gr_11_2, io_15, gr_15_0, gr_15_1, gi_15_2, pf_15_2, gi_15_3, pf_15_3, gi_15_4, pf_15_4, gi_15_5, pf_15_5, io_18, gr_18_0, gr_18_1, gi_18_2, pf_18_2, io_21, gr_21_0, gr_21_1, gr_21_2, gr_21_3, gi_21_4, pf_21_4, gi_21_5, pf_21_5, gi_21_6, pf_21_6, gi_21_7, pf_21_7, io_34, gr_34_0, gi_34_1, pf_34_1, io_36, gi_36_0, pf_36_0, gi_36_1, pf_36_1, gr_36_2, gr_36_3, gr_36_4, gi_36_5, pf_36_5, gi_36_6, pf_36_6, gi_36_7, pf_36_7, gr_36_8, gr_36_9, gr_36_10, gr_36_11, gi_36_12, pf_36_12, gi_36_13, pf_36_13, gi_36_14, pf_36_14, gr_36_15, gr_36_16, gi_36_17, pf_36_17, gr_36_18, gr_36_19, gr_36_20, gr_36_21, gr_36_22, gi_36_23, pf_36_23, gr_36_24, gr_36_25, gi_36_26, pf_36_26, gr_36_27, gr_36_28, gr_36_29, gr_36_30, gi_36_31, pf_36_31, gr_36_32, gr_36_33, gi_36_34, pf_36_34, gi_36_35, pf_36_35, gr_36_36, al_3, al_4, al_5, al_6, al_7, al_8, al_9, al_10, al_12, al_13, al_14, al_16, al_17, al_19, al_20, al_22, al_23, al_24, al_26, al_27, al_28, al_29, al_30, al_31, al_32, al_33, al_35, al_37, al_38, al_39, al_40, al_41, al_42, al_43, al_44, al_45, al_46, al_47, al_48, al_49, al_50, al_51, al_52, al_53, al_54, al_55, al_56, al_57, al_58, al_59, ↓reduceIte, Option.bind_some, cI_some, cL_some, cV_some, rz_0, rz_1]
  by_cases z3 : 2 * m + 5 < n ∧ (48 ≤ rd (B 39) (b + (2 * m + 5)) ∧ rd (B 39) (b + (2 * m + 5)) ≤ 57)
  rotate_left
  · rw [if_pos z3]
    refine RB.no hF2 hat2 ⟨ho2, ?_⟩ (by omega) _ rfl
    by_cases z : 2 * m + 5 < n
    · rw [hrd _ z] at z3
      exact Or.inr (Or.inr (by rw [gon_g (by omega) (by omega) (by omega) (by omega) (by omega)]; exact decide_eq_false (fun w => z3 ⟨z, w⟩)))
    · exact Or.inl (by omega)
  have ho3 : OkT v n m (2 * m + 5 + 1) := OkT.s (p := 2 * m + 5) ho2 z3.1 (by omega) (by rw [gon_g (by omega) (by omega) (by omega) (by omega) (by omega), ← hrd _ z3.1]; exact decide_eq_true z3.2)
  have e39 : aI (enc B (uI J 36 12 (nI (b + (2 * m + 4) + 1)))) 39 (nI (b + (2 * m + 5))) = some (v (2 * m + 5)) := by rw [ai_39 _ _ (by rw [l39]; omega) (by omega), hrd _ z3.1]
  rw [if_neg (fun z => z z3), hat2, e39]
  have c12 : ∀ x, uI (uI J 36 12 (nI (b + (2 * m + 4) + 1))) 36 14 x 36 12 = nI (b + (2 * m + 5)) := fun x => hat2
  simp only [io_1, gr_1_0, gr_1_1, gr_1_2, gr_1_3, gr_1_4, gr_1_5, gi_1_6, pf_1_6, gi_1_7, pf_1_7, io_2, gr_2_0, gr_2_1, gr_2_2, gr_2_3, gr_2_4, gr_2_5, gr_2_6, gr_2_7, gi_2_8, pf_2_8, gi_2_9, pf_2_9, gi_2_10, pf_2_10, gi_2_11, pf_2_11, gi_2_12, pf_2_12, gi_2_13, pf_2_13, gi_2_14, pf_2_14, io_11, gr_11_0, gr_11_1, gr_11_2, io_15, gr_15_0, gr_15_1, gi_15_2, pf_15_2, gi_15_3, pf_15_3, gi_15_4, pf_15_4, gi_15_5, pf_15_5, io_18, gr_18_0, gr_18_1, gi_18_2, pf_18_2, io_21, gr_21_0, gr_21_1, gr_21_2, gr_21_3, gi_21_4, pf_21_4, gi_21_5, pf_21_5, gi_21_6, pf_21_6, gi_21_7, pf_21_7, io_34, gr_34_0, gi_34_1, pf_34_1, io_36, gi_36_0, pf_36_0, gi_36_1, pf_36_1, gr_36_2, gr_36_3, gr_36_4, gi_36_5, pf_36_5, gi_36_6, pf_36_6, gi_36_7, pf_36_7, gr_36_8, gr_36_9, gr_36_10, gr_36_11, gi_36_12, pf_36_12, gi_36_13, pf_36_13, gi_36_14, pf_36_14, gr_36_15, gr_36_16, gi_36_17, pf_36_17, gr_36_18, gr_36_19, gr_36_20, gr_36_21, gr_36_22, gi_36_23, pf_36_23, gr_36_24, gr_36_25, gi_36_26, pf_36_26, gr_36_27, gr_36_28, gr_36_29, gr_36_30, gi_36_31, pf_36_31, gr_36_32, gr_36_33, gi_36_34, pf_36_34, gi_36_35, pf_36_35, gr_36_36, al_3, al_4, al_5, al_6, al_7, al_8, al_9, al_10, al_12, al_13, al_14, al_16, al_17, al_19, al_20, al_22, al_23, al_24, al_26, al_27, al_28, al_29, al_30, al_31, al_32, al_33, al_35, al_37, al_38, al_39, al_40, al_41, al_42, al_43, al_44, al_45, al_46, al_47, al_48, al_49, al_50, al_51, al_52, al_53, al_54, al_55, al_56, al_57, al_58, al_59, ↓reduceIte, Option.bind_some, cI_some, cL_some, cV_some, rz_0, rz_1, c12, nI_1]
  have hF3 : Fr A I B (uI (uI (uI J 36 12 (nI (b + (2 * m + 4) + 1))) 36 14 (v (2 * m + 5) - 48)) 36 12 (nI (b + (2 * m + 5) + 1))) := (hF2.int rfl).int rfl
  have hat3 : uI (uI (uI J 36 12 (nI (b + (2 * m + 4) + 1))) 36 14 (v (2 * m + 5) - 48)) 36 12 (nI (b + (2 * m + 5) + 1)) 36 12 = nI (b + (2 * m + 6)) := uI_s _ _ _ _
  simp only [hat3, n_eq (show b + (2 * m + 6) < 2147483648 by omega) (show b + n < 2147483648 by omega)]
  by_cases z4 : 2 * m + 6 = n
  · rw [if_pos (by omega)]
    exact ⟨2 * m + 6, B, _, by rw [bI_t ⟨z4, rfl⟩], hF3, hat3, ⟨ho3, Or.inl z4⟩, fun _ => ⟨h13, rfl, fun c hc => ⟨h44 c hc, h45 c hc⟩⟩⟩
  · rw [if_neg (by omega)]
    exact RB.no hF3 hat3 ⟨ho3, Or.inr (Or.inl rfl)⟩ (by omega) _ rfl
theorem m_beds (hL : LEN A) {v : Nat → Int32} {n b m : Nat} (hm3 : 3 ≤ m) (hm7 : m ≤ 7) (hb : b + n ≤ 240) (hv : ∀ p, p < n → rd (A 39) (b + p) = v p) : ∀ d c B J N, c + d = m → Fr A I B J → J 36 13 = nI m → J 36 12 = nI (b + (m + 3 + c)) → OkT v n m (m + 3 + c) → (∀ c, c < m → rd (B 44) c = v (1 + c) - 48) → (∀ j, j < c → rd (B 45) j = v (m + 3 + j) - 48) →
    ∃ p B' J', (F_X8_readBrook fu (N + (d + 1))).2.2 36 (nI (b + n)) (nI c) (enc B J) = some (some (.int (bI (p = n ∧ p = 2 * m + 6))), enc B' J') ∧ RB A I v n b m p B' J' := by
  intro d
  induction d with
  | zero =>
    intro c B J N hc hF h13 hat ho h44 h45
    have e : c = m := by omega
    subst e
    rw [show c + 3 + c = 2 * c + 3 by omega] at hat ho
    exact m_tail hL hm3 hm7 hb hv hF h13 hat ho h44 h45 N
  | succ d ih =>
    intro c B J N hc hF h13 hat ho h44 h45
    have B39 : B 39 = A 39 := hF.1 39 rfl
    have l39 : (B 39).length = 240 := by rw [B39]; exact hL 39 rfl
    have l45 : (B 45).length = 7 := by rw [hF.2.1]; exact hL 45 rfl
    have hrd : ∀ p, p < n → rd (B 39) (b + p) = v p := by rw [B39]; exact hv
    have hpn := ho.n
    rw [show N + (d + 1 + 1) = N + (d + 1) + 1 by omega, F_X8_readBrook]
    simp -implicitDefEqProofs only [io_1, gr_1_0, gr_1_1, gr_1_2, gr_1_3, gr_1_4, gr_1_5, gi_1_6, pf_1_6, gi_1_7, pf_1_7, io_2, gr_2_0, gr_2_1, gr_2_2, gr_2_3, gr_2_4, gr_2_5, gr_2_6, gr_2_7, gi_2_8, pf_2_8, gi_2_9, pf_2_9, gi_2_10, pf_2_10, gi_2_11, pf_2_11, gi_2_12, pf_2_12, gi_2_13, pf_2_13, gi_2_14, pf_2_14, io_11, gr_11_0, gr_11_1, gr_11_2, io_15, gr_15_0, gr_15_1, gi_15_2, pf_15_2, gi_15_3, pf_15_3, gi_15_4, pf_15_4, gi_15_5, pf_15_5, io_18, gr_18_0, gr_18_1, gi_18_2, pf_18_2, io_21, gr_21_0, gr_21_1, gr_21_2, gr_21_3, gi_21_4, pf_21_4, gi_21_5, pf_21_5, gi_21_6, pf_21_6, gi_21_7, pf_21_7, io_34, gr_34_0, gi_34_1, pf_34_1, io_36, gi_36_0, pf_36_0, gi_36_1, pf_36_1, gr_36_2, gr_36_3, gr_36_4, gi_36_5, pf_36_5, gi_36_6, pf_36_6, gi_36_7, pf_36_7, gr_36_8, gr_36_9, gr_36_10, gr_36_11, gi_36_12, pf_36_12, gi_36_13, pf_36_13, gi_36_14, pf_36_14, gr_36_15, gr_36_16, gi_36_17, pf_36_17, gr_36_18, gr_36_19, gr_36_20, gr_36_21, gr_36_22, gi_36_23, pf_36_23, gr_36_24, gr_36_25, gi_36_26, pf_36_26, gr_36_27, gr_36_28, gr_36_29, gr_36_30, gi_36_31, pf_36_31, gr_36_32, gr_36_33, gi_36_34, pf_36_34, gi_36_35, pf_36_35, gr_36_36, al_3, al_4, al_5, al_6, al_7, al_8, al_9, al_10, al_12, al_13, al_14, al_16, al_17, al_19, al_20, al_22, al_23, al_24, al_26, al_27, al_28, al_29, al_30, al_31, al_32, al_33, al_35, al_37, al_38, al_39, al_40, al_41, al_42, al_43, al_44, al_45, al_46, al_47, al_48, al_49, al_50, al_51, al_52, al_53, al_54, al_55, al_56, al_57, al_58, al_59, ↓reduceIte, Option.bind_some, cI_some, cL_some, cV_some, rz_0, rz_1, h13, n_lt (show c < 2147483648 by omega) (show m < 2147483648 by omega), m_isDigit (fu := fu) l39 hat hb hpn.1, bI_0]
    rw [if_pos (by omega)]
    by_cases z : m + 3 + c < n ∧ (48 ≤ rd (B 39) (b + (m + 3 + c)) ∧ rd (B 39) (b + (m + 3 + c)) ≤ 57)
    rotate_left
    · rw [if_pos z]
      refine RB.no hF hat ⟨ho, ?_⟩ (by omega) _ rfl
      by_cases z1 : m + 3 + c < n
      · rw [hrd _ z1] at z
        exact Or.inr (Or.inr (by rw [gon_g (by omega) (by omega) (by omega) (by omega) (by omega)]; exact decide_eq_false (fun w => z ⟨z1, w⟩)))
      · exact Or.inl (by omega)
    have e39 : aI (enc B J) 39 (nI (b + (m + 3 + c))) = some (v (m + 3 + c)) := by rw [ai_39 _ _ (by rw [l39]; omega) (by omega), hrd _ z.1]
    have s45 := si_45 B J (v (m + 3 + c) - 48) (show c < (B 45).length by omega) (show c < 2147483648 by omega)
    rw [if_neg (fun y => y z), hat, e39]
    simp -implicitDefEqProofs only [io_1, gr_1_0, gr_1_1, gr_1_2, gr_1_3, gr_1_4, gr_1_5, gi_1_6, pf_1_6, gi_1_7, pf_1_7, io_2, gr_2_0, gr_2_1, gr_2_2, gr_2_3, gr_2_4, gr_2_5, gr_2_6, gr_2_7, gi_2_8, pf_2_8, gi_2_9, pf_2_9, gi_2_10, pf_2_10, gi_2_11, pf_2_11, gi_2_12, pf_2_12, gi_2_13, pf_2_13, gi_2_14, pf_2_14, io_11, gr_11_0, gr_11_1, gr_11_2, io_15, gr_15_0, gr_15_1, gi_15_2, pf_15_2, gi_15_3, pf_15_3, gi_15_4, pf_15_4, gi_15_5, pf_15_5, io_18, gr_18_0, gr_18_1, gi_18_2, pf_18_2, io_21, gr_21_0, gr_21_1, gr_21_2, gr_21_3, gi_21_4, pf_21_4, gi_21_5, pf_21_5, gi_21_6, pf_21_6, gi_21_7, pf_21_7, io_34, gr_34_0, gi_34_1, pf_34_1, io_36, gi_36_0, pf_36_0, gi_36_1, pf_36_1, gr_36_2, gr_36_3, gr_36_4, gi_36_5, pf_36_5, gi_36_6, pf_36_6, gi_36_7, pf_36_7, gr_36_8, gr_36_9, gr_36_10, gr_36_11, gi_36_12, pf_36_12, gi_36_13, pf_36_13, gi_36_14, pf_36_14, gr_36_15, gr_36_16, gi_36_17, pf_36_17, gr_36_18, gr_36_19, gr_36_20, gr_36_21, gr_36_22, gi_36_23, pf_36_23, gr_36_24, gr_36_25, gi_36_26, pf_36_26, gr_36_27, gr_36_28, gr_36_29, gr_36_30, gi_36_31, pf_36_31, gr_36_32, gr_36_33, gi_36_34, pf_36_34, gi_36_35, pf_36_35, gr_36_36, al_3, al_4, al_5, al_6, al_7, al_8, al_9, al_10, al_12, al_13, al_14, al_16, al_17, al_19, al_20, al_22, al_23, al_24, al_26, al_27, al_28, al_29, al_30, al_31, al_32, al_33, al_35, al_37, al_38, al_39, al_40, al_41, al_42, al_43, al_44, al_45, al_46, al_47, al_48, al_49, al_50, al_51, al_52, al_53, al_54, al_55, al_56, al_57, al_58, al_59, ↓reduceIte, Option.bind_some, cI_some, cL_some, cV_some, rz_0, rz_1, s45, hat, nI_1]
    refine ih (c + 1) _ _ N (by omega) ((hF.arr (k := 45) (xs := (B 45).set c (v (m + 3 + c) - 48)) rfl (by rw [List.length_set])).int rfl) h13 (uI_s _ _ _ _) ?_ (fun j hj => by rw [uA_n _ _ _ (by decide)]; exact h44 j hj) (fun j hj => ?_)
    · exact ho.s z.1 (by omega) (by rw [gon_g (by omega) (by omega) (by omega) (by omega) (by omega), ← hrd _ z.1]; exact decide_eq_true z.2)
    · rw [uA_s, rd_set _ _ (by omega)]
      by_cases y : j = c
      · rw [if_pos y, y]
      · rw [if_neg y]; exact h45 j (by omega)
theorem m_digits (hL : LEN A) {v : Nat → Int32} {n b : Nat} (hb : b + n ≤ 240) (hv : ∀ p, p < n → rd (A 39) (b + p) = v p) : ∀ d k B J N, k + d = 7 → Fr A I B J → J 36 13 = nI k → J 36 12 = nI (b + (1 + k)) → 1 + k ≤ n → (∀ j, j < k → rd (B 44) j = v (1 + j) - 48) →
    ∃ B' J' N', N ≤ N' ∧ (F_X8_readBrook fu (N + (d + 1))).1 36 (nI (b + n)) (enc B J) = (F_X8_readBrook fu N').2.1 36 (nI (b + n)) (enc B' J') ∧ Fr A I B' J' ∧ J' 36 13 = nI (tol v n d k) ∧ J' 36 12 = nI (b + (1 + tol v n d k)) ∧ ∀ j, j < tol v n d k → rd (B' 44) j = v (1 + j) - 48 := by
  intro d
  induction d with
  | zero =>
    intro k B J N hk hF h13 hat hn h44
    have e7 : (nI k < 7) = (k < 7) := n_lt (by omega) (by decide)
    refine ⟨B, J, N, Nat.le_refl _, ?_, hF, h13, hat, h44⟩
    rw [show N + (0 + 1) = N + 1 by omega, F_X8_readBrook]
    simp -implicitDefEqProofs only [io_1, gr_1_0, gr_1_1, gr_1_2, gr_1_3, gr_1_4, gr_1_5, gi_1_6, pf_1_6, gi_1_7, pf_1_7, io_2, gr_2_0, gr_2_1, gr_2_2, gr_2_3, gr_2_4, gr_2_5, gr_2_6, gr_2_7, gi_2_8, pf_2_8, gi_2_9, pf_2_9, gi_2_10, pf_2_10, gi_2_11, pf_2_11, gi_2_12, pf_2_12, gi_2_13, pf_2_13, gi_2_14, pf_2_14, io_11, gr_11_0, gr_11_1, gr_11_2, io_15, gr_15_0, gr_15_1, gi_15_2, pf_15_2, gi_15_3, pf_15_3, gi_15_4, pf_15_4, gi_15_5, pf_15_5, io_18, gr_18_0, gr_18_1, gi_18_2, pf_18_2, io_21, gr_21_0, gr_21_1, gr_21_2, gr_21_3, gi_21_4, pf_21_4, gi_21_5, pf_21_5, gi_21_6, pf_21_6, gi_21_7, pf_21_7, io_34, gr_34_0, gi_34_1, pf_34_1, io_36, gi_36_0, pf_36_0, gi_36_1, pf_36_1, gr_36_2, gr_36_3, gr_36_4, gi_36_5, pf_36_5, gi_36_6, pf_36_6, gi_36_7, pf_36_7, gr_36_8, gr_36_9, gr_36_10, gr_36_11, gi_36_12, pf_36_12, gi_36_13, pf_36_13, gi_36_14, pf_36_14, gr_36_15, gr_36_16, gi_36_17, pf_36_17, gr_36_18, gr_36_19, gr_36_20, gr_36_21, gr_36_22, gi_36_23, pf_36_23, gr_36_24, gr_36_25, gi_36_26, pf_36_26, gr_36_27, gr_36_28, gr_36_29, gr_36_30, gi_36_31, pf_36_31, gr_36_32, gr_36_33, gi_36_34, pf_36_34, gi_36_35, pf_36_35, gr_36_36, al_3, al_4, al_5, al_6, al_7, al_8, al_9, al_10, al_12, al_13, al_14, al_16, al_17, al_19, al_20, al_22, al_23, al_24, al_26, al_27, al_28, al_29, al_30, al_31, al_32, al_33, al_35, al_37, al_38, al_39, al_40, al_41, al_42, al_43, al_44, al_45, al_46, al_47, al_48, al_49, al_50, al_51, al_52, al_53, al_54, al_55, al_56, al_57, al_58, al_59, ↓reduceIte, Option.bind_some, cI_some, cL_some, cV_some, rz_0, rz_1, h13, e7]
    rw [if_neg (by omega)]
  | succ d ih =>
    intro k B J N hk hF h13 hat hn h44
    have e7 : (nI k < 7) = (k < 7) := n_lt (by omega) (by decide)
    have B39 : B 39 = A 39 := hF.1 39 rfl
    have l39 : (B 39).length = 240 := by rw [B39]; exact hL 39 rfl
    have l44 : (B 44).length = 7 := by rw [hF.2.1]; exact hL 44 rfl
    have hrd : ∀ p, p < n → rd (B 39) (b + p) = v p := by rw [B39]; exact hv
    rw [show N + (d + 1 + 1) = N + (d + 1) + 1 by omega, F_X8_readBrook, tol]
    simp -implicitDefEqProofs only [io_1, gr_1_0, gr_1_1, gr_1_2, gr_1_3, gr_1_4, gr_1_5, gi_1_6, pf_1_6, gi_1_7, pf_1_7, io_2, gr_2_0, gr_2_1, gr_2_2, gr_2_3, gr_2_4, gr_2_5, gr_2_6, gr_2_7, gi_2_8, pf_2_8, gi_2_9, pf_2_9, gi_2_10, pf_2_10, gi_2_11, pf_2_11, gi_2_12, pf_2_12, gi_2_13, pf_2_13, gi_2_14, pf_2_14, io_11, gr_11_0, gr_11_1, gr_11_2, io_15, gr_15_0, gr_15_1, gi_15_2, pf_15_2, gi_15_3, pf_15_3, gi_15_4, pf_15_4, gi_15_5, pf_15_5, io_18, gr_18_0, gr_18_1, gi_18_2, pf_18_2, io_21, gr_21_0, gr_21_1, gr_21_2, gr_21_3, gi_21_4, pf_21_4, gi_21_5, pf_21_5, gi_21_6, pf_21_6, gi_21_7, pf_21_7, io_34, gr_34_0, gi_34_1, pf_34_1, io_36, gi_36_0, pf_36_0, gi_36_1, pf_36_1, gr_36_2, gr_36_3, gr_36_4, gi_36_5, pf_36_5, gi_36_6, pf_36_6, gi_36_7, pf_36_7, gr_36_8, gr_36_9, gr_36_10, gr_36_11, gi_36_12, pf_36_12, gi_36_13, pf_36_13, gi_36_14, pf_36_14, gr_36_15, gr_36_16, gi_36_17, pf_36_17, gr_36_18, gr_36_19, gr_36_20, gr_36_21, gr_36_22, gi_36_23, pf_36_23, gr_36_24, gr_36_25, gi_36_26, pf_36_26, gr_36_27, gr_36_28, gr_36_29, gr_36_30, gi_36_31, pf_36_31, gr_36_32, gr_36_33, gi_36_34, pf_36_34, gi_36_35, pf_36_35, gr_36_36, al_3, al_4, al_5, al_6, al_7, al_8, al_9, al_10, al_12, al_13, al_14, al_16, al_17, al_19, al_20, al_22, al_23, al_24, al_26, al_27, al_28, al_29, al_30, al_31, al_32, al_33, al_35, al_37, al_38, al_39, al_40, al_41, al_42, al_43, al_44, al_45, al_46, al_47, al_48, al_49, al_50, al_51, al_52, al_53, al_54, al_55, al_56, al_57, al_58, al_59, ↓reduceIte, Option.bind_some, cI_some, cL_some, cV_some, rz_0, rz_1, h13, e7, m_isDigit (fu := fu) l39 hat hb hn, bI_0]
    rw [if_pos (by omega)]
    by_cases z : 1 + k < n ∧ (48 ≤ rd (B 39) (b + (1 + k)) ∧ rd (B 39) (b + (1 + k)) ≤ 57)
    · have e39 : aI (enc B J) 39 (nI (b + (1 + k))) = some (v (1 + k)) := by rw [ai_39 _ _ (by rw [l39]; omega) (by omega), hrd _ z.1]
      have s44 := si_44 B J (v (1 + k) - 48) (show k < (B 44).length by omega) (show k < 2147483648 by omega)
      have c12 : ∀ x, uI J 36 13 x 36 12 = nI (b + (1 + k)) := fun x => hat
      rw [if_neg (fun y => y z), hat, e39]
      have z' := z.2
      rw [hrd _ z.1] at z'
      rw [if_pos (show k + 1 < n ∧ (48 ≤ v (1 + k) ∧ v (1 + k) ≤ 57) from ⟨by omega, z'⟩)]
      simp -implicitDefEqProofs only [io_1, gr_1_0, gr_1_1, gr_1_2, gr_1_3, gr_1_4, gr_1_5, gi_1_6, pf_1_6, gi_1_7, pf_1_7, io_2, gr_2_0, gr_2_1, gr_2_2, gr_2_3, gr_2_4, gr_2_5, gr_2_6, gr_2_7, gi_2_8, pf_2_8, gi_2_9, pf_2_9, gi_2_10, pf_2_10, gi_2_11, pf_2_11, gi_2_12, pf_2_12, gi_2_13, pf_2_13, gi_2_14, pf_2_14, io_11, gr_11_0, gr_11_1, gr_11_2, io_15, gr_15_0, gr_15_1, gi_15_2, pf_15_2, gi_15_3, pf_15_3, gi_15_4, pf_15_4, gi_15_5, pf_15_5, io_18, gr_18_0, gr_18_1, gi_18_2, pf_18_2, io_21, gr_21_0, gr_21_1, gr_21_2, gr_21_3, gi_21_4, pf_21_4, gi_21_5, pf_21_5, gi_21_6, pf_21_6, gi_21_7, pf_21_7, io_34, gr_34_0, gi_34_1, pf_34_1, io_36, gi_36_0, pf_36_0, gi_36_1, pf_36_1, gr_36_2, gr_36_3, gr_36_4, gi_36_5, pf_36_5, gi_36_6, pf_36_6, gi_36_7, pf_36_7, gr_36_8, gr_36_9, gr_36_10, gr_36_11, gi_36_12, pf_36_12, gi_36_13, pf_36_13, gi_36_14, pf_36_14, gr_36_15, gr_36_16, gi_36_17, pf_36_17, gr_36_18, gr_36_19, gr_36_20, gr_36_21, gr_36_22, gi_36_23, pf_36_23, gr_36_24, gr_36_25, gi_36_26, pf_36_26, gr_36_27, gr_36_28, gr_36_29, gr_36_30, gi_36_31, pf_36_31, gr_36_32, gr_36_33, gi_36_34, pf_36_34, gi_36_35, pf_36_35, gr_36_36, al_3, al_4, al_5, al_6, al_7, al_8, al_9, al_10, al_12, al_13, al_14, al_16, al_17, al_19, al_20, al_22, al_23, al_24, al_26, al_27, al_28, al_29, al_30, al_31, al_32, al_33, al_35, al_37, al_38, al_39, al_40, al_41, al_42, al_43, al_44, al_45, al_46, al_47, al_48, al_49, al_50, al_51, al_52, al_53, al_54, al_55, al_56, al_57, al_58, al_59, ↓reduceIte, Option.bind_some, cI_some, cL_some, cV_some, rz_0, rz_1, s44, h13, nI_1, c12]
      refine ih (k + 1) _ _ N (by omega) (((hF.arr (k := 44) (xs := (B 44).set k (v (1 + k) - 48)) rfl (by rw [List.length_set])).int (o := 36) (j := 13) rfl).int rfl) (uI_s J 36 13 _) ?_ (by omega) (fun j hj => ?_)
      · rw [uI_s]; congr 1
      · rw [uA_s, rd_set _ _ (by omega)]
        by_cases y : j = k
        · rw [if_pos y, y]
        · rw [if_neg y]; exact h44 j (by omega)
    · rw [if_pos z, if_neg (fun y => z ⟨by omega, by rw [hrd _ (by omega)]; exact y.2⟩)]
      exact ⟨B, J, N + (d + 1), by omega, rfl, hF, h13, hat, h44⟩
/-- the model reads a text -/
theorem m_read (hf : 1000 ≤ fu) (hL : LEN A) {v : Nat → Int32} {n b : Nat} (hb : b + n ≤ 240) (hv : ∀ p, p < n → rd (A 39) (b + p) = v p) (hat : I 36 12 = nI b) :
    ∃ p B' J', U_X8_readBrook fu [.ref 36, .int (nI (b + n))] (enc A I) = some (some (.int (bI (p = n ∧ p = 2 * mtl v n + 6))), enc B' J') ∧ RB A I v n b (mtl v n) p B' J' := by
  have l39 : (A 39).length = 240 := hL 39 rfl
  have hat0 : I 36 12 = nI (b + 0) := hat
  have o0 : OkT v n (mtl v n) 0 := fun k hk => by omega
  simp -implicitDefEqProofs only [u_X8_readBrook, M_X8_readBrook, m_isCode (fu := fu) (x := 100) l39 hat0 hb (Nat.zero_le n), io_1, gr_1_0, gr_1_1, gr_1_2, gr_1_3, gr_1_4, gr_1_5, gi_1_6, pf_1_6, gi_1_7, pf_1_7, io_2, gr_2_0, gr_2_1, gr_2_2, gr_2_3, gr_2_4, gr_2_5, gr_2_6, gr_2_7, gi_2_8, pf_2_8, gi_2_9, pf_2_9, gi_2_10, pf_2_10, gi_2_11, pf_2_11, gi_2_12, pf_2_12, gi_2_13, pf_2_13, gi_2_14, pf_2_14, io_11, gr_11_0, gr_11_1, gr_11_2, io_15, gr_15_0, gr_15_1, gi_15_2, pf_15_2, gi_15_3, pf_15_3, gi_15_4, pf_15_4, gi_15_5, pf_15_5, io_18, gr_18_0, gr_18_1, gi_18_2, pf_18_2, io_21, gr_21_0, gr_21_1, gr_21_2, gr_21_3, gi_21_4, pf_21_4, gi_21_5, pf_21_5, gi_21_6, pf_21_6, gi_21_7, pf_21_7, io_34, gr_34_0, gi_34_1, pf_34_1, io_36, gi_36_0, pf_36_0, gi_36_1, pf_36_1, gr_36_2, gr_36_3, gr_36_4, gi_36_5, pf_36_5, gi_36_6, pf_36_6, gi_36_7, pf_36_7, gr_36_8, gr_36_9, gr_36_10, gr_36_11, gi_36_12, pf_36_12, gi_36_13, pf_36_13, gi_36_14, pf_36_14, gr_36_15, gr_36_16, gi_36_17, pf_36_17, gr_36_18, gr_36_19, gr_36_20, gr_36_21, gr_36_22, gi_36_23, pf_36_23, gr_36_24, gr_36_25, gi_36_26, pf_36_26, gr_36_27, gr_36_28, gr_36_29, gr_36_30, gi_36_31, pf_36_31, gr_36_32, gr_36_33, gi_36_34, pf_36_34, gi_36_35, pf_36_35, gr_36_36, al_3, al_4, al_5, al_6, al_7, al_8, al_9, al_10, al_12, al_13, al_14, al_16, al_17, al_19, al_20, al_22, al_23, al_24, al_26, al_27, al_28, al_29, al_30, al_31, al_32, al_33, al_35, al_37, al_38, al_39, al_40, al_41, al_42, al_43, al_44, al_45, al_46, al_47, al_48, al_49, al_50, al_51, al_52, al_53, al_54, al_55, al_56, al_57, al_58, al_59, ↓reduceIte, Option.bind_some, cI_some, cL_some, cV_some, rz_0, rz_1, bI_0]
  by_cases z : 0 < n ∧ rd (A 39) (b + 0) = 100
  rotate_left
  · rw [if_pos z]
    refine RB.no (Fr.rf A I) hat0 ⟨o0, ?_⟩ (by omega) _ rfl
    by_cases z1 : 0 < n
    · rw [hv _ z1] at z
      exact Or.inr (Or.inr (by rw [gon_0]; exact decide_eq_false (fun w => z ⟨z1, w⟩)))
    · exact Or.inl (by omega)
  have o1 : OkT v n (mtl v n) (0 + 1) := o0.s z.1 (by omega) (by rw [gon_0, ← hv _ z.1]; exact decide_eq_true z.2)
  rw [if_neg (fun y => y z), hat, nI_1]
  have c12 : uI (uI I 36 12 (nI (b + 1))) 36 13 (nI 0) 36 12 = nI (b + (1 + 0)) := uI_s I 36 12 _
  obtain ⟨N, hN⟩ : ∃ N, fu = N + (7 + 1) := ⟨fu - 8, by omega⟩
  obtain ⟨B, J, N', h1, h2, hF, h13, h12, h44⟩ := m_digits (fu := fu) (A := A) (I := I) hL hb hv 7 0 A (uI (uI I 36 12 (nI (b + 1))) 36 13 (nI 0)) N (by omega) (((Fr.rf A I).int rfl).int rfl) (uI_s _ _ _ _) c12 (by omega) (fun j hj => by omega)
  rw [← hN] at h2
  obtain ⟨t1, t2, t3, t4⟩ := tol_spec v n 7 0 (by omega) (fun j hj => by omega)
  obtain ⟨T, hT⟩ : ∃ T, T = tol v n 7 0 := ⟨_, rfl⟩
  rw [← hT] at t1 t2 t3 t4 h13 h12 h44
  have hmt : mtl v n = if T < 3 then 3 else T := by rw [hT]; rfl
  have oT : OkT v n (mtl v n) (1 + T) := fun k hk => by
    by_cases y : k = 0
    · rw [y]; exact o1 0 (by omega)
    · obtain ⟨j, rfl⟩ : ∃ j, k = 1 + j := ⟨k - 1, by omega⟩
      have h := t3 j (by omega)
      rw [hmt]
      refine ⟨by omega, by split <;> omega, ?_⟩
      rw [gon_g (by omega) (by split <;> omega) (by split <;> omega) (by split <;> omega) (by split <;> omega)]
      exact decide_eq_true h.2
  have hN1 : 3 ≤ N' := by omega
  obtain ⟨M, rfl⟩ : ∃ M, N' = M + 1 := ⟨N' - 1, by omega⟩
  have h2' : (F_X8_readBrook fu fu).1 36 (nI (b + n)) (enc A (uI (uI I 36 12 (nI (b + 1))) 36 13 0)) = (F_X8_readBrook fu (M + 1)).2.1 36 (nI (b + n)) (enc B J) := h2
  rw [h2', F_X8_readBrook]
  have e3 : (nI T < 3) = (T < 3) := n_lt (by omega) (by decide)
  have B39 : B 39 = A 39 := hF.1 39 rfl
  have lB : (B 39).length = 240 := by rw [B39]; exact l39
  have hrd : ∀ p, p < n → rd (B 39) (b + p) = v p := by rw [B39]; exact hv
  have oTn := oT.n
  simp -implicitDefEqProofs only [io_1, gr_1_0, gr_1_1, gr_1_2, gr_1_3, gr_1_4, gr_1_5, gi_1_6, pf_1_6, gi_1_7, pf_1_7, io_2, gr_2_0, gr_2_1, gr_2_2, gr_2_3, gr_2_4, gr_2_5, gr_2_6, gr_2_7, gi_2_8, pf_2_8, gi_2_9, pf_2_9, gi_2_10, pf_2_10, gi_2_11, pf_2_11, gi_2_12, pf_2_12, gi_2_13, pf_2_13, gi_2_14, pf_2_14, io_11, gr_11_0, gr_11_1, gr_11_2, io_15, gr_15_0, gr_15_1, gi_15_2, pf_15_2, gi_15_3, pf_15_3, gi_15_4, pf_15_4, gi_15_5, pf_15_5, io_18, gr_18_0, gr_18_1, gi_18_2, pf_18_2, io_21, gr_21_0, gr_21_1, gr_21_2, gr_21_3, gi_21_4, pf_21_4, gi_21_5, pf_21_5, gi_21_6, pf_21_6, gi_21_7, pf_21_7, io_34, gr_34_0, gi_34_1, pf_34_1, io_36, gi_36_0, pf_36_0, gi_36_1, pf_36_1, gr_36_2, gr_36_3, gr_36_4, gi_36_5, pf_36_5, gi_36_6, pf_36_6, gi_36_7, pf_36_7, gr_36_8, gr_36_9, gr_36_10, gr_36_11, gi_36_12, pf_36_12, gi_36_13, pf_36_13, gi_36_14, pf_36_14, gr_36_15, gr_36_16, gi_36_17, pf_36_17, gr_36_18, gr_36_19, gr_36_20, gr_36_21, gr_36_22, gi_36_23, pf_36_23, gr_36_24, gr_36_25, gi_36_26, pf_36_26, gr_36_27, gr_36_28, gr_36_29, gr_36_30, gi_36_31, pf_36_31, gr_36_32, gr_36_33, gi_36_34, pf_36_34, gi_36_35, pf_36_35, gr_36_36, al_3, al_4, al_5, al_6, al_7, al_8, al_9, al_10, al_12, al_13, al_14, al_16, al_17, al_19, al_20, al_22, al_23, al_24, al_26, al_27, al_28, al_29, al_30, al_31, al_32, al_33, al_35, al_37, al_38, al_39, al_40, al_41, al_42, al_43, al_44, al_45, al_46, al_47, al_48, al_49, al_50, al_51, al_52, al_53, al_54, al_55, al_56, al_57, al_58, al_59, ↓reduceIte, Option.bind_some, cI_some, cL_some, cV_some, rz_0, rz_1, h13, e3, m_isCode (fu := fu) (x := 59) lB h12 hb oTn.1, bI_0]
  by_cases y3 : T < 3
  · rw [if_pos y3]
    have hm3 : mtl v n = 3 := by rw [hmt, if_pos y3]
    refine RB.no hF h12 ⟨oT, ?_⟩ (by omega) _ rfl
    rcases t4 with t4 | t4
    · omega
    · by_cases y : 1 + T < n
      · exact Or.inr (Or.inr (by rw [hm3, gon_g (by omega) (by omega) (by omega) (by omega) (by omega)]; exact decide_eq_false (fun w => t4 ⟨by omega, w⟩)))
      · exact Or.inl (by omega)
  rw [if_neg y3]
  have hmT : mtl v n = T := by rw [hmt, if_neg y3]
  have hm3 : 3 ≤ T := by omega
  rw [hmT] at oT ⊢
  by_cases z1 : 1 + T < n ∧ rd (B 39) (b + (1 + T)) = 59
  rotate_left
  · rw [if_pos z1]
    refine RB.no hF h12 ⟨oT, ?_⟩ (by omega) _ rfl
    by_cases y : 1 + T < n
    · rw [hrd _ y] at z1
      exact Or.inr (Or.inr (by rw [Nat.add_comm 1 T, gon_a]; exact decide_eq_false (fun w => z1 ⟨y, by rw [Nat.add_comm 1 T]; exact w⟩)))
    · exact Or.inl (by omega)
  have o2 : OkT v n T (1 + T + 1) := oT.s z1.1 (by omega) (by rw [← hrd _ z1.1, z1.2, Nat.add_comm 1 T, gon_a]; rfl)
  have hF2 : Fr A I B (uI J 36 12 (nI (b + (1 + T) + 1))) := hF.int rfl
  have hat2 : uI J 36 12 (nI (b + (1 + T) + 1)) 36 12 = nI (b + (1 + T + 1)) := uI_s _ _ _ _
  have o2n := o2.n
  rw [if_neg (fun y => y z1), h12, nI_1]
  simp -implicitDefEqProofs only [m_isCode (fu := fu) (x := 98) lB hat2 hb o2n.1, io_1, gr_1_0, gr_1_1, gr_1_2, gr_1_3, gr_1_4, gr_1_5, gi_1_6, pf_1_6, gi_1_7, pf_1_7, io_2, gr_2_0, gr_2_1, gr_2_2, gr_2_3, gr_2_4, gr_2_5, gr_2_6, gr_2_7, gi_2_8, pf_2_8, gi_2_9, pf_2_9, gi_2_10, pf_2_10, gi_2_11, pf_2_11, gi_2_12, pf_2_12, gi_2_13, pf_2_13, gi_2_14, pf_2_14, io_11, gr_11_0, gr_11_1, gr_11_2, io_15, gr_15_0, gr_15_1, gi_15_2, pf_15_2, gi_15_3, pf_15_3, gi_15_4, pf_15_4, gi_15_5, pf_15_5, io_18, gr_18_0, gr_18_1, gi_18_2, pf_18_2, io_21, gr_21_0, gr_21_1, gr_21_2, gr_21_3, gi_21_4, pf_21_4, gi_21_5, pf_21_5, gi_21_6, pf_21_6, gi_21_7, pf_21_7, io_34, gr_34_0, gi_34_1, pf_34_1, io_36, gi_36_0, pf_36_0, gi_36_1, pf_36_1, gr_36_2, gr_36_3, gr_36_4, gi_36_5, pf_36_5, gi_36_6, pf_36_6, gi_36_7, pf_36_7, gr_36_8, gr_36_9, gr_36_10, gr_36_11, gi_36_12, pf_36_12, gi_36_13, pf_36_13, gi_36_14, pf_36_14, gr_36_15, gr_36_16, gi_36_17, pf_36_17, gr_36_18, gr_36_19, gr_36_20, gr_36_21, gr_36_22, gi_36_23, pf_36_23, gr_36_24, gr_36_25, gi_36_26, pf_36_26, gr_36_27, gr_36_28, gr_36_29, gr_36_30, gi_36_31, pf_36_31, gr_36_32, gr_36_33, gi_36_34, pf_36_34, gi_36_35, pf_36_35, gr_36_36, al_3, al_4, al_5, al_6, al_7, al_8, al_9, al_10, al_12, al_13, al_14, al_16, al_17, al_19, al_20, al_22, al_23, al_24, al_26, al_27, al_28, al_29, al_30, al_31, al_32, al_33, al_35, al_37, al_38, al_39, al_40, al_41, al_42, al_43, al_44, al_45, al_46, al_47, al_48, al_49, al_50, al_51, al_52, al_53, al_54, al_55, al_56, al_57, al_58, al_59, ↓reduceIte, Option.bind_some, cI_some, cL_some, cV_some, rz_0, rz_1, bI_0]
  by_cases z2 : 1 + T + 1 < n ∧ rd (B 39) (b + (1 + T + 1)) = 98
  rotate_left
  · rw [if_pos z2]
    refine RB.no hF2 hat2 ⟨o2, ?_⟩ (by omega) _ rfl
    by_cases y : 1 + T + 1 < n
    · rw [hrd _ y] at z2
      refine Or.inr (Or.inr ?_)
      have e := gon_b (m := T) (x := v (1 + T + 1)) hm3
      rw [show T + 2 = 1 + T + 1 by omega] at e
      rw [e]
      exact decide_eq_false (fun w => z2 ⟨y, w⟩)
    · exact Or.inl (by omega)
  have o3 : OkT v n T (1 + T + 1 + 1) := o2.s z2.1 (by omega) (by
    have e := gon_b (m := T) (x := v (1 + T + 1)) hm3
    rw [show T + 2 = 1 + T + 1 by omega] at e
    rw [e, ← hrd _ z2.1]
    exact decide_eq_true z2.2)
  rw [if_neg (fun y => y z2), hat2, nI_1, uI_uI]
  obtain ⟨K, rfl⟩ : ∃ K, M = K + (T + 1) := ⟨M - (T + 1), by omega⟩
  exact m_beds hL hm3 t2 hb hv T 0 B _ K (by omega) (hF.int rfl) h13 (by rw [uI_s, show b + (1 + T + 1) + 1 = b + (T + 3 + 0) by omega]) (by rw [show T + 3 + 0 = 1 + T + 1 + 1 by omega]; exact o3) h44 (fun j hj => by omega)
end Q6
