/-! ===== the model's crossing by machine numbers ===== -/
theorem uA_uA (A : Nat → List Int32) (k : Nat) (x y : List Int32) : uA (uA A k x) k y = uA A k y := by
  funext j
  unfold uA
  by_cases h : j = k
  · rw [if_pos h, if_pos h]
  · rw [if_neg h, if_neg h, if_neg h]
theorem uA_self (A : Nat → List Int32) (k : Nat) : uA A k (A k) = A := by
  funext j
  unfold uA
  by_cases h : j = k
  · rw [if_pos h, h]
  · rw [if_neg h]
theorem top_pos : ∀ h, h < 21 → ∀ d, d < 10 → ∀ v, v < 10 → (0 < nI h - nI d - nI v ↔ d + v < h) := by decide +kernel
theorem str_pos : ∀ a, a < 9 → ∀ x, x < 2 → ∀ y, y < 2 → ∀ d, d < 10 → (nI d < nI a - nI x - nI y ↔ d + x + y < a) := by decide +kernel
theorem n_subS : ∀ a, a < 9 → ∀ b, b < 9 → b ≤ a → nI a - nI b = nI (a - b) := by decide +kernel
theorem n_sub1 (c : Nat) : nI (c + 1) - 1 = nI c := by
  rw [← nI_1]
  exact Int32.add_sub_cancel _ _
/-- what lies in the cells as the model looks at them, and by which water -/
def Lk (σ : SG) (A : Nat → List Int32) (I : Nat → Nat → Int32) (L : Nat → Nat) (v : Nat) : Prop :=
  (∀ c, c < σ 0 0 → rd (A 52) c = ro (L c) ∧ ∀ s, L c = s + 1 → s < σ 0 3) ∧ I 36 26 = nI v ∧ v ≤ 9
def Sd (σ : SG) (L : Nat → Nat) (v p : Nat) : Bool := decide (p = 0 ∨ p = σ 0 0 + 1 ∨ (L (p - 1) ≠ 0 ∧ σ 1 (p - 1) + v < σ 4 (L (p - 1) - 1)))
def ez (σ : SG) (L : Nat → Nat) (p : Nat) : Nat := if p = 0 ∨ p = σ 0 0 + 1 then 0 else if L (p - 1) ≠ 0 ∧ σ 3 (L (p - 1) - 1) = 2 then 1 else 0
theorem ez1 (σ : SG) (L : Nat → Nat) (p : Nat) : ez σ L p ≤ 1 := by unfold ez; split <;> (try split) <;> omega
theorem rw_of (σ : SG) (L : Nat → Nat) (v : Nat) : Rw (σ 0 0) (Sd σ L v) (ez σ L) := by
  refine ⟨by simp [Sd], by simp [Sd], by simp [ez], by simp [ez], ez1 σ L⟩
section FR
variable {σ : SG} {A : Nat → List Int32} {I : Nat → Nat → Int32} {fu : Nat} {L : Nat → Nat} {v : Nat}
theorem m_isBank (r : RR σ A I) {p : Nat} (hp : p ≤ σ 0 0 + 1) : U_X8_isBank fu [.ref 36, .int (nI p)] (enc A I) = some (some (.int (bI (p = 0 ∨ p = σ 0 0 + 1))), enc A I) := by
  have hn := r.n7
  simp only [u_X8_isBank, M_X8_isBank, io_1, gr_1_0, gr_1_1, gr_1_2, gr_1_3, gr_1_4, gr_1_5, gi_1_6, pf_1_6, gi_1_7, pf_1_7, io_2, gr_2_0, gr_2_1, gr_2_2, gr_2_3, gr_2_4, gr_2_5, gr_2_6, gr_2_7, gi_2_8, pf_2_8, gi_2_9, pf_2_9, gi_2_10, pf_2_10, gi_2_11, pf_2_11, gi_2_12, pf_2_12, gi_2_13, pf_2_13, gi_2_14, pf_2_14, io_11, gr_11_0, gr_11_1, gr_11_2, io_15, gr_15_0, gr_15_1, gi_15_2, pf_15_2, gi_15_3, pf_15_3, gi_15_4, pf_15_4, gi_15_5, pf_15_5, io_18, gr_18_0, gr_18_1, gi_18_2, pf_18_2, io_21, gr_21_0, gr_21_1, gr_21_2, gr_21_3, gi_21_4, pf_21_4, gi_21_5, pf_21_5, gi_21_6, pf_21_6, gi_21_7, pf_21_7, io_34, gr_34_0, gi_34_1, pf_34_1, io_36, gi_36_0, pf_36_0, gi_36_1, pf_36_1, gr_36_2, gr_36_3, gr_36_4, gi_36_5, pf_36_5, gi_36_6, pf_36_6, gi_36_7, pf_36_7, gr_36_8, gr_36_9, gr_36_10, gr_36_11, gi_36_12, pf_36_12, gi_36_13, pf_36_13, gi_36_14, pf_36_14, gr_36_15, gr_36_16, gi_36_17, pf_36_17, gr_36_18, gr_36_19, gr_36_20, gr_36_21, gr_36_22, gi_36_23, pf_36_23, gr_36_24, gr_36_25, gi_36_26, pf_36_26, gr_36_27, gr_36_28, gr_36_29, gr_36_30, gi_36_31, pf_36_31, gr_36_32, gr_36_33, gi_36_34, pf_36_34, gi_36_35, pf_36_35, gr_36_36, al_3, al_4, al_5, al_6, al_7, al_8, al_9, al_10, al_12, al_13, al_14, al_16, al_17, al_19, al_20, al_22, al_23, al_24, al_26, al_27, al_28, al_29, al_30, al_31, al_32, al_33, al_35, al_37, al_38, al_39, al_40, al_41, al_42, al_43, al_44, al_45, al_46, al_47, al_48, al_49, al_50, al_51, al_52, al_53, al_54, al_55, al_56, al_57, al_58, al_59, ↓reduceIte, Option.bind_some, cI_some, cL_some, cV_some, rz_0, rz_1, r.i36_5, nI_1, nI_pe0 (show p < 2147483648 by omega), n_eq (show p < 2147483648 by omega) (show σ 0 0 + 1 < 2147483648 by omega)]
  by_cases h : p = 0
  · rw [if_pos h, bI_t (Or.inl h)]
  · rw [if_neg h]
    by_cases h2 : p = σ 0 0 + 1
    · rw [if_pos h2, bI_t (Or.inr h2)]
    · rw [if_neg h2, bI_f (by omega)]
theorem Lk.a52 (k : Lk σ A I L v) (r : RR σ A I) {c : Nat} (hc : c < σ 0 0) : aI (enc A I) 52 (nI c) = some (ro (L c)) := by
  have hn := r.n7
  rw [ai_52 A I (by rw [r.len rfl]; show c < 7; omega) (by omega), (k.1 c hc).1]
theorem Lk.lt (k : Lk σ A I L v) (r : RR σ A I) {c : Nat} (hc : c < σ 0 0) : L c ≤ 6 := by
  have := r.m6
  cases h : L c with
  | zero => omega
  | succ s => have := (k.1 c hc).2 s h; omega
theorem m_isStand (k : Lk σ A I L v) (r : RR σ A I) {p : Nat} (hp : p ≤ σ 0 0 + 1) : U_X8_isStand fu [.ref 36, .int (nI p)] (enc A I) = some (some (.int (bI (Sd σ L v p = true))), enc A I) := by
  have hn := r.n7
  simp only [u_X8_isStand, M_X8_isStand, m_isBank r hp, io_1, gr_1_0, gr_1_1, gr_1_2, gr_1_3, gr_1_4, gr_1_5, gi_1_6, pf_1_6, gi_1_7, pf_1_7, io_2, gr_2_0, gr_2_1, gr_2_2, gr_2_3, gr_2_4, gr_2_5, gr_2_6, gr_2_7, gi_2_8, pf_2_8, gi_2_9, pf_2_9, gi_2_10, pf_2_10, gi_2_11, pf_2_11, gi_2_12, pf_2_12, gi_2_13, pf_2_13, gi_2_14, pf_2_14, io_11, gr_11_0, gr_11_1, gr_11_2, io_15, gr_15_0, gr_15_1, gi_15_2, pf_15_2, gi_15_3, pf_15_3, gi_15_4, pf_15_4, gi_15_5, pf_15_5, io_18, gr_18_0, gr_18_1, gi_18_2, pf_18_2, io_21, gr_21_0, gr_21_1, gr_21_2, gr_21_3, gi_21_4, pf_21_4, gi_21_5, pf_21_5, gi_21_6, pf_21_6, gi_21_7, pf_21_7, io_34, gr_34_0, gi_34_1, pf_34_1, io_36, gi_36_0, pf_36_0, gi_36_1, pf_36_1, gr_36_2, gr_36_3, gr_36_4, gi_36_5, pf_36_5, gi_36_6, pf_36_6, gi_36_7, pf_36_7, gr_36_8, gr_36_9, gr_36_10, gr_36_11, gi_36_12, pf_36_12, gi_36_13, pf_36_13, gi_36_14, pf_36_14, gr_36_15, gr_36_16, gi_36_17, pf_36_17, gr_36_18, gr_36_19, gr_36_20, gr_36_21, gr_36_22, gi_36_23, pf_36_23, gr_36_24, gr_36_25, gi_36_26, pf_36_26, gr_36_27, gr_36_28, gr_36_29, gr_36_30, gi_36_31, pf_36_31, gr_36_32, gr_36_33, gi_36_34, pf_36_34, gi_36_35, pf_36_35, gr_36_36, al_3, al_4, al_5, al_6, al_7, al_8, al_9, al_10, al_12, al_13, al_14, al_16, al_17, al_19, al_20, al_22, al_23, al_24, al_26, al_27, al_28, al_29, al_30, al_31, al_32, al_33, al_35, al_37, al_38, al_39, al_40, al_41, al_42, al_43, al_44, al_45, al_46, al_47, al_48, al_49, al_50, al_51, al_52, al_53, al_54, al_55, al_56, al_57, al_58, al_59, ↓reduceIte, Option.bind_some, cI_some, cL_some, cV_some, rz_0, rz_1, bI_0]
  by_cases h : p = 0 ∨ p = σ 0 0 + 1
  · rw [if_neg (fun q => q h), bI_t (by unfold Sd; exact decide_eq_true (by omega))]
  · rw [if_pos h]
    obtain ⟨c, rfl⟩ : ∃ c, p = c + 1 := ⟨p - 1, by omega⟩
    have hc : c < σ 0 0 := by omega
    have h6 := k.lt r hc
    rw [n_sub1, k.a52 r hc]
    simp only [io_1, gr_1_0, gr_1_1, gr_1_2, gr_1_3, gr_1_4, gr_1_5, gi_1_6, pf_1_6, gi_1_7, pf_1_7, io_2, gr_2_0, gr_2_1, gr_2_2, gr_2_3, gr_2_4, gr_2_5, gr_2_6, gr_2_7, gi_2_8, pf_2_8, gi_2_9, pf_2_9, gi_2_10, pf_2_10, gi_2_11, pf_2_11, gi_2_12, pf_2_12, gi_2_13, pf_2_13, gi_2_14, pf_2_14, io_11, gr_11_0, gr_11_1, gr_11_2, io_15, gr_15_0, gr_15_1, gi_15_2, pf_15_2, gi_15_3, pf_15_3, gi_15_4, pf_15_4, gi_15_5, pf_15_5, io_18, gr_18_0, gr_18_1, gi_18_2, pf_18_2, io_21, gr_21_0, gr_21_1, gr_21_2, gr_21_3, gi_21_4, pf_21_4, gi_21_5, pf_21_5, gi_21_6, pf_21_6, gi_21_7, pf_21_7, io_34, gr_34_0, gi_34_1, pf_34_1, io_36, gi_36_0, pf_36_0, gi_36_1, pf_36_1, gr_36_2, gr_36_3, gr_36_4, gi_36_5, pf_36_5, gi_36_6, pf_36_6, gi_36_7, pf_36_7, gr_36_8, gr_36_9, gr_36_10, gr_36_11, gi_36_12, pf_36_12, gi_36_13, pf_36_13, gi_36_14, pf_36_14, gr_36_15, gr_36_16, gi_36_17, pf_36_17, gr_36_18, gr_36_19, gr_36_20, gr_36_21, gr_36_22, gi_36_23, pf_36_23, gr_36_24, gr_36_25, gi_36_26, pf_36_26, gr_36_27, gr_36_28, gr_36_29, gr_36_30, gi_36_31, pf_36_31, gr_36_32, gr_36_33, gi_36_34, pf_36_34, gi_36_35, pf_36_35, gr_36_36, al_3, al_4, al_5, al_6, al_7, al_8, al_9, al_10, al_12, al_13, al_14, al_16, al_17, al_19, al_20, al_22, al_23, al_24, al_26, al_27, al_28, al_29, al_30, al_31, al_32, al_33, al_35, al_37, al_38, al_39, al_40, al_41, al_42, al_43, al_44, al_45, al_46, al_47, al_48, al_49, al_50, al_51, al_52, al_53, al_54, al_55, al_56, al_57, al_58, al_59, ↓reduceIte, Option.bind_some, cI_some, cL_some, cV_some, rz_0, rz_1, ro_9 (show L c < 2147483648 by omega)]
    cases hl : L c with
    | zero => rw [if_pos rfl, bI_f (by unfold Sd; simp [hl]; omega)]
    | succ s =>
      have hs := (k.1 c hc).2 s hl
      have t1 := (r.sto hs).2.2.1
      have t2 := (r.cel hc).1
      rw [if_neg (by omega), ro_s, r.a47 hs, Option.bind_some, r.a40 hc, Option.bind_some, k.2.1]
      have e : Sd σ L v (c + 1) = true ↔ σ 1 c + v < σ 4 s := by
        unfold Sd
        rw [decide_eq_true_iff]
        simp only [Nat.add_sub_cancel, hl]
        omega
      by_cases q : σ 1 c + v < σ 4 s
      · rw [if_pos ((top_pos _ (by omega) _ (by omega) _ (by have := k.2.2; omega)).mpr q), bI_t (e.mpr q)]
      · rw [if_neg (fun z => q ((top_pos _ (by omega) _ (by omega) _ (by have := k.2.2; omega)).mp z)), bI_f (fun z => q (e.mp z))]
theorem m_easeAt (k : Lk σ A I L v) (r : RR σ A I) {p : Nat} (hp : p ≤ σ 0 0 + 1) : U_X8_easeAt fu [.ref 36, .int (nI p)] (enc A I) = some (some (.int (nI (ez σ L p))), enc A I) := by
  have hn := r.n7
  simp only [u_X8_easeAt, M_X8_easeAt, m_isBank r hp, io_1, gr_1_0, gr_1_1, gr_1_2, gr_1_3, gr_1_4, gr_1_5, gi_1_6, pf_1_6, gi_1_7, pf_1_7, io_2, gr_2_0, gr_2_1, gr_2_2, gr_2_3, gr_2_4, gr_2_5, gr_2_6, gr_2_7, gi_2_8, pf_2_8, gi_2_9, pf_2_9, gi_2_10, pf_2_10, gi_2_11, pf_2_11, gi_2_12, pf_2_12, gi_2_13, pf_2_13, gi_2_14, pf_2_14, io_11, gr_11_0, gr_11_1, gr_11_2, io_15, gr_15_0, gr_15_1, gi_15_2, pf_15_2, gi_15_3, pf_15_3, gi_15_4, pf_15_4, gi_15_5, pf_15_5, io_18, gr_18_0, gr_18_1, gi_18_2, pf_18_2, io_21, gr_21_0, gr_21_1, gr_21_2, gr_21_3, gi_21_4, pf_21_4, gi_21_5, pf_21_5, gi_21_6, pf_21_6, gi_21_7, pf_21_7, io_34, gr_34_0, gi_34_1, pf_34_1, io_36, gi_36_0, pf_36_0, gi_36_1, pf_36_1, gr_36_2, gr_36_3, gr_36_4, gi_36_5, pf_36_5, gi_36_6, pf_36_6, gi_36_7, pf_36_7, gr_36_8, gr_36_9, gr_36_10, gr_36_11, gi_36_12, pf_36_12, gi_36_13, pf_36_13, gi_36_14, pf_36_14, gr_36_15, gr_36_16, gi_36_17, pf_36_17, gr_36_18, gr_36_19, gr_36_20, gr_36_21, gr_36_22, gi_36_23, pf_36_23, gr_36_24, gr_36_25, gi_36_26, pf_36_26, gr_36_27, gr_36_28, gr_36_29, gr_36_30, gi_36_31, pf_36_31, gr_36_32, gr_36_33, gi_36_34, pf_36_34, gi_36_35, pf_36_35, gr_36_36, al_3, al_4, al_5, al_6, al_7, al_8, al_9, al_10, al_12, al_13, al_14, al_16, al_17, al_19, al_20, al_22, al_23, al_24, al_26, al_27, al_28, al_29, al_30, al_31, al_32, al_33, al_35, al_37, al_38, al_39, al_40, al_41, al_42, al_43, al_44, al_45, al_46, al_47, al_48, al_49, al_50, al_51, al_52, al_53, al_54, al_55, al_56, al_57, al_58, al_59, ↓reduceIte, Option.bind_some, cI_some, cL_some, cV_some, rz_0, rz_1, bI_0]
  by_cases h : p = 0 ∨ p = σ 0 0 + 1
  · rw [if_neg (fun q => q h), ez, if_pos h]; rfl
  · rw [if_pos h]
    obtain ⟨c, rfl⟩ : ∃ c, p = c + 1 := ⟨p - 1, by omega⟩
    have hc : c < σ 0 0 := by omega
    have h6 := k.lt r hc
    rw [n_sub1, k.a52 r hc, ez, if_neg h]
    simp only [io_1, gr_1_0, gr_1_1, gr_1_2, gr_1_3, gr_1_4, gr_1_5, gi_1_6, pf_1_6, gi_1_7, pf_1_7, io_2, gr_2_0, gr_2_1, gr_2_2, gr_2_3, gr_2_4, gr_2_5, gr_2_6, gr_2_7, gi_2_8, pf_2_8, gi_2_9, pf_2_9, gi_2_10, pf_2_10, gi_2_11, pf_2_11, gi_2_12, pf_2_12, gi_2_13, pf_2_13, gi_2_14, pf_2_14, io_11, gr_11_0, gr_11_1, gr_11_2, io_15, gr_15_0, gr_15_1, gi_15_2, pf_15_2, gi_15_3, pf_15_3, gi_15_4, pf_15_4, gi_15_5, pf_15_5, io_18, gr_18_0, gr_18_1, gi_18_2, pf_18_2, io_21, gr_21_0, gr_21_1, gr_21_2, gr_21_3, gi_21_4, pf_21_4, gi_21_5, pf_21_5, gi_21_6, pf_21_6, gi_21_7, pf_21_7, io_34, gr_34_0, gi_34_1, pf_34_1, io_36, gi_36_0, pf_36_0, gi_36_1, pf_36_1, gr_36_2, gr_36_3, gr_36_4, gi_36_5, pf_36_5, gi_36_6, pf_36_6, gi_36_7, pf_36_7, gr_36_8, gr_36_9, gr_36_10, gr_36_11, gi_36_12, pf_36_12, gi_36_13, pf_36_13, gi_36_14, pf_36_14, gr_36_15, gr_36_16, gi_36_17, pf_36_17, gr_36_18, gr_36_19, gr_36_20, gr_36_21, gr_36_22, gi_36_23, pf_36_23, gr_36_24, gr_36_25, gi_36_26, pf_36_26, gr_36_27, gr_36_28, gr_36_29, gr_36_30, gi_36_31, pf_36_31, gr_36_32, gr_36_33, gi_36_34, pf_36_34, gi_36_35, pf_36_35, gr_36_36, al_3, al_4, al_5, al_6, al_7, al_8, al_9, al_10, al_12, al_13, al_14, al_16, al_17, al_19, al_20, al_22, al_23, al_24, al_26, al_27, al_28, al_29, al_30, al_31, al_32, al_33, al_35, al_37, al_38, al_39, al_40, al_41, al_42, al_43, al_44, al_45, al_46, al_47, al_48, al_49, al_50, al_51, al_52, al_53, al_54, al_55, al_56, al_57, al_58, al_59, ↓reduceIte, Option.bind_some, cI_some, cL_some, cV_some, rz_0, rz_1, ro_9 (show L c < 2147483648 by omega), Nat.add_sub_cancel]
    cases hl : L c with
    | zero => rw [if_pos rfl, if_neg (fun q => q.1 rfl)]; rfl
    | succ s =>
      have hs := (k.1 c hc).2 s hl
      rw [if_neg (by omega), ro_s, r.a46 hs, Option.bind_some]
      simp only [Nat.add_sub_cancel]
      have e2 : (nI (σ 3 s) = 2) = (σ 3 s = 2) := n_eq (by have := (r.sto hs).1; omega) (by decide)
      by_cases q : σ 3 s = 2
      · rw [if_pos (by rw [e2]; exact q), if_pos ⟨by omega, q⟩]; rfl
      · rw [if_neg (by rw [e2]; exact q), if_neg (fun z => q z.2)]; rfl
theorem m_isStride (hf : 1000 ≤ fu) (k : Lk σ A I L v) (r : RR σ A I) {p q d : Nat} (hp : p ≤ σ 0 0 + 1) (hq : q ≤ σ 0 0 + 1) (hd : d ≤ 9) : U_X8_isStride fu [.ref 36, .int (nI p), .int (nI q), .int (nI d)] (enc A I) = some (some (.int (bI (near (ez σ L) d p q))), enc A I) := by
  have hn := r.n7
  obtain ⟨n, hfu⟩ : ∃ k, fu = k + 1 := ⟨fu - 1, by omega⟩
  have main : ∀ a, a < 9 → (d + ez σ L p + ez σ L q < a ↔ ¬ near (ez σ L) d p q) → F_X8_isStride fu fu 36 (nI p) (nI q) (nI d) (nI a) (enc A I) = some (some (.int (bI (near (ez σ L) d p q))), enc A I) := by
    intro a ha h
    have x1 := ez1 σ L p
    have x2 := ez1 σ L q
    rw [show F_X8_isStride fu fu = F_X8_isStride fu (n + 1) by rw [← hfu]]
    simp only [F_X8_isStride, m_easeAt k r hp, m_easeAt k r hq, io_1, gr_1_0, gr_1_1, gr_1_2, gr_1_3, gr_1_4, gr_1_5, gi_1_6, pf_1_6, gi_1_7, pf_1_7, io_2, gr_2_0, gr_2_1, gr_2_2, gr_2_3, gr_2_4, gr_2_5, gr_2_6, gr_2_7, gi_2_8, pf_2_8, gi_2_9, pf_2_9, gi_2_10, pf_2_10, gi_2_11, pf_2_11, gi_2_12, pf_2_12, gi_2_13, pf_2_13, gi_2_14, pf_2_14, io_11, gr_11_0, gr_11_1, gr_11_2, io_15, gr_15_0, gr_15_1, gi_15_2, pf_15_2, gi_15_3, pf_15_3, gi_15_4, pf_15_4, gi_15_5, pf_15_5, io_18, gr_18_0, gr_18_1, gi_18_2, pf_18_2, io_21, gr_21_0, gr_21_1, gr_21_2, gr_21_3, gi_21_4, pf_21_4, gi_21_5, pf_21_5, gi_21_6, pf_21_6, gi_21_7, pf_21_7, io_34, gr_34_0, gi_34_1, pf_34_1, io_36, gi_36_0, pf_36_0, gi_36_1, pf_36_1, gr_36_2, gr_36_3, gr_36_4, gi_36_5, pf_36_5, gi_36_6, pf_36_6, gi_36_7, pf_36_7, gr_36_8, gr_36_9, gr_36_10, gr_36_11, gi_36_12, pf_36_12, gi_36_13, pf_36_13, gi_36_14, pf_36_14, gr_36_15, gr_36_16, gi_36_17, pf_36_17, gr_36_18, gr_36_19, gr_36_20, gr_36_21, gr_36_22, gi_36_23, pf_36_23, gr_36_24, gr_36_25, gi_36_26, pf_36_26, gr_36_27, gr_36_28, gr_36_29, gr_36_30, gi_36_31, pf_36_31, gr_36_32, gr_36_33, gi_36_34, pf_36_34, gi_36_35, pf_36_35, gr_36_36, al_3, al_4, al_5, al_6, al_7, al_8, al_9, al_10, al_12, al_13, al_14, al_16, al_17, al_19, al_20, al_22, al_23, al_24, al_26, al_27, al_28, al_29, al_30, al_31, al_32, al_33, al_35, al_37, al_38, al_39, al_40, al_41, al_42, al_43, al_44, al_45, al_46, al_47, al_48, al_49, al_50, al_51, al_52, al_53, al_54, al_55, al_56, al_57, al_58, al_59, ↓reduceIte, Option.bind_some, cI_some, cL_some, cV_some, rz_0, rz_1]
    have t := str_pos a ha (ez σ L p) (by omega) (ez σ L q) (by omega) d (by omega)
    by_cases z : near (ez σ L) d p q
    · rw [if_neg (fun y => h.mp (t.mp y) z), bI_t z]
    · rw [if_pos (t.mpr (h.mpr z)), bI_f z]
  simp only [u_X8_isStride, M_X8_isStride, io_1, gr_1_0, gr_1_1, gr_1_2, gr_1_3, gr_1_4, gr_1_5, gi_1_6, pf_1_6, gi_1_7, pf_1_7, io_2, gr_2_0, gr_2_1, gr_2_2, gr_2_3, gr_2_4, gr_2_5, gr_2_6, gr_2_7, gi_2_8, pf_2_8, gi_2_9, pf_2_9, gi_2_10, pf_2_10, gi_2_11, pf_2_11, gi_2_12, pf_2_12, gi_2_13, pf_2_13, gi_2_14, pf_2_14, io_11, gr_11_0, gr_11_1, gr_11_2, io_15, gr_15_0, gr_15_1, gi_15_2, pf_15_2, gi_15_3, pf_15_3, gi_15_4, pf_15_4, gi_15_5, pf_15_5, io_18, gr_18_0, gr_18_1, gi_18_2, pf_18_2, io_21, gr_21_0, gr_21_1, gr_21_2, gr_21_3, gi_21_4, pf_21_4, gi_21_5, pf_21_5, gi_21_6, pf_21_6, gi_21_7, pf_21_7, io_34, gr_34_0, gi_34_1, pf_34_1, io_36, gi_36_0, pf_36_0, gi_36_1, pf_36_1, gr_36_2, gr_36_3, gr_36_4, gi_36_5, pf_36_5, gi_36_6, pf_36_6, gi_36_7, pf_36_7, gr_36_8, gr_36_9, gr_36_10, gr_36_11, gi_36_12, pf_36_12, gi_36_13, pf_36_13, gi_36_14, pf_36_14, gr_36_15, gr_36_16, gi_36_17, pf_36_17, gr_36_18, gr_36_19, gr_36_20, gr_36_21, gr_36_22, gi_36_23, pf_36_23, gr_36_24, gr_36_25, gi_36_26, pf_36_26, gr_36_27, gr_36_28, gr_36_29, gr_36_30, gi_36_31, pf_36_31, gr_36_32, gr_36_33, gi_36_34, pf_36_34, gi_36_35, pf_36_35, gr_36_36, al_3, al_4, al_5, al_6, al_7, al_8, al_9, al_10, al_12, al_13, al_14, al_16, al_17, al_19, al_20, al_22, al_23, al_24, al_26, al_27, al_28, al_29, al_30, al_31, al_32, al_33, al_35, al_37, al_38, al_39, al_40, al_41, al_42, al_43, al_44, al_45, al_46, al_47, al_48, al_49, al_50, al_51, al_52, al_53, al_54, al_55, al_56, al_57, al_58, al_59, ↓reduceIte, Option.bind_some, cI_some, cL_some, cV_some, rz_0, rz_1, n_lt (show p < 2147483648 by omega) (show q < 2147483648 by omega)]
  unfold near at main ⊢
  by_cases h : p < q
  · rw [if_pos h, n_subS q (by omega) p (by omega) (by omega)]
    exact main _ (by omega) (by omega)
  · rw [if_neg h, n_subS p (by omega) q (by omega) (by omega)]
    exact main _ (by omega) (by omega)
/-! the rounds -/
def sm (f : Nat → Nat) : Nat → Nat
  | 0 => 0
  | n + 1 => sm f n + f n
theorem sm_le {f g : Nat → Nat} : ∀ n, (∀ i, i < n → g i ≤ f i) → sm g n ≤ sm f n := by
  intro n
  induction n with
  | zero => intro _; exact Nat.le_refl _
  | succ n ih => intro h; have := ih (fun i hi => h i (by omega)); have := h n (by omega); unfold sm; omega
theorem sm_lt {f g : Nat → Nat} {j : Nat} : ∀ n, j < n → (∀ i, i < n → g i ≤ f i) → g j < f j → sm g n < sm f n := by
  intro n
  induction n with
  | zero => intro h; omega
  | succ n ih =>
    intro hj h hl
    unfold sm
    by_cases q : j = n
    · subst q
      have := sm_le j (fun i hi => h i (by omega))
      omega
    · have := ih (by omega) (fun i hi => h i (by omega)) hl
      have := h n (by omega)
      omega
theorem sm_cap {f : Nat → Nat} : ∀ n, (∀ i, i < n → f i ≤ 1000000) → sm f n ≤ n * 1000000 := by
  intro n
  induction n with
  | zero => intro _; exact Nat.zero_le _
  | succ n ih => intro h; have := ih (fun i hi => h i (by omega)); have := h n (by omega); unfold sm; omega
/-- the row of numbers, and that each is a walk's length -/
def FW (σ : SG) (S : Nat → Bool) (e : Nat → Nat) (d a : Nat) (xs : List Int32) (f : Nat → Nat) : Prop :=
  xs.length = 9 ∧ (∀ i, i ≤ σ 0 0 + 1 → rd xs i = nI (f i)) ∧ (∀ i, i ≤ σ 0 0 + 1 → f i = 1000000 ∨ (f i < 1000000 ∧ Wk (σ 0 0) S e d a (f i) i)) ∧ f a = 0
theorem FW.le {S : Nat → Bool} {e : Nat → Nat} {d a : Nat} {xs : List Int32} {f : Nat → Nat} (h : FW σ S e d a xs f) {i : Nat} (hi : i ≤ σ 0 0 + 1) : f i ≤ 1000000 := by
  rcases h.2.2.1 i hi with q | q <;> omega
theorem RR.sc (r : RR σ A I) {k : Nat} {xs : List Int32} (h : scrA k = true) (hl : xs.length = (A k).length) : RR σ (uA A k xs) I := (Fr.arr (Fr.rf A I) h hl).R r
theorem Lk.sc (k : Lk σ A I L v) {j : Nat} {xs : List Int32} (h : j ≠ 52) : Lk σ (uA A j xs) I L v := ⟨fun c hc => by rw [uA_n _ _ _ (fun q => h q.symm)]; exact k.1 c hc, k.2⟩
def updN (f : Nat → Nat) (q x : Nat) : Nat → Nat := fun i => if i = q then x else f i
theorem far_q (hf : 1000 ≤ fu) (k : Lk σ A I L v) (r : RR σ A I) {d a p : Nat} (hd : d ≤ 9) (hp : p ≤ σ 0 0 + 1) : ∀ m q xs f more, q + m = σ 0 0 + 2 → more ≤ 1 → FW σ (Sd σ L v) (ez σ L) d a xs f →
    ∃ xs' f' more', FW σ (Sd σ L v) (ez σ L) d a xs' f' ∧ more' ≤ 1 ∧ ((more' = more ∧ f' = f ∧ ∀ j, q ≤ j → j ≤ σ 0 0 + 1 → ¬ (edge (σ 0 0) (Sd σ L v) (ez σ L) d p j ∧ f p + 1 < f j)) ∨ (more' = 1 ∧ sm f' (σ 0 0 + 2) < sm f (σ 0 0 + 2))) ∧
      ∀ n, (F_X8_layFar fu (n + (m + 1))).2.2.2 36 (nI d) (nI more) (nI p) (nI q) (enc (uA A 53 xs) I) = (F_X8_layFar fu n).2.2.1 36 (nI d) (nI more') (nI (p + 1)) (enc (uA A 53 xs') I) := by
  have hn := r.n7
  intro m
  induction m with
  | zero =>
    intro q xs f more hq hm h
    refine ⟨xs, f, more, h, hm, Or.inl ⟨rfl, rfl, fun j h1 h2 => by omega⟩, fun n => ?_⟩
    rw [show n + (0 + 1) = n + 1 by omega, F_X8_layFar]
    simp only [io_1, gr_1_0, gr_1_1, gr_1_2, gr_1_3, gr_1_4, gr_1_5, gi_1_6, pf_1_6, gi_1_7, pf_1_7, io_2, gr_2_0, gr_2_1, gr_2_2, gr_2_3, gr_2_4, gr_2_5, gr_2_6, gr_2_7, gi_2_8, pf_2_8, gi_2_9, pf_2_9, gi_2_10, pf_2_10, gi_2_11, pf_2_11, gi_2_12, pf_2_12, gi_2_13, pf_2_13, gi_2_14, pf_2_14, io_11, gr_11_0, gr_11_1, gr_11_2, io_15, gr_15_0, gr_15_1, gi_15_2, pf_15_2, gi_15_3, pf_15_3, gi_15_4, pf_15_4, gi_15_5, pf_15_5, io_18, gr_18_0, gr_18_1, gi_18_2, pf_18_2, io_21, gr_21_0, gr_21_1, gr_21_2, gr_21_3, gi_21_4, pf_21_4, gi_21_5, pf_21_5, gi_21_6, pf_21_6, gi_21_7, pf_21_7, io_34, gr_34_0, gi_34_1, pf_34_1, io_36, gi_36_0, pf_36_0, gi_36_1, pf_36_1, gr_36_2, gr_36_3, gr_36_4, gi_36_5, pf_36_5, gi_36_6, pf_36_6, gi_36_7, pf_36_7, gr_36_8, gr_36_9, gr_36_10, gr_36_11, gi_36_12, pf_36_12, gi_36_13, pf_36_13, gi_36_14, pf_36_14, gr_36_15, gr_36_16, gi_36_17, pf_36_17, gr_36_18, gr_36_19, gr_36_20, gr_36_21, gr_36_22, gi_36_23, pf_36_23, gr_36_24, gr_36_25, gi_36_26, pf_36_26, gr_36_27, gr_36_28, gr_36_29, gr_36_30, gi_36_31, pf_36_31, gr_36_32, gr_36_33, gi_36_34, pf_36_34, gi_36_35, pf_36_35, gr_36_36, al_3, al_4, al_5, al_6, al_7, al_8, al_9, al_10, al_12, al_13, al_14, al_16, al_17, al_19, al_20, al_22, al_23, al_24, al_26, al_27, al_28, al_29, al_30, al_31, al_32, al_33, al_35, al_37, al_38, al_39, al_40, al_41, al_42, al_43, al_44, al_45, al_46, al_47, al_48, al_49, al_50, al_51, al_52, al_53, al_54, al_55, al_56, al_57, al_58, al_59, ↓reduceIte, Option.bind_some, cI_some, cL_some, cV_some, rz_0, rz_1, r.i36_5, nI_1, n_lt (show σ 0 0 + 1 < 2147483648 by omega) (show q < 2147483648 by omega)]
    rw [if_pos (by omega)]
  | succ m ih =>
    intro q xs f more hq hm h
    have hq1 : q ≤ σ 0 0 + 1 := by omega
    have hA : (A 53).length = 9 := r.len rfl
    have r2 : RR σ (uA A 53 xs) I := r.sc rfl (by rw [h.1, hA])
    have k2 : Lk σ (uA A 53 xs) I L v := k.sc (by decide)
    have ep : aI (enc (uA A 53 xs) I) 53 (nI p) = some (nI (f p)) := by rw [ai_53 _ _ (by rw [uA_s, h.1]; omega) (by omega), uA_s, h.2.1 p hp]
    have eq : aI (enc (uA A 53 xs) I) 53 (nI q) = some (nI (f q)) := by rw [ai_53 _ _ (by rw [uA_s, h.1]; omega) (by omega), uA_s, h.2.1 q hq1]
    have fp := h.le hp
    have fq := h.le hq1
    have e1 : ∀ n, (F_X8_layFar fu (n + (m + 1 + 1))).2.2.2 36 (nI d) (nI more) (nI p) (nI q) (enc (uA A 53 xs) I) =
        if p = q then (F_X8_layFar fu (n + (m + 1))).2.2.2 36 (nI d) (nI more) (nI p) (nI (q + 1)) (enc (uA A 53 xs) I) else
        if f p + 1 < f q ∧ Sd σ L v q = true ∧ near (ez σ L) d p q then (F_X8_layFar fu (n + (m + 1))).2.2.2 36 (nI d) (nI 1) (nI p) (nI (q + 1)) (enc (uA A 53 (xs.set q (nI (f p + 1)))) I)
        else (F_X8_layFar fu (n + (m + 1))).2.2.2 36 (nI d) (nI more) (nI p) (nI (q + 1)) (enc (uA A 53 xs) I) := by
      intro n
      rw [show n + (m + 1 + 1) = n + (m + 1) + 1 by omega, F_X8_layFar]
      simp only [io_1, gr_1_0, gr_1_1, gr_1_2, gr_1_3, gr_1_4, gr_1_5, gi_1_6, pf_1_6, gi_1_7, pf_1_7, io_2, gr_2_0, gr_2_1, gr_2_2, gr_2_3, gr_2_4, gr_2_5, gr_2_6, gr_2_7, gi_2_8, pf_2_8, gi_2_9, pf_2_9, gi_2_10, pf_2_10, gi_2_11, pf_2_11, gi_2_12, pf_2_12, gi_2_13, pf_2_13, gi_2_14, pf_2_14, io_11, gr_11_0, gr_11_1, gr_11_2, io_15, gr_15_0, gr_15_1, gi_15_2, pf_15_2, gi_15_3, pf_15_3, gi_15_4, pf_15_4, gi_15_5, pf_15_5, io_18, gr_18_0, gr_18_1, gi_18_2, pf_18_2, io_21, gr_21_0, gr_21_1, gr_21_2, gr_21_3, gi_21_4, pf_21_4, gi_21_5, pf_21_5, gi_21_6, pf_21_6, gi_21_7, pf_21_7, io_34, gr_34_0, gi_34_1, pf_34_1, io_36, gi_36_0, pf_36_0, gi_36_1, pf_36_1, gr_36_2, gr_36_3, gr_36_4, gi_36_5, pf_36_5, gi_36_6, pf_36_6, gi_36_7, pf_36_7, gr_36_8, gr_36_9, gr_36_10, gr_36_11, gi_36_12, pf_36_12, gi_36_13, pf_36_13, gi_36_14, pf_36_14, gr_36_15, gr_36_16, gi_36_17, pf_36_17, gr_36_18, gr_36_19, gr_36_20, gr_36_21, gr_36_22, gi_36_23, pf_36_23, gr_36_24, gr_36_25, gi_36_26, pf_36_26, gr_36_27, gr_36_28, gr_36_29, gr_36_30, gi_36_31, pf_36_31, gr_36_32, gr_36_33, gi_36_34, pf_36_34, gi_36_35, pf_36_35, gr_36_36, al_3, al_4, al_5, al_6, al_7, al_8, al_9, al_10, al_12, al_13, al_14, al_16, al_17, al_19, al_20, al_22, al_23, al_24, al_26, al_27, al_28, al_29, al_30, al_31, al_32, al_33, al_35, al_37, al_38, al_39, al_40, al_41, al_42, al_43, al_44, al_45, al_46, al_47, al_48, al_49, al_50, al_51, al_52, al_53, al_54, al_55, al_56, al_57, al_58, al_59, ↓reduceIte, Option.bind_some, cI_some, cL_some, cV_some, rz_0, rz_1, r.i36_5, nI_1, n_lt (show σ 0 0 + 1 < 2147483648 by omega) (show q < 2147483648 by omega), n_eq (show p < 2147483648 by omega) (show q < 2147483648 by omega), ep, eq,
        n_lt (show f p + 1 < 2147483648 by omega) (show f q < 2147483648 by omega), m_isStand k2 r2 hq1, m_isStride hf k2 r2 hp hq1 hd, bI_0]
      rw [if_neg (by omega)]
      by_cases z : p = q
      · rw [if_pos z, if_pos z]
      · rw [if_neg z, if_neg z]
        by_cases z1 : f p + 1 < f q
        · rw [if_pos z1]
          by_cases z2 : Sd σ L v q = true
          · rw [if_neg (fun y => y z2)]
            by_cases z3 : near (ez σ L) d p q
            · rw [if_neg (fun y => y z3), if_pos ⟨z1, z2, z3⟩, si_53 _ _ _ (by rw [uA_s, h.1]; omega) (by omega), uA_s, uA_uA]
              rfl
            · rw [if_pos z3, if_neg (fun y => z3 y.2.2)]
          · rw [if_pos z2, if_neg (fun y => z2 y.2.1)]
        · rw [if_neg z1, if_neg (fun y => z1 y.1)]
    by_cases z : ¬ p = q ∧ f p + 1 < f q ∧ Sd σ L v q = true ∧ near (ez σ L) d p q
    · have hw : Wk (σ 0 0) (Sd σ L v) (ez σ L) d a (f p + 1) q := by
        have : f p < 1000000 := by omega
        rcases h.2.2.1 p hp with y | y
        · omega
        · exact y.2.s ⟨z.1, hq1, z.2.2.1, z.2.2.2⟩
      have h' : FW σ (Sd σ L v) (ez σ L) d a (xs.set q (nI (f p + 1))) (updN f q (f p + 1)) := by
        refine ⟨by rw [List.length_set]; exact h.1, fun i hi => ?_, fun i hi => ?_, ?_⟩
        · rw [rd_set _ _ (by rw [h.1]; omega)]
          unfold updN
          by_cases y : i = q
          · rw [if_pos y, if_pos y]
          · rw [if_neg y, if_neg y]; exact h.2.1 i hi
        · unfold updN
          by_cases y : i = q
          · rw [if_pos y, y]; exact Or.inr ⟨by omega, hw⟩
          · rw [if_neg y]; exact h.2.2.1 i hi
        · unfold updN
          rw [if_neg (fun y => by have := h.2.2.2; rw [y] at this; omega)]
          exact h.2.2.2
      have hsm : sm (updN f q (f p + 1)) (σ 0 0 + 2) < sm f (σ 0 0 + 2) := by
        refine sm_lt (j := q) _ (by omega) (fun i hi => ?_) ?_
        · unfold updN
          by_cases y : i = q
          · rw [if_pos y, y]; omega
          · rw [if_neg y]; exact Nat.le_refl _
        · unfold updN; rw [if_pos rfl]; exact z.2.1
      obtain ⟨xs', f', more', g1, g2, g3, g4⟩ := ih (q + 1) _ _ 1 (by omega) (Nat.le_refl _) h'
      refine ⟨xs', f', more', g1, g2, Or.inr ?_, fun n => ?_⟩
      · rcases g3 with ⟨a1, a2, _⟩ | ⟨a1, a2⟩
        · exact ⟨a1, by rw [a2]; exact hsm⟩
        · exact ⟨a1, by omega⟩
      · rw [e1 n, if_neg z.1, if_pos z.2]
        exact g4 n
    · obtain ⟨xs', f', more', g1, g2, g3, g4⟩ := ih (q + 1) xs f more (by omega) hm h
      refine ⟨xs', f', more', g1, g2, ?_, fun n => ?_⟩
      · rcases g3 with ⟨a1, a2, a3⟩ | g3
        · refine Or.inl ⟨a1, a2, fun j h1 h2 => ?_⟩
          by_cases y : j = q
          · subst y
            rintro ⟨⟨b1, b2, b3, b4⟩, b5⟩
            exact z ⟨b1, b5, b3, b4⟩
          · exact a3 j (by omega) h2
        · exact Or.inr g3
      · rw [e1 n]
        by_cases y : p = q
        · rw [if_pos y]; exact g4 n
        · rw [if_neg y, if_neg (fun w => z ⟨y, w⟩)]; exact g4 n
theorem far_p (hf : 1000 ≤ fu) (k : Lk σ A I L v) (r : RR σ A I) {d a : Nat} (hd : d ≤ 9) : ∀ m p xs f more, p + m = σ 0 0 + 2 → more ≤ 1 → FW σ (Sd σ L v) (ez σ L) d a xs f →
    ∃ xs' f' more', FW σ (Sd σ L v) (ez σ L) d a xs' f' ∧ more' ≤ 1 ∧ ((more' = more ∧ f' = f ∧ ∀ i, p ≤ i → i ≤ σ 0 0 + 1 → ∀ j, j ≤ σ 0 0 + 1 → ¬ (edge (σ 0 0) (Sd σ L v) (ez σ L) d i j ∧ f i + 1 < f j)) ∨ (more' = 1 ∧ sm f' (σ 0 0 + 2) < sm f (σ 0 0 + 2))) ∧
      ∀ n, (F_X8_layFar fu (n + (m * (σ 0 0 + 4) + 1))).2.2.1 36 (nI d) (nI more) (nI p) (enc (uA A 53 xs) I) = (F_X8_layFar fu n).2.1 36 (nI d) (nI more') (enc (uA A 53 xs') I) := by
  have hn := r.n7
  intro m
  induction m with
  | zero =>
    intro p xs f more hq hm h
    refine ⟨xs, f, more, h, hm, Or.inl ⟨rfl, rfl, fun i h1 h2 => by omega⟩, fun n => ?_⟩
    rw [show n + (0 * (σ 0 0 + 4) + 1) = n + 1 by omega, F_X8_layFar]
    simp only [io_1, gr_1_0, gr_1_1, gr_1_2, gr_1_3, gr_1_4, gr_1_5, gi_1_6, pf_1_6, gi_1_7, pf_1_7, io_2, gr_2_0, gr_2_1, gr_2_2, gr_2_3, gr_2_4, gr_2_5, gr_2_6, gr_2_7, gi_2_8, pf_2_8, gi_2_9, pf_2_9, gi_2_10, pf_2_10, gi_2_11, pf_2_11, gi_2_12, pf_2_12, gi_2_13, pf_2_13, gi_2_14, pf_2_14, io_11, gr_11_0, gr_11_1, gr_11_2, io_15, gr_15_0, gr_15_1, gi_15_2, pf_15_2, gi_15_3, pf_15_3, gi_15_4, pf_15_4, gi_15_5, pf_15_5, io_18, gr_18_0, gr_18_1, gi_18_2, pf_18_2, io_21, gr_21_0, gr_21_1, gr_21_2, gr_21_3, gi_21_4, pf_21_4, gi_21_5, pf_21_5, gi_21_6, pf_21_6, gi_21_7, pf_21_7, io_34, gr_34_0, gi_34_1, pf_34_1, io_36, gi_36_0, pf_36_0, gi_36_1, pf_36_1, gr_36_2, gr_36_3, gr_36_4, gi_36_5, pf_36_5, gi_36_6, pf_36_6, gi_36_7, pf_36_7, gr_36_8, gr_36_9, gr_36_10, gr_36_11, gi_36_12, pf_36_12, gi_36_13, pf_36_13, gi_36_14, pf_36_14, gr_36_15, gr_36_16, gi_36_17, pf_36_17, gr_36_18, gr_36_19, gr_36_20, gr_36_21, gr_36_22, gi_36_23, pf_36_23, gr_36_24, gr_36_25, gi_36_26, pf_36_26, gr_36_27, gr_36_28, gr_36_29, gr_36_30, gi_36_31, pf_36_31, gr_36_32, gr_36_33, gi_36_34, pf_36_34, gi_36_35, pf_36_35, gr_36_36, al_3, al_4, al_5, al_6, al_7, al_8, al_9, al_10, al_12, al_13, al_14, al_16, al_17, al_19, al_20, al_22, al_23, al_24, al_26, al_27, al_28, al_29, al_30, al_31, al_32, al_33, al_35, al_37, al_38, al_39, al_40, al_41, al_42, al_43, al_44, al_45, al_46, al_47, al_48, al_49, al_50, al_51, al_52, al_53, al_54, al_55, al_56, al_57, al_58, al_59, ↓reduceIte, Option.bind_some, cI_some, cL_some, cV_some, rz_0, rz_1, r.i36_5, nI_1, n_lt (show σ 0 0 + 1 < 2147483648 by omega) (show p < 2147483648 by omega)]
    rw [if_pos (by omega)]
  | succ m ih =>
    intro p xs f more hq hm h
    obtain ⟨xs1, f1, m1, a1, a2, a3, a4⟩ := far_q hf k r hd (show p ≤ σ 0 0 + 1 by omega) (σ 0 0 + 2) 0 xs f more (by omega) hm h
    obtain ⟨xs2, f2, m2, b1, b2, b3, b4⟩ := ih (p + 1) xs1 f1 m1 (by omega) a2 a1
    refine ⟨xs2, f2, m2, b1, b2, ?_, fun n => ?_⟩
    · rcases a3 with ⟨c1, c2, c3⟩ | ⟨c1, c2⟩
      · subst c1; subst c2
        rcases b3 with ⟨d1, d2, d3⟩ | d
        · refine Or.inl ⟨d1, d2, fun i h1 h2 j hj => ?_⟩
          by_cases y : i = p
          · subst y; exact c3 j (Nat.zero_le _) hj
          · exact d3 i (by omega) h2 j hj
        · exact Or.inr d
      · rcases b3 with ⟨d1, d2, d3⟩ | ⟨d1, d2⟩
        · exact Or.inr ⟨by rw [d1, c1], by rw [d2]; exact c2⟩
        · exact Or.inr ⟨d1, by omega⟩
    · have e : n + ((m + 1) * (σ 0 0 + 4) + 1) = n + (m * (σ 0 0 + 4) + 1) + (σ 0 0 + 2 + 1) + 1 := by rw [Nat.succ_mul]; omega
      rw [e, F_X8_layFar]
      simp only [io_1, gr_1_0, gr_1_1, gr_1_2, gr_1_3, gr_1_4, gr_1_5, gi_1_6, pf_1_6, gi_1_7, pf_1_7, io_2, gr_2_0, gr_2_1, gr_2_2, gr_2_3, gr_2_4, gr_2_5, gr_2_6, gr_2_7, gi_2_8, pf_2_8, gi_2_9, pf_2_9, gi_2_10, pf_2_10, gi_2_11, pf_2_11, gi_2_12, pf_2_12, gi_2_13, pf_2_13, gi_2_14, pf_2_14, io_11, gr_11_0, gr_11_1, gr_11_2, io_15, gr_15_0, gr_15_1, gi_15_2, pf_15_2, gi_15_3, pf_15_3, gi_15_4, pf_15_4, gi_15_5, pf_15_5, io_18, gr_18_0, gr_18_1, gi_18_2, pf_18_2, io_21, gr_21_0, gr_21_1, gr_21_2, gr_21_3, gi_21_4, pf_21_4, gi_21_5, pf_21_5, gi_21_6, pf_21_6, gi_21_7, pf_21_7, io_34, gr_34_0, gi_34_1, pf_34_1, io_36, gi_36_0, pf_36_0, gi_36_1, pf_36_1, gr_36_2, gr_36_3, gr_36_4, gi_36_5, pf_36_5, gi_36_6, pf_36_6, gi_36_7, pf_36_7, gr_36_8, gr_36_9, gr_36_10, gr_36_11, gi_36_12, pf_36_12, gi_36_13, pf_36_13, gi_36_14, pf_36_14, gr_36_15, gr_36_16, gi_36_17, pf_36_17, gr_36_18, gr_36_19, gr_36_20, gr_36_21, gr_36_22, gi_36_23, pf_36_23, gr_36_24, gr_36_25, gi_36_26, pf_36_26, gr_36_27, gr_36_28, gr_36_29, gr_36_30, gi_36_31, pf_36_31, gr_36_32, gr_36_33, gi_36_34, pf_36_34, gi_36_35, pf_36_35, gr_36_36, al_3, al_4, al_5, al_6, al_7, al_8, al_9, al_10, al_12, al_13, al_14, al_16, al_17, al_19, al_20, al_22, al_23, al_24, al_26, al_27, al_28, al_29, al_30, al_31, al_32, al_33, al_35, al_37, al_38, al_39, al_40, al_41, al_42, al_43, al_44, al_45, al_46, al_47, al_48, al_49, al_50, al_51, al_52, al_53, al_54, al_55, al_56, al_57, al_58, al_59, ↓reduceIte, Option.bind_some, cI_some, cL_some, cV_some, rz_0, rz_1, r.i36_5, nI_1, n_lt (show σ 0 0 + 1 < 2147483648 by omega) (show p < 2147483648 by omega)]
      rw [if_neg (by omega)]
      exact (a4 _).trans (b4 n)
theorem far_c1 (n : Nat) (x : Int32) (w : XW) : (F_X8_layFar fu (n + 1)).2.1 36 x 1 w = (F_X8_layFar fu n).2.2.1 36 x 0 0 w := by
  rw [F_X8_layFar]
  exact (if_neg (by decide) : (if (1 : Int32) = 0 then some (none, w) else (F_X8_layFar fu n).2.2.1 36 x 0 0 w) = _)
theorem far_c0 (n : Nat) (x : Int32) (w : XW) : (F_X8_layFar fu (n + 1)).2.1 36 x 0 w = some (none, w) := by
  rw [F_X8_layFar]
  exact (if_pos rfl : (if (0 : Int32) = 0 then some (none, w) else (F_X8_layFar fu n).2.2.1 36 x 0 0 w) = _)
theorem far_w (hf : 1000 ≤ fu) (k : Lk σ A I L v) (r : RR σ A I) {d a : Nat} (hd : d ≤ 9) : ∀ B xs f, sm f (σ 0 0 + 2) ≤ B → FW σ (Sd σ L v) (ez σ L) d a xs f →
    ∃ xs' f', FW σ (Sd σ L v) (ez σ L) d a xs' f' ∧ (∀ i, i ≤ σ 0 0 + 1 → ∀ j, j ≤ σ 0 0 + 1 → ¬ (edge (σ 0 0) (Sd σ L v) (ez σ L) d i j ∧ f' i + 1 < f' j)) ∧
      ∀ n, (F_X8_layFar fu (n + ((B + 1) * 200 + 1))).2.1 36 (nI d) 1 (enc (uA A 53 xs) I) = some (none, enc (uA A 53 xs') I) := by
  have hn := r.n7
  have hR : (σ 0 0 + 2) * (σ 0 0 + 4) ≤ 99 := by
    have := Nat.mul_le_mul (show σ 0 0 + 2 ≤ 9 by omega) (show σ 0 0 + 4 ≤ 11 by omega)
    omega
  intro B
  induction B with
  | zero =>
    intro xs f hB h
    obtain ⟨xs1, f1, m1, a1, a2, a3, a4⟩ := far_p hf k r hd (σ 0 0 + 2) 0 xs f 0 (by omega) (by omega) h
    rcases a3 with ⟨c1, c2, c3⟩ | ⟨c1, c2⟩
    · subst c1; subst c2
      refine ⟨xs1, f1, a1, fun i hi j hj => c3 i (Nat.zero_le _) hi j hj, fun n => ?_⟩
      have e : n + ((0 + 1) * 200 + 1) = n + (198 - (σ 0 0 + 2) * (σ 0 0 + 4)) + 1 + ((σ 0 0 + 2) * (σ 0 0 + 4) + 1) + 1 := by omega
      rw [e, far_c1]
      exact (a4 _).trans (far_c0 _ _ _)
    · omega
  | succ B ih =>
    intro xs f hB h
    obtain ⟨xs1, f1, m1, a1, a2, a3, a4⟩ := far_p hf k r hd (σ 0 0 + 2) 0 xs f 0 (by omega) (by omega) h
    rcases a3 with ⟨c1, c2, c3⟩ | ⟨c1, c2⟩
    · subst c1; subst c2
      refine ⟨xs1, f1, a1, fun i hi j hj => c3 i (Nat.zero_le _) hi j hj, fun n => ?_⟩
      have e : n + ((B + 1 + 1) * 200 + 1) = n + ((B + 1) * 200 + 198 - (σ 0 0 + 2) * (σ 0 0 + 4)) + 1 + ((σ 0 0 + 2) * (σ 0 0 + 4) + 1) + 1 := by omega
      rw [e, far_c1]
      exact (a4 _).trans (far_c0 _ _ _)
    · subst c1
      obtain ⟨xs2, f2, b1, b2, b3⟩ := ih xs1 f1 (by omega) a1
      refine ⟨xs2, f2, b1, b2, fun n => ?_⟩
      have e : n + ((B + 1 + 1) * 200 + 1) = n + (198 - (σ 0 0 + 2) * (σ 0 0 + 4)) + ((B + 1) * 200 + 1) + ((σ 0 0 + 2) * (σ 0 0 + 4) + 1) + 1 := by omega
      rw [e, far_c1]
      exact (a4 _).trans (b3 _)
theorem far_i (r : RR σ A I) {d a : Nat} (ha : a ≤ σ 0 0 + 1) : ∀ m p xs, p + m = σ 0 0 + 2 → xs.length = 9 → (∀ i, i < p → rd xs i = nI (if i = a then 0 else 1000000)) →
    ∃ xs', xs'.length = 9 ∧ (∀ i, i ≤ σ 0 0 + 1 → rd xs' i = nI (if i = a then 0 else 1000000)) ∧
      ∀ n, (F_X8_layFar fu (n + (m + 1))).1 36 (nI a) (nI d) (nI p) (enc (uA A 53 xs) I) = (F_X8_layFar fu n).2.1 36 (nI d) 1 (enc (uA A 53 xs') I) := by
  have hn := r.n7
  intro m
  induction m with
  | zero =>
    intro p xs hp hl h
    refine ⟨xs, hl, fun i hi => h i (by omega), fun n => ?_⟩
    rw [show n + (0 + 1) = n + 1 by omega, F_X8_layFar]
    simp only [io_1, gr_1_0, gr_1_1, gr_1_2, gr_1_3, gr_1_4, gr_1_5, gi_1_6, pf_1_6, gi_1_7, pf_1_7, io_2, gr_2_0, gr_2_1, gr_2_2, gr_2_3, gr_2_4, gr_2_5, gr_2_6, gr_2_7, gi_2_8, pf_2_8, gi_2_9, pf_2_9, gi_2_10, pf_2_10, gi_2_11, pf_2_11, gi_2_12, pf_2_12, gi_2_13, pf_2_13, gi_2_14, pf_2_14, io_11, gr_11_0, gr_11_1, gr_11_2, io_15, gr_15_0, gr_15_1, gi_15_2, pf_15_2, gi_15_3, pf_15_3, gi_15_4, pf_15_4, gi_15_5, pf_15_5, io_18, gr_18_0, gr_18_1, gi_18_2, pf_18_2, io_21, gr_21_0, gr_21_1, gr_21_2, gr_21_3, gi_21_4, pf_21_4, gi_21_5, pf_21_5, gi_21_6, pf_21_6, gi_21_7, pf_21_7, io_34, gr_34_0, gi_34_1, pf_34_1, io_36, gi_36_0, pf_36_0, gi_36_1, pf_36_1, gr_36_2, gr_36_3, gr_36_4, gi_36_5, pf_36_5, gi_36_6, pf_36_6, gi_36_7, pf_36_7, gr_36_8, gr_36_9, gr_36_10, gr_36_11, gi_36_12, pf_36_12, gi_36_13, pf_36_13, gi_36_14, pf_36_14, gr_36_15, gr_36_16, gi_36_17, pf_36_17, gr_36_18, gr_36_19, gr_36_20, gr_36_21, gr_36_22, gi_36_23, pf_36_23, gr_36_24, gr_36_25, gi_36_26, pf_36_26, gr_36_27, gr_36_28, gr_36_29, gr_36_30, gi_36_31, pf_36_31, gr_36_32, gr_36_33, gi_36_34, pf_36_34, gi_36_35, pf_36_35, gr_36_36, al_3, al_4, al_5, al_6, al_7, al_8, al_9, al_10, al_12, al_13, al_14, al_16, al_17, al_19, al_20, al_22, al_23, al_24, al_26, al_27, al_28, al_29, al_30, al_31, al_32, al_33, al_35, al_37, al_38, al_39, al_40, al_41, al_42, al_43, al_44, al_45, al_46, al_47, al_48, al_49, al_50, al_51, al_52, al_53, al_54, al_55, al_56, al_57, al_58, al_59, ↓reduceIte, Option.bind_some, cI_some, cL_some, cV_some, rz_0, rz_1, r.i36_5, nI_1, n_lt (show σ 0 0 + 1 < 2147483648 by omega) (show p < 2147483648 by omega)]
    rw [if_pos (by omega)]
  | succ m ih =>
    intro p xs hp hl h
    have hlp : p < xs.length := by omega
    obtain ⟨xs', g1, g2, g3⟩ := ih (p + 1) (xs.set p (nI (if p = a then 0 else 1000000))) (by omega) (by rw [List.length_set]; exact hl) (fun i hi => by
      rw [rd_set _ _ hlp]
      by_cases y : i = p
      · rw [if_pos y, y]
      · rw [if_neg y]; exact h i (by omega))
    refine ⟨xs', g1, g2, fun n => ?_⟩
    rw [show n + (m + 1 + 1) = n + (m + 1) + 1 by omega, F_X8_layFar]
    simp only [io_1, gr_1_0, gr_1_1, gr_1_2, gr_1_3, gr_1_4, gr_1_5, gi_1_6, pf_1_6, gi_1_7, pf_1_7, io_2, gr_2_0, gr_2_1, gr_2_2, gr_2_3, gr_2_4, gr_2_5, gr_2_6, gr_2_7, gi_2_8, pf_2_8, gi_2_9, pf_2_9, gi_2_10, pf_2_10, gi_2_11, pf_2_11, gi_2_12, pf_2_12, gi_2_13, pf_2_13, gi_2_14, pf_2_14, io_11, gr_11_0, gr_11_1, gr_11_2, io_15, gr_15_0, gr_15_1, gi_15_2, pf_15_2, gi_15_3, pf_15_3, gi_15_4, pf_15_4, gi_15_5, pf_15_5, io_18, gr_18_0, gr_18_1, gi_18_2, pf_18_2, io_21, gr_21_0, gr_21_1, gr_21_2, gr_21_3, gi_21_4, pf_21_4, gi_21_5, pf_21_5, gi_21_6, pf_21_6, gi_21_7, pf_21_7, io_34, gr_34_0, gi_34_1, pf_34_1, io_36, gi_36_0, pf_36_0, gi_36_1, pf_36_1, gr_36_2, gr_36_3, gr_36_4, gi_36_5, pf_36_5, gi_36_6, pf_36_6, gi_36_7, pf_36_7, gr_36_8, gr_36_9, gr_36_10, gr_36_11, gi_36_12, pf_36_12, gi_36_13, pf_36_13, gi_36_14, pf_36_14, gr_36_15, gr_36_16, gi_36_17, pf_36_17, gr_36_18, gr_36_19, gr_36_20, gr_36_21, gr_36_22, gi_36_23, pf_36_23, gr_36_24, gr_36_25, gi_36_26, pf_36_26, gr_36_27, gr_36_28, gr_36_29, gr_36_30, gi_36_31, pf_36_31, gr_36_32, gr_36_33, gi_36_34, pf_36_34, gi_36_35, pf_36_35, gr_36_36, al_3, al_4, al_5, al_6, al_7, al_8, al_9, al_10, al_12, al_13, al_14, al_16, al_17, al_19, al_20, al_22, al_23, al_24, al_26, al_27, al_28, al_29, al_30, al_31, al_32, al_33, al_35, al_37, al_38, al_39, al_40, al_41, al_42, al_43, al_44, al_45, al_46, al_47, al_48, al_49, al_50, al_51, al_52, al_53, al_54, al_55, al_56, al_57, al_58, al_59, ↓reduceIte, Option.bind_some, cI_some, cL_some, cV_some, rz_0, rz_1, r.i36_5, nI_1, n_lt (show σ 0 0 + 1 < 2147483648 by omega) (show p < 2147483648 by omega), n_eq (show p < 2147483648 by omega) (show a < 2147483648 by omega)]
    rw [if_neg (by omega)]
    by_cases y : p = a
    · rw [if_pos y, si_53 _ _ _ (by rw [uA_s]; exact hlp) (by omega), uA_s, uA_uA]
      rw [if_pos y] at g3
      exact g3 n
    · rw [if_neg y, si_53 _ _ _ (by rw [uA_s]; exact hlp) (by omega), uA_s, uA_uA]
      rw [if_neg y] at g3
      exact g3 n
/-- in how few strides one comes from a place to all others -/
theorem m_layFar (hf : 10000000000 ≤ fu) (k : Lk σ A I L v) (r : RR σ A I) {d a : Nat} (hd : d ≤ 9) (ha : a ≤ σ 0 0 + 1) :
    ∃ xs f, xs.length = 9 ∧ (∀ i, i ≤ σ 0 0 + 1 → rd xs i = nI (f i)) ∧ (∀ i, i ≤ σ 0 0 + 1 → f i ≤ 1000000) ∧ Dst (σ 0 0) (Sd σ L v) (ez σ L) d a f ∧ U_X8_layFar fu [.ref 36, .int (nI a), .int (nI d)] (enc A I) = some (none, enc (uA A 53 xs) I) := by
  have hn := r.n7
  obtain ⟨xs0, g1, g2, g3⟩ := far_i (fu := fu) r (d := d) ha (σ 0 0 + 2) 0 (A 53) (by omega) (r.len rfl) (fun i hi => by omega)
  have h0 : FW σ (Sd σ L v) (ez σ L) d a xs0 (fun i => if i = a then 0 else 1000000) := by
    refine ⟨g1, g2, fun i hi => ?_, if_pos rfl⟩
    by_cases y : i = a
    · refine Or.inr ⟨by simp only [if_pos y]; decide, ?_⟩
      simp only [if_pos y]
      exact y
    · exact Or.inl (if_neg y)
  have hs := sm_cap (f := fun i => if i = a then 0 else 1000000) (σ 0 0 + 2) (fun i hi => h0.le (by omega))
  obtain ⟨xs, f, b1, b2, b3⟩ := far_w (fu := fu) (by omega) k r hd 9000000 xs0 _ (by omega) h0
  refine ⟨xs, f, b1.1, b1.2.1, fun i hi => b1.le hi, ⟨b1.2.2.1, ?_⟩, ?_⟩
  · intro L p w
    have key : f p ≤ L ∧ p ≤ σ 0 0 + 1 := by
      refine Wk.ind (P := fun L p => f p ≤ L ∧ p ≤ σ 0 0 + 1) ⟨by rw [b1.2.2.2]; exact Nat.le_refl _, ha⟩ (fun L p q w g ih => ?_) w
      refine ⟨?_, g.2.1⟩
      apply Nat.le_of_not_lt
      intro y
      exact b2 p ih.2 q g.2.1 ⟨g, by omega⟩
    exact key.1
  · simp only [u_X8_layFar, M_X8_layFar, io_1, gr_1_0, gr_1_1, gr_1_2, gr_1_3, gr_1_4, gr_1_5, gi_1_6, pf_1_6, gi_1_7, pf_1_7, io_2, gr_2_0, gr_2_1, gr_2_2, gr_2_3, gr_2_4, gr_2_5, gr_2_6, gr_2_7, gi_2_8, pf_2_8, gi_2_9, pf_2_9, gi_2_10, pf_2_10, gi_2_11, pf_2_11, gi_2_12, pf_2_12, gi_2_13, pf_2_13, gi_2_14, pf_2_14, io_11, gr_11_0, gr_11_1, gr_11_2, io_15, gr_15_0, gr_15_1, gi_15_2, pf_15_2, gi_15_3, pf_15_3, gi_15_4, pf_15_4, gi_15_5, pf_15_5, io_18, gr_18_0, gr_18_1, gi_18_2, pf_18_2, io_21, gr_21_0, gr_21_1, gr_21_2, gr_21_3, gi_21_4, pf_21_4, gi_21_5, pf_21_5, gi_21_6, pf_21_6, gi_21_7, pf_21_7, io_34, gr_34_0, gi_34_1, pf_34_1, io_36, gi_36_0, pf_36_0, gi_36_1, pf_36_1, gr_36_2, gr_36_3, gr_36_4, gi_36_5, pf_36_5, gi_36_6, pf_36_6, gi_36_7, pf_36_7, gr_36_8, gr_36_9, gr_36_10, gr_36_11, gi_36_12, pf_36_12, gi_36_13, pf_36_13, gi_36_14, pf_36_14, gr_36_15, gr_36_16, gi_36_17, pf_36_17, gr_36_18, gr_36_19, gr_36_20, gr_36_21, gr_36_22, gi_36_23, pf_36_23, gr_36_24, gr_36_25, gi_36_26, pf_36_26, gr_36_27, gr_36_28, gr_36_29, gr_36_30, gi_36_31, pf_36_31, gr_36_32, gr_36_33, gi_36_34, pf_36_34, gi_36_35, pf_36_35, gr_36_36, al_3, al_4, al_5, al_6, al_7, al_8, al_9, al_10, al_12, al_13, al_14, al_16, al_17, al_19, al_20, al_22, al_23, al_24, al_26, al_27, al_28, al_29, al_30, al_31, al_32, al_33, al_35, al_37, al_38, al_39, al_40, al_41, al_42, al_43, al_44, al_45, al_46, al_47, al_48, al_49, al_50, al_51, al_52, al_53, al_54, al_55, al_56, al_57, al_58, al_59, ↓reduceIte, Option.bind_some, cI_some, cL_some, cV_some, rz_0, rz_1]
    obtain ⟨K, hK⟩ : ∃ K, K = (9000000 + 1) * 200 + 1 := ⟨_, rfl⟩
    rw [← hK] at b3
    have e : fu = (fu - K - (σ 0 0 + 3)) + K + (σ 0 0 + 2 + 1) := by omega
    have e2 : F_X8_layFar fu fu = F_X8_layFar fu ((fu - K - (σ 0 0 + 3)) + K + (σ 0 0 + 2 + 1)) := congrArg (F_X8_layFar fu) e
    rw [e2]
    have z := (g3 ((fu - K - (σ 0 0 + 3)) + K)).trans (b3 _)
    rw [uA_self] at z
    exact z
end FR
