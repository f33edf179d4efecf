/-! ===== the class's plan: what it looks at ahead ===== -/
theorem cmpA : ∀ X, X < 30 → ∀ K, K < 30 → (nI X < nI K - 1 ↔ X + 1 < K) := by decide +kernel
theorem cmpB : ∀ a, a < 30 → ∀ b, b < 30 → (nI a - 1 < nI b - 1 ↔ a < b) := by decide +kernel
theorem cmpC : ∀ c, c < 8 → ∀ e, e < 2 → nI c - nI e = nI (c + 1 - e) - 1 := by decide +kernel
section PA
variable {σ : SG} {A : Nat → List Int32} {I : Nat → Nat → Int32} {fu d f rds : Nat}
def esN (σ : SG) (s : Nat) : Nat := if σ 3 s = 2 then 1 else 0
theorem esN_le (σ : SG) (s : Nat) : esN σ s ≤ 1 := by unfold esN; split <;> omega
theorem c_easeOf (r : RR σ A I) {s : Nat} (hs : s < σ 0 3) : U_X0_easeOf fu [.ref 2, .int (nI s)] (enc A I) = some (some (.int (nI (esN σ s))), enc A I) := by
  have h := (r.sto hs).1
  have e2 : (nI (σ 3 s) = 2) = (σ 3 s = 2) := n_eq (by omega) (by decide)
  simp only [u_X0_easeOf, M_X0_easeOf, io_1, gr_1_0, gr_1_1, gr_1_2, gr_1_3, gr_1_4, gr_1_5, gi_1_6, pf_1_6, gi_1_7, pf_1_7, io_2, gr_2_0, gr_2_1, gr_2_2, gr_2_3, gr_2_4, gr_2_5, gr_2_6, gr_2_7, gi_2_8, pf_2_8, gi_2_9, pf_2_9, gi_2_10, pf_2_10, gi_2_11, pf_2_11, gi_2_12, pf_2_12, gi_2_13, pf_2_13, gi_2_14, pf_2_14, io_11, gr_11_0, gr_11_1, gr_11_2, io_15, gr_15_0, gr_15_1, gi_15_2, pf_15_2, gi_15_3, pf_15_3, gi_15_4, pf_15_4, gi_15_5, pf_15_5, io_18, gr_18_0, gr_18_1, gi_18_2, pf_18_2, io_21, gr_21_0, gr_21_1, gr_21_2, gr_21_3, gr_21_4, gi_21_5, pf_21_5, gi_21_6, pf_21_6, gi_21_7, pf_21_7, gi_21_8, pf_21_8, gi_21_9, pf_21_9, io_22, gr_22_0, gr_22_1, gi_22_2, pf_22_2, io_29, gr_29_0, gi_29_1, pf_29_1, io_31, gi_31_0, pf_31_0, gi_31_1, pf_31_1, gr_31_2, gr_31_3, gr_31_4, gi_31_5, pf_31_5, gi_31_6, pf_31_6, gi_31_7, pf_31_7, gr_31_8, gr_31_9, gr_31_10, gr_31_11, gi_31_12, pf_31_12, gi_31_13, pf_31_13, gi_31_14, pf_31_14, gr_31_15, gr_31_16, gi_31_17, pf_31_17, gr_31_18, gr_31_19, gr_31_20, gr_31_21, gr_31_22, gi_31_23, pf_31_23, gr_31_24, gr_31_25, gi_31_26, pf_31_26, gr_31_27, gr_31_28, gr_31_29, gr_31_30, gi_31_31, pf_31_31, gr_31_32, gr_31_33, gi_31_34, pf_31_34, gi_31_35, pf_31_35, gr_31_36, al_3, al_4, al_5, al_6, al_7, al_8, al_9, al_10, al_12, al_13, al_14, al_16, al_17, al_19, al_20, al_23, al_24, al_25, al_26, al_27, al_28, al_30, al_32, al_33, al_34, al_35, al_36, al_37, al_38, al_39, al_40, al_41, al_42, al_43, al_44, al_45, al_46, al_47, al_48, al_49, al_50, al_51, al_52, al_53, al_54, ↓reduceIte, Option.bind_some, cI_some, cL_some, cV_some, rz_0, rz_1, r.a6 hs, e2]
  unfold esN
  by_cases z : σ 3 s = 2
  · rw [if_pos z, if_pos z]; rfl
  · rw [if_neg z, if_neg z]; rfl
/-- of the rows of looking only this one changes -/
def FrP (A B : Nat → List Int32) : Prop := (∀ k, k ≠ 27 → B k = A k) ∧ ∀ k, (B k).length = (A k).length
theorem FrP.Fr {A B : Nat → List Int32} (h : FrP A B) (I : Nat → Nat → Int32) : Fr A I B I := ⟨fun k hk => h.1 k (fun z => by rw [z] at hk; cases hk), h.2, fun _ _ _ => rfl⟩
theorem FrP.tr {A B C : Nat → List Int32} (h : FrP A B) (g : FrP B C) : FrP A C := ⟨fun k a => (g.1 k a).trans (h.1 k a), fun k => (g.2 k).trans (h.2 k)⟩
theorem FrP.arr {A B : Nat → List Int32} (h : FrP A B) {xs : List Int32} (hl : xs.length = (B 27).length) : FrP A (uA B 27 xs) :=
  h.tr ⟨fun j a => uA_n _ _ _ a, fun j => by
    by_cases y : j = 27
    · rw [y, uA_s, hl]
    · rw [uA_n _ _ _ y]⟩
theorem c_lookL (hf9 : f ≤ 9) (hrd : rds ≤ 30) (h9 : I 21 8 = nI f) (h10 : I 21 9 = nI rds) {s : Nat} (hs : s < σ 0 3) : ∀ m c n B, c + m = σ 0 0 → m < n → RR σ B I → rd (B 27) s = nI (bits (syB σ f rds s) c) →
    ∃ C, F_X3_lookAt fu n 21 2 (nI s) (nI c) (enc B I) = some (none, enc C I) ∧ FrP B C ∧ rd (C 27) s = nI (bits (syB σ f rds s) (σ 0 0)) ∧ ∀ t, t ≠ s → rd (C 27) t = rd (B 27) t := by
  intro m
  induction m with
  | zero =>
    intro c n B hc hm r h27
    have hn := r.n7
    obtain ⟨n, rfl⟩ : ∃ k, n = k + 1 := ⟨n - 1, by omega⟩
    have e : c = σ 0 0 := by omega
    subst e
    refine ⟨B, ?_, ⟨fun _ _ => rfl, fun _ => rfl⟩, h27, fun t _ => rfl⟩
    simp -implicitDefEqProofs only [F_X3_lookAt, io_1, gr_1_0, gr_1_1, gr_1_2, gr_1_3, gr_1_4, gr_1_5, gi_1_6, pf_1_6, gi_1_7, pf_1_7, io_2, gr_2_0, gr_2_1, gr_2_2, gr_2_3, gr_2_4, gr_2_5, gr_2_6, gr_2_7, gi_2_8, pf_2_8, gi_2_9, pf_2_9, gi_2_10, pf_2_10, gi_2_11, pf_2_11, gi_2_12, pf_2_12, gi_2_13, pf_2_13, gi_2_14, pf_2_14, io_11, gr_11_0, gr_11_1, gr_11_2, io_15, gr_15_0, gr_15_1, gi_15_2, pf_15_2, gi_15_3, pf_15_3, gi_15_4, pf_15_4, gi_15_5, pf_15_5, io_18, gr_18_0, gr_18_1, gi_18_2, pf_18_2, io_21, gr_21_0, gr_21_1, gr_21_2, gr_21_3, gr_21_4, gi_21_5, pf_21_5, gi_21_6, pf_21_6, gi_21_7, pf_21_7, gi_21_8, pf_21_8, gi_21_9, pf_21_9, io_22, gr_22_0, gr_22_1, gi_22_2, pf_22_2, io_29, gr_29_0, gi_29_1, pf_29_1, io_31, gi_31_0, pf_31_0, gi_31_1, pf_31_1, gr_31_2, gr_31_3, gr_31_4, gi_31_5, pf_31_5, gi_31_6, pf_31_6, gi_31_7, pf_31_7, gr_31_8, gr_31_9, gr_31_10, gr_31_11, gi_31_12, pf_31_12, gi_31_13, pf_31_13, gi_31_14, pf_31_14, gr_31_15, gr_31_16, gi_31_17, pf_31_17, gr_31_18, gr_31_19, gr_31_20, gr_31_21, gr_31_22, gi_31_23, pf_31_23, gr_31_24, gr_31_25, gi_31_26, pf_31_26, gr_31_27, gr_31_28, gr_31_29, gr_31_30, gi_31_31, pf_31_31, gr_31_32, gr_31_33, gi_31_34, pf_31_34, gi_31_35, pf_31_35, gr_31_36, al_3, al_4, al_5, al_6, al_7, al_8, al_9, al_10, al_12, al_13, al_14, al_16, al_17, al_19, al_20, al_23, al_24, al_25, al_26, al_27, al_28, al_30, al_32, al_33, al_34, al_35, al_36, al_37, al_38, al_39, al_40, al_41, al_42, al_43, al_44, al_45, al_46, al_47, al_48, al_49, al_50, al_51, al_52, al_53, al_54, ↓reduceIte, Option.bind_some, cI_some, cL_some, cV_some, rz_0, rz_1, r.i2_8, n_lt (show σ 0 0 < 2147483648 by omega) (show σ 0 0 < 2147483648 by omega)]
    rw [if_neg (by omega)]
  | succ m ih =>
    intro c n B hcm hm r h27
    have hn := r.n7
    have hm6 := r.m6
    obtain ⟨n, rfl⟩ : ∃ k, n = k + 1 := ⟨n - 1, by omega⟩
    have hc : c < σ 0 0 := by omega
    have t1 := r.sto hs
    have t2 := (r.cel hc).1
    have tw : σ 0 2 ≤ 9 := r.1.2.2.2.1
    have l27 : (B 27).length = 6 := r.len rfl
    have eT := top_lt _ (show σ 4 s < 21 by omega) _ (show σ 1 c < 10 by omega) _ (show σ 0 2 < 10 by omega)
    have dg0 := c_digging (fu := fu) r hc hf9 (fun _ => false) (gG σ)
    rw [show bits (fun _ => false) (σ 0 0) = 0 from bits_z _ (fun _ _ => rfl), show nI 0 = (0 : Int32) from rfl] at dg0
    have mlt : mor σ (gG σ) f (fun _ => false) c < 21 := mor_lt r.1.2.2.1 hf9 c
    have prod : rds * mor σ (gG σ) f (fun _ => false) c ≤ 30 * 20 := Nat.mul_le_mul hrd (by omega)
    have hh := hold_lt r.1 hs
    have ho := c_holdOf (fu := fu) r hs
    have b2 := bits_step (syB σ f rds s) (show c < 31 by omega)
    have top : U_X0_topOf fu [.ref 2, .int (nI s), .int (nI c), .int (nI (σ 0 2))] (enc B I) = some (some (.int (nI (σ 4 s) - nI (σ 1 c) - nI (σ 0 2))), enc B I) := c_topOf r hs hc _
    have e27 : aI (enc B I) 27 (nI s) = some (nI (bits (syB σ f rds s) c)) := by rw [ai_27 B I (by omega) (by omega), h27]
    simp -implicitDefEqProofs only [F_X3_lookAt, io_1, gr_1_0, gr_1_1, gr_1_2, gr_1_3, gr_1_4, gr_1_5, gi_1_6, pf_1_6, gi_1_7, pf_1_7, io_2, gr_2_0, gr_2_1, gr_2_2, gr_2_3, gr_2_4, gr_2_5, gr_2_6, gr_2_7, gi_2_8, pf_2_8, gi_2_9, pf_2_9, gi_2_10, pf_2_10, gi_2_11, pf_2_11, gi_2_12, pf_2_12, gi_2_13, pf_2_13, gi_2_14, pf_2_14, io_11, gr_11_0, gr_11_1, gr_11_2, io_15, gr_15_0, gr_15_1, gi_15_2, pf_15_2, gi_15_3, pf_15_3, gi_15_4, pf_15_4, gi_15_5, pf_15_5, io_18, gr_18_0, gr_18_1, gi_18_2, pf_18_2, io_21, gr_21_0, gr_21_1, gr_21_2, gr_21_3, gr_21_4, gi_21_5, pf_21_5, gi_21_6, pf_21_6, gi_21_7, pf_21_7, gi_21_8, pf_21_8, gi_21_9, pf_21_9, io_22, gr_22_0, gr_22_1, gi_22_2, pf_22_2, io_29, gr_29_0, gi_29_1, pf_29_1, io_31, gi_31_0, pf_31_0, gi_31_1, pf_31_1, gr_31_2, gr_31_3, gr_31_4, gi_31_5, pf_31_5, gi_31_6, pf_31_6, gi_31_7, pf_31_7, gr_31_8, gr_31_9, gr_31_10, gr_31_11, gi_31_12, pf_31_12, gi_31_13, pf_31_13, gi_31_14, pf_31_14, gr_31_15, gr_31_16, gi_31_17, pf_31_17, gr_31_18, gr_31_19, gr_31_20, gr_31_21, gr_31_22, gi_31_23, pf_31_23, gr_31_24, gr_31_25, gi_31_26, pf_31_26, gr_31_27, gr_31_28, gr_31_29, gr_31_30, gi_31_31, pf_31_31, gr_31_32, gr_31_33, gi_31_34, pf_31_34, gi_31_35, pf_31_35, gr_31_36, al_3, al_4, al_5, al_6, al_7, al_8, al_9, al_10, al_12, al_13, al_14, al_16, al_17, al_19, al_20, al_23, al_24, al_25, al_26, al_27, al_28, al_30, al_32, al_33, al_34, al_35, al_36, al_37, al_38, al_39, al_40, al_41, al_42, al_43, al_44, al_45, al_46, al_47, al_48, al_49, al_50, al_51, al_52, al_53, al_54, ↓reduceIte, Option.bind_some, cI_some, cL_some, cV_some, rz_0, rz_1, r.i2_8, n_lt (show c < 2147483648 by omega) (show σ 0 0 < 2147483648 by omega), r.i2_10, h9, h10, dg0, r.i2_11, top, ho, nI_1, pk_mul, n_lt (show rds * mor σ (gG σ) f (fun _ => false) c < 2147483648 by omega) (show hold σ s < 2147483648 by omega), e27]
    rw [if_pos hc]
    have no : syB σ f rds s c = false → ∃ C, F_X3_lookAt fu n 21 2 (nI s) (nI (c + 1)) (enc B I) = some (none, enc C I) ∧ FrP B C ∧ rd (C 27) s = nI (bits (syB σ f rds s) (σ 0 0)) ∧ ∀ t, t ≠ s → rd (C 27) t = rd (B 27) t := fun d2 => by
      rw [if_neg (by rw [d2]; exact Bool.false_ne_true)] at b2
      exact ih (c + 1) n B (by omega) (by omega) r (by rw [h27, b2])
    by_cases z1 : σ 1 c + σ 0 2 < σ 4 s
    rotate_left
    · rw [if_pos (eT.mpr z1)]
      exact no (by unfold syB; rw [decide_eq_false z1, Bool.false_and])
    rw [if_neg (fun y => eT.mp y z1)]
    by_cases z2 : rds * mor σ (gG σ) f (fun _ => false) c < hold σ s
    rotate_left
    · rw [if_neg z2]
      exact no (by unfold syB; rw [decide_eq_false z2, Bool.and_false])
    have d2 : syB σ f rds s c = true := by unfold syB; rw [decide_eq_true z1, decide_eq_true z2]; rfl
    rw [if_pos d2] at b2
    have s27 := si_27 B I (nI (bits (syB σ f rds s) (c + 1))) (show s < (B 27).length by omega) (show s < 2147483648 by omega)
    rw [if_pos z2, b2, s27, Option.bind_some]
    have f2 : FrP B (uA B 27 ((B 27).set s (nI (bits (syB σ f rds s) (c + 1))))) := FrP.arr ⟨fun _ _ => rfl, fun _ => rfl⟩ (by rw [List.length_set])
    obtain ⟨C, g1, g2, g4, g5⟩ := ih (c + 1) n _ (by omega) (by omega) ((f2.Fr I).R r) (by rw [uA_s, rd_set _ _ (by omega), if_pos rfl])
    refine ⟨C, g1, f2.tr g2, g4, fun t ht => ?_⟩
    rw [g5 t ht, uA_s, rd_set _ _ (by omega), if_neg ht]
theorem c_lookAt (hf : 1000 ≤ fu) (r : RR σ A I) (hf9 : f ≤ 9) (hrd : rds ≤ 30) (h9 : I 21 8 = nI f) (h10 : I 21 9 = nI rds) {s : Nat} (hs : s < σ 0 3) :
    ∃ C, U_X3_lookAt fu [.ref 21, .ref 2, .int (nI s)] (enc A I) = some (none, enc C I) ∧ FrP A C ∧ rd (C 27) s = nI (bits (syB σ f rds s) (σ 0 0)) ∧ ∀ t, t ≠ s → rd (C 27) t = rd (A 27) t := by
  have hn := r.n7
  have hm6 := r.m6
  have l27 : (A 27).length = 6 := r.len rfl
  have s27 := si_27 A I (0 : Int32) (show s < (A 27).length by omega) (show s < 2147483648 by omega)
  have hF : FrP A (uA A 27 ((A 27).set s 0)) := FrP.arr ⟨fun _ _ => rfl, fun _ => rfl⟩ (by rw [List.length_set])
  obtain ⟨C, g1, g2, g4, g5⟩ := c_lookL (fu := fu) hf9 hrd h9 h10 hs (σ 0 0) 0 fu _ (by omega) (by omega) ((hF.Fr I).R r) (by rw [uA_s, rd_set _ _ (by omega), if_pos rfl]; rfl)
  refine ⟨C, ?_, hF.tr g2, g4, fun t ht => ?_⟩
  · simp -implicitDefEqProofs only [u_X3_lookAt, M_X3_lookAt, io_1, gr_1_0, gr_1_1, gr_1_2, gr_1_3, gr_1_4, gr_1_5, gi_1_6, pf_1_6, gi_1_7, pf_1_7, io_2, gr_2_0, gr_2_1, gr_2_2, gr_2_3, gr_2_4, gr_2_5, gr_2_6, gr_2_7, gi_2_8, pf_2_8, gi_2_9, pf_2_9, gi_2_10, pf_2_10, gi_2_11, pf_2_11, gi_2_12, pf_2_12, gi_2_13, pf_2_13, gi_2_14, pf_2_14, io_11, gr_11_0, gr_11_1, gr_11_2, io_15, gr_15_0, gr_15_1, gi_15_2, pf_15_2, gi_15_3, pf_15_3, gi_15_4, pf_15_4, gi_15_5, pf_15_5, io_18, gr_18_0, gr_18_1, gi_18_2, pf_18_2, io_21, gr_21_0, gr_21_1, gr_21_2, gr_21_3, gr_21_4, gi_21_5, pf_21_5, gi_21_6, pf_21_6, gi_21_7, pf_21_7, gi_21_8, pf_21_8, gi_21_9, pf_21_9, io_22, gr_22_0, gr_22_1, gi_22_2, pf_22_2, io_29, gr_29_0, gi_29_1, pf_29_1, io_31, gi_31_0, pf_31_0, gi_31_1, pf_31_1, gr_31_2, gr_31_3, gr_31_4, gi_31_5, pf_31_5, gi_31_6, pf_31_6, gi_31_7, pf_31_7, gr_31_8, gr_31_9, gr_31_10, gr_31_11, gi_31_12, pf_31_12, gi_31_13, pf_31_13, gi_31_14, pf_31_14, gr_31_15, gr_31_16, gi_31_17, pf_31_17, gr_31_18, gr_31_19, gr_31_20, gr_31_21, gr_31_22, gi_31_23, pf_31_23, gr_31_24, gr_31_25, gi_31_26, pf_31_26, gr_31_27, gr_31_28, gr_31_29, gr_31_30, gi_31_31, pf_31_31, gr_31_32, gr_31_33, gi_31_34, pf_31_34, gi_31_35, pf_31_35, gr_31_36, al_3, al_4, al_5, al_6, al_7, al_8, al_9, al_10, al_12, al_13, al_14, al_16, al_17, al_19, al_20, al_23, al_24, al_25, al_26, al_27, al_28, al_30, al_32, al_33, al_34, al_35, al_36, al_37, al_38, al_39, al_40, al_41, al_42, al_43, al_44, al_45, al_46, al_47, al_48, al_49, al_50, al_51, al_52, al_53, al_54, ↓reduceIte, Option.bind_some, cI_some, cL_some, cV_some, rz_0, rz_1, s27]
    exact g1
  · rw [g5 t ht, uA_s, rd_set _ _ (by omega), if_neg ht]
/-! how far one has to come -/
theorem c_aheadS (hd : d ≤ 9) (h8 : I 21 7 = nI d) {c K : Nat} (hc : c < σ 0 0) (hK : K ≤ 8) : ∀ m s n B y, s + m = σ 0 3 → RR σ B I → (∀ t, t < σ 0 3 → rd (B 27) t = nI (bits (syB σ f rds t) (σ 0 0))) → rd (B 28) (c + 1) = nI K - 1 → rd (B 28) c = nI y - 1 → y ≤ K →
    (∀ t, t < s → σ 8 t ≠ 100 → syB σ f rds t c = true → K ≤ c + 1 + esN σ t + d → y + esN σ t ≤ c + 1) →
    ∃ xs y', (F_X3_lookAhead fu (n + (2 * m + 1))).2.1 21 2 (nI c) (nI s) (enc B I) = (F_X3_lookAhead fu n).1 21 2 (nI c - 1) (enc (uA B 28 xs) I) ∧ xs.length = 8 ∧ (∀ i, i ≠ c → rd xs i = rd (B 28) i) ∧ rd xs c = nI y' - 1 ∧ y' ≤ K ∧
      (∀ t, t < σ 0 3 → σ 8 t ≠ 100 → syB σ f rds t c = true → K ≤ c + 1 + esN σ t + d → y' + esN σ t ≤ c + 1) := by
  intro m
  induction m with
  | zero =>
    intro s n B y hs r h27 h28 hy hyK hP
    have hm6 := r.m6
    refine ⟨B 28, y, ?_, r.len rfl, fun _ _ => rfl, hy, hyK, fun t ht => hP t (by omega)⟩
    rw [show n + (2 * 0 + 1) = n + 1 by omega, F_X3_lookAhead, uA_self]
    simp -implicitDefEqProofs only [io_1, gr_1_0, gr_1_1, gr_1_2, gr_1_3, gr_1_4, gr_1_5, gi_1_6, pf_1_6, gi_1_7, pf_1_7, io_2, gr_2_0, gr_2_1, gr_2_2, gr_2_3, gr_2_4, gr_2_5, gr_2_6, gr_2_7, gi_2_8, pf_2_8, gi_2_9, pf_2_9, gi_2_10, pf_2_10, gi_2_11, pf_2_11, gi_2_12, pf_2_12, gi_2_13, pf_2_13, gi_2_14, pf_2_14, io_11, gr_11_0, gr_11_1, gr_11_2, io_15, gr_15_0, gr_15_1, gi_15_2, pf_15_2, gi_15_3, pf_15_3, gi_15_4, pf_15_4, gi_15_5, pf_15_5, io_18, gr_18_0, gr_18_1, gi_18_2, pf_18_2, io_21, gr_21_0, gr_21_1, gr_21_2, gr_21_3, gr_21_4, gi_21_5, pf_21_5, gi_21_6, pf_21_6, gi_21_7, pf_21_7, gi_21_8, pf_21_8, gi_21_9, pf_21_9, io_22, gr_22_0, gr_22_1, gi_22_2, pf_22_2, io_29, gr_29_0, gi_29_1, pf_29_1, io_31, gi_31_0, pf_31_0, gi_31_1, pf_31_1, gr_31_2, gr_31_3, gr_31_4, gi_31_5, pf_31_5, gi_31_6, pf_31_6, gi_31_7, pf_31_7, gr_31_8, gr_31_9, gr_31_10, gr_31_11, gi_31_12, pf_31_12, gi_31_13, pf_31_13, gi_31_14, pf_31_14, gr_31_15, gr_31_16, gi_31_17, pf_31_17, gr_31_18, gr_31_19, gr_31_20, gr_31_21, gr_31_22, gi_31_23, pf_31_23, gr_31_24, gr_31_25, gi_31_26, pf_31_26, gr_31_27, gr_31_28, gr_31_29, gr_31_30, gi_31_31, pf_31_31, gr_31_32, gr_31_33, gi_31_34, pf_31_34, gi_31_35, pf_31_35, gr_31_36, al_3, al_4, al_5, al_6, al_7, al_8, al_9, al_10, al_12, al_13, al_14, al_16, al_17, al_19, al_20, al_23, al_24, al_25, al_26, al_27, al_28, al_30, al_32, al_33, al_34, al_35, al_36, al_37, al_38, al_39, al_40, al_41, al_42, al_43, al_44, al_45, al_46, al_47, al_48, al_49, al_50, al_51, al_52, al_53, al_54, ↓reduceIte, Option.bind_some, cI_some, cL_some, cV_some, rz_0, rz_1, r.i2_12, n_lt (show s < 2147483648 by omega) (show σ 0 3 < 2147483648 by omega), n_m1]
    rw [if_neg (by omega)]
  | succ m ih =>
    intro s n B y hs r h27 h28 hy hyK hP
    have hm6 := r.m6
    have hn := r.n7
    have hsM : s < σ 0 3 := by omega
    have l27 : (B 27).length = 6 := r.len rfl
    have l28 : (B 28).length = 8 := r.len rfl
    have he := esN_le σ s
    have e27 : aI (enc B I) 27 (nI s) = some (nI (bits (syB σ f rds s) (σ 0 0))) := by rw [ai_27 B I (by omega) (by omega), h27 s hsM]
    have e28 : aI (enc B I) 28 (nI (c + 1)) = some (nI K - 1) := by rw [ai_28 B I (by omega) (by omega), h28]
    have e28c : aI (enc B I) 28 (nI c) = some (nI y - 1) := by rw [ai_28 B I (by omega) (by omega), hy]
    have hb1 : bits (syB σ f rds s) (σ 0 0) < 2147483648 := Nat.lt_trans (bits_ge hn) (by decide)
    have hb2 : bits (fun s => σ 8 s == 100) (σ 0 3) < 2147483648 := Nat.lt_trans (bits_ge (by omega)) (by decide)
    have t1 : (bits (syB σ f rds s) (σ 0 0)).testBit c = syB σ f rds s c := by rw [bits_test, decide_eq_true hc, Bool.true_and]
    have t2 : (bits (fun s => σ 8 s == 100) (σ 0 3)).testBit s = (σ 8 s == 100) := by rw [bits_test, decide_eq_true hsM, Bool.true_and]
    -- the next stone, as it is
    have skip : (σ 8 s ≠ 100 → syB σ f rds s c = true → K ≤ c + 1 + esN σ s + d → y + esN σ s ≤ c + 1) →
        ∃ xs y', (F_X3_lookAhead fu (n + (2 * m + 1))).2.1 21 2 (nI c) (nI (s + 1)) (enc B I) = (F_X3_lookAhead fu n).1 21 2 (nI c - 1) (enc (uA B 28 xs) I) ∧ xs.length = 8 ∧ (∀ i, i ≠ c → rd xs i = rd (B 28) i) ∧ rd xs c = nI y' - 1 ∧ y' ≤ K ∧
          (∀ t, t < σ 0 3 → σ 8 t ≠ 100 → syB σ f rds t c = true → K ≤ c + 1 + esN σ t + d → y' + esN σ t ≤ c + 1) := fun h =>
      ih (s + 1) n B y (by omega) r h27 h28 hy hyK (fun t ht => by
        by_cases q : t = s
        · rw [q]; exact h
        · exact hP t (by omega))
    have s0 : ∀ w, (F_X3_lookAhead fu (n + (2 * m + 1) + 1)).2.2 21 2 (nI c) (nI s) (nI (esN σ s)) 0 w = (F_X3_lookAhead fu (n + (2 * m + 1))).2.1 21 2 (nI c) (nI (s + 1)) w := fun w => by
      rw [F_X3_lookAhead]
      dsimp only
      rw [if_pos (show (0 : Int32) = 0 from rfl), nI_1]
    rw [show n + (2 * (m + 1) + 1) = n + (2 * m + 1) + 1 + 1 by omega]
    have st : (F_X3_lookAhead fu (n + (2 * m + 1) + 1 + 1)).2.1 21 2 (nI c) (nI s) (enc B I) = if syB σ f rds s c = true ∧ σ 8 s ≠ 100 then (F_X3_lookAhead fu (n + (2 * m + 1) + 1)).2.2 21 2 (nI c) (nI s) (nI (esN σ s)) 1 (enc B I) else (F_X3_lookAhead fu (n + (2 * m + 1) + 1)).2.2 21 2 (nI c) (nI s) (nI (esN σ s)) 0 (enc B I) := by
      rw [F_X3_lookAhead]
      simp -implicitDefEqProofs only [io_1, gr_1_0, gr_1_1, gr_1_2, gr_1_3, gr_1_4, gr_1_5, gi_1_6, pf_1_6, gi_1_7, pf_1_7, io_2, gr_2_0, gr_2_1, gr_2_2, gr_2_3, gr_2_4, gr_2_5, gr_2_6, gr_2_7, gi_2_8, pf_2_8, gi_2_9, pf_2_9, gi_2_10, pf_2_10, gi_2_11, pf_2_11, gi_2_12, pf_2_12, gi_2_13, pf_2_13, gi_2_14, pf_2_14, io_11, gr_11_0, gr_11_1, gr_11_2, io_15, gr_15_0, gr_15_1, gi_15_2, pf_15_2, gi_15_3, pf_15_3, gi_15_4, pf_15_4, gi_15_5, pf_15_5, io_18, gr_18_0, gr_18_1, gi_18_2, pf_18_2, io_21, gr_21_0, gr_21_1, gr_21_2, gr_21_3, gr_21_4, gi_21_5, pf_21_5, gi_21_6, pf_21_6, gi_21_7, pf_21_7, gi_21_8, pf_21_8, gi_21_9, pf_21_9, io_22, gr_22_0, gr_22_1, gi_22_2, pf_22_2, io_29, gr_29_0, gi_29_1, pf_29_1, io_31, gi_31_0, pf_31_0, gi_31_1, pf_31_1, gr_31_2, gr_31_3, gr_31_4, gi_31_5, pf_31_5, gi_31_6, pf_31_6, gi_31_7, pf_31_7, gr_31_8, gr_31_9, gr_31_10, gr_31_11, gi_31_12, pf_31_12, gi_31_13, pf_31_13, gi_31_14, pf_31_14, gr_31_15, gr_31_16, gi_31_17, pf_31_17, gr_31_18, gr_31_19, gr_31_20, gr_31_21, gr_31_22, gi_31_23, pf_31_23, gr_31_24, gr_31_25, gi_31_26, pf_31_26, gr_31_27, gr_31_28, gr_31_29, gr_31_30, gi_31_31, pf_31_31, gr_31_32, gr_31_33, gi_31_34, pf_31_34, gi_31_35, pf_31_35, gr_31_36, al_3, al_4, al_5, al_6, al_7, al_8, al_9, al_10, al_12, al_13, al_14, al_16, al_17, al_19, al_20, al_23, al_24, al_25, al_26, al_27, al_28, al_30, al_32, al_33, al_34, al_35, al_36, al_37, al_38, al_39, al_40, al_41, al_42, al_43, al_44, al_45, al_46, al_47, al_48, al_49, al_50, al_51, al_52, al_53, al_54, ↓reduceIte, Option.bind_some, cI_some, cL_some, cV_some, rz_0, rz_1, r.i2_12, n_lt (show s < 2147483648 by omega) (show σ 0 3 < 2147483648 by omega), c_easeOf r hsM, e27, c_hasn _ hb1 (show c < 31 by omega), t1, r.i2_13, c_hasn _ hb2 (show s < 31 by omega), t2, bI_0]
      rw [if_pos hsM]
      by_cases z1 : syB σ f rds s c = true
      · rw [if_neg (fun w => w z1)]
        by_cases z2 : σ 8 s = 100
        · rw [if_neg (fun w => w (by simp [z2])), if_neg (fun w => w.2 z2)]
        · rw [if_pos (by simp [z2]), if_pos ⟨z1, z2⟩]
      · rw [if_pos z1, if_neg (fun w => z1 w.1)]
    rw [st]
    by_cases z : syB σ f rds s c = true ∧ σ 8 s ≠ 100
    rotate_left
    · rw [if_neg z, s0]
      exact skip (fun a b _ => absurd ⟨b, a⟩ z)
    rw [if_pos z, F_X3_lookAhead]
    have cm := cmpA (c + esN σ s + d) (by omega) K (by omega)
    simp -implicitDefEqProofs only [if_neg (show ¬ (1 : Int32) = 0 by decide), io_1, gr_1_0, gr_1_1, gr_1_2, gr_1_3, gr_1_4, gr_1_5, gi_1_6, pf_1_6, gi_1_7, pf_1_7, io_2, gr_2_0, gr_2_1, gr_2_2, gr_2_3, gr_2_4, gr_2_5, gr_2_6, gr_2_7, gi_2_8, pf_2_8, gi_2_9, pf_2_9, gi_2_10, pf_2_10, gi_2_11, pf_2_11, gi_2_12, pf_2_12, gi_2_13, pf_2_13, gi_2_14, pf_2_14, io_11, gr_11_0, gr_11_1, gr_11_2, io_15, gr_15_0, gr_15_1, gi_15_2, pf_15_2, gi_15_3, pf_15_3, gi_15_4, pf_15_4, gi_15_5, pf_15_5, io_18, gr_18_0, gr_18_1, gi_18_2, pf_18_2, io_21, gr_21_0, gr_21_1, gr_21_2, gr_21_3, gr_21_4, gi_21_5, pf_21_5, gi_21_6, pf_21_6, gi_21_7, pf_21_7, gi_21_8, pf_21_8, gi_21_9, pf_21_9, io_22, gr_22_0, gr_22_1, gi_22_2, pf_22_2, io_29, gr_29_0, gi_29_1, pf_29_1, io_31, gi_31_0, pf_31_0, gi_31_1, pf_31_1, gr_31_2, gr_31_3, gr_31_4, gi_31_5, pf_31_5, gi_31_6, pf_31_6, gi_31_7, pf_31_7, gr_31_8, gr_31_9, gr_31_10, gr_31_11, gi_31_12, pf_31_12, gi_31_13, pf_31_13, gi_31_14, pf_31_14, gr_31_15, gr_31_16, gi_31_17, pf_31_17, gr_31_18, gr_31_19, gr_31_20, gr_31_21, gr_31_22, gi_31_23, pf_31_23, gr_31_24, gr_31_25, gi_31_26, pf_31_26, gr_31_27, gr_31_28, gr_31_29, gr_31_30, gi_31_31, pf_31_31, gr_31_32, gr_31_33, gi_31_34, pf_31_34, gi_31_35, pf_31_35, gr_31_36, al_3, al_4, al_5, al_6, al_7, al_8, al_9, al_10, al_12, al_13, al_14, al_16, al_17, al_19, al_20, al_23, al_24, al_25, al_26, al_27, al_28, al_30, al_32, al_33, al_34, al_35, al_36, al_37, al_38, al_39, al_40, al_41, al_42, al_43, al_44, al_45, al_46, al_47, al_48, al_49, al_50, al_51, al_52, al_53, al_54, ↓reduceIte, Option.bind_some, cI_some, cL_some, cV_some, rz_0, rz_1, h8, nI_1, nI_add, e28, e28c]
    by_cases z2 : c + esN σ s + d + 1 < K
    · rw [if_pos (cm.mpr z2)]
      exact skip (fun _ _ h => by omega)
    rw [if_neg (fun w => z2 (cm.mp w)), cmpC c (by omega) (esN σ s) (by omega)]
    have om : oMin [.int (nI y - 1), .int (nI (c + 1 - esN σ s) - 1)] (enc B I) = some (some (.int (nI (if c + 1 - esN σ s < y then c + 1 - esN σ s else y) - 1)), enc B I) := by
      unfold oMin
      have cb := cmpB (c + 1 - esN σ s) (by omega) y (by omega)
      dsimp only
      by_cases q : c + 1 - esN σ s < y
      · rw [if_pos (cb.mpr q), if_pos q]
      · rw [if_neg (fun w => q (cb.mp w)), if_neg q]
    obtain ⟨y2, hy2⟩ : ∃ y2, y2 = if c + 1 - esN σ s < y then c + 1 - esN σ s else y := ⟨_, rfl⟩
    have y2a : y2 ≤ y := by rw [hy2]; split <;> omega
    have y2b : y2 + esN σ s ≤ c + 1 := by rw [hy2]; split <;> omega
    rw [← hy2] at om
    have s28 := si_28 B I (nI y2 - 1) (show c < (B 28).length by omega) (show c < 2147483648 by omega)
    rw [om, cI_some, s28, Option.bind_some]
    have hF : Fr B I (uA B 28 ((B 28).set c (nI y2 - 1))) I := Fr.arr (Fr.rf B I) rfl (by rw [List.length_set])
    obtain ⟨xs, y', g1, g2, g3, g4, g5, g6⟩ := ih (s + 1) n (uA B 28 ((B 28).set c (nI y2 - 1))) y2 (by omega) (hF.R r) (by rw [uA_n _ _ _ (by decide)]; exact h27) (by rw [uA_s, rd_set _ _ (by omega), if_neg (by omega)]; exact h28) (by rw [uA_s, rd_set _ _ (by omega), if_pos rfl]) (by omega) (fun t ht a b e => by
      by_cases q : t = s
      · rw [q]; exact y2b
      · have := hP t (by omega) a b e; omega)
    rw [uA_uA] at g1
    refine ⟨xs, y', g1, g2, fun i hi => ?_, g4, g5, g6⟩
    rw [g3 i hi, uA_s, rd_set _ _ (by omega), if_neg hi]
theorem c_aheadC (hd : d ≤ 9) (h8 : I 21 7 = nI d) : ∀ k n B (nd : Nat → Nat), k ≤ σ 0 0 → k * 20 < n → RR σ B I → (∀ t, t < σ 0 3 → rd (B 27) t = nI (bits (syB σ f rds t) (σ 0 0))) → (∀ c, k ≤ c → c ≤ σ 0 0 → rd (B 28) c = nI (nd c) - 1 ∧ nd c ≤ σ 0 0 + 1) → nd (σ 0 0) = σ 0 0 + 1 →
    (∀ c, k ≤ c → c < σ 0 0 → nd c ≤ nd (c + 1) ∧ ∀ t, t < σ 0 3 → σ 8 t ≠ 100 → syB σ f rds t c = true → nd (c + 1) ≤ c + 1 + esN σ t + d → nd c + esN σ t ≤ c + 1) →
    ∃ xs nd', (F_X3_lookAhead fu n).1 21 2 (nI k - 1) (enc B I) = some (none, enc (uA B 28 xs) I) ∧ xs.length = 8 ∧ (∀ c, c ≤ σ 0 0 → rd xs c = nI (nd' c) - 1 ∧ nd' c ≤ σ 0 0 + 1) ∧ NDP σ d f rds nd' := by
  intro k
  induction k with
  | zero =>
    intro n B nd hk hn2 r h27 h28 hN hP
    obtain ⟨n, rfl⟩ : ∃ j, n = j + 1 := ⟨n - 1, by omega⟩
    refine ⟨B 28, nd, ?_, r.len rfl, fun c hc => h28 c (Nat.zero_le _) hc, hN, fun c hc => hP c (Nat.zero_le _) hc⟩
    rw [F_X3_lookAhead, uA_self]
    dsimp only
    rw [if_pos (by decide)]
  | succ k ih =>
    intro n B nd hk hn2 r h27 h28 hN hP
    have hn := r.n7
    have hm6 := r.m6
    obtain ⟨n, rfl⟩ : ∃ j, n = j + (2 * σ 0 3 + 1) + 1 := ⟨n - (2 * σ 0 3 + 2), by omega⟩
    have hk20 : k * 20 < n := by rw [Nat.add_mul] at hn2; omega
    have l28 : (B 28).length = 8 := r.len rfl
    obtain ⟨v1, v2⟩ := h28 (k + 1) (Nat.le_refl _) (by omega)
    have e28 : aI (enc B I) 28 (nI (k + 1)) = some (nI (nd (k + 1)) - 1) := by rw [ai_28 B I (by omega) (by omega), v1]
    have s28 := si_28 B I (nI (nd (k + 1)) - 1) (show k < (B 28).length by omega) (show k < 2147483648 by omega)
    have hF : Fr B I (uA B 28 ((B 28).set k (nI (nd (k + 1)) - 1))) I := Fr.arr (Fr.rf B I) rfl (by rw [List.length_set])
    obtain ⟨xs, y', g1, g2, g3, g4, g5, g6⟩ := c_aheadS (fu := fu) (f := f) (rds := rds) hd h8 (c := k) (K := nd (k + 1)) (by omega) (by omega) (σ 0 3) 0 n (uA B 28 ((B 28).set k (nI (nd (k + 1)) - 1))) (nd (k + 1)) (by omega) (hF.R r) (by rw [uA_n _ _ _ (by decide)]; exact h27) (by rw [uA_s, rd_set _ _ (by omega), if_neg (by omega)]; exact v1) (by rw [uA_s, rd_set _ _ (by omega), if_pos rfl]) (Nat.le_refl _) (fun t ht => by omega)
    rw [uA_uA] at g1
    have hF2 : Fr B I (uA B 28 xs) I := Fr.arr (Fr.rf B I) rfl (by rw [g2, l28])
    have gx : ∀ i, i ≠ k → rd xs i = rd (B 28) i := fun i hi => by rw [g3 i hi, uA_s, rd_set _ _ (by omega), if_neg hi]
    obtain ⟨zs, nd', a1, a2, a3, a4⟩ := ih n (uA B 28 xs) (updN nd k y') (by omega) hk20 (hF2.R r) (by rw [uA_n _ _ _ (by decide)]; exact h27) (fun c h1 h2 => by
      rw [uA_s]
      by_cases q : c = k
      · have e : updN nd k y' k = y' := if_pos rfl
        rw [q, e]; exact ⟨g4, by omega⟩
      · have e : updN nd k y' c = nd c := if_neg q
        rw [e, gx c q]; exact h28 c (by omega) h2) (by
      have e : updN nd k y' (σ 0 0) = nd (σ 0 0) := if_neg (by omega)
      rw [e]; exact hN) (fun c h1 h2 => by
      have e1 : updN nd k y' (c + 1) = nd (c + 1) := if_neg (by omega)
      rw [e1]
      by_cases q : c = k
      · have e : updN nd k y' k = y' := if_pos rfl
        rw [q, e]; exact ⟨g5, g6⟩
      · have e : updN nd k y' c = nd c := if_neg q
        rw [e]; exact hP c (by omega) h2)
    rw [uA_uA] at a1
    refine ⟨zs, nd', ?_, a2, a3, a4⟩
    rw [F_X3_lookAhead]
    simp -implicitDefEqProofs only [n_sub1, n_neg (show k < 2147483648 by omega), if_false, io_1, gr_1_0, gr_1_1, gr_1_2, gr_1_3, gr_1_4, gr_1_5, gi_1_6, pf_1_6, gi_1_7, pf_1_7, io_2, gr_2_0, gr_2_1, gr_2_2, gr_2_3, gr_2_4, gr_2_5, gr_2_6, gr_2_7, gi_2_8, pf_2_8, gi_2_9, pf_2_9, gi_2_10, pf_2_10, gi_2_11, pf_2_11, gi_2_12, pf_2_12, gi_2_13, pf_2_13, gi_2_14, pf_2_14, io_11, gr_11_0, gr_11_1, gr_11_2, io_15, gr_15_0, gr_15_1, gi_15_2, pf_15_2, gi_15_3, pf_15_3, gi_15_4, pf_15_4, gi_15_5, pf_15_5, io_18, gr_18_0, gr_18_1, gi_18_2, pf_18_2, io_21, gr_21_0, gr_21_1, gr_21_2, gr_21_3, gr_21_4, gi_21_5, pf_21_5, gi_21_6, pf_21_6, gi_21_7, pf_21_7, gi_21_8, pf_21_8, gi_21_9, pf_21_9, io_22, gr_22_0, gr_22_1, gi_22_2, pf_22_2, io_29, gr_29_0, gi_29_1, pf_29_1, io_31, gi_31_0, pf_31_0, gi_31_1, pf_31_1, gr_31_2, gr_31_3, gr_31_4, gi_31_5, pf_31_5, gi_31_6, pf_31_6, gi_31_7, pf_31_7, gr_31_8, gr_31_9, gr_31_10, gr_31_11, gi_31_12, pf_31_12, gi_31_13, pf_31_13, gi_31_14, pf_31_14, gr_31_15, gr_31_16, gi_31_17, pf_31_17, gr_31_18, gr_31_19, gr_31_20, gr_31_21, gr_31_22, gi_31_23, pf_31_23, gr_31_24, gr_31_25, gi_31_26, pf_31_26, gr_31_27, gr_31_28, gr_31_29, gr_31_30, gi_31_31, pf_31_31, gr_31_32, gr_31_33, gi_31_34, pf_31_34, gi_31_35, pf_31_35, gr_31_36, al_3, al_4, al_5, al_6, al_7, al_8, al_9, al_10, al_12, al_13, al_14, al_16, al_17, al_19, al_20, al_23, al_24, al_25, al_26, al_27, al_28, al_30, al_32, al_33, al_34, al_35, al_36, al_37, al_38, al_39, al_40, al_41, al_42, al_43, al_44, al_45, al_46, al_47, al_48, al_49, al_50, al_51, al_52, al_53, al_54, ↓reduceIte, Option.bind_some, cI_some, cL_some, cV_some, rz_0, rz_1, nI_1, e28, s28]
    exact g1.trans a1
theorem c_lookAhead (hf : 1000 ≤ fu) (r : RR σ A I) (hd : d ≤ 9) (h8 : I 21 7 = nI d) (h27 : ∀ t, t < σ 0 3 → rd (A 27) t = nI (bits (syB σ f rds t) (σ 0 0))) :
    ∃ xs nd, U_X3_lookAhead fu [.ref 21, .ref 2] (enc A I) = some (none, enc (uA A 28 xs) I) ∧ xs.length = 8 ∧ (∀ c, c ≤ σ 0 0 → rd xs c = nI (nd c) - 1 ∧ nd c ≤ σ 0 0 + 1) ∧ NDP σ d f rds nd := by
  have hn := r.n7
  have l28 : (A 28).length = 8 := r.len rfl
  have s28 := si_28 A I (nI (σ 0 0)) (show σ 0 0 < (A 28).length by omega) (show σ 0 0 < 2147483648 by omega)
  have hF : Fr A I (uA A 28 ((A 28).set (σ 0 0) (nI (σ 0 0)))) I := Fr.arr (Fr.rf A I) rfl (by rw [List.length_set])
  obtain ⟨xs, nd, g1, g2, g3, g4⟩ := c_aheadC (fu := fu) (f := f) (rds := rds) hd h8 (σ 0 0) fu (uA A 28 ((A 28).set (σ 0 0) (nI (σ 0 0)))) (fun _ => σ 0 0 + 1) (Nat.le_refl _) (by have : σ 0 0 * 20 ≤ 7 * 20 := Nat.mul_le_mul_right 20 hn; omega) (hF.R r) (by rw [uA_n _ _ _ (by decide)]; exact h27) (fun c h1 h2 => by
    have e : c = σ 0 0 := by omega
    rw [uA_s, rd_set _ _ (by omega), if_pos e, n_sub1]
    exact ⟨rfl, Nat.le_refl _⟩) rfl (fun c h1 h2 => by omega)
  rw [uA_uA] at g1
  refine ⟨xs, nd, ?_, g2, g3, g4⟩
  simp -implicitDefEqProofs only [u_X3_lookAhead, M_X3_lookAhead, io_1, gr_1_0, gr_1_1, gr_1_2, gr_1_3, gr_1_4, gr_1_5, gi_1_6, pf_1_6, gi_1_7, pf_1_7, io_2, gr_2_0, gr_2_1, gr_2_2, gr_2_3, gr_2_4, gr_2_5, gr_2_6, gr_2_7, gi_2_8, pf_2_8, gi_2_9, pf_2_9, gi_2_10, pf_2_10, gi_2_11, pf_2_11, gi_2_12, pf_2_12, gi_2_13, pf_2_13, gi_2_14, pf_2_14, io_11, gr_11_0, gr_11_1, gr_11_2, io_15, gr_15_0, gr_15_1, gi_15_2, pf_15_2, gi_15_3, pf_15_3, gi_15_4, pf_15_4, gi_15_5, pf_15_5, io_18, gr_18_0, gr_18_1, gi_18_2, pf_18_2, io_21, gr_21_0, gr_21_1, gr_21_2, gr_21_3, gr_21_4, gi_21_5, pf_21_5, gi_21_6, pf_21_6, gi_21_7, pf_21_7, gi_21_8, pf_21_8, gi_21_9, pf_21_9, io_22, gr_22_0, gr_22_1, gi_22_2, pf_22_2, io_29, gr_29_0, gi_29_1, pf_29_1, io_31, gi_31_0, pf_31_0, gi_31_1, pf_31_1, gr_31_2, gr_31_3, gr_31_4, gi_31_5, pf_31_5, gi_31_6, pf_31_6, gi_31_7, pf_31_7, gr_31_8, gr_31_9, gr_31_10, gr_31_11, gi_31_12, pf_31_12, gi_31_13, pf_31_13, gi_31_14, pf_31_14, gr_31_15, gr_31_16, gi_31_17, pf_31_17, gr_31_18, gr_31_19, gr_31_20, gr_31_21, gr_31_22, gi_31_23, pf_31_23, gr_31_24, gr_31_25, gi_31_26, pf_31_26, gr_31_27, gr_31_28, gr_31_29, gr_31_30, gi_31_31, pf_31_31, gr_31_32, gr_31_33, gi_31_34, pf_31_34, gi_31_35, pf_31_35, gr_31_36, al_3, al_4, al_5, al_6, al_7, al_8, al_9, al_10, al_12, al_13, al_14, al_16, al_17, al_19, al_20, al_23, al_24, al_25, al_26, al_27, al_28, al_30, al_32, al_33, al_34, al_35, al_36, al_37, al_38, al_39, al_40, al_41, al_42, al_43, al_44, al_45, al_46, al_47, al_48, al_49, al_50, al_51, al_52, al_53, al_54, ↓reduceIte, Option.bind_some, cI_some, cL_some, cV_some, rz_0, rz_1, r.i2_8, s28]
  exact g1
end PA
