section PH
variable {σ : SG} {fu d f rds : Nat}
def unD (y : Nat) : Nat := if y = 6 then 0 else y + 1
theorem unD_dg {y : Nat} (h : y ≤ 6) : dg (unD y) = y ∧ unD y ≤ 6 ∧ (unD y = 0 ↔ y = 6) ∧ (y < 6 → unD y = y + 1) := by
  unfold unD dg
  by_cases z : y = 6
  · rw [if_pos z, if_pos rfl]; omega
  · rw [if_neg z, if_neg (Nat.succ_ne_zero y)]; omega
def PP : Nat → Nat
  | 0 => 1
  | m + 1 => 1 + 8 * (PP m + 9)
/-- the search from a cell on, with the digits from x on -/
def NodeM (σ : SG) (fu d f rds m c : Nat) : Prop :=
  ∀ (j x : Nat) (R : Nat → Nat) (A : Nat → List Int32) (I : Nat → Nat → Int32) (o : Option (Nat → Nat)), 7 ≤ x + j → x ≤ 7 → RR σ A I → okR σ R c → TR R c A → rd (A 57) c = nI x - 1 → MBc σ o A I → (∀ b, o = some b → lx b (c + 1) < lx R c * 7 + x) → ∀ n, (j + 1) * (PP m + 9) ≤ n →
    ∃ A1 I1 o' n', n ≤ n' + (j + 1) * (PP m + 9) ∧ (F_X8_findPlan fu n).1 36 (nI d) (nI f) (nI rds) (nI c) (enc A I) = (F_X8_findPlan fu n').1 36 (nI d) (nI f) (nI rds) (nI c - 1) (enc A1 I1) ∧ FrO A I A1 I1 ∧ (∀ i, i < c → rd (A1 57) i = rd (A 57) i) ∧ MBc σ o' A1 I1 ∧ UpB σ (Vd σ d f rds) o o' (fun R' => Cm R c R' ∧ x ≤ dg (R' c))
/-- one digit of a cell -/
theorem m_digit (hf : 10000000000 ≤ fu) (hd : d ≤ 9) (hf9 : f ≤ 9) (hrd : rds ≤ 30) {m c : Nat} (hcm : c + m + 1 = σ 0 0) (hC : ∀ m', m = m' + 1 → NodeM σ fu d f rds m' (c + 1)) {R : Nat → Nat} {A : Nat → List Int32} {I : Nat → Nat → Int32} {o : Option (Nat → Nat)} (r : RR σ A I) (ho : okR σ R (c + 1)) (ht : TR R (c + 1) A) (hb : MBc σ o A I) (hba : ∀ b, o = some b → lx b (c + 1) < lx R (c + 1)) {n : Nat} (hn2 : PP m ≤ n) :
    ∃ A1 I1 o' n', n ≤ n' + PP m ∧ (F_X8_findPlan fu n).2.2 36 (nI d) (nI f) (nI rds) (nI c) (enc A I) = (F_X8_findPlan fu n').1 36 (nI d) (nI f) (nI rds) (nI c) (enc A1 I1) ∧ FrO A I A1 I1 ∧ (∀ i, i < c + 1 → rd (A1 57) i = rd (A 57) i) ∧ MBc σ o' A1 I1 ∧ UpB σ (Vd σ d f rds) o o' (Cm R (c + 1)) := by
  have hw := r.1
  have hn := r.n7
  have hm := r.m6
  have l57 : (A 57).length = 7 := r.len rfl
  have hPP : 1 ≤ PP m := by cases m <;> (unfold PP; omega)
  obtain ⟨n, rfl⟩ : ∃ i, n = i + 1 := ⟨n - 1, by omega⟩
  have h6 := ho.le hm (Nat.lt_succ_self c)
  have hd7 := dg_lt h6
  have e57 : aI (enc A I) 57 (nI c) = some (nI (dg (R c))) := by rw [ai_57 A I (by omega) (by omega), ht c (by omega)]
  have hwA := m_workAhead (fu := fu) (by omega) r (show c + 1 ≤ σ 0 0 by omega) ho ht
  have hwl := wr_lt hw (show c + 1 ≤ σ 0 0 by omega) ho
  have e6 : ((6 : Int32) < nI (dg (R c))) = (6 < dg (R c)) := n_lt (a := 6) (by decide) (by omega)
  obtain ⟨bw, hbw, hbw2, hbw3⟩ : ∃ bw, I 36 34 = nI bw ∧ bw ≤ 1000000 ∧ (bw < wr σ R (c + 1) → ∃ b, o = some b ∧ okR σ b (σ 0 0) ∧ wr σ b (σ 0 0) = bw) := by
    unfold MBc at hb
    cases o with
    | none => exact ⟨1000000, hb.1, Nat.le_refl _, fun h => by omega⟩
    | some b => exact ⟨wr σ b (σ 0 0), hb.2.1, by have := wr_lt hw (Nat.le_refl _) hb.1; omega, fun _ => ⟨b, rfl, hb.1, rfl⟩⟩
  have eN : nI (σ 0 0) - 1 = nI (c + m) := by rw [← hcm, n_sub1]
  have st : (F_X8_findPlan fu (n + 1)).2.2 36 (nI d) (nI f) (nI rds) (nI c) (enc A I) = if bw < wr σ R (c + 1) then (F_X8_findPlan fu n).1 36 (nI d) (nI f) (nI rds) (nI c) (enc A I) else if c = c + m then cV (U_X8_offer fu [.ref 36, .int (nI d), .int (nI f), .int (nI rds)] (enc A I)) fun w21 => (F_X8_findPlan fu n).1 36 (nI d) (nI f) (nI rds) (nI c) w21 else (sI (enc A I) 57 (nI (c + 1)) (-1)).bind fun w20 => (F_X8_findPlan fu n).1 36 (nI d) (nI f) (nI rds) (nI (c + 1)) w20 := by
    rw [F_X8_findPlan]
    simp -implicitDefEqProofs only [io_1, gr_1_0, gr_1_1, gr_1_2, gr_1_3, gr_1_4, gr_1_5, gi_1_6, pf_1_6, gi_1_7, pf_1_7, io_2, gr_2_0, gr_2_1, gr_2_2, gr_2_3, gr_2_4, gr_2_5, gr_2_6, gr_2_7, gi_2_8, pf_2_8, gi_2_9, pf_2_9, gi_2_10, pf_2_10, gi_2_11, pf_2_11, gi_2_12, pf_2_12, gi_2_13, pf_2_13, gi_2_14, pf_2_14, io_11, gr_11_0, gr_11_1, gr_11_2, io_15, gr_15_0, gr_15_1, gi_15_2, pf_15_2, gi_15_3, pf_15_3, gi_15_4, pf_15_4, gi_15_5, pf_15_5, io_18, gr_18_0, gr_18_1, gi_18_2, pf_18_2, io_21, gr_21_0, gr_21_1, gr_21_2, gr_21_3, gi_21_4, pf_21_4, gi_21_5, pf_21_5, gi_21_6, pf_21_6, gi_21_7, pf_21_7, io_34, gr_34_0, gi_34_1, pf_34_1, io_36, gi_36_0, pf_36_0, gi_36_1, pf_36_1, gr_36_2, gr_36_3, gr_36_4, gi_36_5, pf_36_5, gi_36_6, pf_36_6, gi_36_7, pf_36_7, gr_36_8, gr_36_9, gr_36_10, gr_36_11, gi_36_12, pf_36_12, gi_36_13, pf_36_13, gi_36_14, pf_36_14, gr_36_15, gr_36_16, gi_36_17, pf_36_17, gr_36_18, gr_36_19, gr_36_20, gr_36_21, gr_36_22, gi_36_23, pf_36_23, gr_36_24, gr_36_25, gi_36_26, pf_36_26, gr_36_27, gr_36_28, gr_36_29, gr_36_30, gi_36_31, pf_36_31, gr_36_32, gr_36_33, gi_36_34, pf_36_34, gi_36_35, pf_36_35, gr_36_36, al_3, al_4, al_5, al_6, al_7, al_8, al_9, al_10, al_12, al_13, al_14, al_16, al_17, al_19, al_20, al_22, al_23, al_24, al_26, al_27, al_28, al_29, al_30, al_31, al_32, al_33, al_35, al_37, al_38, al_39, al_40, al_41, al_42, al_43, al_44, al_45, al_46, al_47, al_48, al_49, al_50, al_51, al_52, al_53, al_54, al_55, al_56, al_57, al_58, al_59, ↓reduceIte, Option.bind_some, cI_some, cL_some, cV_some, rz_0, rz_1, e57, e6, nI_1, hwA, hbw, n_lt (show bw < 2147483648 by omega) (show wr σ R (c + 1) < 2147483648 by omega), r.i36_5, eN, n_eq (show c < 2147483648 by omega) (show c + m < 2147483648 by omega)]
    rw [if_neg (by omega)]
  rw [st]
  by_cases z1 : bw < wr σ R (c + 1)
  · rw [if_pos z1]
    refine ⟨A, I, o, n, by omega, rfl, FrO.rf A I, fun _ _ => rfl, hb, UpB.rf fun R' hR' hV => ?_⟩
    obtain ⟨b, q1, q2, q3⟩ := hbw3 z1
    refine ⟨b, q1, cd_worse hw q2 (Or.inl ?_)⟩
    have m1 := wr_mono (σ := σ) R' (c + 1) (σ 0 0 - (c + 1))
    rw [show c + 1 + (σ 0 0 - (c + 1)) = σ 0 0 by omega, wr_congr (c + 1) hR'] at m1
    omega
  rw [if_neg z1]
  cases m with
  | zero =>
    rw [if_pos (Nat.add_zero c).symm]
    have e : c + 1 = σ 0 0 := by omega
    rw [e] at ho ht hba
    obtain ⟨A1, I1, o', o1, o2, o3, o4, o5⟩ := m_offer (fu := fu) hf r hd hf9 hrd ho ht hb
    refine ⟨A1, I1, o', n, by omega, by rw [o1, cV_some], o2, fun i _ => by rw [o3], o4, ?_⟩
    rw [e]
    rcases o5 with ⟨h1, h2, h3⟩ | ⟨h1, h2⟩
    · rw [h1]
      refine ⟨Or.inr ⟨R, rfl, fun _ _ => rfl, ho, h3⟩, fun b hb2 => ⟨R, rfl, cd_worse hw ho ?_⟩, fun R' hR' _ => ⟨R, rfl, ?_⟩⟩
      · unfold btr at h2
        rw [hb2] at h2
        exact of_decide_eq_true h2
      · rw [cd_cg (fun i hi => (hR' i hi).symm)]
        exact Nat.le_refl _
    · rw [h1]
      refine UpB.rf fun R' hR' hV => ?_
      by_cases z2 : btr σ o R = true
      · refine absurd ⟨z2, ?_, ?_⟩ h2
        · exact X_cg hR' hV.2.1
        · rcases hV.2.2 with y | y
          · exact Or.inl y
          · exact Or.inr (X_cg (Lb_cg hR') y)
      · unfold btr at z2
        cases o with
        | none => exact absurd rfl z2
        | some b =>
          refine ⟨b, rfl, ?_⟩
          rw [← cd_cg (R := R) (R' := R') (fun i hi => (hR' i hi).symm)]
          exact cd_better (fun w => z2 (decide_eq_true (w.imp id fun w => ⟨w.1.symm, w.2⟩))) hn (hba b rfl)
  | succ m =>
    rw [if_neg (by omega)]
    have s57 := si_57 A I (-1) (show c + 1 < (A 57).length by omega) (show c + 1 < 2147483648 by omega)
    have hF : FrO A I (uA A 57 ((A 57).set (c + 1) (-1))) I := (FrO.rf A I).arr (k := 57) (xs := (A 57).set (c + 1) (-1)) (by omega) (by rw [List.length_set])
    have v57 : ∀ i, rd (uA A 57 ((A 57).set (c + 1) (-1)) 57) i = if i = c + 1 then -1 else rd (A 57) i := fun i => by rw [uA_s, rd_set _ _ (by omega)]
    have hPm : PP (m + 1) = 1 + 8 * (PP m + 9) := rfl
    obtain ⟨A1, I1, o', n', a1, a2, a3, a4, a5, a6⟩ := hC m rfl 7 0 R (uA A 57 ((A 57).set (c + 1) (-1))) I o (by omega) (by omega) (hF.Fr.R r) ho (fun i hi => by rw [v57, if_neg (by omega)]; exact ht i hi) (by rw [v57, if_pos rfl]; rfl) (hb.cg (uA_n _ _ _ (by decide)) rfl rfl) (fun b hb2 => by
      have h1 := hba b hb2
      have hob : okR σ b (σ 0 0) := by unfold MBc at hb; rw [hb2] at hb; exact hb.1
      have h2 := dg_lt (hob.le hm (show c + 1 < σ 0 0 by omega))
      rw [lx]
      omega) n (by omega)
    refine ⟨A1, I1, o', n', by omega, ?_, hF.tr a3, fun i hi => by rw [a4 i hi, v57, if_neg (by omega)], a5, ?_⟩
    · rw [s57, Option.bind_some, a2, n_sub1]
    · obtain ⟨q1, q2, q3⟩ := a6
      exact ⟨q1.imp id (fun ⟨b, x, y, z⟩ => ⟨b, x, y.1, z⟩), q2, fun R' h hV => q3 R' ⟨h, Nat.zero_le _⟩ hV⟩
/-- the next digit of a cell that is free -/
theorem m_nextD (hf : 1000 ≤ fu) {c : Nat} (hc : c < σ 0 0) {R : Nat → Nat} {A : Nat → List Int32} {I : Nat → Nat → Int32} (r : RR σ A I) (ho : okR σ R c) : ∀ m x xs, x + m = 7 → xs.length = 7 → (∀ i, i < c → rd xs i = nI (dg (R i))) → rd xs c = nI x →
    ∃ y zs, x ≤ y ∧ y ≤ 7 ∧ (x ≤ 6 → y ≤ 6) ∧ (y < 6 → fre σ R c y = true) ∧ (∀ t, x ≤ t → t < y → t < 6 → fre σ R c t = false) ∧ zs.length = 7 ∧ rd zs c = nI y ∧ (∀ i, i ≠ c → rd zs i = rd xs i) ∧
      ∀ n, ∃ n', n ≤ n' ∧ (F_X8_findPlan fu (n + (m + 1))).2.1 36 (nI d) (nI f) (nI rds) (nI c) (enc (uA A 57 xs) I) = (F_X8_findPlan fu n').2.2 36 (nI d) (nI f) (nI rds) (nI c) (enc (uA A 57 zs) I) := by
  have hn := r.n7
  intro m
  induction m with
  | zero =>
    intro x xs hx hl ht hxs
    have e57 : aI (enc (uA A 57 xs) I) 57 (nI c) = some (nI x) := by rw [ai_57 _ _ (by rw [uA_s]; omega) (by omega), uA_s, hxs]
    have e6 : (nI x < 6) = (x < 6) := n_lt (by omega) (by decide)
    refine ⟨x, xs, Nat.le_refl _, by omega, fun h => h, fun h => by omega, fun t a b => by omega, hl, hxs, fun _ _ => rfl, fun n => ⟨n, Nat.le_refl _, ?_⟩⟩
    rw [show n + (0 + 1) = n + 1 by omega, F_X8_findPlan]
    simp -implicitDefEqProofs only [io_1, gr_1_0, gr_1_1, gr_1_2, gr_1_3, gr_1_4, gr_1_5, gi_1_6, pf_1_6, gi_1_7, pf_1_7, io_2, gr_2_0, gr_2_1, gr_2_2, gr_2_3, gr_2_4, gr_2_5, gr_2_6, gr_2_7, gi_2_8, pf_2_8, gi_2_9, pf_2_9, gi_2_10, pf_2_10, gi_2_11, pf_2_11, gi_2_12, pf_2_12, gi_2_13, pf_2_13, gi_2_14, pf_2_14, io_11, gr_11_0, gr_11_1, gr_11_2, io_15, gr_15_0, gr_15_1, gi_15_2, pf_15_2, gi_15_3, pf_15_3, gi_15_4, pf_15_4, gi_15_5, pf_15_5, io_18, gr_18_0, gr_18_1, gi_18_2, pf_18_2, io_21, gr_21_0, gr_21_1, gr_21_2, gr_21_3, gi_21_4, pf_21_4, gi_21_5, pf_21_5, gi_21_6, pf_21_6, gi_21_7, pf_21_7, io_34, gr_34_0, gi_34_1, pf_34_1, io_36, gi_36_0, pf_36_0, gi_36_1, pf_36_1, gr_36_2, gr_36_3, gr_36_4, gi_36_5, pf_36_5, gi_36_6, pf_36_6, gi_36_7, pf_36_7, gr_36_8, gr_36_9, gr_36_10, gr_36_11, gi_36_12, pf_36_12, gi_36_13, pf_36_13, gi_36_14, pf_36_14, gr_36_15, gr_36_16, gi_36_17, pf_36_17, gr_36_18, gr_36_19, gr_36_20, gr_36_21, gr_36_22, gi_36_23, pf_36_23, gr_36_24, gr_36_25, gi_36_26, pf_36_26, gr_36_27, gr_36_28, gr_36_29, gr_36_30, gi_36_31, pf_36_31, gr_36_32, gr_36_33, gi_36_34, pf_36_34, gi_36_35, pf_36_35, gr_36_36, al_3, al_4, al_5, al_6, al_7, al_8, al_9, al_10, al_12, al_13, al_14, al_16, al_17, al_19, al_20, al_22, al_23, al_24, al_26, al_27, al_28, al_29, al_30, al_31, al_32, al_33, al_35, al_37, al_38, al_39, al_40, al_41, al_42, al_43, al_44, al_45, al_46, al_47, al_48, al_49, al_50, al_51, al_52, al_53, al_54, al_55, al_56, al_57, al_58, al_59, ↓reduceIte, Option.bind_some, cI_some, cL_some, cV_some, rz_0, rz_1, e57, e6]
    rw [if_neg (by omega)]
  | succ m ih =>
    intro x xs hx hl ht hxs
    have hF : FrO A I (uA A 57 xs) I := (FrO.rf A I).arr (k := 57) (xs := xs) (by omega) (by rw [hl]; exact (r.len (k := 57) rfl).symm)
    have r1 := hF.Fr.R r
    have e57 : aI (enc (uA A 57 xs) I) 57 (nI c) = some (nI x) := by rw [ai_57 _ _ (by rw [uA_s]; omega) (by omega), uA_s, hxs]
    have e6 : (nI x < 6) = (x < 6) := n_lt (by omega) (by decide)
    by_cases z : x < 6
    · have isf := m_isFree (fu := fu) hf r1 (R := R) (show c ≤ σ 0 0 by omega) z ho (fun i hi => by rw [uA_s]; exact ht i hi)
      by_cases z2 : fre σ R c x = true
      · refine ⟨x, xs, Nat.le_refl _, by omega, fun h => h, fun _ => z2, fun t a b => by omega, hl, hxs, fun _ _ => rfl, fun n => ⟨n + (m + 1), by omega, ?_⟩⟩
        rw [show n + (m + 1 + 1) = n + (m + 1) + 1 by omega, F_X8_findPlan]
        simp -implicitDefEqProofs only [io_1, gr_1_0, gr_1_1, gr_1_2, gr_1_3, gr_1_4, gr_1_5, gi_1_6, pf_1_6, gi_1_7, pf_1_7, io_2, gr_2_0, gr_2_1, gr_2_2, gr_2_3, gr_2_4, gr_2_5, gr_2_6, gr_2_7, gi_2_8, pf_2_8, gi_2_9, pf_2_9, gi_2_10, pf_2_10, gi_2_11, pf_2_11, gi_2_12, pf_2_12, gi_2_13, pf_2_13, gi_2_14, pf_2_14, io_11, gr_11_0, gr_11_1, gr_11_2, io_15, gr_15_0, gr_15_1, gi_15_2, pf_15_2, gi_15_3, pf_15_3, gi_15_4, pf_15_4, gi_15_5, pf_15_5, io_18, gr_18_0, gr_18_1, gi_18_2, pf_18_2, io_21, gr_21_0, gr_21_1, gr_21_2, gr_21_3, gi_21_4, pf_21_4, gi_21_5, pf_21_5, gi_21_6, pf_21_6, gi_21_7, pf_21_7, io_34, gr_34_0, gi_34_1, pf_34_1, io_36, gi_36_0, pf_36_0, gi_36_1, pf_36_1, gr_36_2, gr_36_3, gr_36_4, gi_36_5, pf_36_5, gi_36_6, pf_36_6, gi_36_7, pf_36_7, gr_36_8, gr_36_9, gr_36_10, gr_36_11, gi_36_12, pf_36_12, gi_36_13, pf_36_13, gi_36_14, pf_36_14, gr_36_15, gr_36_16, gi_36_17, pf_36_17, gr_36_18, gr_36_19, gr_36_20, gr_36_21, gr_36_22, gi_36_23, pf_36_23, gr_36_24, gr_36_25, gi_36_26, pf_36_26, gr_36_27, gr_36_28, gr_36_29, gr_36_30, gi_36_31, pf_36_31, gr_36_32, gr_36_33, gi_36_34, pf_36_34, gi_36_35, pf_36_35, gr_36_36, al_3, al_4, al_5, al_6, al_7, al_8, al_9, al_10, al_12, al_13, al_14, al_16, al_17, al_19, al_20, al_22, al_23, al_24, al_26, al_27, al_28, al_29, al_30, al_31, al_32, al_33, al_35, al_37, al_38, al_39, al_40, al_41, al_42, al_43, al_44, al_45, al_46, al_47, al_48, al_49, al_50, al_51, al_52, al_53, al_54, al_55, al_56, al_57, al_58, al_59, ↓reduceIte, Option.bind_some, cI_some, cL_some, cV_some, rz_0, rz_1, e57, e6, isf, bI_0]
        rw [if_pos z, if_neg (fun y => y z2)]
      · have s57 := si_57 (uA A 57 xs) I (nI (x + 1)) (show c < _ by rw [uA_s]; omega) (show c < 2147483648 by omega)
        rw [uA_s, uA_uA] at s57
        obtain ⟨y, zs, a1, a2, a3, a4, a5, a6, a7, a8, a9⟩ := ih (x + 1) (xs.set c (nI (x + 1))) (by omega) (by rw [List.length_set]; exact hl) (fun i hi => by rw [rd_set _ _ (by omega), if_neg (by omega)]; exact ht i hi) (by rw [rd_set _ _ (by omega), if_pos rfl])
        refine ⟨y, zs, by omega, a2, fun _ => a3 (by omega), a4, fun t h1 h2 h3 => ?_, a6, a7, fun i hi => by rw [a8 i hi, rd_set _ _ (by omega), if_neg hi], fun n => ?_⟩
        · by_cases q : t = x
          · rw [q]; exact Bool.eq_false_iff.mpr z2
          · exact a5 t (by omega) h2 h3
        · obtain ⟨n', g1, g2⟩ := a9 n
          refine ⟨n', g1, ?_⟩
          rw [show n + (m + 1 + 1) = n + (m + 1) + 1 by omega, F_X8_findPlan]
          simp -implicitDefEqProofs only [io_1, gr_1_0, gr_1_1, gr_1_2, gr_1_3, gr_1_4, gr_1_5, gi_1_6, pf_1_6, gi_1_7, pf_1_7, io_2, gr_2_0, gr_2_1, gr_2_2, gr_2_3, gr_2_4, gr_2_5, gr_2_6, gr_2_7, gi_2_8, pf_2_8, gi_2_9, pf_2_9, gi_2_10, pf_2_10, gi_2_11, pf_2_11, gi_2_12, pf_2_12, gi_2_13, pf_2_13, gi_2_14, pf_2_14, io_11, gr_11_0, gr_11_1, gr_11_2, io_15, gr_15_0, gr_15_1, gi_15_2, pf_15_2, gi_15_3, pf_15_3, gi_15_4, pf_15_4, gi_15_5, pf_15_5, io_18, gr_18_0, gr_18_1, gi_18_2, pf_18_2, io_21, gr_21_0, gr_21_1, gr_21_2, gr_21_3, gi_21_4, pf_21_4, gi_21_5, pf_21_5, gi_21_6, pf_21_6, gi_21_7, pf_21_7, io_34, gr_34_0, gi_34_1, pf_34_1, io_36, gi_36_0, pf_36_0, gi_36_1, pf_36_1, gr_36_2, gr_36_3, gr_36_4, gi_36_5, pf_36_5, gi_36_6, pf_36_6, gi_36_7, pf_36_7, gr_36_8, gr_36_9, gr_36_10, gr_36_11, gi_36_12, pf_36_12, gi_36_13, pf_36_13, gi_36_14, pf_36_14, gr_36_15, gr_36_16, gi_36_17, pf_36_17, gr_36_18, gr_36_19, gr_36_20, gr_36_21, gr_36_22, gi_36_23, pf_36_23, gr_36_24, gr_36_25, gi_36_26, pf_36_26, gr_36_27, gr_36_28, gr_36_29, gr_36_30, gi_36_31, pf_36_31, gr_36_32, gr_36_33, gi_36_34, pf_36_34, gi_36_35, pf_36_35, gr_36_36, al_3, al_4, al_5, al_6, al_7, al_8, al_9, al_10, al_12, al_13, al_14, al_16, al_17, al_19, al_20, al_22, al_23, al_24, al_26, al_27, al_28, al_29, al_30, al_31, al_32, al_33, al_35, al_37, al_38, al_39, al_40, al_41, al_42, al_43, al_44, al_45, al_46, al_47, al_48, al_49, al_50, al_51, al_52, al_53, al_54, al_55, al_56, al_57, al_58, al_59, ↓reduceIte, Option.bind_some, cI_some, cL_some, cV_some, rz_0, rz_1, e57, e6, isf, bI_0, nI_1, s57]
          rw [if_pos z, if_pos z2]
          exact g2
    · refine ⟨x, xs, Nat.le_refl _, by omega, fun h => h, fun h => by omega, fun t a b => by omega, hl, hxs, fun _ _ => rfl, fun n => ⟨n + (m + 1), by omega, ?_⟩⟩
      rw [show n + (m + 1 + 1) = n + (m + 1) + 1 by omega, F_X8_findPlan]
      simp -implicitDefEqProofs only [io_1, gr_1_0, gr_1_1, gr_1_2, gr_1_3, gr_1_4, gr_1_5, gi_1_6, pf_1_6, gi_1_7, pf_1_7, io_2, gr_2_0, gr_2_1, gr_2_2, gr_2_3, gr_2_4, gr_2_5, gr_2_6, gr_2_7, gi_2_8, pf_2_8, gi_2_9, pf_2_9, gi_2_10, pf_2_10, gi_2_11, pf_2_11, gi_2_12, pf_2_12, gi_2_13, pf_2_13, gi_2_14, pf_2_14, io_11, gr_11_0, gr_11_1, gr_11_2, io_15, gr_15_0, gr_15_1, gi_15_2, pf_15_2, gi_15_3, pf_15_3, gi_15_4, pf_15_4, gi_15_5, pf_15_5, io_18, gr_18_0, gr_18_1, gi_18_2, pf_18_2, io_21, gr_21_0, gr_21_1, gr_21_2, gr_21_3, gi_21_4, pf_21_4, gi_21_5, pf_21_5, gi_21_6, pf_21_6, gi_21_7, pf_21_7, io_34, gr_34_0, gi_34_1, pf_34_1, io_36, gi_36_0, pf_36_0, gi_36_1, pf_36_1, gr_36_2, gr_36_3, gr_36_4, gi_36_5, pf_36_5, gi_36_6, pf_36_6, gi_36_7, pf_36_7, gr_36_8, gr_36_9, gr_36_10, gr_36_11, gi_36_12, pf_36_12, gi_36_13, pf_36_13, gi_36_14, pf_36_14, gr_36_15, gr_36_16, gi_36_17, pf_36_17, gr_36_18, gr_36_19, gr_36_20, gr_36_21, gr_36_22, gi_36_23, pf_36_23, gr_36_24, gr_36_25, gi_36_26, pf_36_26, gr_36_27, gr_36_28, gr_36_29, gr_36_30, gi_36_31, pf_36_31, gr_36_32, gr_36_33, gi_36_34, pf_36_34, gi_36_35, pf_36_35, gr_36_36, al_3, al_4, al_5, al_6, al_7, al_8, al_9, al_10, al_12, al_13, al_14, al_16, al_17, al_19, al_20, al_22, al_23, al_24, al_26, al_27, al_28, al_29, al_30, al_31, al_32, al_33, al_35, al_37, al_38, al_39, al_40, al_41, al_42, al_43, al_44, al_45, al_46, al_47, al_48, al_49, al_50, al_51, al_52, al_53, al_54, al_55, al_56, al_57, al_58, al_59, ↓reduceIte, Option.bind_some, cI_some, cL_some, cV_some, rz_0, rz_1, e57, e6]
      rw [if_neg z]
theorem m_nodeS (hf : 10000000000 ≤ fu) (hd : d ≤ 9) (hf9 : f ≤ 9) (hrd : rds ≤ 30) {m c : Nat} (hcm : c + m + 1 = σ 0 0) (hC : ∀ m', m = m' + 1 → NodeM σ fu d f rds m' (c + 1)) : NodeM σ fu d f rds m c := by
  intro j
  induction j with
  | zero =>
    intro x R A I o hx hx7 r ho ht hx57 hb hba n hn2
    have hn := r.n7
    have hm := r.m6
    have l57 : (A 57).length = 7 := r.len rfl
    have ex : x = 7 := by omega
    subst ex
    rw [Nat.zero_add, Nat.one_mul] at hn2 ⊢
    obtain ⟨n, rfl⟩ : ∃ i, n = i + 3 := ⟨n - 3, by omega⟩
    have e57 : aI (enc A I) 57 (nI c) = some (nI 7 - 1) := by rw [ai_57 A I (by omega) (by omega), hx57]
    have s57 := si_57 A I (nI 7) (show c < (A 57).length by omega) (show c < 2147483648 by omega)
    have hF : FrO A I (uA A 57 ((A 57).set c (nI 7))) I := (FrO.rf A I).arr (k := 57) (xs := (A 57).set c (nI 7)) (by omega) (by rw [List.length_set])
    have e7 : aI (enc (uA A 57 ((A 57).set c (nI 7))) I) 57 (nI c) = some (nI 7) := by rw [ai_57 _ _ (by rw [uA_s, List.length_set]; omega) (by omega), uA_s, rd_set _ _ (by omega), if_pos rfl]
    have h71 : nI 7 - 1 + 1 = nI 7 := by decide
    have h67 : ¬ (nI 7 < 6) := by decide
    have h67' : (6 : Int32) < nI 7 := by decide
    refine ⟨_, I, o, n, by omega, ?_, hF, fun i hi => by rw [uA_s, rd_set _ _ (by omega), if_neg (by omega)], hb.cg (uA_n _ _ _ (by decide)) rfl rfl, UpB.rf fun R' hR' hV => ?_⟩
    · have s1 : (F_X8_findPlan fu (n + 3)).1 36 (nI d) (nI f) (nI rds) (nI c) (enc A I) = (F_X8_findPlan fu (n + 2)).2.1 36 (nI d) (nI f) (nI rds) (nI c) (enc (uA A 57 ((A 57).set c (nI 7))) I) := by
        rw [F_X8_findPlan]
        simp -implicitDefEqProofs only [n_neg (show c < 2147483648 by omega), if_false, io_1, gr_1_0, gr_1_1, gr_1_2, gr_1_3, gr_1_4, gr_1_5, gi_1_6, pf_1_6, gi_1_7, pf_1_7, io_2, gr_2_0, gr_2_1, gr_2_2, gr_2_3, gr_2_4, gr_2_5, gr_2_6, gr_2_7, gi_2_8, pf_2_8, gi_2_9, pf_2_9, gi_2_10, pf_2_10, gi_2_11, pf_2_11, gi_2_12, pf_2_12, gi_2_13, pf_2_13, gi_2_14, pf_2_14, io_11, gr_11_0, gr_11_1, gr_11_2, io_15, gr_15_0, gr_15_1, gi_15_2, pf_15_2, gi_15_3, pf_15_3, gi_15_4, pf_15_4, gi_15_5, pf_15_5, io_18, gr_18_0, gr_18_1, gi_18_2, pf_18_2, io_21, gr_21_0, gr_21_1, gr_21_2, gr_21_3, gi_21_4, pf_21_4, gi_21_5, pf_21_5, gi_21_6, pf_21_6, gi_21_7, pf_21_7, io_34, gr_34_0, gi_34_1, pf_34_1, io_36, gi_36_0, pf_36_0, gi_36_1, pf_36_1, gr_36_2, gr_36_3, gr_36_4, gi_36_5, pf_36_5, gi_36_6, pf_36_6, gi_36_7, pf_36_7, gr_36_8, gr_36_9, gr_36_10, gr_36_11, gi_36_12, pf_36_12, gi_36_13, pf_36_13, gi_36_14, pf_36_14, gr_36_15, gr_36_16, gi_36_17, pf_36_17, gr_36_18, gr_36_19, gr_36_20, gr_36_21, gr_36_22, gi_36_23, pf_36_23, gr_36_24, gr_36_25, gi_36_26, pf_36_26, gr_36_27, gr_36_28, gr_36_29, gr_36_30, gi_36_31, pf_36_31, gr_36_32, gr_36_33, gi_36_34, pf_36_34, gi_36_35, pf_36_35, gr_36_36, al_3, al_4, al_5, al_6, al_7, al_8, al_9, al_10, al_12, al_13, al_14, al_16, al_17, al_19, al_20, al_22, al_23, al_24, al_26, al_27, al_28, al_29, al_30, al_31, al_32, al_33, al_35, al_37, al_38, al_39, al_40, al_41, al_42, al_43, al_44, al_45, al_46, al_47, al_48, al_49, al_50, al_51, al_52, al_53, al_54, al_55, al_56, al_57, al_58, al_59, ↓reduceIte, Option.bind_some, cI_some, cL_some, cV_some, rz_0, rz_1, e57, h71, s57]
      have s2 : (F_X8_findPlan fu (n + 2)).2.1 36 (nI d) (nI f) (nI rds) (nI c) (enc (uA A 57 ((A 57).set c (nI 7))) I) = (F_X8_findPlan fu (n + 1)).2.2 36 (nI d) (nI f) (nI rds) (nI c) (enc (uA A 57 ((A 57).set c (nI 7))) I) := by
        rw [F_X8_findPlan]
        simp -implicitDefEqProofs only [io_1, gr_1_0, gr_1_1, gr_1_2, gr_1_3, gr_1_4, gr_1_5, gi_1_6, pf_1_6, gi_1_7, pf_1_7, io_2, gr_2_0, gr_2_1, gr_2_2, gr_2_3, gr_2_4, gr_2_5, gr_2_6, gr_2_7, gi_2_8, pf_2_8, gi_2_9, pf_2_9, gi_2_10, pf_2_10, gi_2_11, pf_2_11, gi_2_12, pf_2_12, gi_2_13, pf_2_13, gi_2_14, pf_2_14, io_11, gr_11_0, gr_11_1, gr_11_2, io_15, gr_15_0, gr_15_1, gi_15_2, pf_15_2, gi_15_3, pf_15_3, gi_15_4, pf_15_4, gi_15_5, pf_15_5, io_18, gr_18_0, gr_18_1, gi_18_2, pf_18_2, io_21, gr_21_0, gr_21_1, gr_21_2, gr_21_3, gi_21_4, pf_21_4, gi_21_5, pf_21_5, gi_21_6, pf_21_6, gi_21_7, pf_21_7, io_34, gr_34_0, gi_34_1, pf_34_1, io_36, gi_36_0, pf_36_0, gi_36_1, pf_36_1, gr_36_2, gr_36_3, gr_36_4, gi_36_5, pf_36_5, gi_36_6, pf_36_6, gi_36_7, pf_36_7, gr_36_8, gr_36_9, gr_36_10, gr_36_11, gi_36_12, pf_36_12, gi_36_13, pf_36_13, gi_36_14, pf_36_14, gr_36_15, gr_36_16, gi_36_17, pf_36_17, gr_36_18, gr_36_19, gr_36_20, gr_36_21, gr_36_22, gi_36_23, pf_36_23, gr_36_24, gr_36_25, gi_36_26, pf_36_26, gr_36_27, gr_36_28, gr_36_29, gr_36_30, gi_36_31, pf_36_31, gr_36_32, gr_36_33, gi_36_34, pf_36_34, gi_36_35, pf_36_35, gr_36_36, al_3, al_4, al_5, al_6, al_7, al_8, al_9, al_10, al_12, al_13, al_14, al_16, al_17, al_19, al_20, al_22, al_23, al_24, al_26, al_27, al_28, al_29, al_30, al_31, al_32, al_33, al_35, al_37, al_38, al_39, al_40, al_41, al_42, al_43, al_44, al_45, al_46, al_47, al_48, al_49, al_50, al_51, al_52, al_53, al_54, al_55, al_56, al_57, al_58, al_59, ↓reduceIte, Option.bind_some, cI_some, cL_some, cV_some, rz_0, rz_1, e7]
        rw [if_neg h67]
      have s3 : (F_X8_findPlan fu (n + 1)).2.2 36 (nI d) (nI f) (nI rds) (nI c) (enc (uA A 57 ((A 57).set c (nI 7))) I) = (F_X8_findPlan fu n).1 36 (nI d) (nI f) (nI rds) (nI c - 1) (enc (uA A 57 ((A 57).set c (nI 7))) I) := by
        rw [F_X8_findPlan]
        simp -implicitDefEqProofs only [io_1, gr_1_0, gr_1_1, gr_1_2, gr_1_3, gr_1_4, gr_1_5, gi_1_6, pf_1_6, gi_1_7, pf_1_7, io_2, gr_2_0, gr_2_1, gr_2_2, gr_2_3, gr_2_4, gr_2_5, gr_2_6, gr_2_7, gi_2_8, pf_2_8, gi_2_9, pf_2_9, gi_2_10, pf_2_10, gi_2_11, pf_2_11, gi_2_12, pf_2_12, gi_2_13, pf_2_13, gi_2_14, pf_2_14, io_11, gr_11_0, gr_11_1, gr_11_2, io_15, gr_15_0, gr_15_1, gi_15_2, pf_15_2, gi_15_3, pf_15_3, gi_15_4, pf_15_4, gi_15_5, pf_15_5, io_18, gr_18_0, gr_18_1, gi_18_2, pf_18_2, io_21, gr_21_0, gr_21_1, gr_21_2, gr_21_3, gi_21_4, pf_21_4, gi_21_5, pf_21_5, gi_21_6, pf_21_6, gi_21_7, pf_21_7, io_34, gr_34_0, gi_34_1, pf_34_1, io_36, gi_36_0, pf_36_0, gi_36_1, pf_36_1, gr_36_2, gr_36_3, gr_36_4, gi_36_5, pf_36_5, gi_36_6, pf_36_6, gi_36_7, pf_36_7, gr_36_8, gr_36_9, gr_36_10, gr_36_11, gi_36_12, pf_36_12, gi_36_13, pf_36_13, gi_36_14, pf_36_14, gr_36_15, gr_36_16, gi_36_17, pf_36_17, gr_36_18, gr_36_19, gr_36_20, gr_36_21, gr_36_22, gi_36_23, pf_36_23, gr_36_24, gr_36_25, gi_36_26, pf_36_26, gr_36_27, gr_36_28, gr_36_29, gr_36_30, gi_36_31, pf_36_31, gr_36_32, gr_36_33, gi_36_34, pf_36_34, gi_36_35, pf_36_35, gr_36_36, al_3, al_4, al_5, al_6, al_7, al_8, al_9, al_10, al_12, al_13, al_14, al_16, al_17, al_19, al_20, al_22, al_23, al_24, al_26, al_27, al_28, al_29, al_30, al_31, al_32, al_33, al_35, al_37, al_38, al_39, al_40, al_41, al_42, al_43, al_44, al_45, al_46, al_47, al_48, al_49, al_50, al_51, al_52, al_53, al_54, al_55, al_56, al_57, al_58, al_59, ↓reduceIte, Option.bind_some, cI_some, cL_some, cV_some, rz_0, rz_1, e7, n_m1]
        rw [if_pos h67']
      exact s1.trans (s2.trans s3)
    · have := dg_lt (hV.1.le hm (show c < σ 0 0 by omega))
      have := hR'.2
      omega
  | succ j ih =>
    intro x R A I o hx hx7 r ho ht hx57 hb hba n hn2
    have hn := r.n7
    have hm := r.m6
    have l57 : (A 57).length = 7 := r.len rfl
    have hc : c < σ 0 0 := by omega
    have ek : (j + 1 + 1) * (PP m + 9) = (j + 1) * (PP m + 9) + (PP m + 9) := Nat.succ_mul _ _
    rw [ek] at hn2 ⊢
    generalize hJ : (j + 1) * (PP m + 9) = J at *
    obtain ⟨n, rfl⟩ : ∃ i, n = i + (7 - x + 1) + 1 := ⟨n - (7 - x + 2), by omega⟩
    have e57 : aI (enc A I) 57 (nI c) = some (nI x - 1) := by rw [ai_57 A I (by omega) (by omega), hx57]
    have s57 := si_57 A I (nI x) (show c < (A 57).length by omega) (show c < 2147483648 by omega)
    have hx1 : nI x - 1 + 1 = nI x := Int32.sub_add_cancel _ _
    obtain ⟨y, zs, a1, a2, a3, a4, a5, a6, a7, a8, a9⟩ := m_nextD (fu := fu) (d := d) (f := f) (rds := rds) (by omega) hc r ho (7 - x) x ((A 57).set c (nI x)) (by omega) (by rw [List.length_set]; exact l57) (fun i hi => by rw [rd_set _ _ (by omega), if_neg (by omega)]; exact ht i hi) (by rw [rd_set _ _ (by omega), if_pos rfl])
    obtain ⟨n', g1, g2⟩ := a9 n
    have s1 : (F_X8_findPlan fu (n + (7 - x + 1) + 1)).1 36 (nI d) (nI f) (nI rds) (nI c) (enc A I) = (F_X8_findPlan fu n').2.2 36 (nI d) (nI f) (nI rds) (nI c) (enc (uA A 57 zs) I) := by
      rw [F_X8_findPlan]
      simp -implicitDefEqProofs only [n_neg (show c < 2147483648 by omega), if_false, io_1, gr_1_0, gr_1_1, gr_1_2, gr_1_3, gr_1_4, gr_1_5, gi_1_6, pf_1_6, gi_1_7, pf_1_7, io_2, gr_2_0, gr_2_1, gr_2_2, gr_2_3, gr_2_4, gr_2_5, gr_2_6, gr_2_7, gi_2_8, pf_2_8, gi_2_9, pf_2_9, gi_2_10, pf_2_10, gi_2_11, pf_2_11, gi_2_12, pf_2_12, gi_2_13, pf_2_13, gi_2_14, pf_2_14, io_11, gr_11_0, gr_11_1, gr_11_2, io_15, gr_15_0, gr_15_1, gi_15_2, pf_15_2, gi_15_3, pf_15_3, gi_15_4, pf_15_4, gi_15_5, pf_15_5, io_18, gr_18_0, gr_18_1, gi_18_2, pf_18_2, io_21, gr_21_0, gr_21_1, gr_21_2, gr_21_3, gi_21_4, pf_21_4, gi_21_5, pf_21_5, gi_21_6, pf_21_6, gi_21_7, pf_21_7, io_34, gr_34_0, gi_34_1, pf_34_1, io_36, gi_36_0, pf_36_0, gi_36_1, pf_36_1, gr_36_2, gr_36_3, gr_36_4, gi_36_5, pf_36_5, gi_36_6, pf_36_6, gi_36_7, pf_36_7, gr_36_8, gr_36_9, gr_36_10, gr_36_11, gi_36_12, pf_36_12, gi_36_13, pf_36_13, gi_36_14, pf_36_14, gr_36_15, gr_36_16, gi_36_17, pf_36_17, gr_36_18, gr_36_19, gr_36_20, gr_36_21, gr_36_22, gi_36_23, pf_36_23, gr_36_24, gr_36_25, gi_36_26, pf_36_26, gr_36_27, gr_36_28, gr_36_29, gr_36_30, gi_36_31, pf_36_31, gr_36_32, gr_36_33, gi_36_34, pf_36_34, gi_36_35, pf_36_35, gr_36_36, al_3, al_4, al_5, al_6, al_7, al_8, al_9, al_10, al_12, al_13, al_14, al_16, al_17, al_19, al_20, al_22, al_23, al_24, al_26, al_27, al_28, al_29, al_30, al_31, al_32, al_33, al_35, al_37, al_38, al_39, al_40, al_41, al_42, al_43, al_44, al_45, al_46, al_47, al_48, al_49, al_50, al_51, al_52, al_53, al_54, al_55, al_56, al_57, al_58, al_59, ↓reduceIte, Option.bind_some, cI_some, cL_some, cV_some, rz_0, rz_1, e57, hx1, s57]
      exact g2
    rw [s1]
    have hF : FrO A I (uA A 57 zs) I := (FrO.rf A I).arr (k := 57) (xs := zs) (by omega) (by rw [a6, l57])
    have r1 := hF.Fr.R r
    have z57 : ∀ i, i ≠ c → rd zs i = rd (A 57) i := fun i hi => by rw [a8 i hi, rd_set _ _ (by omega), if_neg hi]
    by_cases y7 : y = 7
    · -- no digit is left
      obtain ⟨n', rfl⟩ : ∃ i, n' = i + 1 := ⟨n' - 1, by omega⟩
      have e7 : aI (enc (uA A 57 zs) I) 57 (nI c) = some (nI 7) := by rw [ai_57 _ _ (by rw [uA_s]; omega) (by omega), uA_s, a7, y7]
      have h67' : (6 : Int32) < nI 7 := by decide
      refine ⟨_, I, o, n', by omega, ?_, hF, fun i hi => by rw [uA_s]; exact z57 i (by omega), hb.cg (uA_n _ _ _ (by decide)) rfl rfl, UpB.rf fun R' hR' hV => ?_⟩
      · rw [F_X8_findPlan]
        simp -implicitDefEqProofs only [io_1, gr_1_0, gr_1_1, gr_1_2, gr_1_3, gr_1_4, gr_1_5, gi_1_6, pf_1_6, gi_1_7, pf_1_7, io_2, gr_2_0, gr_2_1, gr_2_2, gr_2_3, gr_2_4, gr_2_5, gr_2_6, gr_2_7, gi_2_8, pf_2_8, gi_2_9, pf_2_9, gi_2_10, pf_2_10, gi_2_11, pf_2_11, gi_2_12, pf_2_12, gi_2_13, pf_2_13, gi_2_14, pf_2_14, io_11, gr_11_0, gr_11_1, gr_11_2, io_15, gr_15_0, gr_15_1, gi_15_2, pf_15_2, gi_15_3, pf_15_3, gi_15_4, pf_15_4, gi_15_5, pf_15_5, io_18, gr_18_0, gr_18_1, gi_18_2, pf_18_2, io_21, gr_21_0, gr_21_1, gr_21_2, gr_21_3, gi_21_4, pf_21_4, gi_21_5, pf_21_5, gi_21_6, pf_21_6, gi_21_7, pf_21_7, io_34, gr_34_0, gi_34_1, pf_34_1, io_36, gi_36_0, pf_36_0, gi_36_1, pf_36_1, gr_36_2, gr_36_3, gr_36_4, gi_36_5, pf_36_5, gi_36_6, pf_36_6, gi_36_7, pf_36_7, gr_36_8, gr_36_9, gr_36_10, gr_36_11, gi_36_12, pf_36_12, gi_36_13, pf_36_13, gi_36_14, pf_36_14, gr_36_15, gr_36_16, gi_36_17, pf_36_17, gr_36_18, gr_36_19, gr_36_20, gr_36_21, gr_36_22, gi_36_23, pf_36_23, gr_36_24, gr_36_25, gi_36_26, pf_36_26, gr_36_27, gr_36_28, gr_36_29, gr_36_30, gi_36_31, pf_36_31, gr_36_32, gr_36_33, gi_36_34, pf_36_34, gi_36_35, pf_36_35, gr_36_36, al_3, al_4, al_5, al_6, al_7, al_8, al_9, al_10, al_12, al_13, al_14, al_16, al_17, al_19, al_20, al_22, al_23, al_24, al_26, al_27, al_28, al_29, al_30, al_31, al_32, al_33, al_35, al_37, al_38, al_39, al_40, al_41, al_42, al_43, al_44, al_45, al_46, al_47, al_48, al_49, al_50, al_51, al_52, al_53, al_54, al_55, al_56, al_57, al_58, al_59, ↓reduceIte, Option.bind_some, cI_some, cL_some, cV_some, rz_0, rz_1, e7, n_m1]
        rw [if_pos h67']
      · have h1 := dg_lt (hV.1.le hm hc)
        have h2 := hR'.2
        have : ¬ x ≤ 6 := fun q => by have := a3 q; omega
        omega
    have y6 : y ≤ 6 := by omega
    obtain ⟨u1, u2, u3, u4⟩ := unD_dg y6
    have ag : ∀ i, i < c → updN R c (unD y) i = R i := fun i hi => updN_o R _ (by omega)
    have hok : okR σ (updN R c (unD y)) (c + 1) := by
      refine ⟨fun i hi hr => ?_, fun i k h1 h2 hr => ?_⟩
      · by_cases q : i = c
        · rw [q, updN_c] at hr ⊢
          have hy : y < 6 := by
            apply Nat.lt_of_not_le
            intro w
            exact hr (u3.mpr (by omega))
          have hfr := a4 hy
          unfold fre at hfr
          rw [Bool.and_eq_true, Bool.and_eq_true, decide_eq_true_iff] at hfr
          rw [u4 hy, Nat.add_sub_cancel]
          exact ⟨hfr.1.1, fun w => by have := hfr.1.2; simp [w] at this⟩
        · rw [ag i (by omega)] at hr ⊢; exact ho.1 i (by omega) hr
      · rw [ag i (by omega)] at hr ⊢
        by_cases q : k = c
        · rw [q, updN_c]
          intro w
          have hy : y < 6 := by
            apply Nat.lt_of_not_le
            intro w2
            exact hr (by rw [w]; exact u3.mpr (by omega))
          have hfr := a4 hy
          unfold fre at hfr
          rw [Bool.and_eq_true] at hfr
          have hus := (usd_iff R c y).mpr ⟨i, by omega, by rw [w, u4 hy]⟩
          rw [hus] at hfr
          exact absurd hfr.2 (by decide)
        · rw [ag k (by omega)]; exact ho.2 i k h1 (by omega) hr
    have htr : TR (updN R c (unD y)) (c + 1) (uA A 57 zs) := fun i hi => by
      rw [uA_s]
      by_cases q : i = c
      · rw [q, updN_c, u1, a7]
      · rw [ag i (by omega), z57 i q]; exact ht i (by omega)
    have glx : lx (updN R c (unD y)) (c + 1) = lx R c * 7 + y := by rw [lx, updN_c, u1, lx_congr c ag]
    obtain ⟨A1, I1, o1, n1, d1, d2, d3, d4, d5, d6⟩ := m_digit hf hd hf9 hrd hcm hC r1 hok htr (hb.cg (uA_n _ _ _ (by decide)) rfl rfl) (fun b hb2 => by rw [glx]; have := hba b hb2; omega) (n := n') (by omega)
    have r2 := d3.Fr.R r1
    obtain ⟨A2, I2, o2, n2, e1, e2, e3, e4, e5, e6⟩ := ih (y + 1) R A1 I1 o1 (by omega) (by omega) r2 ho (fun i hi => by rw [d4 i (by omega), uA_s, z57 i (by omega)]; exact ht i hi) (by rw [d4 c (by omega), uA_s, a7, n_sub1]) d5 (fun b hb2 => by
      rcases d6.1 with q | ⟨b', q1, q2, q3⟩
      · rw [q] at hb2; have := hba b hb2; omega
      · rw [hb2] at q1
        cases q1
        have e : lx b (c + 1) = lx (updN R c (unD y)) (c + 1) := lx_congr _ q2
        rw [e, glx]
        omega) n1 (by omega)
    refine ⟨A2, I2, o2, n2, by omega, d2.trans e2, hF.tr (d3.tr e3), fun i hi => by rw [e4 i hi, d4 i (by omega), uA_s, z57 i (by omega)], e5, UpB.tr d6 e6 (fun R' h => ?_) (fun R' h => ?_) (fun R' h hV => ?_)⟩
    · refine ⟨fun i hi => by rw [h i (by omega), ag i hi], ?_⟩
      rw [h c (by omega), updN_c, u1]
      exact a1
    · exact ⟨h.1, by have := h.2; omega⟩
    · obtain ⟨h1, h2⟩ := h
      have hr6 := hV.1.le hm hc
      rcases Nat.lt_trichotomy (dg (R' c)) y with q | q | q
      · -- it isn't free
        exfalso
        have hdg := dg_6 hr6
        have h6 : dg (R' c) < 6 := by omega
        have h0 := hdg.1.mp h6
        have hnf := a5 (dg (R' c)) h2 q h6
        rw [hdg.2.1 h0] at hnf
        have v := hV.1.1 c hc h0
        have hus : usd R c (R' c - 1) = false := by
          apply Bool.eq_false_iff.mpr
          intro w
          obtain ⟨i, hi, hr⟩ := (usd_iff R c (R' c - 1)).mp w
          have hri := h1 i hi
          exact hV.1.2 i c hi hc (by rw [hri, hr]; exact Nat.succ_ne_zero _) (by rw [hri, hr]; omega)
        unfold fre at hnf
        rw [decide_eq_true v.1, hus] at hnf
        have : (σ 8 (R' c - 1) == 100) = false := by simp [v.2]
        rw [this] at hnf
        exact absurd hnf (by decide)
      · refine Or.inl fun i hi => ?_
        by_cases w : i = c
        · rw [w, updN_c]
          exact dg_inj hr6 u2 (by rw [q, u1])
        · rw [ag i (by omega), h1 i (by omega)]
      · exact Or.inr ⟨h1, q⟩
theorem m_nodeA (hf : 10000000000 ≤ fu) (hd : d ≤ 9) (hf9 : f ≤ 9) (hrd : rds ≤ 30) : ∀ m c, c + m + 1 = σ 0 0 → NodeM σ fu d f rds m c := by
  intro m
  induction m with
  | zero => intro c hc; exact m_nodeS hf hd hf9 hrd hc (fun m' h => by omega)
  | succ m ih =>
    intro c hc
    refine m_nodeS hf hd hf9 hrd hc (fun m' h => ?_)
    have e : m = m' := by omega
    subst e
    exact ih (c + 1) (by omega)
end PH
