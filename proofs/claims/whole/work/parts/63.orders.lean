section OX
variable {σ : SG} {A : Nat → List Int32} {I : Nat → Nat → Int32} {fu : Nat} {d : Nat}
/-- what looking whether a stone can be laid leaves changed -/
def FrL (A : Nat → List Int32) (I : Nat → Nat → Int32) (A1 : Nat → List Int32) (I1 : Nat → Nat → Int32) : Prop := (∀ k, k ≠ 52 → k ≠ 53 → A1 k = A k) ∧ (∀ k, (A1 k).length = (A k).length) ∧ ∀ o j, ¬ (o = 36 ∧ j = 26) → I1 o j = I o j
theorem FrL.rf (A : Nat → List Int32) (I : Nat → Nat → Int32) : FrL A I A I := ⟨fun _ _ _ => rfl, fun _ => rfl, fun _ _ _ => rfl⟩
theorem FrL.tr {A B C : Nat → List Int32} {I J K : Nat → Nat → Int32} (h : FrL A I B J) (g : FrL B J C K) : FrL A I C K :=
  ⟨fun k a b => (g.1 k a b).trans (h.1 k a b), fun k => (g.2.1 k).trans (h.2.1 k), fun o j a => (g.2.2 o j a).trans (h.2.2 o j a)⟩
theorem FrL.Fr {A B : Nat → List Int32} {I J : Nat → Nat → Int32} (h : FrL A I B J) : Fr A I B J :=
  ⟨fun k hk => h.1 k (fun z => by rw [z] at hk; cases hk) (fun z => by rw [z] at hk; cases hk), h.2.1, fun o j hj => h.2.2 o j (fun z => by rw [z.1, z.2] at hj; cases hj)⟩
theorem m_isLaid (hf : 10000000000 ≤ fu) (r : RR σ A I) (hd : d ≤ 9) {s c : Nat} (hs2 : s < 128) (hc : c < σ 0 0) (hst : s.testBit c = false) (h7 : σ 7 c ≠ 0) :
    ∃ A1 I1, U_X8_isLaid fu [.ref 36, .int (nI s), .int (nI c), .int (nI d)] (enc A I) = some (some (.int (bI (c + 1 ≤ gN σ d s + (if kndB σ 2 c = true then 1 else 0)))), enc A1 I1) ∧ FrL A I A1 I1 := by
  have hn := r.n7
  have l52 : (A 52).length = 7 := r.len rfl
  -- what lies by a set
  have loop1 : ∀ m k xs, k + m = σ 0 0 → xs.length = 7 → (∀ i, i < k → rd xs i = ro (Lt σ s i)) → ∃ ys, ys.length = 7 ∧ (∀ i, i < σ 0 0 → rd ys i = ro (Lt σ s i)) ∧ ∀ n, (F_X8_isLaid fu (n + (m + 1))).1 36 (nI s) (nI c) (nI d) (nI k) (enc (uA A 52 xs) I) = (F_X8_isLaid fu (n + 1)).1 36 (nI s) (nI c) (nI d) (nI (σ 0 0)) (enc (uA A 52 ys) I) := by
    intro m
    induction m with
    | zero => intro k xs hk hl h; exact ⟨xs, hl, fun i hi => h i (by omega), fun n => by rw [show k = σ 0 0 by omega]⟩
    | succ m ih =>
      intro k xs hk hl h
      have hlk : k < xs.length := by omega
      obtain ⟨ys, g1, g2, g3⟩ := ih (k + 1) (xs.set k (ro (Lt σ s k))) (by omega) (by rw [List.length_set]; exact hl) (fun i hi => by
        rw [rd_set _ _ hlk]
        by_cases y : i = k
        · rw [if_pos y, y]
        · rw [if_neg y]; exact h i (by omega))
      refine ⟨ys, g1, g2, fun n => ?_⟩
      have r2 : RR σ (uA A 52 xs) I := r.sc rfl (by rw [hl]; exact (r.len (k := 52) rfl).symm)
      have s52 := fun x => si_52 (uA A 52 xs) I x (show k < _ by rw [uA_s]; exact hlk) (show k < 2147483648 by omega)
      rw [show n + (m + 1 + 1) = n + (m + 1) + 1 by omega, F_X8_isLaid]
      simp only [io_1, gr_1_0, gr_1_1, gr_1_2, gr_1_3, gr_1_4, gr_1_5, gi_1_6, pf_1_6, gi_1_7, pf_1_7, io_2, gr_2_0, gr_2_1, gr_2_2, gr_2_3, gr_2_4, gr_2_5, gr_2_6, gr_2_7, gi_2_8, pf_2_8, gi_2_9, pf_2_9, gi_2_10, pf_2_10, gi_2_11, pf_2_11, gi_2_12, pf_2_12, gi_2_13, pf_2_13, gi_2_14, pf_2_14, io_11, gr_11_0, gr_11_1, gr_11_2, io_15, gr_15_0, gr_15_1, gi_15_2, pf_15_2, gi_15_3, pf_15_3, gi_15_4, pf_15_4, gi_15_5, pf_15_5, io_18, gr_18_0, gr_18_1, gi_18_2, pf_18_2, io_21, gr_21_0, gr_21_1, gr_21_2, gr_21_3, gi_21_4, pf_21_4, gi_21_5, pf_21_5, gi_21_6, pf_21_6, gi_21_7, pf_21_7, io_34, gr_34_0, gi_34_1, pf_34_1, io_36, gi_36_0, pf_36_0, gi_36_1, pf_36_1, gr_36_2, gr_36_3, gr_36_4, gi_36_5, pf_36_5, gi_36_6, pf_36_6, gi_36_7, pf_36_7, gr_36_8, gr_36_9, gr_36_10, gr_36_11, gi_36_12, pf_36_12, gi_36_13, pf_36_13, gi_36_14, pf_36_14, gr_36_15, gr_36_16, gi_36_17, pf_36_17, gr_36_18, gr_36_19, gr_36_20, gr_36_21, gr_36_22, gi_36_23, pf_36_23, gr_36_24, gr_36_25, gi_36_26, pf_36_26, gr_36_27, gr_36_28, gr_36_29, gr_36_30, gi_36_31, pf_36_31, gr_36_32, gr_36_33, gi_36_34, pf_36_34, gi_36_35, pf_36_35, gr_36_36, al_3, al_4, al_5, al_6, al_7, al_8, al_9, al_10, al_12, al_13, al_14, al_16, al_17, al_19, al_20, al_22, al_23, al_24, al_26, al_27, al_28, al_29, al_30, al_31, al_32, al_33, al_35, al_37, al_38, al_39, al_40, al_41, al_42, al_43, al_44, al_45, al_46, al_47, al_48, al_49, al_50, al_51, al_52, al_53, al_54, al_55, al_56, al_57, al_58, al_59, ↓reduceIte, Option.bind_some, cI_some, cL_some, cV_some, rz_0, rz_1, r.i36_5, n_lt (show k < 2147483648 by omega) (show σ 0 0 < 2147483648 by omega), m_has (show s < 2147483648 by omega) (show k < 31 by omega), bI_0, r2.a43 (show k < σ 0 0 by omega), s52, uA_s, uA_uA, nI_1]
      rw [if_pos (by omega)]
      have gn := g3 n
      have lt1 : s.testBit k = true → Lt σ s k = σ 7 k := fun z => if_pos z
      have lt0 : ¬ s.testBit k = true → Lt σ s k = 0 := fun z => if_neg z
      by_cases z : s.testBit k = true
      · rw [if_neg (fun y => y z)]
        rw [lt1 z] at gn
        exact gn
      · rw [if_pos z]
        rw [lt0 z] at gn
        exact gn
  obtain ⟨ys, g1, g2, g3⟩ := loop1 (σ 0 0) 0 (A 52) (by omega) l52 (fun i hi => by omega)
  rw [uA_self] at g3
  obtain ⟨n, hfe⟩ : ∃ n, fu = n + (σ 0 0 + 1) := ⟨fu - (σ 0 0 + 1), by omega⟩
  have g3n := g3 n
  rw [← hfe] at g3n
  have hF1 : Fr A I (uA A 52 ys) (uI I 36 26 (nI (σ 0 2))) := Fr.int (Fr.arr (Fr.rf A I) rfl (by rw [g1, l52])) rfl
  have r1 := hF1.R r
  have hLt : ∀ i, i < σ 0 0 → ∀ t, Lt σ s i = t + 1 → t < σ 0 3 := fun i hi t ht => by
    unfold Lt Lst at ht
    by_cases y : s.testBit i = true
    · rw [if_pos y] at ht; exact (r.row hi ht).1
    · rw [if_neg y] at ht; omega
  have k1 : Lk σ (uA A 52 ys) (uI I 36 26 (nI (σ 0 2))) (Lt σ s) (σ 0 2) := ⟨fun i hi => ⟨by rw [uA_s]; exact g2 i hi, hLt i hi⟩, uI_s _ _ _ _, r.1.2.2.2.1⟩
  obtain ⟨zs, f, f1, f2, f3, D, f5⟩ := m_layFar (fu := fu) hf k1 r1 hd (show 0 ≤ σ 0 0 + 1 by omega)
  rw [show nI 0 = (0 : Int32) from rfl] at f5
  have l52b : c < (uA (uA A 52 ys) 53 zs 52).length := by rw [uA_n _ _ _ (by decide), uA_s]; omega
  have s52 := si_52 (uA (uA A 52 ys) 53 zs) (uI I 36 26 (nI (σ 0 2))) (ro (σ 7 c)) l52b (show c < 2147483648 by omega)
  rw [uA_n (uA A 52 ys) 53 zs (show (52 : Nat) ≠ 53 by decide), uA_s] at s52
  obtain ⟨B, hB⟩ : ∃ B, B = uA (uA (uA A 52 ys) 53 zs) 52 (ys.set c (ro (σ 7 c))) := ⟨_, rfl⟩
  rw [← hB] at s52
  have hFL : FrL A I B (uI I 36 26 (nI (σ 0 2))) := by
    refine ⟨fun k a b => by rw [hB, uA_n _ _ _ a, uA_n _ _ _ b, uA_n _ _ _ a], fun k => ?_, fun o j a => ?_⟩
    · rw [hB]
      by_cases z1 : k = 52
      · rw [z1, uA_s, List.length_set, g1, l52]
      · rw [uA_n _ _ _ z1]
        by_cases z2 : k = 53
        · rw [z2, uA_s, f1]; exact (r.len (k := 53) rfl).symm
        · rw [uA_n _ _ _ z2, uA_n _ _ _ z1]
    · unfold uI; rw [if_neg a]
  have rB := hFL.Fr.R r
  obtain ⟨L', hL'⟩ : ∃ L' : Nat → Nat, ∀ i, L' i = if i = c then σ 7 c else Lt σ s i := ⟨_, fun _ => rfl⟩
  have kB : Lk σ B (uI I 36 26 (nI (σ 0 2))) L' (σ 0 2) := by
    refine ⟨fun i hi => ⟨?_, fun t ht => ?_⟩, uI_s _ _ _ _, r.1.2.2.2.1⟩
    · rw [hB, uA_s, rd_set _ _ (by omega), hL' i]
      by_cases y : i = c
      · rw [if_pos y, if_pos y]
      · rw [if_neg y, if_neg y]; exact g2 i hi
    · rw [hL' i] at ht
      by_cases y : i = c
      · rw [if_pos y] at ht; rw [← y] at ht; exact (r.row hi ht).1
      · rw [if_neg y] at ht; exact hLt i hi t ht
  have B53 : B 53 = zs := by rw [hB, uA_n _ _ _ (by decide), uA_s]
  -- the mathematics
  have Sc : Sd σ (Lt σ s) (σ 0 2) (c + 1) = false := by
    unfold Sd
    refine decide_eq_false (fun z => ?_)
    have hl0 : Lt σ s c = 0 := if_neg (show ¬ s.testBit c = true by rw [hst]; exact Bool.false_ne_true)
    rw [Nat.add_sub_cancel, hl0] at z
    omega
  have Sat : ∀ p, Sd σ (Lt σ s) (σ 0 2) p = true → ez σ (Lt σ s) p = ez σ L' p := fun p hp => by
    have hpc : p ≠ c + 1 := fun z => by rw [z, Sc] at hp; cases hp
    unfold ez
    by_cases y : p = 0 ∨ p = σ 0 0 + 1
    · rw [if_pos y, if_pos y]
    · have e : L' (p - 1) = Lt σ s (p - 1) := by rw [hL', if_neg (by omega)]
      rw [if_neg y, if_neg y, e]
  have R0 := rw_of σ (Lt σ s) (σ 0 2)
  have R' : Rw (σ 0 0) (Sd σ (Lt σ s) (σ 0 2)) (ez σ L') := ⟨R0.1, R0.2.1, (rw_of σ L' 0).2.2.1, (rw_of σ L' 0).2.2.2.1, ez1 σ L'⟩
  have gE : grN (σ 0 0) (Sd σ (Lt σ s) (σ 0 2)) (ez σ L') d = gN σ d s := by
    unfold gN grN
    exact gr_congr _ _ _ fun i hi => ⟨rfl, fun h => (Sat _ h).symm⟩
  have eE : ez σ L' (c + 1) = if kndB σ 2 c = true then 1 else 0 := by
    have h2 := r.k2 c hc h7
    unfold ez kndB
    rw [if_neg (by omega), Nat.add_sub_cancel, hL', if_pos rfl]
    by_cases y : σ 3 (σ 7 c - 1) = 2
    · rw [if_pos ⟨h7, y⟩, if_pos (decide_eq_true ⟨h7, by omega⟩)]
    · rw [if_neg (fun z => y z.2), if_neg (fun z => y (by have := (of_decide_eq_true z).2; omega))]
  have nearI : (∃ p, p ≤ σ 0 0 ∧ (p ≠ c + 1 ∧ f p < 1000000 ∧ near (ez σ L') d p (c + 1))) ↔ c + 1 ≤ gN σ d s + (if kndB σ 2 c = true then 1 else 0) := by
    rw [← gE, ← eE, grN_near R' (show 1 ≤ c + 1 by omega) (by omega) Sc]
    constructor
    · rintro ⟨p, a, b, e, g⟩
      exact ⟨p, a, b, (rea.congr R0.1 Sat).mp ((D.i0 R0 hn (by omega)).mp e), g⟩
    · rintro ⟨p, a, b, e, g⟩
      exact ⟨p, a, b, (D.i0 R0 hn (by omega)).mpr ((rea.congr R0.1 Sat).mpr e), g⟩
  have loop2 : ∀ m p n, p + m = σ 0 0 + 1 → m < n → (∀ t, t < p → ¬ (t ≠ c + 1 ∧ f t < 1000000 ∧ near (ez σ L') d t (c + 1))) → (F_X8_isLaid fu n).2 36 (nI c) (nI d) (nI p) (enc B (uI I 36 26 (nI (σ 0 2)))) = some (some (.int (bI (c + 1 ≤ gN σ d s + (if kndB σ 2 c = true then 1 else 0)))), enc B (uI I 36 26 (nI (σ 0 2)))) := by
    intro m
    induction m with
    | zero =>
      intro p n hp hm h
      obtain ⟨n, rfl⟩ : ∃ k, n = k + 1 := ⟨n - 1, by omega⟩
      rw [F_X8_isLaid]
      simp only [io_1, gr_1_0, gr_1_1, gr_1_2, gr_1_3, gr_1_4, gr_1_5, gi_1_6, pf_1_6, gi_1_7, pf_1_7, io_2, gr_2_0, gr_2_1, gr_2_2, gr_2_3, gr_2_4, gr_2_5, gr_2_6, gr_2_7, gi_2_8, pf_2_8, gi_2_9, pf_2_9, gi_2_10, pf_2_10, gi_2_11, pf_2_11, gi_2_12, pf_2_12, gi_2_13, pf_2_13, gi_2_14, pf_2_14, io_11, gr_11_0, gr_11_1, gr_11_2, io_15, gr_15_0, gr_15_1, gi_15_2, pf_15_2, gi_15_3, pf_15_3, gi_15_4, pf_15_4, gi_15_5, pf_15_5, io_18, gr_18_0, gr_18_1, gi_18_2, pf_18_2, io_21, gr_21_0, gr_21_1, gr_21_2, gr_21_3, gi_21_4, pf_21_4, gi_21_5, pf_21_5, gi_21_6, pf_21_6, gi_21_7, pf_21_7, io_34, gr_34_0, gi_34_1, pf_34_1, io_36, gi_36_0, pf_36_0, gi_36_1, pf_36_1, gr_36_2, gr_36_3, gr_36_4, gi_36_5, pf_36_5, gi_36_6, pf_36_6, gi_36_7, pf_36_7, gr_36_8, gr_36_9, gr_36_10, gr_36_11, gi_36_12, pf_36_12, gi_36_13, pf_36_13, gi_36_14, pf_36_14, gr_36_15, gr_36_16, gi_36_17, pf_36_17, gr_36_18, gr_36_19, gr_36_20, gr_36_21, gr_36_22, gi_36_23, pf_36_23, gr_36_24, gr_36_25, gi_36_26, pf_36_26, gr_36_27, gr_36_28, gr_36_29, gr_36_30, gi_36_31, pf_36_31, gr_36_32, gr_36_33, gi_36_34, pf_36_34, gi_36_35, pf_36_35, gr_36_36, al_3, al_4, al_5, al_6, al_7, al_8, al_9, al_10, al_12, al_13, al_14, al_16, al_17, al_19, al_20, al_22, al_23, al_24, al_26, al_27, al_28, al_29, al_30, al_31, al_32, al_33, al_35, al_37, al_38, al_39, al_40, al_41, al_42, al_43, al_44, al_45, al_46, al_47, al_48, al_49, al_50, al_51, al_52, al_53, al_54, al_55, al_56, al_57, al_58, al_59, ↓reduceIte, Option.bind_some, cI_some, cL_some, cV_some, rz_0, rz_1, rB.i36_5, n_lt (show σ 0 0 < 2147483648 by omega) (show p < 2147483648 by omega)]
      rw [if_pos (by omega), bI_f (fun z => by
        obtain ⟨t, a, b⟩ := nearI.mpr z
        exact h t (by omega) b)]
    | succ m ih =>
      intro p n hp hm h
      obtain ⟨n, rfl⟩ : ∃ k, n = k + 1 := ⟨n - 1, by omega⟩
      have ef : aI (enc B (uI I 36 26 (nI (σ 0 2)))) 53 (nI p) = some (nI (f p)) := by rw [ai_53 _ _ (by rw [B53]; omega) (by omega), B53, f2 p (by omega)]
      have hf3 := f3 p (by omega)
      have e6 : (nI (f p) < 1000000) = (f p < 1000000) := n_lt (by omega) (by decide)
      rw [F_X8_isLaid]
      simp only [io_1, gr_1_0, gr_1_1, gr_1_2, gr_1_3, gr_1_4, gr_1_5, gi_1_6, pf_1_6, gi_1_7, pf_1_7, io_2, gr_2_0, gr_2_1, gr_2_2, gr_2_3, gr_2_4, gr_2_5, gr_2_6, gr_2_7, gi_2_8, pf_2_8, gi_2_9, pf_2_9, gi_2_10, pf_2_10, gi_2_11, pf_2_11, gi_2_12, pf_2_12, gi_2_13, pf_2_13, gi_2_14, pf_2_14, io_11, gr_11_0, gr_11_1, gr_11_2, io_15, gr_15_0, gr_15_1, gi_15_2, pf_15_2, gi_15_3, pf_15_3, gi_15_4, pf_15_4, gi_15_5, pf_15_5, io_18, gr_18_0, gr_18_1, gi_18_2, pf_18_2, io_21, gr_21_0, gr_21_1, gr_21_2, gr_21_3, gi_21_4, pf_21_4, gi_21_5, pf_21_5, gi_21_6, pf_21_6, gi_21_7, pf_21_7, io_34, gr_34_0, gi_34_1, pf_34_1, io_36, gi_36_0, pf_36_0, gi_36_1, pf_36_1, gr_36_2, gr_36_3, gr_36_4, gi_36_5, pf_36_5, gi_36_6, pf_36_6, gi_36_7, pf_36_7, gr_36_8, gr_36_9, gr_36_10, gr_36_11, gi_36_12, pf_36_12, gi_36_13, pf_36_13, gi_36_14, pf_36_14, gr_36_15, gr_36_16, gi_36_17, pf_36_17, gr_36_18, gr_36_19, gr_36_20, gr_36_21, gr_36_22, gi_36_23, pf_36_23, gr_36_24, gr_36_25, gi_36_26, pf_36_26, gr_36_27, gr_36_28, gr_36_29, gr_36_30, gi_36_31, pf_36_31, gr_36_32, gr_36_33, gi_36_34, pf_36_34, gi_36_35, pf_36_35, gr_36_36, al_3, al_4, al_5, al_6, al_7, al_8, al_9, al_10, al_12, al_13, al_14, al_16, al_17, al_19, al_20, al_22, al_23, al_24, al_26, al_27, al_28, al_29, al_30, al_31, al_32, al_33, al_35, al_37, al_38, al_39, al_40, al_41, al_42, al_43, al_44, al_45, al_46, al_47, al_48, al_49, al_50, al_51, al_52, al_53, al_54, al_55, al_56, al_57, al_58, al_59, ↓reduceIte, Option.bind_some, cI_some, cL_some, cV_some, rz_0, rz_1, rB.i36_5, n_lt (show σ 0 0 < 2147483648 by omega) (show p < 2147483648 by omega), nI_1, n_eq (show p < 2147483648 by omega) (show c + 1 < 2147483648 by omega), ef, e6, m_isStride (show 1000 ≤ fu by omega) kB rB (show p ≤ σ 0 0 + 1 by omega) (show c + 1 ≤ σ 0 0 + 1 by omega) hd, bI_0]
      have nx : ¬ (p ≠ c + 1 ∧ f p < 1000000 ∧ near (ez σ L') d p (c + 1)) → _ := fun z => ih (p + 1) n (by omega) (by omega) (fun t ht => by
        by_cases y : t = p
        · rw [y]; exact z
        · exact h t (by omega))
      rw [if_neg (by omega)]
      by_cases z1 : p = c + 1
      · rw [if_pos z1]; exact nx (fun y => y.1 z1)
      · rw [if_neg z1]
        by_cases z2 : f p < 1000000
        · rw [if_pos z2]
          by_cases z3 : near (ez σ L') d p (c + 1)
          · rw [if_neg (fun y => y z3), bI_t (nearI.mp ⟨p, by omega, z1, z2, z3⟩)]
          · rw [if_pos z3]; exact nx (fun y => z3 y.2.2)
        · rw [if_neg z2]; exact nx (fun y => z2 y.2.1)
  refine ⟨B, uI I 36 26 (nI (σ 0 2)), ?_, hFL⟩
  have r1b : RR σ (uA (uA A 52 ys) 53 zs) (uI I 36 26 (nI (σ 0 2))) := r1.sc rfl (by rw [f1]; exact (r1.len (k := 53) rfl).symm)
  simp only [u_X8_isLaid, M_X8_isLaid, io_1, gr_1_0, gr_1_1, gr_1_2, gr_1_3, gr_1_4, gr_1_5, gi_1_6, pf_1_6, gi_1_7, pf_1_7, io_2, gr_2_0, gr_2_1, gr_2_2, gr_2_3, gr_2_4, gr_2_5, gr_2_6, gr_2_7, gi_2_8, pf_2_8, gi_2_9, pf_2_9, gi_2_10, pf_2_10, gi_2_11, pf_2_11, gi_2_12, pf_2_12, gi_2_13, pf_2_13, gi_2_14, pf_2_14, io_11, gr_11_0, gr_11_1, gr_11_2, io_15, gr_15_0, gr_15_1, gi_15_2, pf_15_2, gi_15_3, pf_15_3, gi_15_4, pf_15_4, gi_15_5, pf_15_5, io_18, gr_18_0, gr_18_1, gi_18_2, pf_18_2, io_21, gr_21_0, gr_21_1, gr_21_2, gr_21_3, gi_21_4, pf_21_4, gi_21_5, pf_21_5, gi_21_6, pf_21_6, gi_21_7, pf_21_7, io_34, gr_34_0, gi_34_1, pf_34_1, io_36, gi_36_0, pf_36_0, gi_36_1, pf_36_1, gr_36_2, gr_36_3, gr_36_4, gi_36_5, pf_36_5, gi_36_6, pf_36_6, gi_36_7, pf_36_7, gr_36_8, gr_36_9, gr_36_10, gr_36_11, gi_36_12, pf_36_12, gi_36_13, pf_36_13, gi_36_14, pf_36_14, gr_36_15, gr_36_16, gi_36_17, pf_36_17, gr_36_18, gr_36_19, gr_36_20, gr_36_21, gr_36_22, gi_36_23, pf_36_23, gr_36_24, gr_36_25, gi_36_26, pf_36_26, gr_36_27, gr_36_28, gr_36_29, gr_36_30, gi_36_31, pf_36_31, gr_36_32, gr_36_33, gi_36_34, pf_36_34, gi_36_35, pf_36_35, gr_36_36, al_3, al_4, al_5, al_6, al_7, al_8, al_9, al_10, al_12, al_13, al_14, al_16, al_17, al_19, al_20, al_22, al_23, al_24, al_26, al_27, al_28, al_29, al_30, al_31, al_32, al_33, al_35, al_37, al_38, al_39, al_40, al_41, al_42, al_43, al_44, al_45, al_46, al_47, al_48, al_49, al_50, al_51, al_52, al_53, al_54, al_55, al_56, al_57, al_58, al_59, ↓reduceIte, Option.bind_some, cI_some, cL_some, cV_some, rz_0, rz_1]
  refine g3n.trans ?_
  rw [F_X8_isLaid]
  simp -implicitDefEqProofs only [io_1, gr_1_0, gr_1_1, gr_1_2, gr_1_3, gr_1_4, gr_1_5, gi_1_6, pf_1_6, gi_1_7, pf_1_7, io_2, gr_2_0, gr_2_1, gr_2_2, gr_2_3, gr_2_4, gr_2_5, gr_2_6, gr_2_7, gi_2_8, pf_2_8, gi_2_9, pf_2_9, gi_2_10, pf_2_10, gi_2_11, pf_2_11, gi_2_12, pf_2_12, gi_2_13, pf_2_13, gi_2_14, pf_2_14, io_11, gr_11_0, gr_11_1, gr_11_2, io_15, gr_15_0, gr_15_1, gi_15_2, pf_15_2, gi_15_3, pf_15_3, gi_15_4, pf_15_4, gi_15_5, pf_15_5, io_18, gr_18_0, gr_18_1, gi_18_2, pf_18_2, io_21, gr_21_0, gr_21_1, gr_21_2, gr_21_3, gi_21_4, pf_21_4, gi_21_5, pf_21_5, gi_21_6, pf_21_6, gi_21_7, pf_21_7, io_34, gr_34_0, gi_34_1, pf_34_1, io_36, gi_36_0, pf_36_0, gi_36_1, pf_36_1, gr_36_2, gr_36_3, gr_36_4, gi_36_5, pf_36_5, gi_36_6, pf_36_6, gi_36_7, pf_36_7, gr_36_8, gr_36_9, gr_36_10, gr_36_11, gi_36_12, pf_36_12, gi_36_13, pf_36_13, gi_36_14, pf_36_14, gr_36_15, gr_36_16, gi_36_17, pf_36_17, gr_36_18, gr_36_19, gr_36_20, gr_36_21, gr_36_22, gi_36_23, pf_36_23, gr_36_24, gr_36_25, gi_36_26, pf_36_26, gr_36_27, gr_36_28, gr_36_29, gr_36_30, gi_36_31, pf_36_31, gr_36_32, gr_36_33, gi_36_34, pf_36_34, gi_36_35, pf_36_35, gr_36_36, al_3, al_4, al_5, al_6, al_7, al_8, al_9, al_10, al_12, al_13, al_14, al_16, al_17, al_19, al_20, al_22, al_23, al_24, al_26, al_27, al_28, al_29, al_30, al_31, al_32, al_33, al_35, al_37, al_38, al_39, al_40, al_41, al_42, al_43, al_44, al_45, al_46, al_47, al_48, al_49, al_50, al_51, al_52, al_53, al_54, al_55, al_56, al_57, al_58, al_59, ↓reduceIte, Option.bind_some, cI_some, cL_some, cV_some, rz_0, rz_1, r.i36_5, n_lt (show σ 0 0 < 2147483648 by omega) (show σ 0 0 < 2147483648 by omega), r.i36_7, f5, r1b.a43 hc, s52]
  rw [if_neg (by omega)]
  exact loop2 (σ 0 0 + 1) 0 n (by omega) (by omega) (fun t ht => by omega)
/-- what the model's row of ways holds -/
def WM (σ : SG) (d k : Nat) (xs : List Int32) : Prop := ∀ s, k ≤ s → s < 128 → rd xs s = nI (Wc σ d s)
def wv (σ : SG) (d k c : Nat) : Nat := (if k = fil σ then 1 else 0) + sm (fun c => if nxb σ d k c = true then Wc σ d (k ||| 2 ^ c) else 0) c
theorem wv_end {d k : Nat} (hn : σ 0 0 ≤ 7) (hk : k < 128) (hs : k &&& fil σ = k) : wv σ d k (σ 0 0) = Wc σ d k := by
  rw [Wc_eq hn d hk]
  unfold wv vl
  rw [if_pos hs]
  by_cases z : k = fil σ
  · rw [if_pos z, if_pos z]
    have e : ∀ n, sm (fun c => if nxb σ d k c = true then Wc σ d (k ||| 2 ^ c) else 0) n = 0 := fun n => by
      have := sm_max (f := fun c => if nxb σ d k c = true then Wc σ d (k ||| 2 ^ c) else 0) (B := 0) n (fun i hi => by
        show (if nxb σ d k i = true then _ else _) ≤ _
        rw [if_neg]
        · exact Nat.le_refl _
        · intro y
          have hh := nxb_f y
          rw [← z, hh.2.1] at hh
          exact absurd hh.1 Bool.false_ne_true)
      omega
    rw [e]
  · rw [if_neg z, if_neg z, Nat.zero_add]
theorem m_waysC (hf : 10000000000 ≤ fu) (hd : d ≤ 9) {k : Nat} (hk : k < 128) : ∀ m c n (B : Nat → List Int32) (J : Nat → Nat → Int32), c + m = σ 0 0 → RR σ B J → WM σ d (k + 1) (B 59) → (k &&& fil σ = k → rd (B 59) k = nI (wv σ d k c)) → (¬ k &&& fil σ = k → rd (B 59) k = 0) →
    ∃ B' J' n', n ≤ n' ∧ (F_X8_layWays fu (n + (m + 1))).2.2 36 (nI d) (nI (fil σ)) (nI k) (nI c) (enc B J) = (F_X8_layWays fu n').2.1 36 (nI d) (nI (fil σ)) (nI k - 1) (enc B' J') ∧ Fr B J B' J' ∧ WM σ d k (B' 59) := by
  intro m
  induction m with
  | zero =>
    intro c n B J hc r hw h1 h2
    have hn := r.n7
    refine ⟨B, J, n, Nat.le_refl _, ?_, Fr.rf B J, fun s a b => ?_⟩
    · rw [show n + (0 + 1) = n + 1 by omega, F_X8_layWays]
      simp only [io_1, gr_1_0, gr_1_1, gr_1_2, gr_1_3, gr_1_4, gr_1_5, gi_1_6, pf_1_6, gi_1_7, pf_1_7, io_2, gr_2_0, gr_2_1, gr_2_2, gr_2_3, gr_2_4, gr_2_5, gr_2_6, gr_2_7, gi_2_8, pf_2_8, gi_2_9, pf_2_9, gi_2_10, pf_2_10, gi_2_11, pf_2_11, gi_2_12, pf_2_12, gi_2_13, pf_2_13, gi_2_14, pf_2_14, io_11, gr_11_0, gr_11_1, gr_11_2, io_15, gr_15_0, gr_15_1, gi_15_2, pf_15_2, gi_15_3, pf_15_3, gi_15_4, pf_15_4, gi_15_5, pf_15_5, io_18, gr_18_0, gr_18_1, gi_18_2, pf_18_2, io_21, gr_21_0, gr_21_1, gr_21_2, gr_21_3, gi_21_4, pf_21_4, gi_21_5, pf_21_5, gi_21_6, pf_21_6, gi_21_7, pf_21_7, io_34, gr_34_0, gi_34_1, pf_34_1, io_36, gi_36_0, pf_36_0, gi_36_1, pf_36_1, gr_36_2, gr_36_3, gr_36_4, gi_36_5, pf_36_5, gi_36_6, pf_36_6, gi_36_7, pf_36_7, gr_36_8, gr_36_9, gr_36_10, gr_36_11, gi_36_12, pf_36_12, gi_36_13, pf_36_13, gi_36_14, pf_36_14, gr_36_15, gr_36_16, gi_36_17, pf_36_17, gr_36_18, gr_36_19, gr_36_20, gr_36_21, gr_36_22, gi_36_23, pf_36_23, gr_36_24, gr_36_25, gi_36_26, pf_36_26, gr_36_27, gr_36_28, gr_36_29, gr_36_30, gi_36_31, pf_36_31, gr_36_32, gr_36_33, gi_36_34, pf_36_34, gi_36_35, pf_36_35, gr_36_36, al_3, al_4, al_5, al_6, al_7, al_8, al_9, al_10, al_12, al_13, al_14, al_16, al_17, al_19, al_20, al_22, al_23, al_24, al_26, al_27, al_28, al_29, al_30, al_31, al_32, al_33, al_35, al_37, al_38, al_39, al_40, al_41, al_42, al_43, al_44, al_45, al_46, al_47, al_48, al_49, al_50, al_51, al_52, al_53, al_54, al_55, al_56, al_57, al_58, al_59, ↓reduceIte, Option.bind_some, cI_some, cL_some, cV_some, rz_0, rz_1, r.i36_5, n_lt (show c < 2147483648 by omega) (show σ 0 0 < 2147483648 by omega), n_m1]
      rw [if_neg (by omega)]
    · by_cases y : s = k
      · rw [y]
        by_cases z : k &&& fil σ = k
        · rw [h1 z, show c = σ 0 0 by omega, wv_end hn hk z]
        · rw [h2 z, Wc_eq hn d hk, vl, if_neg z]; rfl
      · exact hw s (by omega) b
  | succ m ih =>
    intro c n B J hcm r hw h1 h2
    have hn := r.n7
    have hfl := fil_lt hn
    have hc : c < σ 0 0 := by omega
    have l59 : (B 59).length = 128 := r.len rfl
    have eand : (nI k &&& nI (fil σ) = nI k) = (k &&& fil σ = k) := by
      rw [n_and]
      exact n_eq (Nat.lt_of_le_of_lt Nat.and_le_left (by omega)) (by omega)
    rw [show n + (m + 1 + 1) = n + (m + 1) + 1 by omega, F_X8_layWays]
    simp only [io_1, gr_1_0, gr_1_1, gr_1_2, gr_1_3, gr_1_4, gr_1_5, gi_1_6, pf_1_6, gi_1_7, pf_1_7, io_2, gr_2_0, gr_2_1, gr_2_2, gr_2_3, gr_2_4, gr_2_5, gr_2_6, gr_2_7, gi_2_8, pf_2_8, gi_2_9, pf_2_9, gi_2_10, pf_2_10, gi_2_11, pf_2_11, gi_2_12, pf_2_12, gi_2_13, pf_2_13, gi_2_14, pf_2_14, io_11, gr_11_0, gr_11_1, gr_11_2, io_15, gr_15_0, gr_15_1, gi_15_2, pf_15_2, gi_15_3, pf_15_3, gi_15_4, pf_15_4, gi_15_5, pf_15_5, io_18, gr_18_0, gr_18_1, gi_18_2, pf_18_2, io_21, gr_21_0, gr_21_1, gr_21_2, gr_21_3, gi_21_4, pf_21_4, gi_21_5, pf_21_5, gi_21_6, pf_21_6, gi_21_7, pf_21_7, io_34, gr_34_0, gi_34_1, pf_34_1, io_36, gi_36_0, pf_36_0, gi_36_1, pf_36_1, gr_36_2, gr_36_3, gr_36_4, gi_36_5, pf_36_5, gi_36_6, pf_36_6, gi_36_7, pf_36_7, gr_36_8, gr_36_9, gr_36_10, gr_36_11, gi_36_12, pf_36_12, gi_36_13, pf_36_13, gi_36_14, pf_36_14, gr_36_15, gr_36_16, gi_36_17, pf_36_17, gr_36_18, gr_36_19, gr_36_20, gr_36_21, gr_36_22, gi_36_23, pf_36_23, gr_36_24, gr_36_25, gi_36_26, pf_36_26, gr_36_27, gr_36_28, gr_36_29, gr_36_30, gi_36_31, pf_36_31, gr_36_32, gr_36_33, gi_36_34, pf_36_34, gi_36_35, pf_36_35, gr_36_36, al_3, al_4, al_5, al_6, al_7, al_8, al_9, al_10, al_12, al_13, al_14, al_16, al_17, al_19, al_20, al_22, al_23, al_24, al_26, al_27, al_28, al_29, al_30, al_31, al_32, al_33, al_35, al_37, al_38, al_39, al_40, al_41, al_42, al_43, al_44, al_45, al_46, al_47, al_48, al_49, al_50, al_51, al_52, al_53, al_54, al_55, al_56, al_57, al_58, al_59, ↓reduceIte, Option.bind_some, cI_some, cL_some, cV_some, rz_0, rz_1, r.i36_5, n_lt (show c < 2147483648 by omega) (show σ 0 0 < 2147483648 by omega), n_m1, eand, m_has (show fil σ < 2147483648 by omega) (show c < 31 by omega), m_has (show k < 2147483648 by omega) (show c < 31 by omega), bI_0, or_1 k c (show c < 31 by omega), nI_1]
    rw [if_pos hc]
    by_cases z : k &&& fil σ = k
    rotate_left
    · rw [if_neg z]
      refine ⟨B, J, n + (m + 1), by omega, rfl, Fr.rf B J, fun s a b => ?_⟩
      by_cases y : s = k
      · rw [y, h2 z, Wc_eq hn d hk, vl, if_neg z]; rfl
      · exact hw s (by omega) b
    rw [if_pos z]
    have es : wv σ d k (c + 1) = wv σ d k c + (if nxb σ d k c = true then Wc σ d (k ||| 2 ^ c) else 0) := by
      unfold wv
      rw [show sm (fun c => if nxb σ d k c = true then Wc σ d (k ||| 2 ^ c) else 0) (c + 1) = sm (fun c => if nxb σ d k c = true then Wc σ d (k ||| 2 ^ c) else 0) c + (if nxb σ d k c = true then Wc σ d (k ||| 2 ^ c) else 0) from rfl, Nat.add_assoc]
    have skip : (if nxb σ d k c = true then Wc σ d (k ||| 2 ^ c) else 0) = 0 → ∀ B' J', FrL B J B' J' → ∃ B2 J2 n', n ≤ n' ∧ (F_X8_layWays fu (n + (m + 1))).2.2 36 (nI d) (nI (fil σ)) (nI k) (nI (c + 1)) (enc B' J') = (F_X8_layWays fu n').2.1 36 (nI d) (nI (fil σ)) (nI k - 1) (enc B2 J2) ∧ Fr B J B2 J2 ∧ WM σ d k (B2 59) := fun h0 B' J' hF => by
      have e59 : B' 59 = B 59 := hF.1 59 (by decide) (by decide)
      obtain ⟨B2, J2, n', a, b, e, g⟩ := ih (c + 1) n B' J' (by omega) (hF.Fr.R r) (by rw [e59]; exact hw) (fun y => by rw [e59, h1 y, es, h0, Nat.add_zero]) (fun y => absurd z y)
      exact ⟨B2, J2, n', a, b, hF.Fr.tr e, g⟩
    by_cases z1 : (fil σ).testBit c = true
    rotate_left
    · rw [if_pos z1]
      exact skip (if_neg (fun y => z1 (nxb_f y).1)) B J (FrL.rf B J)
    rw [if_neg (fun y => y z1)]
    by_cases z2 : k.testBit c = true
    · rw [if_neg (fun y => y z2)]
      exact skip (if_neg (fun y => by have := (nxb_f y).2.1; rw [z2] at this; cases this)) B J (FrL.rf B J)
    have z2' := Bool.eq_false_iff.mpr z2
    rw [if_pos z2]
    have h128 := or_128 hk (show c < 7 by omega)
    have hgt := or_gt z2'
    have hWl := Wc_lt hn d h128
    have e59 : aI (enc B J) 59 (nI (k ||| 2 ^ c)) = some (nI (Wc σ d (k ||| 2 ^ c))) := by rw [ai_59 B J (by omega) (by omega), hw _ (by omega) h128]
    rw [e59, Option.bind_some]
    simp only [nI_0lt hWl]
    by_cases z3 : 0 < Wc σ d (k ||| 2 ^ c)
    rotate_left
    · rw [if_neg z3]
      exact skip (by split <;> omega) B J (FrL.rf B J)
    rw [if_pos z3]
    have h7 : σ 7 c ≠ 0 := by
      rw [fil_t, Bool.and_eq_true] at z1
      exact bne_iff_ne.mp z1.2
    obtain ⟨B', J', i1, i2⟩ := m_isLaid (fu := fu) hf r hd hk hc z2' h7
    rw [i1, cI_some]
    simp only [bI_0]
    by_cases z4 : c + 1 ≤ gN σ d k + (if kndB σ 2 c = true then 1 else 0)
    rotate_left
    · rw [if_pos z4]
      exact skip (if_neg (fun y => z4 (nxb_f y).2.2)) B' J' i2
    rw [if_neg (fun y => y z4)]
    have hx : nxb σ d k c = true := by unfold nxb; rw [z1, z2', decide_eq_true z4]; rfl
    have b59 : B' 59 = B 59 := i2.1 59 (by decide) (by decide)
    have e1 : aI (enc B' J') 59 (nI k) = some (nI (wv σ d k c)) := by rw [ai_59 B' J' (by rw [b59]; omega) (by omega), b59, h1 z]
    have e2 : aI (enc B' J') 59 (nI (k ||| 2 ^ c)) = some (nI (Wc σ d (k ||| 2 ^ c))) := by rw [ai_59 B' J' (by rw [b59]; omega) (by omega), b59, hw _ (by omega) h128]
    have s59 := si_59 B' J' (nI (wv σ d k (c + 1))) (show k < (B' 59).length by rw [b59]; omega) (show k < 2147483648 by omega)
    rw [if_pos hx] at es
    simp only [io_1, gr_1_0, gr_1_1, gr_1_2, gr_1_3, gr_1_4, gr_1_5, gi_1_6, pf_1_6, gi_1_7, pf_1_7, io_2, gr_2_0, gr_2_1, gr_2_2, gr_2_3, gr_2_4, gr_2_5, gr_2_6, gr_2_7, gi_2_8, pf_2_8, gi_2_9, pf_2_9, gi_2_10, pf_2_10, gi_2_11, pf_2_11, gi_2_12, pf_2_12, gi_2_13, pf_2_13, gi_2_14, pf_2_14, io_11, gr_11_0, gr_11_1, gr_11_2, io_15, gr_15_0, gr_15_1, gi_15_2, pf_15_2, gi_15_3, pf_15_3, gi_15_4, pf_15_4, gi_15_5, pf_15_5, io_18, gr_18_0, gr_18_1, gi_18_2, pf_18_2, io_21, gr_21_0, gr_21_1, gr_21_2, gr_21_3, gi_21_4, pf_21_4, gi_21_5, pf_21_5, gi_21_6, pf_21_6, gi_21_7, pf_21_7, io_34, gr_34_0, gi_34_1, pf_34_1, io_36, gi_36_0, pf_36_0, gi_36_1, pf_36_1, gr_36_2, gr_36_3, gr_36_4, gi_36_5, pf_36_5, gi_36_6, pf_36_6, gi_36_7, pf_36_7, gr_36_8, gr_36_9, gr_36_10, gr_36_11, gi_36_12, pf_36_12, gi_36_13, pf_36_13, gi_36_14, pf_36_14, gr_36_15, gr_36_16, gi_36_17, pf_36_17, gr_36_18, gr_36_19, gr_36_20, gr_36_21, gr_36_22, gi_36_23, pf_36_23, gr_36_24, gr_36_25, gi_36_26, pf_36_26, gr_36_27, gr_36_28, gr_36_29, gr_36_30, gi_36_31, pf_36_31, gr_36_32, gr_36_33, gi_36_34, pf_36_34, gi_36_35, pf_36_35, gr_36_36, al_3, al_4, al_5, al_6, al_7, al_8, al_9, al_10, al_12, al_13, al_14, al_16, al_17, al_19, al_20, al_22, al_23, al_24, al_26, al_27, al_28, al_29, al_30, al_31, al_32, al_33, al_35, al_37, al_38, al_39, al_40, al_41, al_42, al_43, al_44, al_45, al_46, al_47, al_48, al_49, al_50, al_51, al_52, al_53, al_54, al_55, al_56, al_57, al_58, al_59, ↓reduceIte, Option.bind_some, cI_some, cL_some, cV_some, rz_0, rz_1, e1, e2, nI_add, ← es, s59]
    have rB := i2.Fr.R r
    have hF2 : Fr B J (uA B' 59 ((B' 59).set k (nI (wv σ d k (c + 1))))) J' := i2.Fr.arr rfl (by rw [List.length_set])
    obtain ⟨B2, J2, n', a, b, e, g⟩ := ih (c + 1) n (uA B' 59 ((B' 59).set k (nI (wv σ d k (c + 1))))) J' (by omega) (hF2.R r) (fun s a b => by
      rw [uA_s, rd_set _ _ (by rw [b59]; omega), if_neg (by omega), b59]
      exact hw s a b) (fun _ => by rw [uA_s, rd_set _ _ (by rw [b59]; omega), if_pos rfl]) (fun y => absurd z y)
    exact ⟨B2, J2, n', a, b, hF2.tr e, g⟩
theorem m_waysS (hf : 10000000000 ≤ fu) (hd : d ≤ 9) : ∀ k n (B : Nat → List Int32) (J : Nat → Nat → Int32), k ≤ 128 → k * 20 < n → RR σ B J → WM σ d k (B 59) →
    ∃ B' J', (F_X8_layWays fu n).2.1 36 (nI d) (nI (fil σ)) (nI k - 1) (enc B J) = some (none, enc B' J') ∧ Fr B J B' J' ∧ WM σ d 0 (B' 59) := by
  intro k
  induction k with
  | zero =>
    intro n B J hk hn2 r hw
    obtain ⟨n, rfl⟩ : ∃ k, n = k + 1 := ⟨n - 1, by omega⟩
    refine ⟨B, J, ?_, Fr.rf B J, hw⟩
    rw [F_X8_layWays]
    dsimp only
    rw [if_pos (by decide)]
  | succ k ih =>
    intro n B J hk hn2 r hw
    have hn := r.n7
    have hfl := fil_lt hn
    have l59 : (B 59).length = 128 := r.len rfl
    obtain ⟨n, rfl⟩ : ∃ j, n = j + (σ 0 0 + 1) + 1 := ⟨n - (σ 0 0 + 2), by omega⟩
    have s1 := si_59 B J (1 : Int32) (show k < (B 59).length by omega) (show k < 2147483648 by omega)
    have s0 := si_59 B J (0 : Int32) (show k < (B 59).length by omega) (show k < 2147483648 by omega)
    have main : ∀ x : Int32, x = nI (if k = fil σ then 1 else 0) → ∃ B' J', (F_X8_layWays fu (n + (σ 0 0 + 1))).2.2 36 (nI d) (nI (fil σ)) (nI k) 0 (enc (uA B 59 ((B 59).set k x)) J) = some (none, enc B' J') ∧ Fr B J B' J' ∧ WM σ d 0 (B' 59) := fun x hx => by
      have hF : Fr B J (uA B 59 ((B 59).set k x)) J := Fr.arr (Fr.rf B J) rfl (by rw [List.length_set])
      obtain ⟨B2, J2, n', a, b, e, g⟩ := m_waysC (fu := fu) hf hd (k := k) (by omega) (σ 0 0) 0 n (uA B 59 ((B 59).set k x)) J (by omega) (hF.R r) (fun s a b => by rw [uA_s, rd_set _ _ (by omega), if_neg (by omega)]; exact hw s a b) (fun z => by
        rw [uA_s, rd_set _ _ (by omega), if_pos rfl, hx]; rfl) (fun z => by
        rw [uA_s, rd_set _ _ (by omega), if_pos rfl, hx, if_neg (fun y => z (by rw [y]; exact Nat.and_self _))]; rfl)
      obtain ⟨B3, J3, c1, c2, c3⟩ := ih n' B2 J2 (by omega) (by omega) ((hF.tr e).R r) g
      exact ⟨B3, J3, b.trans c1, (hF.tr e).tr c2, c3⟩
    rw [F_X8_layWays]
    simp only [n_sub1, n_neg (show k < 2147483648 by omega), if_false, io_1, gr_1_0, gr_1_1, gr_1_2, gr_1_3, gr_1_4, gr_1_5, gi_1_6, pf_1_6, gi_1_7, pf_1_7, io_2, gr_2_0, gr_2_1, gr_2_2, gr_2_3, gr_2_4, gr_2_5, gr_2_6, gr_2_7, gi_2_8, pf_2_8, gi_2_9, pf_2_9, gi_2_10, pf_2_10, gi_2_11, pf_2_11, gi_2_12, pf_2_12, gi_2_13, pf_2_13, gi_2_14, pf_2_14, io_11, gr_11_0, gr_11_1, gr_11_2, io_15, gr_15_0, gr_15_1, gi_15_2, pf_15_2, gi_15_3, pf_15_3, gi_15_4, pf_15_4, gi_15_5, pf_15_5, io_18, gr_18_0, gr_18_1, gi_18_2, pf_18_2, io_21, gr_21_0, gr_21_1, gr_21_2, gr_21_3, gi_21_4, pf_21_4, gi_21_5, pf_21_5, gi_21_6, pf_21_6, gi_21_7, pf_21_7, io_34, gr_34_0, gi_34_1, pf_34_1, io_36, gi_36_0, pf_36_0, gi_36_1, pf_36_1, gr_36_2, gr_36_3, gr_36_4, gi_36_5, pf_36_5, gi_36_6, pf_36_6, gi_36_7, pf_36_7, gr_36_8, gr_36_9, gr_36_10, gr_36_11, gi_36_12, pf_36_12, gi_36_13, pf_36_13, gi_36_14, pf_36_14, gr_36_15, gr_36_16, gi_36_17, pf_36_17, gr_36_18, gr_36_19, gr_36_20, gr_36_21, gr_36_22, gi_36_23, pf_36_23, gr_36_24, gr_36_25, gi_36_26, pf_36_26, gr_36_27, gr_36_28, gr_36_29, gr_36_30, gi_36_31, pf_36_31, gr_36_32, gr_36_33, gi_36_34, pf_36_34, gi_36_35, pf_36_35, gr_36_36, al_3, al_4, al_5, al_6, al_7, al_8, al_9, al_10, al_12, al_13, al_14, al_16, al_17, al_19, al_20, al_22, al_23, al_24, al_26, al_27, al_28, al_29, al_30, al_31, al_32, al_33, al_35, al_37, al_38, al_39, al_40, al_41, al_42, al_43, al_44, al_45, al_46, al_47, al_48, al_49, al_50, al_51, al_52, al_53, al_54, al_55, al_56, al_57, al_58, al_59, ↓reduceIte, Option.bind_some, cI_some, cL_some, cV_some, rz_0, rz_1, n_eq (show k < 2147483648 by omega) (show fil σ < 2147483648 by omega), s1, s0]
    by_cases z : k = fil σ
    · rw [if_pos z]
      exact main 1 (by rw [if_pos z]; rfl)
    · rw [if_neg z]
      exact main 0 (by rw [if_neg z]; rfl)
/-- how the model counts -/
theorem m_layWays (hf : 10000000000 ≤ fu) (r : RR σ A I) (hd : d ≤ 9) : ∃ A1 I1, U_X8_layWays fu [.ref 36, .int (nI d)] (enc A I) = some (none, enc A1 I1) ∧ Fr A I A1 I1 ∧ WM σ d 0 (A1 59) := by
  have hn := r.n7
  have loop : ∀ m c n, c + m = σ 0 0 → (F_X8_layWays fu (n + (m + 1))).1 36 (nI d) (nI (bits (fun c => σ 7 c != 0) c)) (nI c) (enc A I) = (F_X8_layWays fu n).2.1 36 (nI d) (nI (fil σ)) 127 (enc A I) := by
    intro m
    induction m with
    | zero =>
      intro c n hc
      rw [show n + (0 + 1) = n + 1 by omega, F_X8_layWays]
      simp only [io_1, gr_1_0, gr_1_1, gr_1_2, gr_1_3, gr_1_4, gr_1_5, gi_1_6, pf_1_6, gi_1_7, pf_1_7, io_2, gr_2_0, gr_2_1, gr_2_2, gr_2_3, gr_2_4, gr_2_5, gr_2_6, gr_2_7, gi_2_8, pf_2_8, gi_2_9, pf_2_9, gi_2_10, pf_2_10, gi_2_11, pf_2_11, gi_2_12, pf_2_12, gi_2_13, pf_2_13, gi_2_14, pf_2_14, io_11, gr_11_0, gr_11_1, gr_11_2, io_15, gr_15_0, gr_15_1, gi_15_2, pf_15_2, gi_15_3, pf_15_3, gi_15_4, pf_15_4, gi_15_5, pf_15_5, io_18, gr_18_0, gr_18_1, gi_18_2, pf_18_2, io_21, gr_21_0, gr_21_1, gr_21_2, gr_21_3, gi_21_4, pf_21_4, gi_21_5, pf_21_5, gi_21_6, pf_21_6, gi_21_7, pf_21_7, io_34, gr_34_0, gi_34_1, pf_34_1, io_36, gi_36_0, pf_36_0, gi_36_1, pf_36_1, gr_36_2, gr_36_3, gr_36_4, gi_36_5, pf_36_5, gi_36_6, pf_36_6, gi_36_7, pf_36_7, gr_36_8, gr_36_9, gr_36_10, gr_36_11, gi_36_12, pf_36_12, gi_36_13, pf_36_13, gi_36_14, pf_36_14, gr_36_15, gr_36_16, gi_36_17, pf_36_17, gr_36_18, gr_36_19, gr_36_20, gr_36_21, gr_36_22, gi_36_23, pf_36_23, gr_36_24, gr_36_25, gi_36_26, pf_36_26, gr_36_27, gr_36_28, gr_36_29, gr_36_30, gi_36_31, pf_36_31, gr_36_32, gr_36_33, gi_36_34, pf_36_34, gi_36_35, pf_36_35, gr_36_36, al_3, al_4, al_5, al_6, al_7, al_8, al_9, al_10, al_12, al_13, al_14, al_16, al_17, al_19, al_20, al_22, al_23, al_24, al_26, al_27, al_28, al_29, al_30, al_31, al_32, al_33, al_35, al_37, al_38, al_39, al_40, al_41, al_42, al_43, al_44, al_45, al_46, al_47, al_48, al_49, al_50, al_51, al_52, al_53, al_54, al_55, al_56, al_57, al_58, al_59, ↓reduceIte, Option.bind_some, cI_some, cL_some, cV_some, rz_0, rz_1, r.i36_5, n_lt (show c < 2147483648 by omega) (show σ 0 0 < 2147483648 by omega)]
      rw [if_neg (by omega), show c = σ 0 0 by omega]
      rfl
    | succ m ih =>
      intro c n hcm
      have hc : c < σ 0 0 := by omega
      have h6 := r.row_lt hc
      have e := ih (c + 1) n (by omega)
      rw [← bits_stepO _ (show c < 31 by omega)] at e
      rw [show n + (m + 1 + 1) = n + (m + 1) + 1 by omega, F_X8_layWays]
      simp only [io_1, gr_1_0, gr_1_1, gr_1_2, gr_1_3, gr_1_4, gr_1_5, gi_1_6, pf_1_6, gi_1_7, pf_1_7, io_2, gr_2_0, gr_2_1, gr_2_2, gr_2_3, gr_2_4, gr_2_5, gr_2_6, gr_2_7, gi_2_8, pf_2_8, gi_2_9, pf_2_9, gi_2_10, pf_2_10, gi_2_11, pf_2_11, gi_2_12, pf_2_12, gi_2_13, pf_2_13, gi_2_14, pf_2_14, io_11, gr_11_0, gr_11_1, gr_11_2, io_15, gr_15_0, gr_15_1, gi_15_2, pf_15_2, gi_15_3, pf_15_3, gi_15_4, pf_15_4, gi_15_5, pf_15_5, io_18, gr_18_0, gr_18_1, gi_18_2, pf_18_2, io_21, gr_21_0, gr_21_1, gr_21_2, gr_21_3, gi_21_4, pf_21_4, gi_21_5, pf_21_5, gi_21_6, pf_21_6, gi_21_7, pf_21_7, io_34, gr_34_0, gi_34_1, pf_34_1, io_36, gi_36_0, pf_36_0, gi_36_1, pf_36_1, gr_36_2, gr_36_3, gr_36_4, gi_36_5, pf_36_5, gi_36_6, pf_36_6, gi_36_7, pf_36_7, gr_36_8, gr_36_9, gr_36_10, gr_36_11, gi_36_12, pf_36_12, gi_36_13, pf_36_13, gi_36_14, pf_36_14, gr_36_15, gr_36_16, gi_36_17, pf_36_17, gr_36_18, gr_36_19, gr_36_20, gr_36_21, gr_36_22, gi_36_23, pf_36_23, gr_36_24, gr_36_25, gi_36_26, pf_36_26, gr_36_27, gr_36_28, gr_36_29, gr_36_30, gi_36_31, pf_36_31, gr_36_32, gr_36_33, gi_36_34, pf_36_34, gi_36_35, pf_36_35, gr_36_36, al_3, al_4, al_5, al_6, al_7, al_8, al_9, al_10, al_12, al_13, al_14, al_16, al_17, al_19, al_20, al_22, al_23, al_24, al_26, al_27, al_28, al_29, al_30, al_31, al_32, al_33, al_35, al_37, al_38, al_39, al_40, al_41, al_42, al_43, al_44, al_45, al_46, al_47, al_48, al_49, al_50, al_51, al_52, al_53, al_54, al_55, al_56, al_57, al_58, al_59, ↓reduceIte, Option.bind_some, cI_some, cL_some, cV_some, rz_0, rz_1, r.i36_5, n_lt (show c < 2147483648 by omega) (show σ 0 0 < 2147483648 by omega), r.a43 hc, ro_9 (show σ 7 c < 2147483648 by omega), nI_1]
      rw [if_pos hc]
      by_cases z : σ 7 c = 0
      · rw [if_pos z]
        rw [if_neg (by simp [z])] at e
        exact e
      · rw [if_neg z]
        rw [if_pos (by simp [z])] at e
        exact e
  obtain ⟨n, hfe⟩ : ∃ n, fu = n + (σ 0 0 + 1) := ⟨fu - (σ 0 0 + 1), by omega⟩
  have e := loop (σ 0 0) 0 n (by omega)
  rw [← hfe] at e
  obtain ⟨B, J, a, b, c⟩ := m_waysS (fu := fu) hf hd 128 n A I (by omega) (by omega) r (fun s a b => by omega)
  refine ⟨B, J, ?_, b, c⟩
  simp only [u_X8_layWays, M_X8_layWays, io_1, gr_1_0, gr_1_1, gr_1_2, gr_1_3, gr_1_4, gr_1_5, gi_1_6, pf_1_6, gi_1_7, pf_1_7, io_2, gr_2_0, gr_2_1, gr_2_2, gr_2_3, gr_2_4, gr_2_5, gr_2_6, gr_2_7, gi_2_8, pf_2_8, gi_2_9, pf_2_9, gi_2_10, pf_2_10, gi_2_11, pf_2_11, gi_2_12, pf_2_12, gi_2_13, pf_2_13, gi_2_14, pf_2_14, io_11, gr_11_0, gr_11_1, gr_11_2, io_15, gr_15_0, gr_15_1, gi_15_2, pf_15_2, gi_15_3, pf_15_3, gi_15_4, pf_15_4, gi_15_5, pf_15_5, io_18, gr_18_0, gr_18_1, gi_18_2, pf_18_2, io_21, gr_21_0, gr_21_1, gr_21_2, gr_21_3, gi_21_4, pf_21_4, gi_21_5, pf_21_5, gi_21_6, pf_21_6, gi_21_7, pf_21_7, io_34, gr_34_0, gi_34_1, pf_34_1, io_36, gi_36_0, pf_36_0, gi_36_1, pf_36_1, gr_36_2, gr_36_3, gr_36_4, gi_36_5, pf_36_5, gi_36_6, pf_36_6, gi_36_7, pf_36_7, gr_36_8, gr_36_9, gr_36_10, gr_36_11, gi_36_12, pf_36_12, gi_36_13, pf_36_13, gi_36_14, pf_36_14, gr_36_15, gr_36_16, gi_36_17, pf_36_17, gr_36_18, gr_36_19, gr_36_20, gr_36_21, gr_36_22, gi_36_23, pf_36_23, gr_36_24, gr_36_25, gi_36_26, pf_36_26, gr_36_27, gr_36_28, gr_36_29, gr_36_30, gi_36_31, pf_36_31, gr_36_32, gr_36_33, gi_36_34, pf_36_34, gi_36_35, pf_36_35, gr_36_36, al_3, al_4, al_5, al_6, al_7, al_8, al_9, al_10, al_12, al_13, al_14, al_16, al_17, al_19, al_20, al_22, al_23, al_24, al_26, al_27, al_28, al_29, al_30, al_31, al_32, al_33, al_35, al_37, al_38, al_39, al_40, al_41, al_42, al_43, al_44, al_45, al_46, al_47, al_48, al_49, al_50, al_51, al_52, al_53, al_54, al_55, al_56, al_57, al_58, al_59, ↓reduceIte, Option.bind_some, cI_some, cL_some, cV_some, rz_0, rz_1]
  exact e.trans a
end OX
