/-! ===== the class's search ===== -/
theorem max2 : ∀ c, c < 8 → (if nI c - 2 < 0 then 0 else nI c - 2) = nI (c - 2) := by decide +kernel
section PE
variable {σ : SG} {A : Nat → List Int32} {I : Nat → Nat → Int32} {fu d f rds : Nat}
/-- what the search itself leaves changed -/
def FrQ (A : Nat → List Int32) (I : Nat → Nat → Int32) (B : Nat → List Int32) (J : Nat → Nat → Int32) : Prop :=
  (∀ k, k ≠ 22 → k ≠ 23 → B k = A k) ∧ (∀ k, (B k).length = (A k).length) ∧ ∀ o j, ¬ (o = 21 ∧ j = 4) → J o j = I o j
theorem FrQ.rf (A : Nat → List Int32) (I : Nat → Nat → Int32) : FrQ A I A I := ⟨fun _ _ _ => rfl, fun _ => rfl, fun _ _ _ => rfl⟩
theorem FrQ.tr {A B C : Nat → List Int32} {I J K : Nat → Nat → Int32} (h : FrQ A I B J) (g : FrQ B J C K) : FrQ A I C K :=
  ⟨fun k a b => (g.1 k a b).trans (h.1 k a b), fun k => (g.2.1 k).trans (h.2.1 k), fun o j a => (g.2.2 o j a).trans (h.2.2 o j a)⟩
theorem FrQ.arr {A B : Nat → List Int32} {I J : Nat → Nat → Int32} (h : FrQ A I B J) {k : Nat} {xs : List Int32} (hk : k = 22 ∨ k = 23) (hl : xs.length = (B k).length) : FrQ A I (uA B k xs) J :=
  h.tr ⟨fun j a b => uA_n _ _ _ (by omega), fun j => by
    by_cases y : j = k
    · rw [y, uA_s, hl]
    · rw [uA_n _ _ _ y], fun _ _ _ => rfl⟩
theorem FrQ.int {A B : Nat → List Int32} {I J : Nat → Nat → Int32} (h : FrQ A I B J) (x : Int32) : FrQ A I B (uI J 21 4 x) :=
  h.tr ⟨fun _ _ _ => rfl, fun _ => rfl, fun o i a => by
    unfold uI
    rw [if_neg a]⟩
theorem FrQ.Fr {A B : Nat → List Int32} {I J : Nat → Nat → Int32} (h : FrQ A I B J) : Fr A I B J :=
  ⟨fun k hk => h.1 k (fun z => by rw [z] at hk; cases hk) (fun z => by rw [z] at hk; cases hk), h.2.1,
   fun o j hj => h.2.2 o j (fun z => by rw [z.1] at hj; cases hj)⟩
/-- what the search goes by -/
def PC (σ : SG) (d f rds : Nat) (A : Nat → List Int32) (I : Nat → Nat → Int32) : Prop :=
  RR σ A I ∧ I 21 5 = nI d ∧ I 21 6 = nI f ∧ I 21 7 = nI rds ∧ US σ f rds A ∧ ∀ c, c ≤ σ 0 0 → RLc σ d f rds A c
theorem FrQ.pc {A B : Nat → List Int32} {I J : Nat → Nat → Int32} (h : FrQ A I B J) (p : PC σ d f rds A I) : PC σ d f rds B J := by
  obtain ⟨p1, p2, p3, p4, p5, p6⟩ := p
  have hn := p1.n7
  refine ⟨h.Fr.R p1, ?_, ?_, ?_, fun s hs => ?_, fun c hc F hF => ?_⟩
  · rw [h.2.2 21 5 (by omega)]; exact p2
  · rw [h.2.2 21 6 (by omega)]; exact p3
  · rw [h.2.2 21 7 (by omega)]; exact p4
  · rw [h.1 24 (by decide) (by decide)]; exact p5 s hs
  · rw [h.1 (26 + c) (by omega) (by omega)]; exact p6 c hc F hF
/-- the best that was found -/
def bcN (σ : SG) (o : Option (Nat → Nat)) : Nat := match o with
  | none => 1000000
  | some b => ct σ b (σ 0 0)
def BSc (σ : SG) (o : Option (Nat → Nat)) (A : Nat → List Int32) (I : Nat → Nat → Int32) : Prop :=
  I 21 4 = nI (bcN σ o) ∧ ∀ b, o = some b → okR σ b (σ 0 0) ∧ ∀ c, c < σ 0 0 → rd (A 23) c = ro (b c)
theorem BSc.cg {o : Option (Nat → Nat)} {A B : Nat → List Int32} {I J : Nat → Nat → Int32} (h : BSc σ o A I) (h1 : B 23 = A 23) (h2 : J 21 4 = I 21 4) : BSc σ o B J := by
  refine ⟨h2.trans h.1, fun b hb => ?_⟩
  rw [h1]
  exact h.2 b hb
theorem ct_lt (hw : WF σ) {R : Nat → Nat} {c : Nat} (hc : c ≤ σ 0 0) (h : okR σ R c) : ct σ R c ≤ 30000 := by
  have h1 := wr_lt hw hc h
  have h2 := mr_6 hw h
  unfold ct
  omega
theorem bcN_le (r : RR σ A I) {o : Option (Nat → Nat)} (h : BSc σ o A I) : bcN σ o ≤ 1000000 := by
  cases o with
  | none => exact Nat.le_refl _
  | some b =>
    have := ct_lt r.1 (Nat.le_refl _) (h.2 b rfl).1
    show ct σ b (σ 0 0) ≤ 1000000
    omega
/-- whether the cells that a node looks at keep their stones -/
theorem c_lastL (p : PC σ d f rds A I) (hf9 : f ≤ 9) (hrd : rds ≤ 30) {R : Nat → Nat} {c : Nat} (hc : c ≤ σ 0 0) (hR : ∀ i, i < c → rd (A 22) i = ro (R i)) (ho : okR σ R c) : ∀ m k n, k + m = c → m < n →
    ∃ x : Int32, F_X3_lastOnesStand fu n 21 2 (nI c) (nI (bits (pre R c) (σ 0 0))) (nI k) (enc A I) = some (some (.int x), enc A I) ∧ ((x = 1 ∧ ∀ i, k ≤ i → i < c → R i ≠ 0 → rds * mor σ (gG σ) f (pre R c) i < hold σ (R i - 1)) ∨ (x = 0 ∧ ¬ ∀ i, k ≤ i → i < c → R i ≠ 0 → rds * mor σ (gG σ) f (pre R c) i < hold σ (R i - 1))) := by
  have r := p.1
  have hn := r.n7
  intro m
  induction m with
  | zero =>
    intro k n hk hm
    obtain ⟨n, rfl⟩ : ∃ j, n = j + 1 := ⟨n - 1, by omega⟩
    refine ⟨1, ?_, Or.inl ⟨rfl, fun i a b => by omega⟩⟩
    simp -implicitDefEqProofs only [F_X3_lastOnesStand, n_lt (show k < 2147483648 by omega) (show c < 2147483648 by omega), rz_1]
    rw [if_neg (by omega)]
  | succ m ih =>
    intro k n hkm hm
    obtain ⟨n, rfl⟩ : ∃ j, n = j + 1 := ⟨n - 1, by omega⟩
    have hk : k < c := by omega
    have hkN : k < σ 0 0 := by omega
    have hb1 : bits (pre R c) (σ 0 0) < 2147483648 := Nat.lt_trans (bits_ge hn) (by decide)
    have t1 : (bits (pre R c) (σ 0 0)).testBit k = (R k != 0) := by
      rw [bits_test, decide_eq_true hkN, Bool.true_and]
      unfold pre
      rw [decide_eq_true hk, Bool.true_and]
    have l22 : (A 22).length = 7 := r.len rfl
    have e22 : aI (enc A I) 22 (nI k) = some (ro (R k)) := by rw [ai_22 A I (by omega) (by omega), hR k hk]
    obtain ⟨x, g1, g2⟩ := ih (k + 1) n (by omega) (by omega)
    by_cases z : R k = 0
    · refine ⟨x, ?_, ?_⟩
      · simp -implicitDefEqProofs only [F_X3_lastOnesStand, n_lt (show k < 2147483648 by omega) (show c < 2147483648 by omega), c_hasn _ hb1 (show k < 31 by omega), t1, cI_some, bI_0, nI_1]
        rw [if_pos hk, if_pos (by rw [z]; decide)]
        exact g1
      · rcases g2 with ⟨a, b⟩ | ⟨a, b⟩
        · refine Or.inl ⟨a, fun i h1 h2 hr => ?_⟩
          by_cases y : i = k
          · rw [y] at hr; exact absurd z hr
          · exact b i (by omega) h2 hr
        · exact Or.inr ⟨a, fun w => b fun i h1 h2 hr => w i (by omega) h2 hr⟩
    · obtain ⟨s, hs⟩ : ∃ s, R k = s + 1 := ⟨R k - 1, by omega⟩
      have hsM := (ho.1 k hk z).1
      rw [hs, Nat.add_sub_cancel] at hsM
      have ou := c_outlasts (fu := fu) r hf9 hrd p.2.2.1 p.2.2.2.1 hsM hkN (pre R c)
      rw [hs, ro_s] at e22
      have head : ∀ y, F_X3_lastOnesStand fu (n + 1) 21 2 (nI c) (nI (bits (pre R c) (σ 0 0))) (nI k) (enc A I) = y ↔ (if ¬ rds * mor σ (gG σ) f (pre R c) k < hold σ s then some (some (.int 0), enc A I) else F_X3_lastOnesStand fu n 21 2 (nI c) (nI (bits (pre R c) (σ 0 0))) (nI (k + 1)) (enc A I)) = y := fun y => by
        simp -implicitDefEqProofs only [F_X3_lastOnesStand, n_lt (show k < 2147483648 by omega) (show c < 2147483648 by omega), c_hasn _ hb1 (show k < 31 by omega), t1, io_1, gr_1_0, gr_1_1, gr_1_2, gr_1_3, gr_1_4, gr_1_5, gi_1_6, pf_1_6, gi_1_7, pf_1_7, io_2, gr_2_0, gr_2_1, gr_2_2, gr_2_3, gr_2_4, gr_2_5, gr_2_6, gr_2_7, gi_2_8, pf_2_8, gi_2_9, pf_2_9, gi_2_10, pf_2_10, gi_2_11, pf_2_11, gi_2_12, pf_2_12, gi_2_13, pf_2_13, gi_2_14, pf_2_14, io_11, gr_11_0, gr_11_1, gr_11_2, io_15, gr_15_0, gr_15_1, gi_15_2, pf_15_2, gi_15_3, pf_15_3, gi_15_4, pf_15_4, gi_15_5, pf_15_5, io_18, gr_18_0, gr_18_1, gi_18_2, pf_18_2, io_21, gr_21_0, gr_21_1, gr_21_2, gr_21_3, gi_21_4, pf_21_4, gi_21_5, pf_21_5, gi_21_6, pf_21_6, gi_21_7, pf_21_7, io_34, gr_34_0, gi_34_1, pf_34_1, io_36, gi_36_0, pf_36_0, gi_36_1, pf_36_1, gr_36_2, gr_36_3, gr_36_4, gi_36_5, pf_36_5, gi_36_6, pf_36_6, gi_36_7, pf_36_7, gr_36_8, gr_36_9, gr_36_10, gr_36_11, gi_36_12, pf_36_12, gi_36_13, pf_36_13, gi_36_14, pf_36_14, gr_36_15, gr_36_16, gi_36_17, pf_36_17, gr_36_18, gr_36_19, gr_36_20, gr_36_21, gr_36_22, gi_36_23, pf_36_23, gr_36_24, gr_36_25, gi_36_26, pf_36_26, gr_36_27, gr_36_28, gr_36_29, gr_36_30, gi_36_31, pf_36_31, gr_36_32, gr_36_33, gi_36_34, pf_36_34, gi_36_35, pf_36_35, gr_36_36, al_3, al_4, al_5, al_6, al_7, al_8, al_9, al_10, al_12, al_13, al_14, al_16, al_17, al_19, al_20, al_22, al_23, al_24, al_26, al_27, al_28, al_29, al_30, al_31, al_32, al_33, al_35, al_37, al_38, al_39, al_40, al_41, al_42, al_43, al_44, al_45, al_46, al_47, al_48, al_49, al_50, al_51, al_52, al_53, al_54, al_55, al_56, al_57, al_58, al_59, ↓reduceIte, Option.bind_some, cI_some, cL_some, cV_some, rz_0, rz_1, bI_0, nI_1, e22, ou]
        rw [if_pos hk, if_neg (by rw [hs]; intro w; exact w (by simp))]
      by_cases y : rds * mor σ (gG σ) f (pre R c) k < hold σ s
      · refine ⟨x, (head _).mpr (by rw [if_neg (fun w => w y)]; exact g1), ?_⟩
        rcases g2 with ⟨a, b⟩ | ⟨a, b⟩
        · refine Or.inl ⟨a, fun i h1 h2 hr => ?_⟩
          by_cases q : i = k
          · rw [q, hs, Nat.add_sub_cancel]; exact y
          · exact b i (by omega) h2 hr
        · exact Or.inr ⟨a, fun w => b fun i h1 h2 hr => w i (by omega) h2 hr⟩
      · refine ⟨0, (head _).mpr (by rw [if_pos y]), Or.inr ⟨rfl, fun w => y ?_⟩⟩
        have := w k (Nat.le_refl _) hk z
        rw [hs, Nat.add_sub_cancel] at this
        exact this
theorem c_lastOnes (hf : 1000 ≤ fu) (p : PC σ d f rds A I) (hf9 : f ≤ 9) (hrd : rds ≤ 30) {R : Nat → Nat} {c : Nat} (hc : c ≤ σ 0 0) (hR : ∀ i, i < c → rd (A 22) i = ro (R i)) (ho : okR σ R c) :
    ∃ x : Int32, U_X3_lastOnesStand fu [.ref 21, .ref 2, .int (nI c), .int (nI (bits (pre R c) (σ 0 0)))] (enc A I) = some (some (.int x), enc A I) ∧ ((x = 1 ∧ LO σ f rds R c) ∨ (x = 0 ∧ ¬ LO σ f rds R c)) := by
  have hn := p.1.n7
  obtain ⟨x, g1, g2⟩ := c_lastL (fu := fu) p hf9 hrd hc hR ho (c - (c - 2)) (c - 2) fu (by omega) (by omega)
  refine ⟨x, ?_, g2⟩
  have mx := max2 c (by omega)
  simp -implicitDefEqProofs only [u_X3_lastOnesStand, M_X3_lastOnesStand, io_1, gr_1_0, gr_1_1, gr_1_2, gr_1_3, gr_1_4, gr_1_5, gi_1_6, pf_1_6, gi_1_7, pf_1_7, io_2, gr_2_0, gr_2_1, gr_2_2, gr_2_3, gr_2_4, gr_2_5, gr_2_6, gr_2_7, gi_2_8, pf_2_8, gi_2_9, pf_2_9, gi_2_10, pf_2_10, gi_2_11, pf_2_11, gi_2_12, pf_2_12, gi_2_13, pf_2_13, gi_2_14, pf_2_14, io_11, gr_11_0, gr_11_1, gr_11_2, io_15, gr_15_0, gr_15_1, gi_15_2, pf_15_2, gi_15_3, pf_15_3, gi_15_4, pf_15_4, gi_15_5, pf_15_5, io_18, gr_18_0, gr_18_1, gi_18_2, pf_18_2, io_21, gr_21_0, gr_21_1, gr_21_2, gr_21_3, gi_21_4, pf_21_4, gi_21_5, pf_21_5, gi_21_6, pf_21_6, gi_21_7, pf_21_7, io_34, gr_34_0, gi_34_1, pf_34_1, io_36, gi_36_0, pf_36_0, gi_36_1, pf_36_1, gr_36_2, gr_36_3, gr_36_4, gi_36_5, pf_36_5, gi_36_6, pf_36_6, gi_36_7, pf_36_7, gr_36_8, gr_36_9, gr_36_10, gr_36_11, gi_36_12, pf_36_12, gi_36_13, pf_36_13, gi_36_14, pf_36_14, gr_36_15, gr_36_16, gi_36_17, pf_36_17, gr_36_18, gr_36_19, gr_36_20, gr_36_21, gr_36_22, gi_36_23, pf_36_23, gr_36_24, gr_36_25, gi_36_26, pf_36_26, gr_36_27, gr_36_28, gr_36_29, gr_36_30, gi_36_31, pf_36_31, gr_36_32, gr_36_33, gi_36_34, pf_36_34, gi_36_35, pf_36_35, gr_36_36, al_3, al_4, al_5, al_6, al_7, al_8, al_9, al_10, al_12, al_13, al_14, al_16, al_17, al_19, al_20, al_22, al_23, al_24, al_26, al_27, al_28, al_29, al_30, al_31, al_32, al_33, al_35, al_37, al_38, al_39, al_40, al_41, al_42, al_43, al_44, al_45, al_46, al_47, al_48, al_49, al_50, al_51, al_52, al_53, al_54, al_55, al_56, al_57, al_58, al_59, ↓reduceIte, Option.bind_some, cI_some, cL_some, cV_some, rz_0, rz_1, oMax, mx]
  exact g1
theorem c_take (p : PC σ d f rds A I) {R : Nat → Nat} (hR : ∀ c, c < σ 0 0 → rd (A 22) c = ro (R c)) (ho : okR σ R (σ 0 0)) :
    ∃ A1 I1, U_X3_take fu [.ref 21, .int (nI (ct σ R (σ 0 0)))] (enc A I) = some (none, enc A1 I1) ∧ FrQ A I A1 I1 ∧ A1 22 = A 22 ∧ BSc σ (some R) A1 I1 := by
  have r := p.1
  have hn := r.n7
  have l22 : (A 22).length = 7 := r.len rfl
  have l23 : (A 23).length = 7 := r.len rfl
  have cp : oCopy [.ref 22, .int 0, .ref 23, .int 0, .int 7] (enc A (uI I 21 4 (nI (ct σ R (σ 0 0))))) = some (none, enc (uA A 23 (cpy (A 22) (A 23) 0 0 7)) (uI I 21 4 (nI (ct σ R (σ 0 0))))) :=
    (sC_enc (w := enc A _) (o := 22) (o2 := 23) (xs := A 22) (ys := A 23) (a := 0) (b := 0) (n := 7) rfl rfl (by decide) (by decide) (by omega) (by omega) (by omega) (by omega)).trans (congrArg some (congrArg (Prod.mk none) rfl))
  refine ⟨_, _, ?_, ((FrQ.rf A I).int (nI (ct σ R (σ 0 0)))).arr (k := 23) (xs := cpy (A 22) (A 23) 0 0 7) (by omega) (cpy_len (by omega) (by omega)), uA_n _ _ _ (by decide), uI_s _ _ _ _, fun b hb => ?_⟩
  · simp -implicitDefEqProofs only [u_X3_take, M_X3_take, io_1, gr_1_0, gr_1_1, gr_1_2, gr_1_3, gr_1_4, gr_1_5, gi_1_6, pf_1_6, gi_1_7, pf_1_7, io_2, gr_2_0, gr_2_1, gr_2_2, gr_2_3, gr_2_4, gr_2_5, gr_2_6, gr_2_7, gi_2_8, pf_2_8, gi_2_9, pf_2_9, gi_2_10, pf_2_10, gi_2_11, pf_2_11, gi_2_12, pf_2_12, gi_2_13, pf_2_13, gi_2_14, pf_2_14, io_11, gr_11_0, gr_11_1, gr_11_2, io_15, gr_15_0, gr_15_1, gi_15_2, pf_15_2, gi_15_3, pf_15_3, gi_15_4, pf_15_4, gi_15_5, pf_15_5, io_18, gr_18_0, gr_18_1, gi_18_2, pf_18_2, io_21, gr_21_0, gr_21_1, gr_21_2, gr_21_3, gi_21_4, pf_21_4, gi_21_5, pf_21_5, gi_21_6, pf_21_6, gi_21_7, pf_21_7, io_34, gr_34_0, gi_34_1, pf_34_1, io_36, gi_36_0, pf_36_0, gi_36_1, pf_36_1, gr_36_2, gr_36_3, gr_36_4, gi_36_5, pf_36_5, gi_36_6, pf_36_6, gi_36_7, pf_36_7, gr_36_8, gr_36_9, gr_36_10, gr_36_11, gi_36_12, pf_36_12, gi_36_13, pf_36_13, gi_36_14, pf_36_14, gr_36_15, gr_36_16, gi_36_17, pf_36_17, gr_36_18, gr_36_19, gr_36_20, gr_36_21, gr_36_22, gi_36_23, pf_36_23, gr_36_24, gr_36_25, gi_36_26, pf_36_26, gr_36_27, gr_36_28, gr_36_29, gr_36_30, gi_36_31, pf_36_31, gr_36_32, gr_36_33, gi_36_34, pf_36_34, gi_36_35, pf_36_35, gr_36_36, al_3, al_4, al_5, al_6, al_7, al_8, al_9, al_10, al_12, al_13, al_14, al_16, al_17, al_19, al_20, al_22, al_23, al_24, al_26, al_27, al_28, al_29, al_30, al_31, al_32, al_33, al_35, al_37, al_38, al_39, al_40, al_41, al_42, al_43, al_44, al_45, al_46, al_47, al_48, al_49, al_50, al_51, al_52, al_53, al_54, al_55, al_56, al_57, al_58, al_59, ↓reduceIte, Option.bind_some, cI_some, cL_some, cV_some, rz_0, rz_1, cp]
  · cases hb
    refine ⟨ho, fun c hc => ?_⟩
    rw [uA_s, cpy_rd (by omega) (by omega), if_pos ⟨Nat.zero_le _, by omega⟩, Nat.zero_add, Nat.sub_zero]
    exact hR c hc
/-- the machine's state of a search at a place -/
def NodeC (σ : SG) (fu d f rds : Nat) (c k : Nat) : Prop :=
  ∀ (R : Nat → Nat) (u : Nat → Bool) (A : Nat → List Int32) (I : Nat → Nat → Int32) (o : Option (Nat → Nat)), PC σ d f rds A I → (∀ i, i < c → rd (A 22) i = ro (R i)) → Pt σ d f rds R c u → BSc σ o A I → (∀ b, o = some b → lx R c < lx b c) →
    ∃ A1 I1 o', U_X3_layFrom fu k [.ref 21, .ref 2, .int (nI c), .int (nI (bits u (σ 0 3))), .int (nI (bits (pre R c) (σ 0 0))), .int (nI (ct σ R c)), .int (nI (FaR σ d f rds R c))] (enc A I) = some (none, enc A1 I1) ∧ FrQ A I A1 I1 ∧ (∀ i, i < c → rd (A1 22) i = rd (A 22) i) ∧ BSc σ o' A1 I1 ∧ UpB σ (VS σ d f rds) o o' (Cm R c)
theorem node_loop (hf : 1000 ≤ fu) (hd1 : 1 ≤ d) (hd : d ≤ 9) {c k : Nat} (hc : c < σ 0 0) (hN : NodeC σ fu d f rds (c + 1) k) {R : Nat → Nat} {u : Nat → Bool} (hp : Pt σ d f rds R c u) (hl : LO σ f rds R c) : ∀ j n (A : Nat → List Int32) (I : Nat → Nat → Int32) (o : Option (Nat → Nat)), j ≤ σ 0 3 → j < n → PC σ d f rds A I → (∀ i, i < c → rd (A 22) i = ro (R i)) → BSc σ o A I → (∀ b, o = some b → lx R c * 7 + j ≤ lx b (c + 1)) →
    ∃ A1 I1 o', F_X3_layFrom fu (U_X3_layFrom fu k) n 21 2 (nI c) (nI (bits u (σ 0 3))) (nI (bits (pre R c) (σ 0 0))) (nI (ct σ R c)) (nI (FaR σ d f rds R c)) (nI j - 1) (enc A I) = some (none, enc A1 I1) ∧ FrQ A I A1 I1 ∧ (∀ i, i < c → rd (A1 22) i = rd (A 22) i) ∧ BSc σ o' A1 I1 ∧ UpB σ (VS σ d f rds) o o' (fun R' => Cm R c R' ∧ ∃ s, s < j ∧ R' c = s + 1) := by
  intro j
  induction j with
  | zero =>
    intro n A I o hj hn2 pc h22 hb hba
    obtain ⟨n, rfl⟩ : ∃ i, n = i + 1 := ⟨n - 1, by omega⟩
    refine ⟨A, I, o, ?_, FrQ.rf A I, fun i hi => rfl, hb, UpB.rf fun R' hR' _ => ?_⟩
    · rw [F_X3_layFrom]
      dsimp only
      rw [if_pos (by decide)]
    · obtain ⟨s, hs, _⟩ := hR'.2
      omega
  | succ j ih =>
    intro n A I o hj hn2 pc h22 hb hba
    have r := pc.1
    have hn := r.n7
    have hm := r.m6
    have hjM : j < σ 0 3 := by omega
    have l22 : (A 22).length = 7 := r.len rfl
    obtain ⟨n, rfl⟩ : ∃ i, n = i + 1 := ⟨n - 1, by omega⟩
    have hbu : bits u (σ 0 3) < 2147483648 := Nat.lt_trans (bits_ge (by omega)) (by decide)
    have tu : (bits u (σ 0 3)).testBit j = u j := by rw [bits_test, decide_eq_true hjM, Bool.true_and]
    have hFa := FaR_le (σ := σ) (d := d) (f := f) (rds := rds) R c
    -- without this stone
    have skip : (∀ R', Cm R c R' → R' c = j + 1 → ¬ VS σ d f rds R') → ∃ A1 I1 o', F_X3_layFrom fu (U_X3_layFrom fu k) n 21 2 (nI c) (nI (bits u (σ 0 3))) (nI (bits (pre R c) (σ 0 0))) (nI (ct σ R c)) (nI (FaR σ d f rds R c)) (nI j - 1) (enc A I) = some (none, enc A1 I1) ∧ FrQ A I A1 I1 ∧ (∀ i, i < c → rd (A1 22) i = rd (A 22) i) ∧ BSc σ o' A1 I1 ∧ UpB σ (VS σ d f rds) o o' (fun R' => Cm R c R' ∧ ∃ s, s < j + 1 ∧ R' c = s + 1) := fun hno => by
      obtain ⟨A1, I1, o', a1, a2, a3, a4, a5⟩ := ih n A I o (by omega) (by omega) pc h22 hb (fun b hb2 => by have := hba b hb2; omega)
      refine ⟨A1, I1, o', a1, a2, a3, a4, UpB.tr (UpB.rf (C := fun _ => False) (fun _ h _ => h.elim)) a5 (fun _ h => h.elim) (fun R' h => ?_) (fun R' h hV => ?_)⟩
      · obtain ⟨h1, s, hs, h2⟩ := h
        exact ⟨h1, s, by omega, h2⟩
      · obtain ⟨h1, s, hs, h2⟩ := h
        by_cases y : s = j
        · rw [y] at h2; exact absurd hV (hno R' h1 h2)
        · exact Or.inr ⟨h1, s, by omega, h2⟩
    have hh := c_helps (fu := fu) (f := f) (rds := rds) r pc.2.2.2.2.1 hjM hc hFa
    rw [F_X3_layFrom]
    simp -implicitDefEqProofs only [n_sub1, n_neg (show j < 2147483648 by omega), if_false, io_1, gr_1_0, gr_1_1, gr_1_2, gr_1_3, gr_1_4, gr_1_5, gi_1_6, pf_1_6, gi_1_7, pf_1_7, io_2, gr_2_0, gr_2_1, gr_2_2, gr_2_3, gr_2_4, gr_2_5, gr_2_6, gr_2_7, gi_2_8, pf_2_8, gi_2_9, pf_2_9, gi_2_10, pf_2_10, gi_2_11, pf_2_11, gi_2_12, pf_2_12, gi_2_13, pf_2_13, gi_2_14, pf_2_14, io_11, gr_11_0, gr_11_1, gr_11_2, io_15, gr_15_0, gr_15_1, gi_15_2, pf_15_2, gi_15_3, pf_15_3, gi_15_4, pf_15_4, gi_15_5, pf_15_5, io_18, gr_18_0, gr_18_1, gi_18_2, pf_18_2, io_21, gr_21_0, gr_21_1, gr_21_2, gr_21_3, gi_21_4, pf_21_4, gi_21_5, pf_21_5, gi_21_6, pf_21_6, gi_21_7, pf_21_7, io_34, gr_34_0, gi_34_1, pf_34_1, io_36, gi_36_0, pf_36_0, gi_36_1, pf_36_1, gr_36_2, gr_36_3, gr_36_4, gi_36_5, pf_36_5, gi_36_6, pf_36_6, gi_36_7, pf_36_7, gr_36_8, gr_36_9, gr_36_10, gr_36_11, gi_36_12, pf_36_12, gi_36_13, pf_36_13, gi_36_14, pf_36_14, gr_36_15, gr_36_16, gi_36_17, pf_36_17, gr_36_18, gr_36_19, gr_36_20, gr_36_21, gr_36_22, gi_36_23, pf_36_23, gr_36_24, gr_36_25, gi_36_26, pf_36_26, gr_36_27, gr_36_28, gr_36_29, gr_36_30, gi_36_31, pf_36_31, gr_36_32, gr_36_33, gi_36_34, pf_36_34, gi_36_35, pf_36_35, gr_36_36, al_3, al_4, al_5, al_6, al_7, al_8, al_9, al_10, al_12, al_13, al_14, al_16, al_17, al_19, al_20, al_22, al_23, al_24, al_26, al_27, al_28, al_29, al_30, al_31, al_32, al_33, al_35, al_37, al_38, al_39, al_40, al_41, al_42, al_43, al_44, al_45, al_46, al_47, al_48, al_49, al_50, al_51, al_52, al_53, al_54, al_55, al_56, al_57, al_58, al_59, ↓reduceIte, Option.bind_some, cI_some, cL_some, cV_some, rz_0, rz_1, c_hasn _ hbu (show j < 31 by omega), tu, bI_0, n_m1, hh]
    by_cases z1 : u j = true
    · rw [if_neg (fun w => w z1)]
      refine skip (fun R' h1 h2 hV => ?_)
      have ho := hV.1.1.1
      obtain ⟨i, hi, hr⟩ := (hp.2.1 j).mp z1
      have hri := h1 i hi
      exact ho.2 i c hi hc (by rw [hri, hr]; exact Nat.succ_ne_zero j) (by rw [hri, hr, h2])
    rw [if_pos z1]
    by_cases z2 : uyB σ f rds j c = true ∧ c ≤ FaR σ d f rds R c + esN σ j
    rotate_left
    · rw [if_pos z2]
      refine skip (fun R' h1 h2 hV => z2 ?_)
      have q0 := hV.1.1.1.1 c hc (by omega)
      have q1 := hV.1.2 c hc (by omega)
      rw [h2, Nat.add_sub_cancel] at q0 q1
      have q1c := (hV.1.1.near r.1).1 c hc
      have eC := Ss_x (σ := σ) (f := f) (rds := rds) hc h2
      have e1 : GsR σ d f rds R' c = GsR σ d f rds R c := Gs_congr c h1
      rw [eC.1, eC.2, e1] at q1c
      exact ⟨by unfold uyB; rw [q1, decide_eq_true q0.2]; rfl, (near_fa hd1 hc).mp (q1c q1)⟩
    rw [if_neg (fun w => w z2)]
    -- with it
    have hu : u j = false := Bool.eq_false_iff.mpr z1
    obtain ⟨y0, y1⟩ : σ 8 j ≠ 100 ∧ syB σ f rds j c = true := by
      have := z2.1
      unfold uyB at this
      rw [Bool.and_eq_true, decide_eq_true_iff] at this
      exact this
    have hp1 := hp.stone hc hl hjM y0 hu y1 ((near_fa hd1 hc).mpr z2.2)
    have ag : ∀ i, i < c → updN R c (j + 1) i = R i := fun i hi => updN_o R _ (by omega)
    have g2 := Fa_stone (σ := σ) (d := d) (f := f) (rds := rds) hc (updN_c R c (j + 1)) y1
    have gw : ct σ (updN R c (j + 1)) (c + 1) = ct σ R c + csN σ j c := by
      unfold ct csN
      rw [wr, mr, updN_c, if_neg (Nat.succ_ne_zero j), if_neg (Nat.succ_ne_zero j), Nat.add_sub_cancel, wr_congr c ag, mr_congr c ag]
      omega
    have glx : lx (updN R c (j + 1)) (c + 1) = lx R c * 7 + j := by
      rw [lx, updN_c, lx_congr c ag]
      unfold dg
      rw [if_neg (Nat.succ_ne_zero j), Nat.add_sub_cancel]
    have s22 := si_22 A I (nI j) (show c < (A 22).length by omega) (show c < 2147483648 by omega)
    have hF : FrQ A I (uA A 22 ((A 22).set c (nI j))) I := (FrQ.rf A I).arr (k := 22) (xs := (A 22).set c (nI j)) (by omega) (by rw [List.length_set])
    have v22 : ∀ i, rd (uA A 22 ((A 22).set c (nI j)) 22) i = if i = c then nI j else rd (A 22) i := fun i => by rw [uA_s, rd_set _ _ (by omega)]
    obtain ⟨A1, I1, o1, c1, c2, c3, c4, c5⟩ := hN (updN R c (j + 1)) _ _ I o (hF.pc pc) (fun i hi => by
      rw [v22]
      by_cases y : i = c
      · rw [if_pos y, y, updN_c]; rfl
      · rw [if_neg y, ag i (by omega)]; exact h22 i (by omega)) hp1 (hb.cg (uA_n _ _ _ (by decide)) rfl) (fun b hb2 => by rw [glx]; have := hba b hb2; omega)
    have hF1 := hF.tr c2
    have p22 : ∀ i, i < c → rd (A1 22) i = rd (A 22) i := fun i hi => by rw [c3 i (by omega), v22, if_neg (by omega)]
    -- what it has found lies behind the next stones
    have hba1 : ∀ b, o1 = some b → lx R c * 7 + j ≤ lx b (c + 1) := fun b hb2 => by
      rcases c5.1 with q | ⟨b', q1, q2, q3⟩
      · rw [q] at hb2; have := hba b hb2; omega
      · rw [hb2] at q1
        cases q1
        have e : lx b (c + 1) = lx (updN R c (j + 1)) (c + 1) := lx_congr _ q2
        rw [e, glx]
        exact Nat.le_refl _
    obtain ⟨A2, I2, o2, a1, a2, a3, a4, a5⟩ := ih n A1 I1 o1 (by omega) (by omega) (hF1.pc pc) (fun i hi => by rw [p22 i hi]; exact h22 i hi) c4 hba1
    have ub1 : nI (bits u (σ 0 3)) ||| ((1 : Int32) <<< (nI j &&& 31)) = nI (bits (fun t => u t || decide (t = j)) (σ 0 3)) := by
      rw [sh_1 (by omega), n_or, bits_one _ hjM]
    have ub2 : nI (bits (pre R c) (σ 0 0)) ||| ((1 : Int32) <<< (nI c &&& 31)) = nI (bits (pre (updN R c (j + 1)) (c + 1)) (σ 0 0)) := by
      rw [sh_1 (by omega), n_or, bits_one _ hc]
      congr 1
      refine bits_congr _ fun i hi => ?_
      unfold pre
      by_cases y : i = c
      · rw [y, updN_c]; simp
      · rw [updN_o R _ y]
        by_cases q : i < c
        · rw [decide_eq_true q, decide_eq_true (show i < c + 1 by omega)]; simp [y]
        · rw [decide_eq_false q, decide_eq_false (show ¬ i < c + 1 by omega)]; simp [y]
    rw [gw, g2] at c1
    refine ⟨A2, I2, o2, ?_, hF1.tr a2, fun i hi => by rw [a3 i hi, p22 i hi], a4, UpB.tr c5 a5 (fun R' h => ?_) (fun R' h => ?_) (fun R' h hV => ?_)⟩
    · have rF := hF.Fr.R r
      have co := c_costOf (fu := fu) rF hjM hc
      have fb := c_farBehind (fu := fu) rF pc.2.1 hd hjM hc
      simp -implicitDefEqProofs only [io_1, gr_1_0, gr_1_1, gr_1_2, gr_1_3, gr_1_4, gr_1_5, gi_1_6, pf_1_6, gi_1_7, pf_1_7, io_2, gr_2_0, gr_2_1, gr_2_2, gr_2_3, gr_2_4, gr_2_5, gr_2_6, gr_2_7, gi_2_8, pf_2_8, gi_2_9, pf_2_9, gi_2_10, pf_2_10, gi_2_11, pf_2_11, gi_2_12, pf_2_12, gi_2_13, pf_2_13, gi_2_14, pf_2_14, io_11, gr_11_0, gr_11_1, gr_11_2, io_15, gr_15_0, gr_15_1, gi_15_2, pf_15_2, gi_15_3, pf_15_3, gi_15_4, pf_15_4, gi_15_5, pf_15_5, io_18, gr_18_0, gr_18_1, gi_18_2, pf_18_2, io_21, gr_21_0, gr_21_1, gr_21_2, gr_21_3, gi_21_4, pf_21_4, gi_21_5, pf_21_5, gi_21_6, pf_21_6, gi_21_7, pf_21_7, io_34, gr_34_0, gi_34_1, pf_34_1, io_36, gi_36_0, pf_36_0, gi_36_1, pf_36_1, gr_36_2, gr_36_3, gr_36_4, gi_36_5, pf_36_5, gi_36_6, pf_36_6, gi_36_7, pf_36_7, gr_36_8, gr_36_9, gr_36_10, gr_36_11, gi_36_12, pf_36_12, gi_36_13, pf_36_13, gi_36_14, pf_36_14, gr_36_15, gr_36_16, gi_36_17, pf_36_17, gr_36_18, gr_36_19, gr_36_20, gr_36_21, gr_36_22, gi_36_23, pf_36_23, gr_36_24, gr_36_25, gi_36_26, pf_36_26, gr_36_27, gr_36_28, gr_36_29, gr_36_30, gi_36_31, pf_36_31, gr_36_32, gr_36_33, gi_36_34, pf_36_34, gi_36_35, pf_36_35, gr_36_36, al_3, al_4, al_5, al_6, al_7, al_8, al_9, al_10, al_12, al_13, al_14, al_16, al_17, al_19, al_20, al_22, al_23, al_24, al_26, al_27, al_28, al_29, al_30, al_31, al_32, al_33, al_35, al_37, al_38, al_39, al_40, al_41, al_42, al_43, al_44, al_45, al_46, al_47, al_48, al_49, al_50, al_51, al_52, al_53, al_54, al_55, al_56, al_57, al_58, al_59, ↓reduceIte, Option.bind_some, cI_some, cL_some, cV_some, rz_0, rz_1, s22, co, fb, ub1, ub2, nI_add, nI_1, c1]
      exact a1
    · refine ⟨fun i hi => by rw [h i (by omega), ag i hi], j, by omega, ?_⟩
      rw [h c (by omega), updN_c]
    · obtain ⟨h1, s, hs, h2⟩ := h
      exact ⟨h1, s, by omega, h2⟩
    · obtain ⟨h1, s, hs, h2⟩ := h
      by_cases y : s = j
      · refine Or.inl fun i hi => ?_
        by_cases q : i = c
        · rw [q, updN_c, h2, y]
        · rw [ag i (by omega), h1 i (by omega)]
      · exact Or.inr ⟨h1, s, by omega, h2⟩
theorem node_step (hf : 1000 ≤ fu) (hd1 : 1 ≤ d) (hd : d ≤ 9) (hf9 : f ≤ 9) (hrd : rds ≤ 30) {c k : Nat} (hcN : c ≤ σ 0 0) (hN : c < σ 0 0 → NodeC σ fu d f rds (c + 1) k) : NodeC σ fu d f rds c (k + 1) := by
  intro R u A I o pc h22 hp hb hba
  have r := pc.1
  have hw := r.1
  have hn := r.n7
  have hm := r.m6
  have hFa := FaR_le (σ := σ) (d := d) (f := f) (rds := rds) R c
  have hls := lsF_le (σ := σ) (d := d) (f := f) (rds := rds) (σ 0 0 - c) (FaR σ d f rds R c)
  have hct := ct_lt hw hcN hp.1
  have hbc := bcN_le r hb
  have ar := ar_L A I (show c < 8 by omega)
  have e8 : aI (enc A I) (26 + c) (nI (FaR σ d f rds R c)) = some (nI (lsF σ d f rds (σ 0 0 - c) (FaR σ d f rds R c))) := by
    rw [ai_L A I (by omega) (by rw [len_L r (by omega)]; omega) (by omega), pc.2.2.2.2.2 c hcN _ hFa]
  have hcmp : (nI (bcN σ o) < nI (ct σ R c + lsF σ d f rds (σ 0 0 - c) (FaR σ d f rds R c))) = (bcN σ o < ct σ R c + lsF σ d f rds (σ 0 0 - c) (FaR σ d f rds R c)) := n_lt (by omega) (by omega)
  have none' : (∀ R', Cm R c R' → VS σ d f rds R' → ∃ b', o = some b' ∧ cdR σ b' ≤ cdR σ R') → U_X3_layFrom fu (k + 1) [.ref 21, .ref 2, .int (nI c), .int (nI (bits u (σ 0 3))), .int (nI (bits (pre R c) (σ 0 0))), .int (nI (ct σ R c)), .int (nI (FaR σ d f rds R c))] (enc A I) = some (none, enc A I) →
      ∃ A1 I1 o', U_X3_layFrom fu (k + 1) [.ref 21, .ref 2, .int (nI c), .int (nI (bits u (σ 0 3))), .int (nI (bits (pre R c) (σ 0 0))), .int (nI (ct σ R c)), .int (nI (FaR σ d f rds R c))] (enc A I) = some (none, enc A1 I1) ∧ FrQ A I A1 I1 ∧ (∀ i, i < c → rd (A1 22) i = rd (A 22) i) ∧ BSc σ o' A1 I1 ∧ UpB σ (VS σ d f rds) o o' (Cm R c) := fun h1 h2 =>
    ⟨A, I, o, h2, FrQ.rf A I, fun _ _ => rfl, hb, UpB.rf h1⟩
  by_cases z1 : bcN σ o < ct σ R c + lsF σ d f rds (σ 0 0 - c) (FaR σ d f rds R c)
  · refine none' (fun R' h1 hV => ?_) ?_
    · have lo := ls_low hw hd1 hV (σ 0 0 - c) c (by omega)
      rw [ct_congr c h1, Fa_congr c h1] at lo
      have hc2 := ct_lt hw (Nat.le_refl _) hV.1.1.1
      cases o with
      | none =>
        have z1 : 1000000 < _ := z1
        omega
      | some b =>
        have z1 : ct σ b (σ 0 0) < _ := z1
        exact ⟨b, rfl, ct_worse hw (hb.2 b rfl).1 hV.1.1.1 (by omega)⟩
    · simp -implicitDefEqProofs only [u_X3_layFrom, M_X3_layFrom, io_1, gr_1_0, gr_1_1, gr_1_2, gr_1_3, gr_1_4, gr_1_5, gi_1_6, pf_1_6, gi_1_7, pf_1_7, io_2, gr_2_0, gr_2_1, gr_2_2, gr_2_3, gr_2_4, gr_2_5, gr_2_6, gr_2_7, gi_2_8, pf_2_8, gi_2_9, pf_2_9, gi_2_10, pf_2_10, gi_2_11, pf_2_11, gi_2_12, pf_2_12, gi_2_13, pf_2_13, gi_2_14, pf_2_14, io_11, gr_11_0, gr_11_1, gr_11_2, io_15, gr_15_0, gr_15_1, gi_15_2, pf_15_2, gi_15_3, pf_15_3, gi_15_4, pf_15_4, gi_15_5, pf_15_5, io_18, gr_18_0, gr_18_1, gi_18_2, pf_18_2, io_21, gr_21_0, gr_21_1, gr_21_2, gr_21_3, gi_21_4, pf_21_4, gi_21_5, pf_21_5, gi_21_6, pf_21_6, gi_21_7, pf_21_7, io_34, gr_34_0, gi_34_1, pf_34_1, io_36, gi_36_0, pf_36_0, gi_36_1, pf_36_1, gr_36_2, gr_36_3, gr_36_4, gi_36_5, pf_36_5, gi_36_6, pf_36_6, gi_36_7, pf_36_7, gr_36_8, gr_36_9, gr_36_10, gr_36_11, gi_36_12, pf_36_12, gi_36_13, pf_36_13, gi_36_14, pf_36_14, gr_36_15, gr_36_16, gi_36_17, pf_36_17, gr_36_18, gr_36_19, gr_36_20, gr_36_21, gr_36_22, gi_36_23, pf_36_23, gr_36_24, gr_36_25, gi_36_26, pf_36_26, gr_36_27, gr_36_28, gr_36_29, gr_36_30, gi_36_31, pf_36_31, gr_36_32, gr_36_33, gi_36_34, pf_36_34, gi_36_35, pf_36_35, gr_36_36, al_3, al_4, al_5, al_6, al_7, al_8, al_9, al_10, al_12, al_13, al_14, al_16, al_17, al_19, al_20, al_22, al_23, al_24, al_26, al_27, al_28, al_29, al_30, al_31, al_32, al_33, al_35, al_37, al_38, al_39, al_40, al_41, al_42, al_43, al_44, al_45, al_46, al_47, al_48, al_49, al_50, al_51, al_52, al_53, al_54, al_55, al_56, al_57, al_58, al_59, ↓reduceIte, Option.bind_some, cI_some, cL_some, cV_some, rz_0, rz_1, ar, e8, hb.1, nI_add, hcmp]
      rw [if_pos z1]
  obtain ⟨x, lo1, lo2⟩ := c_lastOnes (fu := fu) hf pc hf9 hrd hcN h22 hp.1
  rcases lo2 with ⟨rfl, hl⟩ | ⟨rfl, hl⟩
  rotate_left
  · refine none' (fun R' h1 hV => absurd (LO_of hcN h1 hV) hl) ?_
    simp -implicitDefEqProofs only [u_X3_layFrom, M_X3_layFrom, io_1, gr_1_0, gr_1_1, gr_1_2, gr_1_3, gr_1_4, gr_1_5, gi_1_6, pf_1_6, gi_1_7, pf_1_7, io_2, gr_2_0, gr_2_1, gr_2_2, gr_2_3, gr_2_4, gr_2_5, gr_2_6, gr_2_7, gi_2_8, pf_2_8, gi_2_9, pf_2_9, gi_2_10, pf_2_10, gi_2_11, pf_2_11, gi_2_12, pf_2_12, gi_2_13, pf_2_13, gi_2_14, pf_2_14, io_11, gr_11_0, gr_11_1, gr_11_2, io_15, gr_15_0, gr_15_1, gi_15_2, pf_15_2, gi_15_3, pf_15_3, gi_15_4, pf_15_4, gi_15_5, pf_15_5, io_18, gr_18_0, gr_18_1, gi_18_2, pf_18_2, io_21, gr_21_0, gr_21_1, gr_21_2, gr_21_3, gi_21_4, pf_21_4, gi_21_5, pf_21_5, gi_21_6, pf_21_6, gi_21_7, pf_21_7, io_34, gr_34_0, gi_34_1, pf_34_1, io_36, gi_36_0, pf_36_0, gi_36_1, pf_36_1, gr_36_2, gr_36_3, gr_36_4, gi_36_5, pf_36_5, gi_36_6, pf_36_6, gi_36_7, pf_36_7, gr_36_8, gr_36_9, gr_36_10, gr_36_11, gi_36_12, pf_36_12, gi_36_13, pf_36_13, gi_36_14, pf_36_14, gr_36_15, gr_36_16, gi_36_17, pf_36_17, gr_36_18, gr_36_19, gr_36_20, gr_36_21, gr_36_22, gi_36_23, pf_36_23, gr_36_24, gr_36_25, gi_36_26, pf_36_26, gr_36_27, gr_36_28, gr_36_29, gr_36_30, gi_36_31, pf_36_31, gr_36_32, gr_36_33, gi_36_34, pf_36_34, gi_36_35, pf_36_35, gr_36_36, al_3, al_4, al_5, al_6, al_7, al_8, al_9, al_10, al_12, al_13, al_14, al_16, al_17, al_19, al_20, al_22, al_23, al_24, al_26, al_27, al_28, al_29, al_30, al_31, al_32, al_33, al_35, al_37, al_38, al_39, al_40, al_41, al_42, al_43, al_44, al_45, al_46, al_47, al_48, al_49, al_50, al_51, al_52, al_53, al_54, al_55, al_56, al_57, al_58, al_59, ↓reduceIte, Option.bind_some, cI_some, cL_some, cV_some, rz_0, rz_1, ar, e8, hb.1, nI_add, hcmp, lo1]
    rw [if_neg z1]
  by_cases hc : c < σ 0 0
  · -- a cell more
    have hp0 := hp.none hc hl
    have ag : ∀ i, i < c → updN R c 0 i = R i := fun i hi => updN_o R 0 (by omega)
    have l22 : (A 22).length = 7 := r.len rfl
    have s22 := si_22 A I (-9) (show c < (A 22).length by omega) (show c < 2147483648 by omega)
    have hF : FrQ A I (uA A 22 ((A 22).set c (-9))) I := (FrQ.rf A I).arr (k := 22) (xs := (A 22).set c (-9)) (by omega) (by rw [List.length_set])
    have v22 : ∀ i, rd (uA A 22 ((A 22).set c (-9)) 22) i = if i = c then -9 else rd (A 22) i := fun i => by rw [uA_s, rd_set _ _ (by omega)]
    have g2 : FaR σ d f rds (updN R c 0) (c + 1) = FaR σ d f rds R c := (Fa_none hc (updN_c R c 0)).trans (Fa_congr c ag)
    have gw : ct σ (updN R c 0) (c + 1) = ct σ R c := by
      unfold ct
      rw [wr, mr, updN_c, if_pos rfl, if_pos rfl, Nat.add_zero, Nat.add_zero, wr_congr c ag, mr_congr c ag]
    have gp2 : bits (pre (updN R c 0) (c + 1)) (σ 0 0) = bits (pre R c) (σ 0 0) := bits_congr _ fun i hi => by
      unfold pre
      by_cases y : i = c
      · rw [y, updN_c]; simp
      · rw [updN_o R _ y]
        by_cases q : i < c
        · rw [decide_eq_true q, decide_eq_true (show i < c + 1 by omega)]
        · rw [decide_eq_false q, decide_eq_false (show ¬ i < c + 1 by omega)]
    have glx : lx (updN R c 0) (c + 1) = lx R c * 7 + 6 := by rw [lx, updN_c, lx_congr c ag]; rfl
    obtain ⟨A1, I1, o1, c1, c2, c3, c4, c5⟩ := hN hc (updN R c 0) u _ I o (hF.pc pc) (fun i hi => by
      rw [v22]
      by_cases y : i = c
      · rw [if_pos y, y, updN_c]; rfl
      · rw [if_neg y, ag i (by omega)]; exact h22 i (by omega)) hp0 (hb.cg (uA_n _ _ _ (by decide)) rfl) (fun b hb2 => by
      rw [glx, lx]
      have := hba b hb2
      omega)
    rw [g2, gw, gp2] at c1
    have hF1 := hF.tr c2
    have p22 : ∀ i, i < c → rd (A1 22) i = rd (A 22) i := fun i hi => by rw [c3 i (by omega), v22, if_neg (by omega)]
    obtain ⟨A2, I2, o2, a1, a2, a3, a4, a5⟩ := node_loop hf hd1 hd hc (hN hc) hp hl (σ 0 3) fu A1 I1 o1 (Nat.le_refl _) (by omega) (hF1.pc pc) (fun i hi => by rw [p22 i hi]; exact h22 i hi) c4 (fun b hb2 => by
      rcases c5.1 with q | ⟨b', q1, q2, q3⟩
      · rw [q] at hb2
        have := hba b hb2
        rw [lx]
        omega
      · rw [hb2] at q1
        cases q1
        have e : lx b (c + 1) = lx (updN R c 0) (c + 1) := lx_congr _ q2
        rw [e, glx]
        omega)
    have r1 := (hF1.pc pc).1
    refine ⟨A2, I2, o2, ?_, hF1.tr a2, fun i hi => by rw [a3 i hi, p22 i hi], a4, UpB.tr c5 a5 (fun R' h i hi => by rw [h i (by omega), ag i hi]) (fun R' h => h.1) (fun R' h hV => ?_)⟩
    · have h10 : ¬ (1 : Int32) = 0 := by decide
      simp -implicitDefEqProofs only [u_X3_layFrom, M_X3_layFrom, io_1, gr_1_0, gr_1_1, gr_1_2, gr_1_3, gr_1_4, gr_1_5, gi_1_6, pf_1_6, gi_1_7, pf_1_7, io_2, gr_2_0, gr_2_1, gr_2_2, gr_2_3, gr_2_4, gr_2_5, gr_2_6, gr_2_7, gi_2_8, pf_2_8, gi_2_9, pf_2_9, gi_2_10, pf_2_10, gi_2_11, pf_2_11, gi_2_12, pf_2_12, gi_2_13, pf_2_13, gi_2_14, pf_2_14, io_11, gr_11_0, gr_11_1, gr_11_2, io_15, gr_15_0, gr_15_1, gi_15_2, pf_15_2, gi_15_3, pf_15_3, gi_15_4, pf_15_4, gi_15_5, pf_15_5, io_18, gr_18_0, gr_18_1, gi_18_2, pf_18_2, io_21, gr_21_0, gr_21_1, gr_21_2, gr_21_3, gi_21_4, pf_21_4, gi_21_5, pf_21_5, gi_21_6, pf_21_6, gi_21_7, pf_21_7, io_34, gr_34_0, gi_34_1, pf_34_1, io_36, gi_36_0, pf_36_0, gi_36_1, pf_36_1, gr_36_2, gr_36_3, gr_36_4, gi_36_5, pf_36_5, gi_36_6, pf_36_6, gi_36_7, pf_36_7, gr_36_8, gr_36_9, gr_36_10, gr_36_11, gi_36_12, pf_36_12, gi_36_13, pf_36_13, gi_36_14, pf_36_14, gr_36_15, gr_36_16, gi_36_17, pf_36_17, gr_36_18, gr_36_19, gr_36_20, gr_36_21, gr_36_22, gi_36_23, pf_36_23, gr_36_24, gr_36_25, gi_36_26, pf_36_26, gr_36_27, gr_36_28, gr_36_29, gr_36_30, gi_36_31, pf_36_31, gr_36_32, gr_36_33, gi_36_34, pf_36_34, gi_36_35, pf_36_35, gr_36_36, al_3, al_4, al_5, al_6, al_7, al_8, al_9, al_10, al_12, al_13, al_14, al_16, al_17, al_19, al_20, al_22, al_23, al_24, al_26, al_27, al_28, al_29, al_30, al_31, al_32, al_33, al_35, al_37, al_38, al_39, al_40, al_41, al_42, al_43, al_44, al_45, al_46, al_47, al_48, al_49, al_50, al_51, al_52, al_53, al_54, al_55, al_56, al_57, al_58, al_59, ↓reduceIte, Option.bind_some, cI_some, cL_some, cV_some, rz_0, rz_1, ar, e8, hb.1, nI_add, hcmp, lo1, if_neg z1, if_neg h10, r.i2_8, n_lt (show c < 2147483648 by omega) (show σ 0 0 < 2147483648 by omega), s22, nI_1, c1, r1.i2_12]
      rw [if_pos hc]
      exact a1
    · by_cases y : R' c = 0
      · refine Or.inl fun i hi => ?_
        by_cases q : i = c
        · rw [q, updN_c, y]
        · rw [ag i (by omega), h i (by omega)]
      · have := (hV.1.1.1.1 c hc y).1
        exact Or.inr ⟨h, R' c - 1, this, by omega⟩
  · -- the row is whole
    have e : c = σ 0 0 := by omega
    subst e
    have hF0 : FaR σ d f rds R (σ 0 0) = σ 0 0 := by
      apply Classical.byContradiction
      intro w
      rw [Nat.sub_self, lsF_0, if_neg w] at z1
      omega
    have hV := hp.whole hl hF0 hd1
    rw [Nat.sub_self, lsF_0, if_pos hF0, Nat.add_zero] at z1
    obtain ⟨A1, I1, t1, t2, t3, t4⟩ := c_take (fu := fu) pc h22 hp.1
    refine ⟨A1, I1, some R, ?_, t2, fun i _ => by rw [t3], t4, Or.inr ⟨R, rfl, fun _ _ => rfl, hV⟩, fun b hb2 => ⟨R, rfl, ?_⟩, fun R' hR' _ => ⟨R, rfl, ?_⟩⟩
    · have h10 : ¬ (1 : Int32) = 0 := by decide
      have e9 : lsF σ d f rds (σ 0 0 - σ 0 0) (FaR σ d f rds R (σ 0 0)) = 0 := by rw [Nat.sub_self, lsF_0, if_pos hF0]
      rw [e9] at e8
      have hcmp2 : (nI (bcN σ o) < nI (ct σ R (σ 0 0) + 0)) = (bcN σ o < ct σ R (σ 0 0) + 0) := n_lt (by omega) (by omega)
      simp -implicitDefEqProofs only [u_X3_layFrom, M_X3_layFrom, io_1, gr_1_0, gr_1_1, gr_1_2, gr_1_3, gr_1_4, gr_1_5, gi_1_6, pf_1_6, gi_1_7, pf_1_7, io_2, gr_2_0, gr_2_1, gr_2_2, gr_2_3, gr_2_4, gr_2_5, gr_2_6, gr_2_7, gi_2_8, pf_2_8, gi_2_9, pf_2_9, gi_2_10, pf_2_10, gi_2_11, pf_2_11, gi_2_12, pf_2_12, gi_2_13, pf_2_13, gi_2_14, pf_2_14, io_11, gr_11_0, gr_11_1, gr_11_2, io_15, gr_15_0, gr_15_1, gi_15_2, pf_15_2, gi_15_3, pf_15_3, gi_15_4, pf_15_4, gi_15_5, pf_15_5, io_18, gr_18_0, gr_18_1, gi_18_2, pf_18_2, io_21, gr_21_0, gr_21_1, gr_21_2, gr_21_3, gi_21_4, pf_21_4, gi_21_5, pf_21_5, gi_21_6, pf_21_6, gi_21_7, pf_21_7, io_34, gr_34_0, gi_34_1, pf_34_1, io_36, gi_36_0, pf_36_0, gi_36_1, pf_36_1, gr_36_2, gr_36_3, gr_36_4, gi_36_5, pf_36_5, gi_36_6, pf_36_6, gi_36_7, pf_36_7, gr_36_8, gr_36_9, gr_36_10, gr_36_11, gi_36_12, pf_36_12, gi_36_13, pf_36_13, gi_36_14, pf_36_14, gr_36_15, gr_36_16, gi_36_17, pf_36_17, gr_36_18, gr_36_19, gr_36_20, gr_36_21, gr_36_22, gi_36_23, pf_36_23, gr_36_24, gr_36_25, gi_36_26, pf_36_26, gr_36_27, gr_36_28, gr_36_29, gr_36_30, gi_36_31, pf_36_31, gr_36_32, gr_36_33, gi_36_34, pf_36_34, gi_36_35, pf_36_35, gr_36_36, al_3, al_4, al_5, al_6, al_7, al_8, al_9, al_10, al_12, al_13, al_14, al_16, al_17, al_19, al_20, al_22, al_23, al_24, al_26, al_27, al_28, al_29, al_30, al_31, al_32, al_33, al_35, al_37, al_38, al_39, al_40, al_41, al_42, al_43, al_44, al_45, al_46, al_47, al_48, al_49, al_50, al_51, al_52, al_53, al_54, al_55, al_56, al_57, al_58, al_59, ↓reduceIte, Option.bind_some, cI_some, cL_some, cV_some, rz_0, rz_1, ar, e8, hb.1, nI_add, hcmp2, lo1, if_neg h10, r.i2_8, n_lt (show σ 0 0 < 2147483648 by omega) (show σ 0 0 < 2147483648 by omega), t1]
      rw [if_neg (by omega), if_neg (Nat.lt_irrefl _)]
    · have hb3 := hb.2 b hb2
      refine cd_betterC hw hb3.1 hp.1 ?_ (hba b hb2)
      rw [hb2] at z1
      exact Nat.le_of_not_lt z1
    · rw [cd_cg (fun i hi => (hR' i hi).symm)]
      exact Nat.le_refl _
theorem node_all (hf : 1000 ≤ fu) (hd1 : 1 ≤ d) (hd : d ≤ 9) (hf9 : f ≤ 9) (hrd : rds ≤ 30) : ∀ m c k, c + m = σ 0 0 → m < k → NodeC σ fu d f rds c k := by
  intro m
  induction m with
  | zero =>
    intro c k hc hk
    obtain ⟨k, rfl⟩ : ∃ i, k = i + 1 := ⟨k - 1, by omega⟩
    exact node_step hf hd1 hd hf9 hrd (by omega) (fun h => by omega)
  | succ m ih =>
    intro c k hc hk
    obtain ⟨k, rfl⟩ : ∃ i, k = i + 1 := ⟨k - 1, by omega⟩
    exact node_step hf hd1 hd hf9 hrd (by omega) (fun _ => ih (c + 1) k (by omega) (by omega))
end PE
