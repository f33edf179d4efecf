section PB
variable {σ : SG} {A : Nat → List Int32} {I : Nat → Nat → Int32} {fu d f rds : Nat} {nd : Nat → Nat}
/-- what the search itself leaves changed -/
def FrQ (A : Nat → List Int32) (I : Nat → Nat → Int32) (B : Nat → List Int32) (J : Nat → Nat → Int32) : Prop :=
  (∀ k, k ≠ 23 → k ≠ 24 → k ≠ 25 → k ≠ 26 → B k = A k) ∧ (∀ k, (B k).length = (A k).length) ∧ ∀ o j, ¬ (o = 21 ∧ (j = 5 ∨ j = 6)) → ¬ (o = 22 ∧ j = 2) → J o j = I o j
theorem FrQ.rf (A : Nat → List Int32) (I : Nat → Nat → Int32) : FrQ A I A I := ⟨fun _ _ _ _ _ => rfl, fun _ => rfl, fun _ _ _ _ => rfl⟩
theorem FrQ.tr {A B C : Nat → List Int32} {I J K : Nat → Nat → Int32} (h : FrQ A I B J) (g : FrQ B J C K) : FrQ A I C K :=
  ⟨fun k a b c d => (g.1 k a b c d).trans (h.1 k a b c d), fun k => (g.2.1 k).trans (h.2.1 k), fun o j a b => (g.2.2 o j a b).trans (h.2.2 o j a b)⟩
theorem FrQ.arr {A B : Nat → List Int32} {I J : Nat → Nat → Int32} (h : FrQ A I B J) {k : Nat} {xs : List Int32} (hk : k = 23 ∨ k = 24 ∨ k = 25 ∨ k = 26) (hl : xs.length = (B k).length) : FrQ A I (uA B k xs) J :=
  h.tr ⟨fun j a b c d => uA_n _ _ _ (by omega), fun j => by
    by_cases y : j = k
    · rw [y, uA_s, hl]
    · rw [uA_n _ _ _ y], fun _ _ _ _ => rfl⟩
theorem FrQ.int {A B : Nat → List Int32} {I J : Nat → Nat → Int32} (h : FrQ A I B J) {j : Nat} (x : Int32) (hj : j = 5 ∨ j = 6) : FrQ A I B (uI J 21 j x) :=
  h.tr ⟨fun _ _ _ _ _ => rfl, fun _ => rfl, fun o i a b => by
    unfold uI
    rw [if_neg (fun z => a ⟨z.1, by omega⟩)]⟩
theorem FrQ.Fr {A B : Nat → List Int32} {I J : Nat → Nat → Int32} (h : FrQ A I B J) : Fr A I B J :=
  ⟨fun k hk => h.1 k (fun z => by rw [z] at hk; cases hk) (fun z => by rw [z] at hk; cases hk) (fun z => by rw [z] at hk; cases hk) (fun z => by rw [z] at hk; cases hk), h.2.1,
   fun o j hj => h.2.2 o j (fun z => by rw [z.1] at hj; cases hj) (fun z => by rw [z.1] at hj; cases hj)⟩
/-- what the search goes by -/
def PC (σ : SG) (d f rds : Nat) (nd : Nat → Nat) (A : Nat → List Int32) (I : Nat → Nat → Int32) : Prop :=
  RR σ A I ∧ I 21 7 = nI d ∧ I 21 8 = nI f ∧ I 21 9 = nI rds ∧ (∀ s, s < σ 0 3 → rd (A 27) s = nI (bits (syB σ f rds s) (σ 0 0))) ∧ ∀ c, c ≤ σ 0 0 → rd (A 28) c = nI (nd c) - 1 ∧ nd c ≤ σ 0 0 + 1
theorem FrQ.pc {A B : Nat → List Int32} {I J : Nat → Nat → Int32} (h : FrQ A I B J) (p : PC σ d f rds nd A I) : PC σ d f rds nd B J := by
  obtain ⟨p1, p2, p3, p4, p5, p6⟩ := p
  refine ⟨h.Fr.R p1, ?_, ?_, ?_, ?_, ?_⟩
  · rw [h.2.2 21 7 (by omega) (by omega)]; exact p2
  · rw [h.2.2 21 8 (by omega) (by omega)]; exact p3
  · rw [h.2.2 21 9 (by omega) (by omega)]; exact p4
  · rw [h.1 27 (by decide) (by decide) (by decide) (by decide)]; exact p5
  · rw [h.1 28 (by decide) (by decide) (by decide) (by decide)]; exact p6
/-- the best that was found -/
def BSc (σ : SG) (o : Option (Nat → Nat)) (A : Nat → List Int32) (I : Nat → Nat → Int32) : Prop := match o with
  | none => I 21 5 = nI 1000000 ∧ I 21 6 = nI 0
  | some b => okR σ b (σ 0 0) ∧ I 21 5 = nI (wr σ b (σ 0 0)) ∧ I 21 6 = nI (mr b (σ 0 0)) ∧ ∀ c, c < σ 0 0 → rd (A 26) c = ro (b c)
theorem BSc.cg {o : Option (Nat → Nat)} {A B : Nat → List Int32} {I J : Nat → Nat → Int32} (h : BSc σ o A I) (h1 : B 26 = A 26) (h2 : J 21 5 = I 21 5) (h3 : J 21 6 = I 21 6) : BSc σ o B J := by
  unfold BSc at h ⊢
  cases o with
  | none => dsimp only at h ⊢; rw [h2, h3]; exact h
  | some b => dsimp only at h ⊢; rw [h1, h2, h3]; exact h
def ubB (σ : SG) (u : Nat → Bool) (s : Nat) : Bool := (σ 8 s == 100) || u s
theorem c_laid (r : RR σ A I) {u : Nat → Bool} (hu : ∀ s, s < σ 0 3 → u s = true → σ 8 s ≠ 100) : U_X3_laid fu [.ref 2, .int (nI (bits (ubB σ u) (σ 0 3)))] (enc A I) = some (some (.int (nI (cnt u (σ 0 3)))), enc A I) := by
  have hm := r.m6
  have e : bits (ubB σ u) (σ 0 3) &&& (bits (fun s => σ 8 s == 100) (σ 0 3) ^^^ (2 ^ 32 - 1)) = bits (fun s => ubB σ u s && !(σ 8 s == 100)) (σ 0 3) := bits_sub _ _ (by omega)
  have ec : cnt (fun s => ubB σ u s && !(σ 8 s == 100)) (σ 0 3) = cnt u (σ 0 3) := cnt_congr _ fun s hs => by
    unfold ubB
    by_cases z : u s = true
    · have := hu s hs z
      simp [z, this]
    · simp only [Bool.not_eq_true] at z
      simp [z]
  simp only [u_X3_laid, M_X3_laid, io_1, gr_1_0, gr_1_1, gr_1_2, gr_1_3, gr_1_4, gr_1_5, gi_1_6, pf_1_6, gi_1_7, pf_1_7, io_2, gr_2_0, gr_2_1, gr_2_2, gr_2_3, gr_2_4, gr_2_5, gr_2_6, gr_2_7, gi_2_8, pf_2_8, gi_2_9, pf_2_9, gi_2_10, pf_2_10, gi_2_11, pf_2_11, gi_2_12, pf_2_12, gi_2_13, pf_2_13, gi_2_14, pf_2_14, io_11, gr_11_0, gr_11_1, gr_11_2, io_15, gr_15_0, gr_15_1, gi_15_2, pf_15_2, gi_15_3, pf_15_3, gi_15_4, pf_15_4, gi_15_5, pf_15_5, io_18, gr_18_0, gr_18_1, gi_18_2, pf_18_2, io_21, gr_21_0, gr_21_1, gr_21_2, gr_21_3, gr_21_4, gi_21_5, pf_21_5, gi_21_6, pf_21_6, gi_21_7, pf_21_7, gi_21_8, pf_21_8, gi_21_9, pf_21_9, io_22, gr_22_0, gr_22_1, gi_22_2, pf_22_2, io_29, gr_29_0, gi_29_1, pf_29_1, io_31, gi_31_0, pf_31_0, gi_31_1, pf_31_1, gr_31_2, gr_31_3, gr_31_4, gi_31_5, pf_31_5, gi_31_6, pf_31_6, gi_31_7, pf_31_7, gr_31_8, gr_31_9, gr_31_10, gr_31_11, gi_31_12, pf_31_12, gi_31_13, pf_31_13, gi_31_14, pf_31_14, gr_31_15, gr_31_16, gi_31_17, pf_31_17, gr_31_18, gr_31_19, gr_31_20, gr_31_21, gr_31_22, gi_31_23, pf_31_23, gr_31_24, gr_31_25, gi_31_26, pf_31_26, gr_31_27, gr_31_28, gr_31_29, gr_31_30, gi_31_31, pf_31_31, gr_31_32, gr_31_33, gi_31_34, pf_31_34, gi_31_35, pf_31_35, gr_31_36, al_3, al_4, al_5, al_6, al_7, al_8, al_9, al_10, al_12, al_13, al_14, al_16, al_17, al_19, al_20, al_23, al_24, al_25, al_26, al_27, al_28, al_30, al_32, al_33, al_34, al_35, al_36, al_37, al_38, al_39, al_40, al_41, al_42, al_43, al_44, al_45, al_46, al_47, al_48, al_49, al_50, al_51, al_52, al_53, al_54, ↓reduceIte, Option.bind_some, cI_some, cL_some, cV_some, rz_0, rz_1, r.i2_13, n_not, n_and, e, c_bitCount fu _ (bits_ge (p := fun s => ubB σ u s && !(σ 8 s == 100)) (show σ 0 3 ≤ 7 by omega)), pc_bits _ (show σ 0 3 ≤ 7 by omega), ec]
def wse (σ : SG) (o : Option (Nat → Nat)) (w k : Nat) : Bool := match o with
  | none => false
  | some b => decide (wr σ b (σ 0 0) < w ∨ (w = wr σ b (σ 0 0) ∧ mr b (σ 0 0) < k))
theorem c_isWorse (r : RR σ A I) {o : Option (Nat → Nat)} (hb : BSc σ o A I) {u : Nat → Bool} (hu : ∀ s, s < σ 0 3 → u s = true → σ 8 s ≠ 100) {w : Nat} (hw : w ≤ 3024) : U_X3_isWorse fu [.ref 21, .ref 2, .int (nI (bits (ubB σ u) (σ 0 3))), .int (nI w)] (enc A I) = some (some (.int (bI (wse σ o w (cnt u (σ 0 3)) = true))), enc A I) := by
  have hn := r.n7
  have hm := r.m6
  have hc := cnt_le u (σ 0 3)
  unfold BSc at hb
  cases o with
  | none =>
    obtain ⟨b1, b2⟩ := hb
    simp only [u_X3_isWorse, M_X3_isWorse, io_1, gr_1_0, gr_1_1, gr_1_2, gr_1_3, gr_1_4, gr_1_5, gi_1_6, pf_1_6, gi_1_7, pf_1_7, io_2, gr_2_0, gr_2_1, gr_2_2, gr_2_3, gr_2_4, gr_2_5, gr_2_6, gr_2_7, gi_2_8, pf_2_8, gi_2_9, pf_2_9, gi_2_10, pf_2_10, gi_2_11, pf_2_11, gi_2_12, pf_2_12, gi_2_13, pf_2_13, gi_2_14, pf_2_14, io_11, gr_11_0, gr_11_1, gr_11_2, io_15, gr_15_0, gr_15_1, gi_15_2, pf_15_2, gi_15_3, pf_15_3, gi_15_4, pf_15_4, gi_15_5, pf_15_5, io_18, gr_18_0, gr_18_1, gi_18_2, pf_18_2, io_21, gr_21_0, gr_21_1, gr_21_2, gr_21_3, gr_21_4, gi_21_5, pf_21_5, gi_21_6, pf_21_6, gi_21_7, pf_21_7, gi_21_8, pf_21_8, gi_21_9, pf_21_9, io_22, gr_22_0, gr_22_1, gi_22_2, pf_22_2, io_29, gr_29_0, gi_29_1, pf_29_1, io_31, gi_31_0, pf_31_0, gi_31_1, pf_31_1, gr_31_2, gr_31_3, gr_31_4, gi_31_5, pf_31_5, gi_31_6, pf_31_6, gi_31_7, pf_31_7, gr_31_8, gr_31_9, gr_31_10, gr_31_11, gi_31_12, pf_31_12, gi_31_13, pf_31_13, gi_31_14, pf_31_14, gr_31_15, gr_31_16, gi_31_17, pf_31_17, gr_31_18, gr_31_19, gr_31_20, gr_31_21, gr_31_22, gi_31_23, pf_31_23, gr_31_24, gr_31_25, gi_31_26, pf_31_26, gr_31_27, gr_31_28, gr_31_29, gr_31_30, gi_31_31, pf_31_31, gr_31_32, gr_31_33, gi_31_34, pf_31_34, gi_31_35, pf_31_35, gr_31_36, al_3, al_4, al_5, al_6, al_7, al_8, al_9, al_10, al_12, al_13, al_14, al_16, al_17, al_19, al_20, al_23, al_24, al_25, al_26, al_27, al_28, al_30, al_32, al_33, al_34, al_35, al_36, al_37, al_38, al_39, al_40, al_41, al_42, al_43, al_44, al_45, al_46, al_47, al_48, al_49, al_50, al_51, al_52, al_53, al_54, ↓reduceIte, Option.bind_some, cI_some, cL_some, cV_some, rz_0, rz_1, b1, n_lt (show 1000000 < 2147483648 by decide) (show w < 2147483648 by omega), n_eq (show w < 2147483648 by omega) (show 1000000 < 2147483648 by decide)]
    rw [if_neg (by omega), if_neg (by omega), bI_f (show ¬ (wse σ none w (cnt u (σ 0 3)) = true) from Bool.false_ne_true)]
  | some b =>
    obtain ⟨b0, b1, b2, b3⟩ := hb
    have hbw := wr_lt r.1 (Nat.le_refl _) b0
    have hbm := mr_le b (σ 0 0)
    simp only [u_X3_isWorse, M_X3_isWorse, io_1, gr_1_0, gr_1_1, gr_1_2, gr_1_3, gr_1_4, gr_1_5, gi_1_6, pf_1_6, gi_1_7, pf_1_7, io_2, gr_2_0, gr_2_1, gr_2_2, gr_2_3, gr_2_4, gr_2_5, gr_2_6, gr_2_7, gi_2_8, pf_2_8, gi_2_9, pf_2_9, gi_2_10, pf_2_10, gi_2_11, pf_2_11, gi_2_12, pf_2_12, gi_2_13, pf_2_13, gi_2_14, pf_2_14, io_11, gr_11_0, gr_11_1, gr_11_2, io_15, gr_15_0, gr_15_1, gi_15_2, pf_15_2, gi_15_3, pf_15_3, gi_15_4, pf_15_4, gi_15_5, pf_15_5, io_18, gr_18_0, gr_18_1, gi_18_2, pf_18_2, io_21, gr_21_0, gr_21_1, gr_21_2, gr_21_3, gr_21_4, gi_21_5, pf_21_5, gi_21_6, pf_21_6, gi_21_7, pf_21_7, gi_21_8, pf_21_8, gi_21_9, pf_21_9, io_22, gr_22_0, gr_22_1, gi_22_2, pf_22_2, io_29, gr_29_0, gi_29_1, pf_29_1, io_31, gi_31_0, pf_31_0, gi_31_1, pf_31_1, gr_31_2, gr_31_3, gr_31_4, gi_31_5, pf_31_5, gi_31_6, pf_31_6, gi_31_7, pf_31_7, gr_31_8, gr_31_9, gr_31_10, gr_31_11, gi_31_12, pf_31_12, gi_31_13, pf_31_13, gi_31_14, pf_31_14, gr_31_15, gr_31_16, gi_31_17, pf_31_17, gr_31_18, gr_31_19, gr_31_20, gr_31_21, gr_31_22, gi_31_23, pf_31_23, gr_31_24, gr_31_25, gi_31_26, pf_31_26, gr_31_27, gr_31_28, gr_31_29, gr_31_30, gi_31_31, pf_31_31, gr_31_32, gr_31_33, gi_31_34, pf_31_34, gi_31_35, pf_31_35, gr_31_36, al_3, al_4, al_5, al_6, al_7, al_8, al_9, al_10, al_12, al_13, al_14, al_16, al_17, al_19, al_20, al_23, al_24, al_25, al_26, al_27, al_28, al_30, al_32, al_33, al_34, al_35, al_36, al_37, al_38, al_39, al_40, al_41, al_42, al_43, al_44, al_45, al_46, al_47, al_48, al_49, al_50, al_51, al_52, al_53, al_54, ↓reduceIte, Option.bind_some, cI_some, cL_some, cV_some, rz_0, rz_1, b1, b2, n_lt (show wr σ b (σ 0 0) < 2147483648 by omega) (show w < 2147483648 by omega), n_eq (show w < 2147483648 by omega) (show wr σ b (σ 0 0) < 2147483648 by omega), c_laid r hu, n_lt (show mr b (σ 0 0) < 2147483648 by omega) (show cnt u (σ 0 3) < 2147483648 by omega)]
    by_cases z1 : wr σ b (σ 0 0) < w
    · rw [if_pos z1, bI_t (show wse σ (some b) w (cnt u (σ 0 3)) = true from decide_eq_true (Or.inl z1))]
    · rw [if_neg z1]
      by_cases z2 : w = wr σ b (σ 0 0)
      · rw [if_pos z2]
        by_cases z3 : mr b (σ 0 0) < cnt u (σ 0 3)
        · rw [if_pos z3, bI_t (show wse σ (some b) w (cnt u (σ 0 3)) = true from decide_eq_true (Or.inr ⟨z2, z3⟩))]
        · rw [if_neg z3, bI_f (show ¬ (wse σ (some b) w (cnt u (σ 0 3)) = true) from fun y => by
            have := of_decide_eq_true y
            omega)]
      · rw [if_neg z2, bI_f (show ¬ (wse σ (some b) w (cnt u (σ 0 3)) = true) from fun y => by
            have := of_decide_eq_true y
            omega)]
theorem c_crossB (hf : 1000 ≤ fu) (p : PC σ d f rds nd A I) (hd : d ≤ 9) (hf9 : f ≤ 9) (hrd : rds ≤ 30) {R : Nat → Nat} (hR : rowR σ R (A 25)) (hU : ∀ i, i < σ 0 0 → R i ≠ 0 → syB σ f rds (R i - 1) i = true) :
    ∃ B J, U_X3_isCrossedBehind fu [.ref 21, .ref 2] (enc A I) = some (some (.int (bI (X σ (Lb σ f rds R) (σ 0 2) d))), enc B J) ∧ FrQ A I B J ∧ B 25 = A 25 ∧ B 26 = A 26 ∧ J 21 5 = I 21 5 ∧ J 21 6 = I 21 6 := by
  obtain ⟨B, J, b1, b2, b3⟩ := c_runb (fu := fu) (R := R) hf hf9 hrd (gG σ) p.1 hR
  have hF : FrQ A I B J := ⟨fun k a b _ _ => b2.1 k a b, fun k => by
    by_cases q : k = 23
    · rw [q]; exact b2.2.1
    · by_cases q2 : k = 24
      · rw [q2]; exact b2.2.2.1
      · rw [b2.1 k q q2], fun o j _ a => b2.2.2.2 o j a⟩
  have pB := hF.pc p
  have B25 : B 25 = A 25 := b2.1 25 (by decide) (by decide)
  refine ⟨B, J, ?_, hF, B25, b2.1 26 (by decide) (by decide), b2.2.2.2 21 5 (by omega), b2.2.2.2 21 6 (by omega)⟩
  have hRA := hR
  rw [← B25] at hR
  have hfl := b3.2
  obtain ⟨r, p2, p3, p4, p5, p6⟩ := pB
  have hn := r.n7
  have hm := r.m6
  have l25 : (B 25).length = 7 := r.len rfl
  have hp : ∀ c, c < σ 0 0 → R c ≠ 0 → 0 < hold σ (R c - 1) := fun c hc hr => (hold_lt r.1 ((hR c hc).2 (R c - 1) (by omega))).1
  have ok := fl_ok (σ := σ) (R := R) (gB := gG σ) (f := f) hp rds
  obtain ⟨P, hP⟩ : ∃ P : Nat → Bool, P = (fl σ R (gG σ) f rds).1 := ⟨_, rfl⟩
  rw [← hP] at hfl
  obtain ⟨T, hT⟩ : ∃ T : Nat → Bool, ∀ c, T c = decide (R c ≠ 0 ∧ esN σ (R c - 1) = 1) := ⟨_, fun _ => rfl⟩
  have hPc : ∀ c, c < σ 0 0 → P c = Sd σ (Lb σ f rds R) (σ 0 2) (c + 1) := fun c hc => by
    rw [Sd_c hc]
    by_cases z : P c = true
    · have z2 := z
      rw [hP] at z2
      have e : Lb σ f rds R c = R c := if_pos z2
      have h0 := (ok c hc z2).1
      have u := hU c hc h0
      unfold syB at u
      rw [Bool.and_eq_true, decide_eq_true_iff] at u
      rw [z, e, decide_eq_true ⟨h0, u.1⟩]
    · have z2 := z
      rw [hP] at z2
      have e : Lb σ f rds R c = 0 := if_neg z2
      rw [Bool.eq_false_iff.mpr z, e, decide_eq_false (fun w => w.1 rfl)]
  have hbP : bits P (σ 0 0) < 128 := bits_ge hn
  have hbT : bits T (σ 0 0) < 128 := bits_ge hn
  have hgN := grN_le σ (Lb σ f rds R) (σ 0 2) hd hn
  have fin : ∀ w, (F_X7_farthest fu fu).1 (nI (bits P (σ 0 0))) (nI (bits T (σ 0 0))) (nI (σ 0 0)) (nI d) (nI d - 1) 0 w = some (some (.int (nI (grN (σ 0 0) (Sd σ (Lb σ f rds R) (σ 0 2)) (ez σ (Lb σ f rds R)) d) - 1)), w) := fun w => by
    have e := c_farthest_loop (fu := fu) hf hbP hbT hn hd w (σ 0 0) 0 d fu (by omega) (by omega) (by omega)
    rw [gr_congr (S' := Sd σ (Lb σ f rds R) (σ 0 2)) (e' := ez σ (Lb σ f rds R)) (σ 0 0) 0 d (fun i hi => by
      rw [Nat.zero_add, Nat.add_sub_cancel, bits_test, bits_test, decide_eq_true hi, Bool.true_and, Bool.true_and]
      refine ⟨hPc i hi, fun h => ?_⟩
      rw [hP] at h
      have eL : Lb σ f rds R i = R i := if_pos h
      have h0 := (ok i hi h).1
      rw [ez_c hi (by rw [eL]; exact h0), eL, hT]
      unfold esN
      by_cases z : σ 3 (R i - 1) = 2
      · rw [if_pos z, decide_eq_true ⟨h0, rfl⟩]; rfl
      · rw [if_neg z, decide_eq_false (fun w => absurd w.2 (by decide))]; rfl)] at e
    exact e
  have loop : ∀ m c n, c + m = σ 0 0 → m < n → F_X3_isCrossedBehind fu n 21 2 (nI (bits T c)) (nI c) (enc B J) = some (some (.int (bI (X σ (Lb σ f rds R) (σ 0 2) d))), enc B J) := by
    intro m
    induction m with
    | zero =>
      intro c n hc hm2
      obtain ⟨n, rfl⟩ : ∃ k, n = k + 1 := ⟨n - 1, by omega⟩
      have e : c = σ 0 0 := by omega
      subst e
      have fc := far_cmp (grN (σ 0 0) (Sd σ (Lb σ f rds R) (σ 0 2)) (ez σ (Lb σ f rds R)) d) (by omega) (σ 0 0) (by omega)
      simp only [F_X3_isCrossedBehind, io_1, gr_1_0, gr_1_1, gr_1_2, gr_1_3, gr_1_4, gr_1_5, gi_1_6, pf_1_6, gi_1_7, pf_1_7, io_2, gr_2_0, gr_2_1, gr_2_2, gr_2_3, gr_2_4, gr_2_5, gr_2_6, gr_2_7, gi_2_8, pf_2_8, gi_2_9, pf_2_9, gi_2_10, pf_2_10, gi_2_11, pf_2_11, gi_2_12, pf_2_12, gi_2_13, pf_2_13, gi_2_14, pf_2_14, io_11, gr_11_0, gr_11_1, gr_11_2, io_15, gr_15_0, gr_15_1, gi_15_2, pf_15_2, gi_15_3, pf_15_3, gi_15_4, pf_15_4, gi_15_5, pf_15_5, io_18, gr_18_0, gr_18_1, gi_18_2, pf_18_2, io_21, gr_21_0, gr_21_1, gr_21_2, gr_21_3, gr_21_4, gi_21_5, pf_21_5, gi_21_6, pf_21_6, gi_21_7, pf_21_7, gi_21_8, pf_21_8, gi_21_9, pf_21_9, io_22, gr_22_0, gr_22_1, gi_22_2, pf_22_2, io_29, gr_29_0, gi_29_1, pf_29_1, io_31, gi_31_0, pf_31_0, gi_31_1, pf_31_1, gr_31_2, gr_31_3, gr_31_4, gi_31_5, pf_31_5, gi_31_6, pf_31_6, gi_31_7, pf_31_7, gr_31_8, gr_31_9, gr_31_10, gr_31_11, gi_31_12, pf_31_12, gi_31_13, pf_31_13, gi_31_14, pf_31_14, gr_31_15, gr_31_16, gi_31_17, pf_31_17, gr_31_18, gr_31_19, gr_31_20, gr_31_21, gr_31_22, gi_31_23, pf_31_23, gr_31_24, gr_31_25, gi_31_26, pf_31_26, gr_31_27, gr_31_28, gr_31_29, gr_31_30, gi_31_31, pf_31_31, gr_31_32, gr_31_33, gi_31_34, pf_31_34, gi_31_35, pf_31_35, gr_31_36, al_3, al_4, al_5, al_6, al_7, al_8, al_9, al_10, al_12, al_13, al_14, al_16, al_17, al_19, al_20, al_23, al_24, al_25, al_26, al_27, al_28, al_30, al_32, al_33, al_34, al_35, al_36, al_37, al_38, al_39, al_40, al_41, al_42, al_43, al_44, al_45, al_46, al_47, al_48, al_49, al_50, al_51, al_52, al_53, al_54, ↓reduceIte, Option.bind_some, cI_some, cL_some, cV_some, rz_0, rz_1, r.i2_8, n_lt (show σ 0 0 < 2147483648 by omega) (show σ 0 0 < 2147483648 by omega), p2, hfl, u_X7_farthest, M_X7_farthest, fin]
      rw [if_neg (by omega)]
      by_cases z : X σ (Lb σ f rds R) (σ 0 2) d
      · rw [if_neg (fun y => by have := fc.mp y; unfold X at z; omega), bI_t z]
      · rw [if_pos (fc.mpr (by unfold X at z; omega)), bI_f z]
    | succ m ih =>
      intro c n hcm hm2
      obtain ⟨n, rfl⟩ : ∃ k, n = k + 1 := ⟨n - 1, by omega⟩
      have hc : c < σ 0 0 := by omega
      have nx := ih (c + 1) n (by omega) (by omega)
      have eT : bits T (c + 1) = bits T c + (if T c = true then 2 ^ c else 0) := rfl
      obtain ⟨v1, v2⟩ := hR c hc
      have e25 : aI (enc B J) 25 (nI c) = some (ro (R c)) := by rw [ai_25 B J (by omega) (by omega), v1]
      simp only [F_X3_isCrossedBehind, io_1, gr_1_0, gr_1_1, gr_1_2, gr_1_3, gr_1_4, gr_1_5, gi_1_6, pf_1_6, gi_1_7, pf_1_7, io_2, gr_2_0, gr_2_1, gr_2_2, gr_2_3, gr_2_4, gr_2_5, gr_2_6, gr_2_7, gi_2_8, pf_2_8, gi_2_9, pf_2_9, gi_2_10, pf_2_10, gi_2_11, pf_2_11, gi_2_12, pf_2_12, gi_2_13, pf_2_13, gi_2_14, pf_2_14, io_11, gr_11_0, gr_11_1, gr_11_2, io_15, gr_15_0, gr_15_1, gi_15_2, pf_15_2, gi_15_3, pf_15_3, gi_15_4, pf_15_4, gi_15_5, pf_15_5, io_18, gr_18_0, gr_18_1, gi_18_2, pf_18_2, io_21, gr_21_0, gr_21_1, gr_21_2, gr_21_3, gr_21_4, gi_21_5, pf_21_5, gi_21_6, pf_21_6, gi_21_7, pf_21_7, gi_21_8, pf_21_8, gi_21_9, pf_21_9, io_22, gr_22_0, gr_22_1, gi_22_2, pf_22_2, io_29, gr_29_0, gi_29_1, pf_29_1, io_31, gi_31_0, pf_31_0, gi_31_1, pf_31_1, gr_31_2, gr_31_3, gr_31_4, gi_31_5, pf_31_5, gi_31_6, pf_31_6, gi_31_7, pf_31_7, gr_31_8, gr_31_9, gr_31_10, gr_31_11, gi_31_12, pf_31_12, gi_31_13, pf_31_13, gi_31_14, pf_31_14, gr_31_15, gr_31_16, gi_31_17, pf_31_17, gr_31_18, gr_31_19, gr_31_20, gr_31_21, gr_31_22, gi_31_23, pf_31_23, gr_31_24, gr_31_25, gi_31_26, pf_31_26, gr_31_27, gr_31_28, gr_31_29, gr_31_30, gi_31_31, pf_31_31, gr_31_32, gr_31_33, gi_31_34, pf_31_34, gi_31_35, pf_31_35, gr_31_36, al_3, al_4, al_5, al_6, al_7, al_8, al_9, al_10, al_12, al_13, al_14, al_16, al_17, al_19, al_20, al_23, al_24, al_25, al_26, al_27, al_28, al_30, al_32, al_33, al_34, al_35, al_36, al_37, al_38, al_39, al_40, al_41, al_42, al_43, al_44, al_45, al_46, al_47, al_48, al_49, al_50, al_51, al_52, al_53, al_54, ↓reduceIte, Option.bind_some, cI_some, cL_some, cV_some, rz_0, rz_1, r.i2_8, n_lt (show c < 2147483648 by omega) (show σ 0 0 < 2147483648 by omega), e25, nI_1]
      rw [if_pos hc]
      by_cases z0 : R c = 0
      · rw [if_neg (show ¬ T c = true by rw [hT, decide_eq_true_iff]; exact fun w => w.1 z0)] at eT
        have eT2 : bits T (c + 1) = bits T c := eT
        rw [z0, if_pos (show ro 0 = -9 from rfl), ← eT2]
        exact nx
      have hsM := v2 (R c - 1) (by omega)
      have er : ro (R c) = nI (R c - 1) := by
        obtain ⟨s, hs⟩ : ∃ s, R c = s + 1 := ⟨R c - 1, by omega⟩
        rw [hs, ro_s, Nat.add_sub_cancel]
      have hR6 : R c ≤ 6 := by omega
      rw [if_neg (by rw [ro_9 (show R c < 2147483648 by omega)]; exact z0), er, c_easeOf r hsM, cI_some]
      have he := esN_le σ (R c - 1)
      have h2c : 2 ^ c ≤ 2 ^ 6 := Nat.pow_le_pow_right (by decide) (by omega)
      have h26 : (2 : Nat) ^ 6 = 64 := by decide
      have hsh : nI (esN σ (R c - 1)) <<< (nI c &&& 31) = nI (esN σ (R c - 1) * 2 ^ c) := sh_l (by omega) (by
        have : esN σ (R c - 1) * 2 ^ c ≤ 1 * 2 ^ c := Nat.mul_le_mul_right _ he
        omega)
      have hor : nI (bits T c) ||| nI (esN σ (R c - 1) * 2 ^ c) = nI (bits T (c + 1)) := by
        rw [n_or, eT]
        by_cases z3 : esN σ (R c - 1) = 1
        · rw [if_pos (by rw [hT, decide_eq_true ⟨z0, z3⟩]), z3, Nat.one_mul, bits_or]
        · rw [if_neg (by rw [hT, decide_eq_false (fun w => z3 w.2)]; exact Bool.false_ne_true), show esN σ (R c - 1) = 0 by omega, Nat.zero_mul, Nat.or_zero, Nat.add_zero]
      rw [hsh, hor]
      exact nx
  have e0 := loop (σ 0 0) 0 fu (by omega) (by omega)
  have p29 := p.2.2.1
  have p210 := p.2.2.2.1
  simp only [u_X3_isCrossedBehind, M_X3_isCrossedBehind, io_1, gr_1_0, gr_1_1, gr_1_2, gr_1_3, gr_1_4, gr_1_5, gi_1_6, pf_1_6, gi_1_7, pf_1_7, io_2, gr_2_0, gr_2_1, gr_2_2, gr_2_3, gr_2_4, gr_2_5, gr_2_6, gr_2_7, gi_2_8, pf_2_8, gi_2_9, pf_2_9, gi_2_10, pf_2_10, gi_2_11, pf_2_11, gi_2_12, pf_2_12, gi_2_13, pf_2_13, gi_2_14, pf_2_14, io_11, gr_11_0, gr_11_1, gr_11_2, io_15, gr_15_0, gr_15_1, gi_15_2, pf_15_2, gi_15_3, pf_15_3, gi_15_4, pf_15_4, gi_15_5, pf_15_5, io_18, gr_18_0, gr_18_1, gi_18_2, pf_18_2, io_21, gr_21_0, gr_21_1, gr_21_2, gr_21_3, gr_21_4, gi_21_5, pf_21_5, gi_21_6, pf_21_6, gi_21_7, pf_21_7, gi_21_8, pf_21_8, gi_21_9, pf_21_9, io_22, gr_22_0, gr_22_1, gi_22_2, pf_22_2, io_29, gr_29_0, gi_29_1, pf_29_1, io_31, gi_31_0, pf_31_0, gi_31_1, pf_31_1, gr_31_2, gr_31_3, gr_31_4, gi_31_5, pf_31_5, gi_31_6, pf_31_6, gi_31_7, pf_31_7, gr_31_8, gr_31_9, gr_31_10, gr_31_11, gi_31_12, pf_31_12, gi_31_13, pf_31_13, gi_31_14, pf_31_14, gr_31_15, gr_31_16, gi_31_17, pf_31_17, gr_31_18, gr_31_19, gr_31_20, gr_31_21, gr_31_22, gi_31_23, pf_31_23, gr_31_24, gr_31_25, gi_31_26, pf_31_26, gr_31_27, gr_31_28, gr_31_29, gr_31_30, gi_31_31, pf_31_31, gr_31_32, gr_31_33, gi_31_34, pf_31_34, gi_31_35, pf_31_35, gr_31_36, al_3, al_4, al_5, al_6, al_7, al_8, al_9, al_10, al_12, al_13, al_14, al_16, al_17, al_19, al_20, al_23, al_24, al_25, al_26, al_27, al_28, al_30, al_32, al_33, al_34, al_35, al_36, al_37, al_38, al_39, al_40, al_41, al_42, al_43, al_44, al_45, al_46, al_47, al_48, al_49, al_50, al_51, al_52, al_53, al_54, ↓reduceIte, Option.bind_some, cI_some, cL_some, cV_some, rz_0, rz_1, p.1.i2_10, p29, p210, b1]
  exact e0
/-- a whole row, by which one comes across -/
theorem c_take (hf : 1000 ≤ fu) (p : PC σ d f rds nd A I) (hd : d ≤ 9) (hf9 : f ≤ 9) (hrd : rds ≤ 30) {R : Nat → Nat} (hR : ∀ c, c < σ 0 0 → rd (A 25) c = ro (R c)) (ho : okR σ R (σ 0 0)) (hU : ∀ i, i < σ 0 0 → R i ≠ 0 → syB σ f rds (R i - 1) i = true) {o : Option (Nat → Nat)} (hb : BSc σ o A I) {u : Nat → Bool} (hu : ∀ s, s < σ 0 3 → u s = true → σ 8 s ≠ 100) (hcn : cnt u (σ 0 3) = mr R (σ 0 0)) :
    ∃ A1 I1 o', U_X3_take fu [.ref 21, .ref 2, .int (nI (bits (ubB σ u) (σ 0 3))), .int (nI (wr σ R (σ 0 0)))] (enc A I) = some (none, enc A1 I1) ∧ FrQ A I A1 I1 ∧ A1 25 = A 25 ∧ BSc σ o' A1 I1 ∧
      ((o' = some R ∧ (rds = 0 ∨ X σ (Lb σ f rds R) (σ 0 2) d)) ∨ (o' = o ∧ ¬ (rds = 0 ∨ X σ (Lb σ f rds R) (σ 0 2) d))) := by
  have hrow : rowR σ R (A 25) := fun c hc => ⟨hR c hc, fun t ht => by
    have := (ho.1 c hc (by omega)).1
    rw [ht, Nat.add_sub_cancel] at this
    exact this⟩
  obtain ⟨n, hfe⟩ : ∃ n, fu = n + 1 := ⟨fu - 1, by omega⟩
  -- the row is kept
  have keep : ∀ B J, PC σ d f rds nd B J → B 25 = A 25 → ∃ A1 I1, (F_X3_take fu fu) 21 2 (nI (bits (ubB σ u) (σ 0 3))) (nI (wr σ R (σ 0 0))) (enc B J) = some (none, enc A1 I1) ∧ FrQ B J A1 I1 ∧ A1 25 = A 25 ∧ BSc σ (some R) A1 I1 := by
    intro B J pB h25
    have rB := pB.1
    have hn := rB.n7
    have l25 : (B 25).length = 7 := rB.len rfl
    have l26 : (B 26).length = 7 := rB.len rfl
    have hF1 : FrQ B J B (uI J 21 5 (nI (wr σ R (σ 0 0)))) := (FrQ.rf B J).int _ (Or.inl rfl)
    have hF2 : FrQ B J B (uI (uI J 21 5 (nI (wr σ R (σ 0 0)))) 21 6 (nI (mr R (σ 0 0)))) := hF1.int _ (Or.inr rfl)
    have cl := c_laid (fu := fu) (hF1.Fr.R rB) hu
    rw [hcn] at cl
    have cp : oCopy [.ref 25, .int 0, .ref 26, .int 0, .int 7] (enc B (uI (uI J 21 5 (nI (wr σ R (σ 0 0)))) 21 6 (nI (mr R (σ 0 0))))) = some (none, enc (uA B 26 (cpy (B 25) (B 26) 0 0 7)) (uI (uI J 21 5 (nI (wr σ R (σ 0 0)))) 21 6 (nI (mr R (σ 0 0))))) :=
      (sC_enc (w := enc B _) (o := 25) (o2 := 26) (xs := B 25) (ys := B 26) (a := 0) (b := 0) (n := 7) rfl rfl (by decide) (by decide) (by omega) (by omega) (by omega) (by omega)).trans (congrArg some (congrArg (Prod.mk none) rfl))
    refine ⟨_, _, ?_, hF2.arr (k := 26) (xs := cpy (B 25) (B 26) 0 0 7) (by omega) (cpy_len (by omega) (by omega)), by rw [uA_n _ _ _ (by decide)]; exact h25, ho, ?_, ?_, fun c hc => ?_⟩
    · rw [show F_X3_take fu fu = F_X3_take fu (n + 1) by rw [← hfe]]
      simp -implicitDefEqProofs only [F_X3_take, io_1, gr_1_0, gr_1_1, gr_1_2, gr_1_3, gr_1_4, gr_1_5, gi_1_6, pf_1_6, gi_1_7, pf_1_7, io_2, gr_2_0, gr_2_1, gr_2_2, gr_2_3, gr_2_4, gr_2_5, gr_2_6, gr_2_7, gi_2_8, pf_2_8, gi_2_9, pf_2_9, gi_2_10, pf_2_10, gi_2_11, pf_2_11, gi_2_12, pf_2_12, gi_2_13, pf_2_13, gi_2_14, pf_2_14, io_11, gr_11_0, gr_11_1, gr_11_2, io_15, gr_15_0, gr_15_1, gi_15_2, pf_15_2, gi_15_3, pf_15_3, gi_15_4, pf_15_4, gi_15_5, pf_15_5, io_18, gr_18_0, gr_18_1, gi_18_2, pf_18_2, io_21, gr_21_0, gr_21_1, gr_21_2, gr_21_3, gr_21_4, gi_21_5, pf_21_5, gi_21_6, pf_21_6, gi_21_7, pf_21_7, gi_21_8, pf_21_8, gi_21_9, pf_21_9, io_22, gr_22_0, gr_22_1, gi_22_2, pf_22_2, io_29, gr_29_0, gi_29_1, pf_29_1, io_31, gi_31_0, pf_31_0, gi_31_1, pf_31_1, gr_31_2, gr_31_3, gr_31_4, gi_31_5, pf_31_5, gi_31_6, pf_31_6, gi_31_7, pf_31_7, gr_31_8, gr_31_9, gr_31_10, gr_31_11, gi_31_12, pf_31_12, gi_31_13, pf_31_13, gi_31_14, pf_31_14, gr_31_15, gr_31_16, gi_31_17, pf_31_17, gr_31_18, gr_31_19, gr_31_20, gr_31_21, gr_31_22, gi_31_23, pf_31_23, gr_31_24, gr_31_25, gi_31_26, pf_31_26, gr_31_27, gr_31_28, gr_31_29, gr_31_30, gi_31_31, pf_31_31, gr_31_32, gr_31_33, gi_31_34, pf_31_34, gi_31_35, pf_31_35, gr_31_36, al_3, al_4, al_5, al_6, al_7, al_8, al_9, al_10, al_12, al_13, al_14, al_16, al_17, al_19, al_20, al_23, al_24, al_25, al_26, al_27, al_28, al_30, al_32, al_33, al_34, al_35, al_36, al_37, al_38, al_39, al_40, al_41, al_42, al_43, al_44, al_45, al_46, al_47, al_48, al_49, al_50, al_51, al_52, al_53, al_54, ↓reduceIte, Option.bind_some, cI_some, cL_some, cV_some, rz_0, rz_1, cl, cp]
    · rfl
    · rfl
    · rw [uA_s, cpy_rd (by omega) (by omega), if_pos ⟨Nat.zero_le _, by omega⟩, h25, Nat.zero_add, Nat.sub_zero]
      exact hR c hc
  have p10 := p.2.2.2.1
  by_cases z : rds = 0
  · obtain ⟨A1, I1, g1, g2, g3, g4⟩ := keep A I p rfl
    refine ⟨A1, I1, some R, ?_, g2, g3, g4, Or.inl ⟨rfl, Or.inl z⟩⟩
    simp -implicitDefEqProofs only [u_X3_take, M_X3_take, io_1, gr_1_0, gr_1_1, gr_1_2, gr_1_3, gr_1_4, gr_1_5, gi_1_6, pf_1_6, gi_1_7, pf_1_7, io_2, gr_2_0, gr_2_1, gr_2_2, gr_2_3, gr_2_4, gr_2_5, gr_2_6, gr_2_7, gi_2_8, pf_2_8, gi_2_9, pf_2_9, gi_2_10, pf_2_10, gi_2_11, pf_2_11, gi_2_12, pf_2_12, gi_2_13, pf_2_13, gi_2_14, pf_2_14, io_11, gr_11_0, gr_11_1, gr_11_2, io_15, gr_15_0, gr_15_1, gi_15_2, pf_15_2, gi_15_3, pf_15_3, gi_15_4, pf_15_4, gi_15_5, pf_15_5, io_18, gr_18_0, gr_18_1, gi_18_2, pf_18_2, io_21, gr_21_0, gr_21_1, gr_21_2, gr_21_3, gr_21_4, gi_21_5, pf_21_5, gi_21_6, pf_21_6, gi_21_7, pf_21_7, gi_21_8, pf_21_8, gi_21_9, pf_21_9, io_22, gr_22_0, gr_22_1, gi_22_2, pf_22_2, io_29, gr_29_0, gi_29_1, pf_29_1, io_31, gi_31_0, pf_31_0, gi_31_1, pf_31_1, gr_31_2, gr_31_3, gr_31_4, gi_31_5, pf_31_5, gi_31_6, pf_31_6, gi_31_7, pf_31_7, gr_31_8, gr_31_9, gr_31_10, gr_31_11, gi_31_12, pf_31_12, gi_31_13, pf_31_13, gi_31_14, pf_31_14, gr_31_15, gr_31_16, gi_31_17, pf_31_17, gr_31_18, gr_31_19, gr_31_20, gr_31_21, gr_31_22, gi_31_23, pf_31_23, gr_31_24, gr_31_25, gi_31_26, pf_31_26, gr_31_27, gr_31_28, gr_31_29, gr_31_30, gi_31_31, pf_31_31, gr_31_32, gr_31_33, gi_31_34, pf_31_34, gi_31_35, pf_31_35, gr_31_36, al_3, al_4, al_5, al_6, al_7, al_8, al_9, al_10, al_12, al_13, al_14, al_16, al_17, al_19, al_20, al_23, al_24, al_25, al_26, al_27, al_28, al_30, al_32, al_33, al_34, al_35, al_36, al_37, al_38, al_39, al_40, al_41, al_42, al_43, al_44, al_45, al_46, al_47, al_48, al_49, al_50, al_51, al_52, al_53, al_54, ↓reduceIte, Option.bind_some, cI_some, cL_some, cV_some, rz_0, rz_1, p10, nI_0lt (show rds < 2147483648 by omega)]
    rw [if_neg (by omega)]
    exact g1
  · obtain ⟨B, J, b1, hF, B25, B26, j5, j6⟩ := c_crossB (fu := fu) hf p hd hf9 hrd hrow hU
    have pB := hF.pc p
    by_cases y : X σ (Lb σ f rds R) (σ 0 2) d
    · obtain ⟨A1, I1, g1, g2, g3, g4⟩ := keep B J pB B25
      refine ⟨A1, I1, some R, ?_, hF.tr g2, g3, g4, Or.inl ⟨rfl, Or.inr y⟩⟩
      simp -implicitDefEqProofs only [u_X3_take, M_X3_take, io_1, gr_1_0, gr_1_1, gr_1_2, gr_1_3, gr_1_4, gr_1_5, gi_1_6, pf_1_6, gi_1_7, pf_1_7, io_2, gr_2_0, gr_2_1, gr_2_2, gr_2_3, gr_2_4, gr_2_5, gr_2_6, gr_2_7, gi_2_8, pf_2_8, gi_2_9, pf_2_9, gi_2_10, pf_2_10, gi_2_11, pf_2_11, gi_2_12, pf_2_12, gi_2_13, pf_2_13, gi_2_14, pf_2_14, io_11, gr_11_0, gr_11_1, gr_11_2, io_15, gr_15_0, gr_15_1, gi_15_2, pf_15_2, gi_15_3, pf_15_3, gi_15_4, pf_15_4, gi_15_5, pf_15_5, io_18, gr_18_0, gr_18_1, gi_18_2, pf_18_2, io_21, gr_21_0, gr_21_1, gr_21_2, gr_21_3, gr_21_4, gi_21_5, pf_21_5, gi_21_6, pf_21_6, gi_21_7, pf_21_7, gi_21_8, pf_21_8, gi_21_9, pf_21_9, io_22, gr_22_0, gr_22_1, gi_22_2, pf_22_2, io_29, gr_29_0, gi_29_1, pf_29_1, io_31, gi_31_0, pf_31_0, gi_31_1, pf_31_1, gr_31_2, gr_31_3, gr_31_4, gi_31_5, pf_31_5, gi_31_6, pf_31_6, gi_31_7, pf_31_7, gr_31_8, gr_31_9, gr_31_10, gr_31_11, gi_31_12, pf_31_12, gi_31_13, pf_31_13, gi_31_14, pf_31_14, gr_31_15, gr_31_16, gi_31_17, pf_31_17, gr_31_18, gr_31_19, gr_31_20, gr_31_21, gr_31_22, gi_31_23, pf_31_23, gr_31_24, gr_31_25, gi_31_26, pf_31_26, gr_31_27, gr_31_28, gr_31_29, gr_31_30, gi_31_31, pf_31_31, gr_31_32, gr_31_33, gi_31_34, pf_31_34, gi_31_35, pf_31_35, gr_31_36, al_3, al_4, al_5, al_6, al_7, al_8, al_9, al_10, al_12, al_13, al_14, al_16, al_17, al_19, al_20, al_23, al_24, al_25, al_26, al_27, al_28, al_30, al_32, al_33, al_34, al_35, al_36, al_37, al_38, al_39, al_40, al_41, al_42, al_43, al_44, al_45, al_46, al_47, al_48, al_49, al_50, al_51, al_52, al_53, al_54, ↓reduceIte, Option.bind_some, cI_some, cL_some, cV_some, rz_0, rz_1, p10, nI_0lt (show rds < 2147483648 by omega), b1, bI_0]
      rw [if_pos (by omega), if_neg (fun w => w y)]
      exact g1
    · refine ⟨B, J, o, ?_, hF, B25, hb.cg B26 j5 j6, Or.inr ⟨rfl, fun w => w.elim z y⟩⟩
      simp -implicitDefEqProofs only [u_X3_take, M_X3_take, io_1, gr_1_0, gr_1_1, gr_1_2, gr_1_3, gr_1_4, gr_1_5, gi_1_6, pf_1_6, gi_1_7, pf_1_7, io_2, gr_2_0, gr_2_1, gr_2_2, gr_2_3, gr_2_4, gr_2_5, gr_2_6, gr_2_7, gi_2_8, pf_2_8, gi_2_9, pf_2_9, gi_2_10, pf_2_10, gi_2_11, pf_2_11, gi_2_12, pf_2_12, gi_2_13, pf_2_13, gi_2_14, pf_2_14, io_11, gr_11_0, gr_11_1, gr_11_2, io_15, gr_15_0, gr_15_1, gi_15_2, pf_15_2, gi_15_3, pf_15_3, gi_15_4, pf_15_4, gi_15_5, pf_15_5, io_18, gr_18_0, gr_18_1, gi_18_2, pf_18_2, io_21, gr_21_0, gr_21_1, gr_21_2, gr_21_3, gr_21_4, gi_21_5, pf_21_5, gi_21_6, pf_21_6, gi_21_7, pf_21_7, gi_21_8, pf_21_8, gi_21_9, pf_21_9, io_22, gr_22_0, gr_22_1, gi_22_2, pf_22_2, io_29, gr_29_0, gi_29_1, pf_29_1, io_31, gi_31_0, pf_31_0, gi_31_1, pf_31_1, gr_31_2, gr_31_3, gr_31_4, gi_31_5, pf_31_5, gi_31_6, pf_31_6, gi_31_7, pf_31_7, gr_31_8, gr_31_9, gr_31_10, gr_31_11, gi_31_12, pf_31_12, gi_31_13, pf_31_13, gi_31_14, pf_31_14, gr_31_15, gr_31_16, gi_31_17, pf_31_17, gr_31_18, gr_31_19, gr_31_20, gr_31_21, gr_31_22, gi_31_23, pf_31_23, gr_31_24, gr_31_25, gi_31_26, pf_31_26, gr_31_27, gr_31_28, gr_31_29, gr_31_30, gi_31_31, pf_31_31, gr_31_32, gr_31_33, gi_31_34, pf_31_34, gi_31_35, pf_31_35, gr_31_36, al_3, al_4, al_5, al_6, al_7, al_8, al_9, al_10, al_12, al_13, al_14, al_16, al_17, al_19, al_20, al_23, al_24, al_25, al_26, al_27, al_28, al_30, al_32, al_33, al_34, al_35, al_36, al_37, al_38, al_39, al_40, al_41, al_42, al_43, al_44, al_45, al_46, al_47, al_48, al_49, al_50, al_51, al_52, al_53, al_54, ↓reduceIte, Option.bind_some, cI_some, cL_some, cV_some, rz_0, rz_1, p10, nI_0lt (show rds < 2147483648 by omega), b1, bI_0]
      rw [if_pos (by omega), if_pos y]
end PB
