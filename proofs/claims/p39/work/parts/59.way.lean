section WC2
variable {σ : SG} {A : Nat → List Int32} {I : Nat → Nat → Int32} {fu : Nat} {d : Nat}
abbrev LF0 (σ : SG) (d : Nat) : (Nat → Nat) → Nat → Prop := LF (σ 0 0) (S0 σ) (E0 σ) d
abbrev Mn0 (σ : SG) (d : Nat) : Nat → Nat → Prop := Mn (σ 0 0) (S0 σ) (E0 σ) d
abbrev NX0 (σ : SG) (d : Nat) : Nat → Nat → Nat → Prop := NX (σ 0 0) (S0 σ) (E0 σ) d
abbrev Pth0 (σ : SG) (d : Nat) : Nat → Nat → Nat → Prop := Pth (σ 0 0) (S0 σ) (E0 σ) d
theorem c_left (hf : 1000 ≤ fu) (w : WI σ d I) (hd : d ≤ 9) : ∀ k (A : Nat → List Int32) (f : Nat → Nat), RR σ A I → k ≤ σ 0 0 + 1 → (∀ t, k ≤ t → t ≤ σ 0 0 + 1 → rd (A 17) t = nI (f t) ∧ LF0 σ d f t) → ∀ n,
    ∃ xs f', xs.length = 9 ∧ (∀ t, t ≤ σ 0 0 + 1 → rd xs t = nI (f' t) ∧ LF0 σ d f' t) ∧ (F_X6_find fu (n + (k + 1))).1 15 (nI k - 1) (enc A I) = if f' 0 < 99 then (F_X6_find fu n).2 15 0 0 (enc (uA A 17 xs) I) else some (some (.int (-9)), enc (uA A 17 xs) I) := by
  intro k
  induction k with
  | zero =>
    intro A f r hk h n
    have l17 : (A 17).length = 9 := r.len rfl
    obtain ⟨v1, v2⟩ := h 0 (by omega) (by omega)
    refine ⟨A 17, f, l17, fun t ht => h t (by omega) ht, ?_⟩
    have e17 : aI (enc A I) 17 0 = some (nI (f 0)) := by rw [← v1]; exact ai_17 (j := 0) A I (by omega) (by omega)
    have := v2.le
    rw [uA_self, show n + (0 + 1) = n + 1 by omega, F_X6_find]
    have e99 : (nI (f 0) < 99) = (f 0 < 99) := n_lt (by omega) (by decide)
    simp only [io_1, gr_1_0, gr_1_1, gr_1_2, gr_1_3, gr_1_4, gr_1_5, gi_1_6, pf_1_6, gi_1_7, pf_1_7, io_2, gr_2_0, gr_2_1, gr_2_2, gr_2_3, gr_2_4, gr_2_5, gr_2_6, gr_2_7, gi_2_8, pf_2_8, gi_2_9, pf_2_9, gi_2_10, pf_2_10, gi_2_11, pf_2_11, gi_2_12, pf_2_12, gi_2_13, pf_2_13, gi_2_14, pf_2_14, io_11, gr_11_0, gr_11_1, gr_11_2, io_15, gr_15_0, gr_15_1, gi_15_2, pf_15_2, gi_15_3, pf_15_3, gi_15_4, pf_15_4, gi_15_5, pf_15_5, io_18, gr_18_0, gr_18_1, gi_18_2, pf_18_2, io_21, gr_21_0, gr_21_1, gr_21_2, gr_21_3, gi_21_4, pf_21_4, gi_21_5, pf_21_5, gi_21_6, pf_21_6, gi_21_7, pf_21_7, io_34, gr_34_0, gi_34_1, pf_34_1, al_3, al_4, al_5, al_6, al_7, al_8, al_9, al_10, al_12, al_13, al_14, al_16, al_17, al_19, al_20, al_22, al_23, al_24, al_26, al_27, al_28, al_29, al_30, al_31, al_32, al_33, al_35, ↓reduceIte, Option.bind_some, cI_some, cL_some, cV_some, rz_0, rz_1, e17, e99]
    rw [if_pos (by decide)]
  | succ k ih =>
    intro A f r hk h n
    have hn := r.n7
    have l17 : (A 17).length = 9 := r.len rfl
    obtain ⟨x, a1, a2, a3, a4⟩ := c_fewest hf r w hd (f := f) (p := k) (by omega) (fun t z1 z2 => ⟨(h t (by omega) z2).1, (h t (by omega) z2).2.le⟩)
    have st := LF.step (rw_of σ (σ 7) (σ 0 2)) hn (f := f) (x := x) (p := k) (d := d) (by omega) (fun t z1 z2 => (h t (by omega) z2).2) (by
      rcases a2 with z | ⟨t, b1, b2, b3, b4, b5, b6, b7⟩
      · exact Or.inl z
      · refine Or.inr ⟨t, b1, b2, b3, b4, b5, ?_, b7⟩
        rcases (h t (by omega) b2).2 with c | c
        · omega
        · exact c.1) a3
    have l1 : k < (A 17).length := by omega
    have s17 := si_17 A I (nI x) l1 (show k < 2147483648 by omega)
    have r1 : RR σ (uA A 17 ((A 17).set k (nI x))) I := r.sc rfl (by rw [List.length_set])
    obtain ⟨xs, f', c1, c2, c3⟩ := ih (uA A 17 ((A 17).set k (nI x))) (updN f k x) r1 (by omega) (fun t z1 z2 => by
      rw [uA_s, rd_set _ _ l1]
      by_cases y : t = k
      · have e : updN f k x k = x := if_pos rfl
        rw [if_pos y, y, e]
        refine ⟨rfl, ?_⟩
        unfold LF0 LF
        rw [e]
        exact st
      · have e : updN f k x t = f t := if_neg y
        rw [if_neg y, e]
        have := h t (by omega) z2
        refine ⟨this.1, ?_⟩
        have h2 := this.2
        unfold LF0 LF at h2 ⊢
        rw [e]
        exact h2) n
    rw [uA_uA] at c3
    refine ⟨xs, f', c1, c2, ?_⟩
    rw [show n + (k + 1 + 1) = n + (k + 1) + 1 by omega, F_X6_find]
    simp only [n_sub1, n_neg (show k < 2147483648 by omega), io_1, gr_1_0, gr_1_1, gr_1_2, gr_1_3, gr_1_4, gr_1_5, gi_1_6, pf_1_6, gi_1_7, pf_1_7, io_2, gr_2_0, gr_2_1, gr_2_2, gr_2_3, gr_2_4, gr_2_5, gr_2_6, gr_2_7, gi_2_8, pf_2_8, gi_2_9, pf_2_9, gi_2_10, pf_2_10, gi_2_11, pf_2_11, gi_2_12, pf_2_12, gi_2_13, pf_2_13, gi_2_14, pf_2_14, io_11, gr_11_0, gr_11_1, gr_11_2, io_15, gr_15_0, gr_15_1, gi_15_2, pf_15_2, gi_15_3, pf_15_3, gi_15_4, pf_15_4, gi_15_5, pf_15_5, io_18, gr_18_0, gr_18_1, gi_18_2, pf_18_2, io_21, gr_21_0, gr_21_1, gr_21_2, gr_21_3, gi_21_4, pf_21_4, gi_21_5, pf_21_5, gi_21_6, pf_21_6, gi_21_7, pf_21_7, io_34, gr_34_0, gi_34_1, pf_34_1, al_3, al_4, al_5, al_6, al_7, al_8, al_9, al_10, al_12, al_13, al_14, al_16, al_17, al_19, al_20, al_22, al_23, al_24, al_26, al_27, al_28, al_29, al_30, al_31, al_32, al_33, al_35, ↓reduceIte, Option.bind_some, cI_some, cL_some, cV_some, rz_0, rz_1, if_false, a4, s17, n_m1]
    exact c3
theorem c_behind (hf : 1000 ≤ fu) (r : RR σ A I) (w : WI σ d I) (hd : d ≤ 9) {f : Nat → Nat} (h17 : ∀ t, t ≤ σ 0 0 + 1 → rd (A 17) t = nI (f t) ∧ LF0 σ d f t) {a l q : Nat} (hl : l ≤ 7) (ha : Mn0 σ d a (l + 1)) (hq : NX0 σ d l a q) :
    U_X6_firstBehind fu [.ref 15, .int (nI a)] (enc A I) = some (some (.int (nI q)), enc A I) := by
  have hn := r.n7
  have R := rw_of σ (σ 7) (σ 0 2)
  have l17 : (A 17).length = 9 := r.len rfl
  have haN := ha.lt R
  have hqN := hq.2.1
  have fa : f a = l + 1 := (LF.mn f (h17 a (by omega)).2 (by omega)).mpr ha
  have ea : aI (enc A I) 17 (nI a) = some (nI (l + 1)) := by rw [ai_17 A I (by omega) (by omega), (h17 a (by omega)).1, fa]
  have loop : ∀ m t n, t + m = q → m < n → a < t → F_X6_firstBehind fu n 15 (nI a) (nI t) (enc A I) = some (some (.int (nI q)), enc A I) := by
    intro m
    induction m with
    | zero =>
      intro t n ht hn2 hat
      obtain ⟨n, rfl⟩ : ∃ k, n = k + 1 := ⟨n - 1, by omega⟩
      have e : t = q := by omega
      subst e
      by_cases z : t = σ 0 0 + 1
      · simp only [F_X6_firstBehind, io_1, gr_1_0, gr_1_1, gr_1_2, gr_1_3, gr_1_4, gr_1_5, gi_1_6, pf_1_6, gi_1_7, pf_1_7, io_2, gr_2_0, gr_2_1, gr_2_2, gr_2_3, gr_2_4, gr_2_5, gr_2_6, gr_2_7, gi_2_8, pf_2_8, gi_2_9, pf_2_9, gi_2_10, pf_2_10, gi_2_11, pf_2_11, gi_2_12, pf_2_12, gi_2_13, pf_2_13, gi_2_14, pf_2_14, io_11, gr_11_0, gr_11_1, gr_11_2, io_15, gr_15_0, gr_15_1, gi_15_2, pf_15_2, gi_15_3, pf_15_3, gi_15_4, pf_15_4, gi_15_5, pf_15_5, io_18, gr_18_0, gr_18_1, gi_18_2, pf_18_2, io_21, gr_21_0, gr_21_1, gr_21_2, gr_21_3, gi_21_4, pf_21_4, gi_21_5, pf_21_5, gi_21_6, pf_21_6, gi_21_7, pf_21_7, io_34, gr_34_0, gi_34_1, pf_34_1, al_3, al_4, al_5, al_6, al_7, al_8, al_9, al_10, al_12, al_13, al_14, al_16, al_17, al_19, al_20, al_22, al_23, al_24, al_26, al_27, al_28, al_29, al_30, al_31, al_32, al_33, al_35, ↓reduceIte, Option.bind_some, cI_some, cL_some, cV_some, rz_0, rz_1, w.2.2.1, n_lt (show t < 2147483648 by omega) (show σ 0 0 + 1 < 2147483648 by omega)]
        rw [if_neg (by omega), z]
      · obtain ⟨v1, v2⟩ := h17 t (by omega)
        have ft : f t = l := (LF.mn f v2 (by omega)).mpr hq.2.2.2.1
        have et : aI (enc A I) 17 (nI t) = some (nI l) := by rw [ai_17 A I (by omega) (by omega), v1, ft]
        simp only [F_X6_firstBehind, io_1, gr_1_0, gr_1_1, gr_1_2, gr_1_3, gr_1_4, gr_1_5, gi_1_6, pf_1_6, gi_1_7, pf_1_7, io_2, gr_2_0, gr_2_1, gr_2_2, gr_2_3, gr_2_4, gr_2_5, gr_2_6, gr_2_7, gi_2_8, pf_2_8, gi_2_9, pf_2_9, gi_2_10, pf_2_10, gi_2_11, pf_2_11, gi_2_12, pf_2_12, gi_2_13, pf_2_13, gi_2_14, pf_2_14, io_11, gr_11_0, gr_11_1, gr_11_2, io_15, gr_15_0, gr_15_1, gi_15_2, pf_15_2, gi_15_3, pf_15_3, gi_15_4, pf_15_4, gi_15_5, pf_15_5, io_18, gr_18_0, gr_18_1, gi_18_2, pf_18_2, io_21, gr_21_0, gr_21_1, gr_21_2, gr_21_3, gi_21_4, pf_21_4, gi_21_5, pf_21_5, gi_21_6, pf_21_6, gi_21_7, pf_21_7, io_34, gr_34_0, gi_34_1, pf_34_1, al_3, al_4, al_5, al_6, al_7, al_8, al_9, al_10, al_12, al_13, al_14, al_16, al_17, al_19, al_20, al_22, al_23, al_24, al_26, al_27, al_28, al_29, al_30, al_31, al_32, al_33, al_35, ↓reduceIte, Option.bind_some, cI_some, cL_some, cV_some, rz_0, rz_1, w.2.2.1, n_lt (show t < 2147483648 by omega) (show σ 0 0 + 1 < 2147483648 by omega), c_strideW r w hd hat (show t ≤ σ 0 0 + 1 by omega), bI_0, et, ea, n_sub1]
        rw [if_pos (by omega), if_neg (fun y => y ⟨(ha.st R).1, (hq.2.2.2.1.st R).1, hq.2.2.1⟩)]
    | succ m ih =>
      intro t n ht hn2 hat
      obtain ⟨n, rfl⟩ : ∃ k, n = k + 1 := ⟨n - 1, by omega⟩
      obtain ⟨v1, v2⟩ := h17 t (by omega)
      have hle := v2.le
      have et : aI (enc A I) 17 (nI t) = some (nI (f t)) := by rw [ai_17 A I (by omega) (by omega), v1]
      simp only [F_X6_firstBehind, io_1, gr_1_0, gr_1_1, gr_1_2, gr_1_3, gr_1_4, gr_1_5, gi_1_6, pf_1_6, gi_1_7, pf_1_7, io_2, gr_2_0, gr_2_1, gr_2_2, gr_2_3, gr_2_4, gr_2_5, gr_2_6, gr_2_7, gi_2_8, pf_2_8, gi_2_9, pf_2_9, gi_2_10, pf_2_10, gi_2_11, pf_2_11, gi_2_12, pf_2_12, gi_2_13, pf_2_13, gi_2_14, pf_2_14, io_11, gr_11_0, gr_11_1, gr_11_2, io_15, gr_15_0, gr_15_1, gi_15_2, pf_15_2, gi_15_3, pf_15_3, gi_15_4, pf_15_4, gi_15_5, pf_15_5, io_18, gr_18_0, gr_18_1, gi_18_2, pf_18_2, io_21, gr_21_0, gr_21_1, gr_21_2, gr_21_3, gi_21_4, pf_21_4, gi_21_5, pf_21_5, gi_21_6, pf_21_6, gi_21_7, pf_21_7, io_34, gr_34_0, gi_34_1, pf_34_1, al_3, al_4, al_5, al_6, al_7, al_8, al_9, al_10, al_12, al_13, al_14, al_16, al_17, al_19, al_20, al_22, al_23, al_24, al_26, al_27, al_28, al_29, al_30, al_31, al_32, al_33, al_35, ↓reduceIte, Option.bind_some, cI_some, cL_some, cV_some, rz_0, rz_1, w.2.2.1, n_lt (show t < 2147483648 by omega) (show σ 0 0 + 1 < 2147483648 by omega), c_strideW r w hd hat (show t ≤ σ 0 0 + 1 by omega), bI_0, et, ea, n_sub1, n_eq (show f t < 2147483648 by omega) (show l < 2147483648 by omega), nI_1]
      rw [if_pos (by omega)]
      have nx := ih (t + 1) n (by omega) (by omega) (by omega)
      by_cases z : S0 σ a = true ∧ S0 σ t = true ∧ near (E0 σ) d a t
      · rw [if_neg (fun y => y z), if_neg (fun y => hq.2.2.2.2 t hat (by omega) ⟨z.2.2, (LF.mn f v2 (by omega)).mp y⟩)]
        exact nx
      · rw [if_pos z]
        exact nx
  simp only [u_X6_firstBehind, M_X6_firstBehind, io_1, gr_1_0, gr_1_1, gr_1_2, gr_1_3, gr_1_4, gr_1_5, gi_1_6, pf_1_6, gi_1_7, pf_1_7, io_2, gr_2_0, gr_2_1, gr_2_2, gr_2_3, gr_2_4, gr_2_5, gr_2_6, gr_2_7, gi_2_8, pf_2_8, gi_2_9, pf_2_9, gi_2_10, pf_2_10, gi_2_11, pf_2_11, gi_2_12, pf_2_12, gi_2_13, pf_2_13, gi_2_14, pf_2_14, io_11, gr_11_0, gr_11_1, gr_11_2, io_15, gr_15_0, gr_15_1, gi_15_2, pf_15_2, gi_15_3, pf_15_3, gi_15_4, pf_15_4, gi_15_5, pf_15_5, io_18, gr_18_0, gr_18_1, gi_18_2, pf_18_2, io_21, gr_21_0, gr_21_1, gr_21_2, gr_21_3, gi_21_4, pf_21_4, gi_21_5, pf_21_5, gi_21_6, pf_21_6, gi_21_7, pf_21_7, io_34, gr_34_0, gi_34_1, pf_34_1, al_3, al_4, al_5, al_6, al_7, al_8, al_9, al_10, al_12, al_13, al_14, al_16, al_17, al_19, al_20, al_22, al_23, al_24, al_26, al_27, al_28, al_29, al_30, al_31, al_32, al_33, al_35, ↓reduceIte, Option.bind_some, cI_some, cL_some, cV_some, rz_0, rz_1, nI_1]
  exact loop (q - (a + 1)) (a + 1) fu (by have := hq.1; omega) (by omega) (by omega)
theorem c_places (hf : 1000 ≤ fu) (w : WI σ d I) (hd : d ≤ 9) {f : Nat → Nat} {L : Nat} (hL : L ≤ 8) (fL : f 0 = L) : ∀ m k a n (A : Nat → List Int32), RR σ A I → (∀ t, t ≤ σ 0 0 + 1 → rd (A 17) t = nI (f t) ∧ LF0 σ d f t) → k + m = L → m < n → Pth0 σ d L k a → Mn0 σ d a (L - k) → (∀ j, j < k → ∃ b, Pth0 σ d L (j + 1) b ∧ rd (A 16) j = nI b - 1) →
    ∃ xs, xs.length = 8 ∧ (∀ j, j < L → ∃ b, Pth0 σ d L (j + 1) b ∧ rd xs j = nI b - 1) ∧ (F_X6_find fu n).2 15 (nI a) (nI k) (enc A I) = some (some (.int (nI L)), enc (uA A 16 xs) I) := by
  intro m
  induction m with
  | zero =>
    intro k a n A r h17 hk hn2 hp ha h16
    obtain ⟨n, rfl⟩ : ∃ k, n = k + 1 := ⟨n - 1, by omega⟩
    have l17 : (A 17).length = 9 := r.len rfl
    have l16 : (A 16).length = 8 := r.len rfl
    have e17 : aI (enc A I) 17 0 = some (nI L) := by rw [← fL, ← (h17 0 (by omega)).1]; exact ai_17 (j := 0) A I (by omega) (by omega)
    refine ⟨A 16, l16, fun j hj => h16 j (by omega), ?_⟩
    rw [uA_self, F_X6_find]
    simp only [io_1, gr_1_0, gr_1_1, gr_1_2, gr_1_3, gr_1_4, gr_1_5, gi_1_6, pf_1_6, gi_1_7, pf_1_7, io_2, gr_2_0, gr_2_1, gr_2_2, gr_2_3, gr_2_4, gr_2_5, gr_2_6, gr_2_7, gi_2_8, pf_2_8, gi_2_9, pf_2_9, gi_2_10, pf_2_10, gi_2_11, pf_2_11, gi_2_12, pf_2_12, gi_2_13, pf_2_13, gi_2_14, pf_2_14, io_11, gr_11_0, gr_11_1, gr_11_2, io_15, gr_15_0, gr_15_1, gi_15_2, pf_15_2, gi_15_3, pf_15_3, gi_15_4, pf_15_4, gi_15_5, pf_15_5, io_18, gr_18_0, gr_18_1, gi_18_2, pf_18_2, io_21, gr_21_0, gr_21_1, gr_21_2, gr_21_3, gi_21_4, pf_21_4, gi_21_5, pf_21_5, gi_21_6, pf_21_6, gi_21_7, pf_21_7, io_34, gr_34_0, gi_34_1, pf_34_1, al_3, al_4, al_5, al_6, al_7, al_8, al_9, al_10, al_12, al_13, al_14, al_16, al_17, al_19, al_20, al_22, al_23, al_24, al_26, al_27, al_28, al_29, al_30, al_31, al_32, al_33, al_35, ↓reduceIte, Option.bind_some, cI_some, cL_some, cV_some, rz_0, rz_1, e17, n_lt (show k < 2147483648 by omega) (show L < 2147483648 by omega)]
    rw [if_neg (by omega)]
  | succ m ih =>
    intro k a n A r h17 hk hn2 hp ha h16
    obtain ⟨n, rfl⟩ : ∃ k, n = k + 1 := ⟨n - 1, by omega⟩
    have R := rw_of σ (σ 7) (σ 0 2)
    have hn := r.n7
    have l17 : (A 17).length = 9 := r.len rfl
    have l16 : (A 16).length = 8 := r.len rfl
    have e17 : aI (enc A I) 17 0 = some (nI L) := by rw [← fL, ← (h17 0 (by omega)).1]; exact ai_17 (j := 0) A I (by omega) (by omega)
    have ha' : Mn0 σ d a (L - (k + 1) + 1) := by rw [show L - (k + 1) + 1 = L - k by omega]; exact ha
    obtain ⟨q, hq⟩ := NX.ex R ha'
    have cb := c_behind hf r w hd h17 (by omega) ha' hq
    have hqN := hq.2.1
    have l1 : k < (A 16).length := by omega
    have s16 := si_16 A I (nI q - 1) l1 (show k < 2147483648 by omega)
    have hp1 : Pth0 σ d L (k + 1) q := ⟨a, hp, hq⟩
    obtain ⟨xs, c1, c2, c3⟩ := ih (k + 1) q n (uA A 16 ((A 16).set k (nI q - 1))) (r.sc rfl (by rw [List.length_set])) (by rw [uA_n _ _ _ (by decide)]; exact h17) (by omega) (by omega) hp1 hq.2.2.2.1 (fun j hj => by
      rw [uA_s, rd_set _ _ l1]
      by_cases y : j = k
      · rw [if_pos y, y]; exact ⟨q, hp1, rfl⟩
      · rw [if_neg y]; exact h16 j (by omega))
    rw [uA_uA] at c3
    refine ⟨xs, c1, c2, ?_⟩
    rw [F_X6_find]
    simp only [io_1, gr_1_0, gr_1_1, gr_1_2, gr_1_3, gr_1_4, gr_1_5, gi_1_6, pf_1_6, gi_1_7, pf_1_7, io_2, gr_2_0, gr_2_1, gr_2_2, gr_2_3, gr_2_4, gr_2_5, gr_2_6, gr_2_7, gi_2_8, pf_2_8, gi_2_9, pf_2_9, gi_2_10, pf_2_10, gi_2_11, pf_2_11, gi_2_12, pf_2_12, gi_2_13, pf_2_13, gi_2_14, pf_2_14, io_11, gr_11_0, gr_11_1, gr_11_2, io_15, gr_15_0, gr_15_1, gi_15_2, pf_15_2, gi_15_3, pf_15_3, gi_15_4, pf_15_4, gi_15_5, pf_15_5, io_18, gr_18_0, gr_18_1, gi_18_2, pf_18_2, io_21, gr_21_0, gr_21_1, gr_21_2, gr_21_3, gi_21_4, pf_21_4, gi_21_5, pf_21_5, gi_21_6, pf_21_6, gi_21_7, pf_21_7, io_34, gr_34_0, gi_34_1, pf_34_1, al_3, al_4, al_5, al_6, al_7, al_8, al_9, al_10, al_12, al_13, al_14, al_16, al_17, al_19, al_20, al_22, al_23, al_24, al_26, al_27, al_28, al_29, al_30, al_31, al_32, al_33, al_35, ↓reduceIte, Option.bind_some, cI_some, cL_some, cV_some, rz_0, rz_1, e17, n_lt (show k < 2147483648 by omega) (show L < 2147483648 by omega), cb, s16, nI_1]
    rw [if_pos (by omega)]
    exact c3
/-- the class's way -/
theorem c_find (hf : 1000 ≤ fu) (r : RR σ A I) (hd : d ≤ 9) : ∃ A1 I1, Fr A I A1 I1 ∧
    (((∀ L, ¬ Wk (σ 0 0) (S0 σ) (E0 σ) d (σ 0 0 + 1) L 0) ∧ U_X6_find fu [.ref 15, .ref 2, .int (nI d)] (enc A I) = some (some (.int (-9)), enc A1 I1)) ∨
     ∃ L, L ≤ 8 ∧ Mn0 σ d 0 L ∧ (∀ j, j < L → ∃ b, Pth0 σ d L (j + 1) b ∧ rd (A1 16) j = nI b - 1) ∧ U_X6_find fu [.ref 15, .ref 2, .int (nI d)] (enc A I) = some (some (.int (nI L)), enc A1 I1)) := by
  have hn := r.n7
  have l17 : (A 17).length = 9 := r.len rfl
  have r1 : RR σ A (uI (uI I 15 5 (nI d)) 15 4 (nI (σ 0 0 + 1))) := ((Fr.int (o := 15) (j := 4) (Fr.int (o := 15) (j := 5) (Fr.rf A I) rfl) rfl)).R r
  have dr := c_dry (fu := fu) hf r1 (show σ 0 2 ≤ 9 from r.1.2.2.2.1)
  have eS := stops_eq r
  have r2 : RR σ A (uI (uI (uI I 15 5 (nI d)) 15 4 (nI (σ 0 0 + 1))) 15 2 (nI (bits (S0 σ) (σ 0 0 + 2)))) := ((Fr.int (o := 15) (j := 2) (Fr.rf A _) rfl)).R r1
  have ok := c_ofKind (fu := fu) hf r2 (show 2 ≤ 2 by omega)
  rw [show nI 2 = (2 : Int32) from rfl] at ok
  obtain ⟨J, hJ⟩ : ∃ J, J = uI (uI (uI (uI I 15 5 (nI d)) 15 4 (nI (σ 0 0 + 1))) 15 2 (nI (bits (S0 σ) (σ 0 0 + 2)))) 15 3 (nI (bits (kndB σ 2) (σ 0 0)) <<< ((1 : Int32) &&& 31)) := ⟨_, rfl⟩
  have hFJ : Fr A I A J := by rw [hJ]; exact Fr.int (o := 15) (j := 3) (Fr.int (o := 15) (j := 2) (Fr.int (o := 15) (j := 4) (Fr.int (o := 15) (j := 5) (Fr.rf A I) rfl) rfl) rfl) rfl
  have w : WI σ d J := by rw [hJ]; exact ⟨rfl, rfl, rfl, rfl⟩
  have l1 : σ 0 0 + 1 < (A 17).length := by omega
  have s17 := si_17 A J (0 : Int32) l1 (show σ 0 0 + 1 < 2147483648 by omega)
  have hF1 : Fr A I (uA A 17 ((A 17).set (σ 0 0 + 1) 0)) J := hFJ.arr rfl (by rw [List.length_set])
  obtain ⟨N, hN⟩ : ∃ N, fu = N + (σ 0 0 + 1 + 1) := ⟨fu - (σ 0 0 + 2), by omega⟩
  obtain ⟨xs, f, b1, b2, b3⟩ := c_left hf w hd (σ 0 0 + 1) (uA A 17 ((A 17).set (σ 0 0 + 1) 0)) (fun _ => 0) (hF1.R r) (Nat.le_refl _) (fun t z1 z2 => by
    have e : t = σ 0 0 + 1 := by omega
    rw [e, uA_s, rd_set _ _ l1, if_pos rfl]
    exact ⟨rfl, Or.inr ⟨Nat.zero_le _, Mn.end0⟩⟩) N
  rw [← hN, uA_uA] at b3
  have hF2 : Fr A I (uA A 17 xs) J := hFJ.arr rfl (by rw [b1, l17])
  have pre : U_X6_find fu [.ref 15, .ref 2, .int (nI d)] (enc A I) = (F_X6_find fu fu).1 15 (nI (σ 0 0 + 1) - 1) (enc (uA A 17 ((A 17).set (σ 0 0 + 1) 0)) J) := by
    have q1 : ∀ x, uI I 15 5 x 2 8 = nI (σ 0 0) := fun x => r.i2_8
    have q2 : ∀ x y, uI (uI I 15 5 x) 15 4 y 2 11 = nI (σ 0 2) := fun x y => r.i2_11
    have q3 : ∀ x y, uI (uI I 15 5 x) 15 4 y 15 4 = y := fun x y => rfl
    have q4 : ∀ x y, uI (uI (uI (uI I 15 5 (nI d)) 15 4 (nI (σ 0 0 + 1))) 15 2 x) 15 3 y 15 4 = nI (σ 0 0 + 1) := fun x y => rfl
    have q5 : J 15 4 = nI (σ 0 0 + 1) := w.2.2.1
    simp -implicitDefEqProofs only [u_X6_find, M_X6_find, io_1, gr_1_0, gr_1_1, gr_1_2, gr_1_3, gr_1_4, gr_1_5, gi_1_6, pf_1_6, gi_1_7, pf_1_7, io_2, gr_2_0, gr_2_1, gr_2_2, gr_2_3, gr_2_4, gr_2_5, gr_2_6, gr_2_7, gi_2_8, pf_2_8, gi_2_9, pf_2_9, gi_2_10, pf_2_10, gi_2_11, pf_2_11, gi_2_12, pf_2_12, gi_2_13, pf_2_13, gi_2_14, pf_2_14, io_11, gr_11_0, gr_11_1, gr_11_2, io_15, gr_15_0, gr_15_1, gi_15_2, pf_15_2, gi_15_3, pf_15_3, gi_15_4, pf_15_4, gi_15_5, pf_15_5, io_18, gr_18_0, gr_18_1, gi_18_2, pf_18_2, io_21, gr_21_0, gr_21_1, gr_21_2, gr_21_3, gi_21_4, pf_21_4, gi_21_5, pf_21_5, gi_21_6, pf_21_6, gi_21_7, pf_21_7, io_34, gr_34_0, gi_34_1, pf_34_1, al_3, al_4, al_5, al_6, al_7, al_8, al_9, al_10, al_12, al_13, al_14, al_16, al_17, al_19, al_20, al_22, al_23, al_24, al_26, al_27, al_28, al_29, al_30, al_31, al_32, al_33, al_35, ↓reduceIte, Option.bind_some, cI_some, cL_some, cV_some, rz_0, rz_1, q1, q2, q3, nI_1, dr, eS, ok, q4, ← hJ, q5, s17]
  obtain ⟨v1, v2⟩ := b2 0 (by omega)
  rcases v2 with ⟨y1, y2⟩ | ⟨y1, y2⟩
  · rw [if_neg (by omega)] at b3
    exact ⟨_, J, hF2, Or.inl ⟨y2, pre.trans b3⟩⟩
  · rw [if_pos (by omega)] at b3
    obtain ⟨ys, c1, c2, c3⟩ := c_places hf w hd y1 rfl (f 0) 0 0 N (uA A 17 xs) (hF2.R r) (by rw [uA_s]; exact b2) (by omega) (by omega) rfl (by rw [Nat.sub_zero]; exact y2) (fun j hj => by omega)
    refine ⟨_, J, hF2.arr (k := 16) (xs := ys) rfl (by rw [c1, uA_n _ _ _ (by decide)]; exact (r.len (k := 16) rfl).symm), Or.inr ⟨f 0, y1, y2, ?_, pre.trans (b3.trans c3)⟩⟩
    rw [uA_s]
    exact c2
end WC2

