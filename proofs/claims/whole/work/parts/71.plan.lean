/-! ===== the model's plan ===== -/
section PG
variable {σ : SG} {A : Nat → List Int32} {I : Nat → Nat → Int32} {fu d f rds : Nat}
/-- what the search leaves changed, but for the row that is tried -/
def FrO (A : Nat → List Int32) (I : Nat → Nat → Int32) (B : Nat → List Int32) (J : Nat → Nat → Int32) : Prop :=
  (∀ k, k ≠ 52 → k ≠ 53 → k ≠ 54 → k ≠ 55 → k ≠ 56 → k ≠ 57 → k ≠ 58 → B k = A k) ∧ (∀ k, (B k).length = (A k).length) ∧ ∀ o j, ¬ (o = 36 ∧ (j = 26 ∨ j = 34 ∨ j = 35)) → J o j = I o j
theorem FrO.rf (A : Nat → List Int32) (I : Nat → Nat → Int32) : FrO A I A I := ⟨fun _ _ _ _ _ _ _ _ => rfl, fun _ => rfl, fun _ _ _ => rfl⟩
theorem FrO.tr {A B C : Nat → List Int32} {I J K : Nat → Nat → Int32} (h : FrO A I B J) (g : FrO B J C K) : FrO A I C K :=
  ⟨fun k a b c d e f i => (g.1 k a b c d e f i).trans (h.1 k a b c d e f i), fun k => (g.2.1 k).trans (h.2.1 k), fun o j a => (g.2.2 o j a).trans (h.2.2 o j a)⟩
theorem FrO.arr {A B : Nat → List Int32} {I J : Nat → Nat → Int32} (h : FrO A I B J) {k : Nat} {xs : List Int32} (hk : k = 52 ∨ k = 53 ∨ k = 54 ∨ k = 55 ∨ k = 56 ∨ k = 57 ∨ k = 58) (hl : xs.length = (B k).length) : FrO A I (uA B k xs) J :=
  h.tr ⟨fun j a b c d e f i => uA_n _ _ _ (by omega), fun j => by
    by_cases y : j = k
    · rw [y, uA_s, hl]
    · rw [uA_n _ _ _ y], fun _ _ _ => rfl⟩
theorem FrO.int {A B : Nat → List Int32} {I J : Nat → Nat → Int32} (h : FrO A I B J) {j : Nat} (x : Int32) (hj : j = 26 ∨ j = 34 ∨ j = 35) : FrO A I B (uI J 36 j x) :=
  h.tr ⟨fun _ _ _ _ _ _ _ _ => rfl, fun _ => rfl, fun o i a => by
    unfold uI
    rw [if_neg (fun z => a ⟨z.1, by omega⟩)]⟩
theorem FrO.Fr {A B : Nat → List Int32} {I J : Nat → Nat → Int32} (h : FrO A I B J) : Fr A I B J :=
  ⟨fun k hk => h.1 k (fun z => by rw [z] at hk; cases hk) (fun z => by rw [z] at hk; cases hk) (fun z => by rw [z] at hk; cases hk) (fun z => by rw [z] at hk; cases hk) (fun z => by rw [z] at hk; cases hk) (fun z => by rw [z] at hk; cases hk) (fun z => by rw [z] at hk; cases hk), h.2.1,
   fun o j hj => h.2.2 o j (fun z => by
    rcases z with ⟨z1, z2 | z2 | z2⟩ <;> (rw [z1, z2] at hj; cases hj))⟩
theorem FrO.of52 {A B : Nat → List Int32} (h : FrM A B) (I : Nat → Nat → Int32) : FrO A I B I := ⟨fun k a _ c d e _ _ => h.1 k a c d e, h.2, fun _ _ _ => rfl⟩
/-- the row that is tried, up to a cell -/
def TR (R : Nat → Nat) (c : Nat) (A : Nat → List Int32) : Prop := ∀ i, i < c → rd (A 57) i = nI (dg (R i))
def MBc (σ : SG) (o : Option (Nat → Nat)) (A : Nat → List Int32) (I : Nat → Nat → Int32) : Prop := match o with
  | none => I 36 34 = nI 1000000 ∧ I 36 35 = nI 1000000
  | some b => okR σ b (σ 0 0) ∧ I 36 34 = nI (wr σ b (σ 0 0)) ∧ I 36 35 = nI (mr b (σ 0 0)) ∧ ∀ c, c < σ 0 0 → rd (A 58) c = nI (dg (b c))
theorem MBc.cg {o : Option (Nat → Nat)} {A B : Nat → List Int32} {I J : Nat → Nat → Int32} (h : MBc σ o A I) (h1 : B 58 = A 58) (h2 : J 36 34 = I 36 34) (h3 : J 36 35 = I 36 35) : MBc σ o B J := by
  unfold MBc at h ⊢
  cases o with
  | none => dsimp only at h ⊢; rw [h2, h3]; exact h
  | some b => dsimp only at h ⊢; rw [h1, h2, h3]; exact h
theorem dg_6 {x : Nat} (h : x ≤ 6) : (dg x < 6 ↔ x ≠ 0) ∧ (x ≠ 0 → dg x = x - 1) ∧ (x = 0 → dg x = 6) := by
  unfold dg
  by_cases z : x = 0
  · rw [if_pos z]; omega
  · rw [if_neg z]; omega
theorem m_workAhead (hf : 1000 ≤ fu) (r : RR σ A I) {R : Nat → Nat} {c : Nat} (hc : c ≤ σ 0 0) (ho : okR σ R c) (ht : TR R c A) : U_X8_workAhead fu [.ref 36, .int (nI c)] (enc A I) = some (some (.int (nI (wr σ R c))), enc A I) := by
  have hn := r.n7
  have hm := r.m6
  have l57 : (A 57).length = 7 := r.len rfl
  have loop : ∀ m i n, i + m = c → m < n → F_X8_workAhead fu n 36 (nI c) (nI (wr σ R i)) (nI i) (enc A I) = some (some (.int (nI (wr σ R c))), enc A I) := by
    intro m
    induction m with
    | zero =>
      intro i n hi hn2
      obtain ⟨n, rfl⟩ : ∃ j, n = j + 1 := ⟨n - 1, by omega⟩
      simp only [F_X8_workAhead, n_lt (show i < 2147483648 by omega) (show c < 2147483648 by omega)]
      rw [if_neg (by omega), show i = c by omega]
    | succ m ih =>
      intro i n hi hn2
      obtain ⟨n, rfl⟩ : ∃ j, n = j + 1 := ⟨n - 1, by omega⟩
      have nx := ih (i + 1) n (by omega) (by omega)
      have h6 := ho.le hm (show i < c by omega)
      have hd := dg_6 h6
      have hd7 := dg_lt h6
      have e57 : aI (enc A I) 57 (nI i) = some (nI (dg (R i))) := by rw [ai_57 A I (by omega) (by omega), ht i (by omega)]
      have e6 : (nI (dg (R i)) < 6) = (dg (R i) < 6) := n_lt (by omega) (by decide)
      rw [wr] at nx
      simp only [F_X8_workAhead, n_lt (show i < 2147483648 by omega) (show c < 2147483648 by omega), io_1, gr_1_0, gr_1_1, gr_1_2, gr_1_3, gr_1_4, gr_1_5, gi_1_6, pf_1_6, gi_1_7, pf_1_7, io_2, gr_2_0, gr_2_1, gr_2_2, gr_2_3, gr_2_4, gr_2_5, gr_2_6, gr_2_7, gi_2_8, pf_2_8, gi_2_9, pf_2_9, gi_2_10, pf_2_10, gi_2_11, pf_2_11, gi_2_12, pf_2_12, gi_2_13, pf_2_13, gi_2_14, pf_2_14, io_11, gr_11_0, gr_11_1, gr_11_2, io_15, gr_15_0, gr_15_1, gi_15_2, pf_15_2, gi_15_3, pf_15_3, gi_15_4, pf_15_4, gi_15_5, pf_15_5, io_18, gr_18_0, gr_18_1, gi_18_2, pf_18_2, io_21, gr_21_0, gr_21_1, gr_21_2, gr_21_3, gi_21_4, pf_21_4, gi_21_5, pf_21_5, gi_21_6, pf_21_6, gi_21_7, pf_21_7, io_34, gr_34_0, gi_34_1, pf_34_1, io_36, gi_36_0, pf_36_0, gi_36_1, pf_36_1, gr_36_2, gr_36_3, gr_36_4, gi_36_5, pf_36_5, gi_36_6, pf_36_6, gi_36_7, pf_36_7, gr_36_8, gr_36_9, gr_36_10, gr_36_11, gi_36_12, pf_36_12, gi_36_13, pf_36_13, gi_36_14, pf_36_14, gr_36_15, gr_36_16, gi_36_17, pf_36_17, gr_36_18, gr_36_19, gr_36_20, gr_36_21, gr_36_22, gi_36_23, pf_36_23, gr_36_24, gr_36_25, gi_36_26, pf_36_26, gr_36_27, gr_36_28, gr_36_29, gr_36_30, gi_36_31, pf_36_31, gr_36_32, gr_36_33, gi_36_34, pf_36_34, gi_36_35, pf_36_35, gr_36_36, al_3, al_4, al_5, al_6, al_7, al_8, al_9, al_10, al_12, al_13, al_14, al_16, al_17, al_19, al_20, al_22, al_23, al_24, al_26, al_27, al_28, al_29, al_30, al_31, al_32, al_33, al_35, al_37, al_38, al_39, al_40, al_41, al_42, al_43, al_44, al_45, al_46, al_47, al_48, al_49, al_50, al_51, al_52, al_53, al_54, al_55, al_56, al_57, al_58, al_59, ↓reduceIte, Option.bind_some, cI_some, cL_some, cV_some, rz_0, rz_1, e57, e6, nI_1]
      rw [if_pos (by omega)]
      by_cases z : R i = 0
      · rw [if_neg (fun y => hd.1.mp y z), Int32.add_zero]
        rw [if_pos z, Nat.add_zero] at nx
        exact nx
      · have hs := (ho.1 i (by omega) z).1
        rw [if_pos (hd.1.mpr z), hd.2.1 z, m_workOf r hs (by omega), cI_some, nI_add]
        rw [if_neg z] at nx
        exact nx
  simp only [u_X8_workAhead, M_X8_workAhead, io_1, gr_1_0, gr_1_1, gr_1_2, gr_1_3, gr_1_4, gr_1_5, gi_1_6, pf_1_6, gi_1_7, pf_1_7, io_2, gr_2_0, gr_2_1, gr_2_2, gr_2_3, gr_2_4, gr_2_5, gr_2_6, gr_2_7, gi_2_8, pf_2_8, gi_2_9, pf_2_9, gi_2_10, pf_2_10, gi_2_11, pf_2_11, gi_2_12, pf_2_12, gi_2_13, pf_2_13, gi_2_14, pf_2_14, io_11, gr_11_0, gr_11_1, gr_11_2, io_15, gr_15_0, gr_15_1, gi_15_2, pf_15_2, gi_15_3, pf_15_3, gi_15_4, pf_15_4, gi_15_5, pf_15_5, io_18, gr_18_0, gr_18_1, gi_18_2, pf_18_2, io_21, gr_21_0, gr_21_1, gr_21_2, gr_21_3, gi_21_4, pf_21_4, gi_21_5, pf_21_5, gi_21_6, pf_21_6, gi_21_7, pf_21_7, io_34, gr_34_0, gi_34_1, pf_34_1, io_36, gi_36_0, pf_36_0, gi_36_1, pf_36_1, gr_36_2, gr_36_3, gr_36_4, gi_36_5, pf_36_5, gi_36_6, pf_36_6, gi_36_7, pf_36_7, gr_36_8, gr_36_9, gr_36_10, gr_36_11, gi_36_12, pf_36_12, gi_36_13, pf_36_13, gi_36_14, pf_36_14, gr_36_15, gr_36_16, gi_36_17, pf_36_17, gr_36_18, gr_36_19, gr_36_20, gr_36_21, gr_36_22, gi_36_23, pf_36_23, gr_36_24, gr_36_25, gi_36_26, pf_36_26, gr_36_27, gr_36_28, gr_36_29, gr_36_30, gi_36_31, pf_36_31, gr_36_32, gr_36_33, gi_36_34, pf_36_34, gi_36_35, pf_36_35, gr_36_36, al_3, al_4, al_5, al_6, al_7, al_8, al_9, al_10, al_12, al_13, al_14, al_16, al_17, al_19, al_20, al_22, al_23, al_24, al_26, al_27, al_28, al_29, al_30, al_31, al_32, al_33, al_35, al_37, al_38, al_39, al_40, al_41, al_42, al_43, al_44, al_45, al_46, al_47, al_48, al_49, al_50, al_51, al_52, al_53, al_54, al_55, al_56, al_57, al_58, al_59, ↓reduceIte, Option.bind_some, cI_some, cL_some, cV_some, rz_0, rz_1]
  exact loop c 0 fu (by omega) (by omega)
def usd (R : Nat → Nat) : Nat → Nat → Bool
  | 0, _ => false
  | c + 1, s => usd R c s || decide (R c = s + 1)
theorem usd_iff (R : Nat → Nat) : ∀ c s, usd R c s = true ↔ ∃ i, i < c ∧ R i = s + 1 := by
  intro c
  induction c with
  | zero => intro s; exact ⟨fun h => (by cases h), fun ⟨i, hi, _⟩ => by omega⟩
  | succ c ih =>
    intro s
    rw [usd, Bool.or_eq_true, decide_eq_true_iff, ih]
    constructor
    · rintro (⟨i, a, b⟩ | h)
      · exact ⟨i, by omega, b⟩
      · exact ⟨c, by omega, h⟩
    · rintro ⟨i, a, b⟩
      by_cases y : i = c
      · rw [y] at b; exact Or.inr b
      · exact Or.inl ⟨i, by omega, b⟩
/-- whether a stone is free for a cell -/
def fre (σ : SG) (R : Nat → Nat) (c s : Nat) : Bool := decide (s < σ 0 3) && !(σ 8 s == 100) && !usd R c s
theorem m_isFree (hf : 1000 ≤ fu) (r : RR σ A I) {R : Nat → Nat} {c s : Nat} (hc : c ≤ σ 0 0) (hs : s < 6) (ho : okR σ R c) (ht : TR R c A) : U_X8_isFree fu [.ref 36, .int (nI s), .int (nI c)] (enc A I) = some (some (.int (bI (fre σ R c s = true))), enc A I) := by
  have hn := r.n7
  have hm := r.m6
  have l57 : (A 57).length = 7 := r.len rfl
  have loop : ∀ m i n, i + m = c → m < n → usd R i s = false → F_X8_isFree fu n 36 (nI s) (nI c) (nI i) (enc A I) = some (some (.int (bI (usd R c s = false))), enc A I) := by
    intro m
    induction m with
    | zero =>
      intro i n hi hn2 h
      obtain ⟨n, rfl⟩ : ∃ j, n = j + 1 := ⟨n - 1, by omega⟩
      simp only [F_X8_isFree, n_lt (show i < 2147483648 by omega) (show c < 2147483648 by omega)]
      rw [if_neg (by omega), show c = i by omega, bI_t h]
      rfl
    | succ m ih =>
      intro i n hi hn2 h
      obtain ⟨n, rfl⟩ : ∃ j, n = j + 1 := ⟨n - 1, by omega⟩
      have h6 := ho.le hm (show i < c by omega)
      have hd := dg_6 h6
      have hd7 := dg_lt h6
      have e57 : aI (enc A I) 57 (nI i) = some (nI (dg (R i))) := by rw [ai_57 A I (by omega) (by omega), ht i (by omega)]
      simp only [F_X8_isFree, n_lt (show i < 2147483648 by omega) (show c < 2147483648 by omega), io_1, gr_1_0, gr_1_1, gr_1_2, gr_1_3, gr_1_4, gr_1_5, gi_1_6, pf_1_6, gi_1_7, pf_1_7, io_2, gr_2_0, gr_2_1, gr_2_2, gr_2_3, gr_2_4, gr_2_5, gr_2_6, gr_2_7, gi_2_8, pf_2_8, gi_2_9, pf_2_9, gi_2_10, pf_2_10, gi_2_11, pf_2_11, gi_2_12, pf_2_12, gi_2_13, pf_2_13, gi_2_14, pf_2_14, io_11, gr_11_0, gr_11_1, gr_11_2, io_15, gr_15_0, gr_15_1, gi_15_2, pf_15_2, gi_15_3, pf_15_3, gi_15_4, pf_15_4, gi_15_5, pf_15_5, io_18, gr_18_0, gr_18_1, gi_18_2, pf_18_2, io_21, gr_21_0, gr_21_1, gr_21_2, gr_21_3, gi_21_4, pf_21_4, gi_21_5, pf_21_5, gi_21_6, pf_21_6, gi_21_7, pf_21_7, io_34, gr_34_0, gi_34_1, pf_34_1, io_36, gi_36_0, pf_36_0, gi_36_1, pf_36_1, gr_36_2, gr_36_3, gr_36_4, gi_36_5, pf_36_5, gi_36_6, pf_36_6, gi_36_7, pf_36_7, gr_36_8, gr_36_9, gr_36_10, gr_36_11, gi_36_12, pf_36_12, gi_36_13, pf_36_13, gi_36_14, pf_36_14, gr_36_15, gr_36_16, gi_36_17, pf_36_17, gr_36_18, gr_36_19, gr_36_20, gr_36_21, gr_36_22, gi_36_23, pf_36_23, gr_36_24, gr_36_25, gi_36_26, pf_36_26, gr_36_27, gr_36_28, gr_36_29, gr_36_30, gi_36_31, pf_36_31, gr_36_32, gr_36_33, gi_36_34, pf_36_34, gi_36_35, pf_36_35, gr_36_36, al_3, al_4, al_5, al_6, al_7, al_8, al_9, al_10, al_12, al_13, al_14, al_16, al_17, al_19, al_20, al_22, al_23, al_24, al_26, al_27, al_28, al_29, al_30, al_31, al_32, al_33, al_35, al_37, al_38, al_39, al_40, al_41, al_42, al_43, al_44, al_45, al_46, al_47, al_48, al_49, al_50, al_51, al_52, al_53, al_54, al_55, al_56, al_57, al_58, al_59, ↓reduceIte, Option.bind_some, cI_some, cL_some, cV_some, rz_0, rz_1, e57, n_eq (show dg (R i) < 2147483648 by omega) (show s < 2147483648 by omega), nI_1]
      rw [if_pos (by omega)]
      by_cases z : R i = s + 1
      · rw [if_pos (by rw [hd.2.1 (by omega), z, Nat.add_sub_cancel]), bI_f]
        intro y
        have := (usd_iff R c s).mpr ⟨i, by omega, z⟩
        rw [y] at this
        cases this
      · rw [if_neg (fun y => z (by
          by_cases q : R i = 0
          · rw [hd.2.2 q] at y; omega
          · rw [hd.2.1 q] at y; omega))]
        exact ih (i + 1) n (by omega) (by omega) (by rw [usd, h, decide_eq_false z]; rfl)
  simp only [u_X8_isFree, M_X8_isFree, io_1, gr_1_0, gr_1_1, gr_1_2, gr_1_3, gr_1_4, gr_1_5, gi_1_6, pf_1_6, gi_1_7, pf_1_7, io_2, gr_2_0, gr_2_1, gr_2_2, gr_2_3, gr_2_4, gr_2_5, gr_2_6, gr_2_7, gi_2_8, pf_2_8, gi_2_9, pf_2_9, gi_2_10, pf_2_10, gi_2_11, pf_2_11, gi_2_12, pf_2_12, gi_2_13, pf_2_13, gi_2_14, pf_2_14, io_11, gr_11_0, gr_11_1, gr_11_2, io_15, gr_15_0, gr_15_1, gi_15_2, pf_15_2, gi_15_3, pf_15_3, gi_15_4, pf_15_4, gi_15_5, pf_15_5, io_18, gr_18_0, gr_18_1, gi_18_2, pf_18_2, io_21, gr_21_0, gr_21_1, gr_21_2, gr_21_3, gi_21_4, pf_21_4, gi_21_5, pf_21_5, gi_21_6, pf_21_6, gi_21_7, pf_21_7, io_34, gr_34_0, gi_34_1, pf_34_1, io_36, gi_36_0, pf_36_0, gi_36_1, pf_36_1, gr_36_2, gr_36_3, gr_36_4, gi_36_5, pf_36_5, gi_36_6, pf_36_6, gi_36_7, pf_36_7, gr_36_8, gr_36_9, gr_36_10, gr_36_11, gi_36_12, pf_36_12, gi_36_13, pf_36_13, gi_36_14, pf_36_14, gr_36_15, gr_36_16, gi_36_17, pf_36_17, gr_36_18, gr_36_19, gr_36_20, gr_36_21, gr_36_22, gi_36_23, pf_36_23, gr_36_24, gr_36_25, gi_36_26, pf_36_26, gr_36_27, gr_36_28, gr_36_29, gr_36_30, gi_36_31, pf_36_31, gr_36_32, gr_36_33, gi_36_34, pf_36_34, gi_36_35, pf_36_35, gr_36_36, al_3, al_4, al_5, al_6, al_7, al_8, al_9, al_10, al_12, al_13, al_14, al_16, al_17, al_19, al_20, al_22, al_23, al_24, al_26, al_27, al_28, al_29, al_30, al_31, al_32, al_33, al_35, al_37, al_38, al_39, al_40, al_41, al_42, al_43, al_44, al_45, al_46, al_47, al_48, al_49, al_50, al_51, al_52, al_53, al_54, al_55, al_56, al_57, al_58, al_59, ↓reduceIte, Option.bind_some, cI_some, cL_some, cV_some, rz_0, rz_1, r.i36_17, n_lt (show s < 2147483648 by omega) (show σ 0 3 < 2147483648 by omega)]
  unfold fre
  by_cases z1 : s < σ 0 3
  · rw [if_pos z1, r.a50 z1, Option.bind_some]
    simp only [pl_m5 r z1]
    by_cases z2 : σ 8 s = 100
    · rw [if_pos z2, bI_f (by simp [z2])]
    · rw [if_neg z2]
      refine (loop c 0 fu (by omega) (by omega) rfl).trans ?_
      by_cases z3 : usd R c s = true
      · rw [bI_f (by rw [z3]; decide), bI_f (by simp [z3])]
      · have z3' := Bool.eq_false_iff.mpr z3
        rw [bI_t z3', bI_t (by simp [z1, z2, z3'])]
  · rw [if_neg z1, bI_f (by simp [z1])]
theorem m_isPlan (hf : 10000000000 ≤ fu) (r : RR σ A I) (hd : d ≤ 9) (hf9 : f ≤ 9) (hrd : rds ≤ 30) {R : Nat → Nat} (ho : okR σ R (σ 0 0)) (ht : TR R (σ 0 0) A) :
    ∃ A1 I1, U_X8_isPlan fu [.ref 36, .int (nI d), .int (nI f), .int (nI rds)] (enc A I) = some (some (.int (bI (X σ R (σ 0 2) d ∧ (rds = 0 ∨ X σ (Lb σ f rds R) (σ 0 2) d)))), enc A1 I1) ∧ FrO A I A1 I1 ∧ A1 57 = A 57 ∧ A1 58 = A 58 ∧ I1 36 34 = I 36 34 ∧ I1 36 35 = I 36 35 := by
  have hn := r.n7
  have hm := r.m6
  have l57 : (A 57).length = 7 := r.len rfl
  have l52 : (A 52).length = 7 := r.len rfl
  have hRM : ∀ c, c < σ 0 0 → ∀ t, R c = t + 1 → t < σ 0 3 := fun c hc t h => by
    have := (ho.1 c hc (by omega)).1
    rw [h, Nat.add_sub_cancel] at this
    exact this
  have loop : ∀ m i xs, i + m = σ 0 0 → xs.length = 7 → (∀ j, j < i → rd xs j = ro (R j)) → ∃ ys, ys.length = 7 ∧ (∀ j, j < σ 0 0 → rd ys j = ro (R j)) ∧ ∀ n, F_X8_isPlan fu (n + (m + 1)) 36 (nI d) (nI f) (nI rds) (nI i) (enc (uA A 52 xs) I) = F_X8_isPlan fu (n + 1) 36 (nI d) (nI f) (nI rds) (nI (σ 0 0)) (enc (uA A 52 ys) I) := by
    intro m
    induction m with
    | zero => intro i xs hi hl h; exact ⟨xs, hl, fun j hj => h j (by omega), fun n => by rw [show i = σ 0 0 by omega]⟩
    | succ m ih =>
      intro i xs hi hl h
      have hli : i < xs.length := by omega
      obtain ⟨ys, g1, g2, g3⟩ := ih (i + 1) (xs.set i (ro (R i))) (by omega) (by rw [List.length_set]; exact hl) (fun j hj => by
        rw [rd_set _ _ hli]
        by_cases y : j = i
        · rw [if_pos y, y]
        · rw [if_neg y]; exact h j (by omega))
      refine ⟨ys, g1, g2, fun n => ?_⟩
      have h6 := ho.le hm (show i < σ 0 0 by omega)
      have hdg := dg_6 h6
      have hd7 := dg_lt h6
      have e57 : aI (enc (uA A 52 xs) I) 57 (nI i) = some (nI (dg (R i))) := by rw [ai_57 _ _ (by rw [uA_n _ _ _ (by decide)]; omega) (by omega), uA_n _ _ _ (by decide), ht i (by omega)]
      have s52 := fun x => si_52 (uA A 52 xs) I x (show i < _ by rw [uA_s]; exact hli) (show i < 2147483648 by omega)
      have e6 : (nI (dg (R i)) = 6) = (dg (R i) = 6) := n_eq (by omega) (by decide)
      have gn := g3 n
      rw [show n + (m + 1 + 1) = n + (m + 1) + 1 by omega, F_X8_isPlan]
      simp -implicitDefEqProofs only [io_1, gr_1_0, gr_1_1, gr_1_2, gr_1_3, gr_1_4, gr_1_5, gi_1_6, pf_1_6, gi_1_7, pf_1_7, io_2, gr_2_0, gr_2_1, gr_2_2, gr_2_3, gr_2_4, gr_2_5, gr_2_6, gr_2_7, gi_2_8, pf_2_8, gi_2_9, pf_2_9, gi_2_10, pf_2_10, gi_2_11, pf_2_11, gi_2_12, pf_2_12, gi_2_13, pf_2_13, gi_2_14, pf_2_14, io_11, gr_11_0, gr_11_1, gr_11_2, io_15, gr_15_0, gr_15_1, gi_15_2, pf_15_2, gi_15_3, pf_15_3, gi_15_4, pf_15_4, gi_15_5, pf_15_5, io_18, gr_18_0, gr_18_1, gi_18_2, pf_18_2, io_21, gr_21_0, gr_21_1, gr_21_2, gr_21_3, gi_21_4, pf_21_4, gi_21_5, pf_21_5, gi_21_6, pf_21_6, gi_21_7, pf_21_7, io_34, gr_34_0, gi_34_1, pf_34_1, io_36, gi_36_0, pf_36_0, gi_36_1, pf_36_1, gr_36_2, gr_36_3, gr_36_4, gi_36_5, pf_36_5, gi_36_6, pf_36_6, gi_36_7, pf_36_7, gr_36_8, gr_36_9, gr_36_10, gr_36_11, gi_36_12, pf_36_12, gi_36_13, pf_36_13, gi_36_14, pf_36_14, gr_36_15, gr_36_16, gi_36_17, pf_36_17, gr_36_18, gr_36_19, gr_36_20, gr_36_21, gr_36_22, gi_36_23, pf_36_23, gr_36_24, gr_36_25, gi_36_26, pf_36_26, gr_36_27, gr_36_28, gr_36_29, gr_36_30, gi_36_31, pf_36_31, gr_36_32, gr_36_33, gi_36_34, pf_36_34, gi_36_35, pf_36_35, gr_36_36, al_3, al_4, al_5, al_6, al_7, al_8, al_9, al_10, al_12, al_13, al_14, al_16, al_17, al_19, al_20, al_22, al_23, al_24, al_26, al_27, al_28, al_29, al_30, al_31, al_32, al_33, al_35, al_37, al_38, al_39, al_40, al_41, al_42, al_43, al_44, al_45, al_46, al_47, al_48, al_49, al_50, al_51, al_52, al_53, al_54, al_55, al_56, al_57, al_58, al_59, ↓reduceIte, Option.bind_some, cI_some, cL_some, cV_some, rz_0, rz_1, r.i36_5, n_lt (show i < 2147483648 by omega) (show σ 0 0 < 2147483648 by omega), e57, e6, s52, uA_s, uA_uA, nI_1]
      rw [if_pos (by omega)]
      by_cases z : R i = 0
      · rw [if_pos (hdg.2.2 z)]
        have er : ro (R i) = -9 := by rw [z]; rfl
        rw [er] at gn
        exact gn
      · have hne : ¬ dg (R i) = 6 := by rw [hdg.2.1 z]; omega
        have er : ro (R i) = nI (dg (R i)) := by
          obtain ⟨t, htt⟩ : ∃ t, R i = t + 1 := ⟨R i - 1, by omega⟩
          rw [hdg.2.1 z, htt, ro_s, Nat.add_sub_cancel]
        rw [if_neg hne]
        rw [er] at gn
        exact gn
  obtain ⟨ys, g1, g2, g3⟩ := loop (σ 0 0) 0 (A 52) (by omega) l52 (fun j hj => by omega)
  rw [uA_self] at g3
  obtain ⟨n, hfe⟩ : ∃ n, fu = n + (σ 0 0 + 1) := ⟨fu - (σ 0 0 + 1), by omega⟩
  have g3n := g3 n
  rw [← hfe] at g3n
  have hF1 : FrO A I (uA A 52 ys) (uI I 36 26 (nI (σ 0 2))) := ((FrO.rf A I).arr (k := 52) (xs := ys) (by omega) (by rw [g1, l52])).int _ (by omega)
  have r1 := hF1.Fr.R r
  have k1 : Lk σ (uA A 52 ys) (uI I 36 26 (nI (σ 0 2))) R (σ 0 2) := ⟨fun i hi => ⟨by rw [uA_s]; exact g2 i hi, hRM i hi⟩, uI_s _ _ _ _, r.1.2.2.2.1⟩
  obtain ⟨zs, z1, z2⟩ := m_comes hf k1 r1 hd
  obtain ⟨B, hB⟩ : ∃ B, B = uA (uA A 52 ys) 53 zs := ⟨_, rfl⟩
  rw [← hB] at z2
  have hF2 : FrO A I B (uI I 36 26 (nI (σ 0 2))) := by
    rw [hB]
    exact hF1.arr (k := 53) (xs := zs) (by omega) (by rw [z1]; exact (r1.len (k := 53) rfl).symm)
  have r2 := hF2.Fr.R r
  have B52 : B 52 = ys := by rw [hB, uA_n _ _ _ (by decide), uA_s]
  have B57 : B 57 = A 57 := by rw [hB, uA_n _ _ _ (by decide), uA_n _ _ _ (by decide)]
  have B58 : B 58 = A 58 := by rw [hB, uA_n _ _ _ (by decide), uA_n _ _ _ (by decide)]
  have pre : U_X8_isPlan fu [.ref 36, .int (nI d), .int (nI f), .int (nI rds)] (enc A I) = (if ¬ X σ R (σ 0 2) d then some (some (.int 0), enc B (uI I 36 26 (nI (σ 0 2)))) else if rds = 0 then some (some (.int 1), enc B (uI I 36 26 (nI (σ 0 2)))) else cV (U_X8_goFlood fu [.ref 36, .int (nI f), .int (nI rds)] (enc B (uI I 36 26 (nI (σ 0 2))))) fun w6 => cI (U_X8_comes fu [.ref 36, .int (nI d)] w6) fun x8 w7 => retZ x8 w7) := by
    simp only [u_X8_isPlan, M_X8_isPlan, io_1, gr_1_0, gr_1_1, gr_1_2, gr_1_3, gr_1_4, gr_1_5, gi_1_6, pf_1_6, gi_1_7, pf_1_7, io_2, gr_2_0, gr_2_1, gr_2_2, gr_2_3, gr_2_4, gr_2_5, gr_2_6, gr_2_7, gi_2_8, pf_2_8, gi_2_9, pf_2_9, gi_2_10, pf_2_10, gi_2_11, pf_2_11, gi_2_12, pf_2_12, gi_2_13, pf_2_13, gi_2_14, pf_2_14, io_11, gr_11_0, gr_11_1, gr_11_2, io_15, gr_15_0, gr_15_1, gi_15_2, pf_15_2, gi_15_3, pf_15_3, gi_15_4, pf_15_4, gi_15_5, pf_15_5, io_18, gr_18_0, gr_18_1, gi_18_2, pf_18_2, io_21, gr_21_0, gr_21_1, gr_21_2, gr_21_3, gi_21_4, pf_21_4, gi_21_5, pf_21_5, gi_21_6, pf_21_6, gi_21_7, pf_21_7, io_34, gr_34_0, gi_34_1, pf_34_1, io_36, gi_36_0, pf_36_0, gi_36_1, pf_36_1, gr_36_2, gr_36_3, gr_36_4, gi_36_5, pf_36_5, gi_36_6, pf_36_6, gi_36_7, pf_36_7, gr_36_8, gr_36_9, gr_36_10, gr_36_11, gi_36_12, pf_36_12, gi_36_13, pf_36_13, gi_36_14, pf_36_14, gr_36_15, gr_36_16, gi_36_17, pf_36_17, gr_36_18, gr_36_19, gr_36_20, gr_36_21, gr_36_22, gi_36_23, pf_36_23, gr_36_24, gr_36_25, gi_36_26, pf_36_26, gr_36_27, gr_36_28, gr_36_29, gr_36_30, gi_36_31, pf_36_31, gr_36_32, gr_36_33, gi_36_34, pf_36_34, gi_36_35, pf_36_35, gr_36_36, al_3, al_4, al_5, al_6, al_7, al_8, al_9, al_10, al_12, al_13, al_14, al_16, al_17, al_19, al_20, al_22, al_23, al_24, al_26, al_27, al_28, al_29, al_30, al_31, al_32, al_33, al_35, al_37, al_38, al_39, al_40, al_41, al_42, al_43, al_44, al_45, al_46, al_47, al_48, al_49, al_50, al_51, al_52, al_53, al_54, al_55, al_56, al_57, al_58, al_59, ↓reduceIte, Option.bind_some, cI_some, cL_some, cV_some, rz_0, rz_1]
    refine g3n.trans ?_
    simp -implicitDefEqProofs only [F_X8_isPlan, io_1, gr_1_0, gr_1_1, gr_1_2, gr_1_3, gr_1_4, gr_1_5, gi_1_6, pf_1_6, gi_1_7, pf_1_7, io_2, gr_2_0, gr_2_1, gr_2_2, gr_2_3, gr_2_4, gr_2_5, gr_2_6, gr_2_7, gi_2_8, pf_2_8, gi_2_9, pf_2_9, gi_2_10, pf_2_10, gi_2_11, pf_2_11, gi_2_12, pf_2_12, gi_2_13, pf_2_13, gi_2_14, pf_2_14, io_11, gr_11_0, gr_11_1, gr_11_2, io_15, gr_15_0, gr_15_1, gi_15_2, pf_15_2, gi_15_3, pf_15_3, gi_15_4, pf_15_4, gi_15_5, pf_15_5, io_18, gr_18_0, gr_18_1, gi_18_2, pf_18_2, io_21, gr_21_0, gr_21_1, gr_21_2, gr_21_3, gi_21_4, pf_21_4, gi_21_5, pf_21_5, gi_21_6, pf_21_6, gi_21_7, pf_21_7, io_34, gr_34_0, gi_34_1, pf_34_1, io_36, gi_36_0, pf_36_0, gi_36_1, pf_36_1, gr_36_2, gr_36_3, gr_36_4, gi_36_5, pf_36_5, gi_36_6, pf_36_6, gi_36_7, pf_36_7, gr_36_8, gr_36_9, gr_36_10, gr_36_11, gi_36_12, pf_36_12, gi_36_13, pf_36_13, gi_36_14, pf_36_14, gr_36_15, gr_36_16, gi_36_17, pf_36_17, gr_36_18, gr_36_19, gr_36_20, gr_36_21, gr_36_22, gi_36_23, pf_36_23, gr_36_24, gr_36_25, gi_36_26, pf_36_26, gr_36_27, gr_36_28, gr_36_29, gr_36_30, gi_36_31, pf_36_31, gr_36_32, gr_36_33, gi_36_34, pf_36_34, gi_36_35, pf_36_35, gr_36_36, al_3, al_4, al_5, al_6, al_7, al_8, al_9, al_10, al_12, al_13, al_14, al_16, al_17, al_19, al_20, al_22, al_23, al_24, al_26, al_27, al_28, al_29, al_30, al_31, al_32, al_33, al_35, al_37, al_38, al_39, al_40, al_41, al_42, al_43, al_44, al_45, al_46, al_47, al_48, al_49, al_50, al_51, al_52, al_53, al_54, al_55, al_56, al_57, al_58, al_59, ↓reduceIte, Option.bind_some, cI_some, cL_some, cV_some, rz_0, rz_1, r.i36_5, r.i36_7, n_lt (show σ 0 0 < 2147483648 by omega) (show σ 0 0 < 2147483648 by omega), z2, bI_0, nI_pe0 (show rds < 2147483648 by omega)]
    rw [if_neg (Nat.lt_irrefl _)]
  rw [pre]
  by_cases x1 : X σ R (σ 0 2) d
  rotate_left
  · rw [if_pos x1, bI_f (fun y => x1 y.1)]
    exact ⟨B, _, rfl, hF2, B57, B58, rfl, rfl⟩
  rw [if_neg (fun y => y x1)]
  by_cases x2 : rds = 0
  · rw [if_pos x2, bI_t ⟨x1, Or.inl x2⟩]
    exact ⟨B, _, rfl, hF2, B57, B58, rfl, rfl⟩
  rw [if_neg x2]
  obtain ⟨C, c1, c2, c3⟩ := m_goFlood (R := R) (gB := gG σ) (fu := fu) (by omega) r2.q hf9 r2.hg hrd (fun c hc => ⟨by rw [B52]; exact g2 c hc, hRM c hc⟩)
  have hF3 : FrO A I C (uI I 36 26 (nI (σ 0 2))) := hF2.tr (FrO.of52 c2 _)
  have r3 := hF3.Fr.R r
  have k3 : Lk σ C (uI I 36 26 (nI (σ 0 2))) (Lb σ f rds R) (σ 0 2) := by
    refine ⟨fun c hc => ⟨(c3 c hc).1, fun t htt => ?_⟩, uI_s _ _ _ _, r.1.2.2.2.1⟩
    unfold Lb at htt
    by_cases y : (fl σ R (gG σ) f rds).1 c = true
    · rw [if_pos y] at htt; exact hRM c hc t htt
    · rw [if_neg y] at htt; omega
  obtain ⟨ws, w1, w2⟩ := m_comes hf k3 r3 hd
  refine ⟨uA C 53 ws, uI I 36 26 (nI (σ 0 2)), ?_, hF3.arr (k := 53) (xs := ws) (by omega) (by rw [w1]; exact (r3.len (k := 53) rfl).symm), ?_, ?_, rfl, rfl⟩
  · rw [c1, cV_some, w2, cI_some, rz_b]
    by_cases y : X σ (Lb σ f rds R) (σ 0 2) d
    · rw [bI_t y, bI_t ⟨x1, Or.inr y⟩]
    · rw [bI_f y, bI_f (fun w => w.2.elim x2 y)]
  · rw [uA_n _ _ _ (by decide), c2.1 57 (by decide) (by decide) (by decide) (by decide), B57]
  · rw [uA_n _ _ _ (by decide), c2.1 58 (by decide) (by decide) (by decide) (by decide), B58]
def btr (σ : SG) (o : Option (Nat → Nat)) (R : Nat → Nat) : Bool := match o with
  | none => true
  | some b => decide (wr σ R (σ 0 0) < wr σ b (σ 0 0) ∨ (wr σ R (σ 0 0) = wr σ b (σ 0 0) ∧ mr R (σ 0 0) < mr b (σ 0 0)))
/-- a whole row is offered -/
theorem m_offer (hf : 10000000000 ≤ fu) (r : RR σ A I) (hd : d ≤ 9) (hf9 : f ≤ 9) (hrd : rds ≤ 30) {R : Nat → Nat} (ho : okR σ R (σ 0 0)) (ht : TR R (σ 0 0) A) {o : Option (Nat → Nat)} (hb : MBc σ o A I) :
    ∃ A1 I1 o', U_X8_offer fu [.ref 36, .int (nI d), .int (nI f), .int (nI rds)] (enc A I) = some (none, enc A1 I1) ∧ FrO A I A1 I1 ∧ A1 57 = A 57 ∧ MBc σ o' A1 I1 ∧
      ((o' = some R ∧ btr σ o R = true ∧ (X σ R (σ 0 2) d ∧ (rds = 0 ∨ X σ (Lb σ f rds R) (σ 0 2) d))) ∨ (o' = o ∧ ¬ (btr σ o R = true ∧ (X σ R (σ 0 2) d ∧ (rds = 0 ∨ X σ (Lb σ f rds R) (σ 0 2) d))))) := by
  have hn := r.n7
  have hm := r.m6
  have l57 : (A 57).length = 7 := r.len rfl
  have hwR := wr_lt r.1 (Nat.le_refl _) ho
  have hmR := mr_le R (σ 0 0)
  obtain ⟨n, hfe⟩ : ∃ n, fu = n + 12 + (σ 0 0 + 1) := ⟨fu - (σ 0 0 + 13), by omega⟩
  have loop : ∀ m i, i + m = σ 0 0 → ∀ n, (F_X8_offer fu (n + (m + 1))).1 36 (nI d) (nI f) (nI rds) (nI (wr σ R i)) (nI (mr R i)) (nI i) (enc A I) = (F_X8_offer fu (n + 1)).1 36 (nI d) (nI f) (nI rds) (nI (wr σ R (σ 0 0))) (nI (mr R (σ 0 0))) (nI (σ 0 0)) (enc A I) := by
    intro m
    induction m with
    | zero => intro i hi n; rw [show i = σ 0 0 by omega]
    | succ m ih =>
      intro i hi n
      have nx := ih (i + 1) (by omega) n
      have h6 := ho.le hm (show i < σ 0 0 by omega)
      have hdg := dg_6 h6
      have hd7 := dg_lt h6
      have e57 : aI (enc A I) 57 (nI i) = some (nI (dg (R i))) := by rw [ai_57 A I (by omega) (by omega), ht i (by omega)]
      have e6 : (nI (dg (R i)) < 6) = (dg (R i) < 6) := n_lt (by omega) (by decide)
      rw [wr, mr] at nx
      rw [show n + (m + 1 + 1) = n + (m + 1) + 1 by omega, F_X8_offer]
      simp -implicitDefEqProofs only [io_1, gr_1_0, gr_1_1, gr_1_2, gr_1_3, gr_1_4, gr_1_5, gi_1_6, pf_1_6, gi_1_7, pf_1_7, io_2, gr_2_0, gr_2_1, gr_2_2, gr_2_3, gr_2_4, gr_2_5, gr_2_6, gr_2_7, gi_2_8, pf_2_8, gi_2_9, pf_2_9, gi_2_10, pf_2_10, gi_2_11, pf_2_11, gi_2_12, pf_2_12, gi_2_13, pf_2_13, gi_2_14, pf_2_14, io_11, gr_11_0, gr_11_1, gr_11_2, io_15, gr_15_0, gr_15_1, gi_15_2, pf_15_2, gi_15_3, pf_15_3, gi_15_4, pf_15_4, gi_15_5, pf_15_5, io_18, gr_18_0, gr_18_1, gi_18_2, pf_18_2, io_21, gr_21_0, gr_21_1, gr_21_2, gr_21_3, gi_21_4, pf_21_4, gi_21_5, pf_21_5, gi_21_6, pf_21_6, gi_21_7, pf_21_7, io_34, gr_34_0, gi_34_1, pf_34_1, io_36, gi_36_0, pf_36_0, gi_36_1, pf_36_1, gr_36_2, gr_36_3, gr_36_4, gi_36_5, pf_36_5, gi_36_6, pf_36_6, gi_36_7, pf_36_7, gr_36_8, gr_36_9, gr_36_10, gr_36_11, gi_36_12, pf_36_12, gi_36_13, pf_36_13, gi_36_14, pf_36_14, gr_36_15, gr_36_16, gi_36_17, pf_36_17, gr_36_18, gr_36_19, gr_36_20, gr_36_21, gr_36_22, gi_36_23, pf_36_23, gr_36_24, gr_36_25, gi_36_26, pf_36_26, gr_36_27, gr_36_28, gr_36_29, gr_36_30, gi_36_31, pf_36_31, gr_36_32, gr_36_33, gi_36_34, pf_36_34, gi_36_35, pf_36_35, gr_36_36, al_3, al_4, al_5, al_6, al_7, al_8, al_9, al_10, al_12, al_13, al_14, al_16, al_17, al_19, al_20, al_22, al_23, al_24, al_26, al_27, al_28, al_29, al_30, al_31, al_32, al_33, al_35, al_37, al_38, al_39, al_40, al_41, al_42, al_43, al_44, al_45, al_46, al_47, al_48, al_49, al_50, al_51, al_52, al_53, al_54, al_55, al_56, al_57, al_58, al_59, ↓reduceIte, Option.bind_some, cI_some, cL_some, cV_some, rz_0, rz_1, r.i36_5, n_lt (show i < 2147483648 by omega) (show σ 0 0 < 2147483648 by omega), e57, e6, nI_1]
      rw [if_pos (by omega)]
      by_cases z : R i = 0
      · rw [if_neg (fun y => hdg.1.mp y z)]
        rw [if_pos z, if_pos z, Nat.add_zero, Nat.add_zero] at nx
        exact nx
      · have hs := (ho.1 i (by omega) z).1
        rw [if_pos (hdg.1.mpr z), hdg.2.1 z, m_workOf r hs (by omega), cI_some, nI_add]
        rw [if_neg z, if_neg z] at nx
        exact nx
  have l0 := loop (σ 0 0) 0 (by omega) (n + 12)
  rw [← hfe] at l0
  have hM : U_X8_offer fu [.ref 36, .int (nI d), .int (nI f), .int (nI rds)] (enc A I) = (F_X8_offer fu (n + 12 + 1)).1 36 (nI d) (nI f) (nI rds) (nI (wr σ R (σ 0 0))) (nI (mr R (σ 0 0))) (nI (σ 0 0)) (enc A I) := by
    simp only [u_X8_offer, M_X8_offer, io_1, gr_1_0, gr_1_1, gr_1_2, gr_1_3, gr_1_4, gr_1_5, gi_1_6, pf_1_6, gi_1_7, pf_1_7, io_2, gr_2_0, gr_2_1, gr_2_2, gr_2_3, gr_2_4, gr_2_5, gr_2_6, gr_2_7, gi_2_8, pf_2_8, gi_2_9, pf_2_9, gi_2_10, pf_2_10, gi_2_11, pf_2_11, gi_2_12, pf_2_12, gi_2_13, pf_2_13, gi_2_14, pf_2_14, io_11, gr_11_0, gr_11_1, gr_11_2, io_15, gr_15_0, gr_15_1, gi_15_2, pf_15_2, gi_15_3, pf_15_3, gi_15_4, pf_15_4, gi_15_5, pf_15_5, io_18, gr_18_0, gr_18_1, gi_18_2, pf_18_2, io_21, gr_21_0, gr_21_1, gr_21_2, gr_21_3, gi_21_4, pf_21_4, gi_21_5, pf_21_5, gi_21_6, pf_21_6, gi_21_7, pf_21_7, io_34, gr_34_0, gi_34_1, pf_34_1, io_36, gi_36_0, pf_36_0, gi_36_1, pf_36_1, gr_36_2, gr_36_3, gr_36_4, gi_36_5, pf_36_5, gi_36_6, pf_36_6, gi_36_7, pf_36_7, gr_36_8, gr_36_9, gr_36_10, gr_36_11, gi_36_12, pf_36_12, gi_36_13, pf_36_13, gi_36_14, pf_36_14, gr_36_15, gr_36_16, gi_36_17, pf_36_17, gr_36_18, gr_36_19, gr_36_20, gr_36_21, gr_36_22, gi_36_23, pf_36_23, gr_36_24, gr_36_25, gi_36_26, pf_36_26, gr_36_27, gr_36_28, gr_36_29, gr_36_30, gi_36_31, pf_36_31, gr_36_32, gr_36_33, gi_36_34, pf_36_34, gi_36_35, pf_36_35, gr_36_36, al_3, al_4, al_5, al_6, al_7, al_8, al_9, al_10, al_12, al_13, al_14, al_16, al_17, al_19, al_20, al_22, al_23, al_24, al_26, al_27, al_28, al_29, al_30, al_31, al_32, al_33, al_35, al_37, al_38, al_39, al_40, al_41, al_42, al_43, al_44, al_45, al_46, al_47, al_48, al_49, al_50, al_51, al_52, al_53, al_54, al_55, al_56, al_57, al_58, al_59, ↓reduceIte, Option.bind_some, cI_some, cL_some, cV_some, rz_0, rz_1]
    exact l0
  -- better, or not
  have hbt : (F_X8_offer fu (n + 12 + 1)).1 36 (nI d) (nI f) (nI rds) (nI (wr σ R (σ 0 0))) (nI (mr R (σ 0 0))) (nI (σ 0 0)) (enc A I) = (F_X8_offer fu (n + 12)).2.1 36 (nI d) (nI f) (nI rds) (nI (wr σ R (σ 0 0))) (nI (mr R (σ 0 0))) (if btr σ o R = true then 1 else 0) (enc A I) := by
    rw [F_X8_offer]
    simp -implicitDefEqProofs only [io_1, gr_1_0, gr_1_1, gr_1_2, gr_1_3, gr_1_4, gr_1_5, gi_1_6, pf_1_6, gi_1_7, pf_1_7, io_2, gr_2_0, gr_2_1, gr_2_2, gr_2_3, gr_2_4, gr_2_5, gr_2_6, gr_2_7, gi_2_8, pf_2_8, gi_2_9, pf_2_9, gi_2_10, pf_2_10, gi_2_11, pf_2_11, gi_2_12, pf_2_12, gi_2_13, pf_2_13, gi_2_14, pf_2_14, io_11, gr_11_0, gr_11_1, gr_11_2, io_15, gr_15_0, gr_15_1, gi_15_2, pf_15_2, gi_15_3, pf_15_3, gi_15_4, pf_15_4, gi_15_5, pf_15_5, io_18, gr_18_0, gr_18_1, gi_18_2, pf_18_2, io_21, gr_21_0, gr_21_1, gr_21_2, gr_21_3, gi_21_4, pf_21_4, gi_21_5, pf_21_5, gi_21_6, pf_21_6, gi_21_7, pf_21_7, io_34, gr_34_0, gi_34_1, pf_34_1, io_36, gi_36_0, pf_36_0, gi_36_1, pf_36_1, gr_36_2, gr_36_3, gr_36_4, gi_36_5, pf_36_5, gi_36_6, pf_36_6, gi_36_7, pf_36_7, gr_36_8, gr_36_9, gr_36_10, gr_36_11, gi_36_12, pf_36_12, gi_36_13, pf_36_13, gi_36_14, pf_36_14, gr_36_15, gr_36_16, gi_36_17, pf_36_17, gr_36_18, gr_36_19, gr_36_20, gr_36_21, gr_36_22, gi_36_23, pf_36_23, gr_36_24, gr_36_25, gi_36_26, pf_36_26, gr_36_27, gr_36_28, gr_36_29, gr_36_30, gi_36_31, pf_36_31, gr_36_32, gr_36_33, gi_36_34, pf_36_34, gi_36_35, pf_36_35, gr_36_36, al_3, al_4, al_5, al_6, al_7, al_8, al_9, al_10, al_12, al_13, al_14, al_16, al_17, al_19, al_20, al_22, al_23, al_24, al_26, al_27, al_28, al_29, al_30, al_31, al_32, al_33, al_35, al_37, al_38, al_39, al_40, al_41, al_42, al_43, al_44, al_45, al_46, al_47, al_48, al_49, al_50, al_51, al_52, al_53, al_54, al_55, al_56, al_57, al_58, al_59, ↓reduceIte, Option.bind_some, cI_some, cL_some, cV_some, rz_0, rz_1, r.i36_5, n_lt (show σ 0 0 < 2147483648 by omega) (show σ 0 0 < 2147483648 by omega)]
    rw [if_neg (Nat.lt_irrefl _)]
    unfold MBc at hb
    cases o with
    | none =>
      obtain ⟨b1, b2⟩ := hb
      rw [b1, if_pos (nI_lt (by omega) (by decide)), if_pos (show btr σ none R = true from rfl)]
    | some b =>
      obtain ⟨b0, b1, b2, b3⟩ := hb
      have hwb := wr_lt r.1 (Nat.le_refl _) b0
      have hmb := mr_le b (σ 0 0)
      simp only [b1, b2, n_lt (show wr σ R (σ 0 0) < 2147483648 by omega) (show wr σ b (σ 0 0) < 2147483648 by omega), n_eq (show wr σ R (σ 0 0) < 2147483648 by omega) (show wr σ b (σ 0 0) < 2147483648 by omega), n_lt (show mr R (σ 0 0) < 2147483648 by omega) (show mr b (σ 0 0) < 2147483648 by omega)]
      by_cases z1 : wr σ R (σ 0 0) < wr σ b (σ 0 0)
      · rw [if_pos z1, if_pos (show btr σ (some b) R = true from decide_eq_true (Or.inl z1))]
      · rw [if_neg z1]
        by_cases z2 : wr σ R (σ 0 0) = wr σ b (σ 0 0)
        · rw [if_pos z2]
          by_cases z3 : mr R (σ 0 0) < mr b (σ 0 0)
          · rw [if_pos z3, if_pos (show btr σ (some b) R = true from decide_eq_true (Or.inr ⟨z2, z3⟩))]
          · rw [if_neg z3, if_neg (show ¬ btr σ (some b) R = true from fun y => by have := of_decide_eq_true y; omega)]
        · rw [if_neg z2, if_neg (show ¬ btr σ (some b) R = true from fun y => by have := of_decide_eq_true y; omega)]
  rw [hM, hbt]
  by_cases z1 : btr σ o R = true
  rotate_left
  · refine ⟨A, I, o, ?_, FrO.rf A I, rfl, hb, Or.inr ⟨rfl, fun y => z1 y.1⟩⟩
    rw [if_neg z1, F_X8_offer]
    dsimp only
    rw [if_pos (show (0 : Int32) = 0 from rfl)]
  rw [if_pos z1]
  obtain ⟨A1, I1, p1, p2, p3, p4, p5, p6⟩ := m_isPlan (fu := fu) hf r hd hf9 hrd ho ht
  have r1 := p2.Fr.R r
  by_cases z2 : X σ R (σ 0 2) d ∧ (rds = 0 ∨ X σ (Lb σ f rds R) (σ 0 2) d)
  rotate_left
  · refine ⟨A1, I1, o, ?_, p2, p3, hb.cg p4 p5 p6, Or.inr ⟨rfl, fun y => z2 y.2⟩⟩
    rw [F_X8_offer]
    simp -implicitDefEqProofs only [if_neg (show ¬ (1 : Int32) = 0 by decide), p1, cI_some, bI_0]
    rw [if_pos z2]
  -- it is kept
  obtain ⟨J, hJ⟩ : ∃ J, J = uI (uI I1 36 34 (nI (wr σ R (σ 0 0)))) 36 35 (nI (mr R (σ 0 0))) := ⟨_, rfl⟩
  have hF2 : FrO A I A1 J := by rw [hJ]; exact (p2.int _ (by omega)).int _ (by omega)
  have keep : ∀ m i n B, i + m = σ 0 0 → m < n → FrO A I B J → B 57 = A 57 → (∀ j, j < i → rd (B 58) j = nI (dg (R j))) → ∃ C, (F_X8_offer fu n).2.2 36 (nI i) (enc B J) = some (none, enc C J) ∧ FrO A I C J ∧ C 57 = A 57 ∧ ∀ j, j < σ 0 0 → rd (C 58) j = nI (dg (R j)) := by
    intro m
    induction m with
    | zero =>
      intro i n B hi hn2 hF h57 h58
      have rB := hF.Fr.R r
      obtain ⟨n, rfl⟩ : ∃ j, n = j + 1 := ⟨n - 1, by omega⟩
      refine ⟨B, ?_, hF, h57, fun j hj => h58 j (by omega)⟩
      rw [F_X8_offer]
      simp -implicitDefEqProofs only [io_1, gr_1_0, gr_1_1, gr_1_2, gr_1_3, gr_1_4, gr_1_5, gi_1_6, pf_1_6, gi_1_7, pf_1_7, io_2, gr_2_0, gr_2_1, gr_2_2, gr_2_3, gr_2_4, gr_2_5, gr_2_6, gr_2_7, gi_2_8, pf_2_8, gi_2_9, pf_2_9, gi_2_10, pf_2_10, gi_2_11, pf_2_11, gi_2_12, pf_2_12, gi_2_13, pf_2_13, gi_2_14, pf_2_14, io_11, gr_11_0, gr_11_1, gr_11_2, io_15, gr_15_0, gr_15_1, gi_15_2, pf_15_2, gi_15_3, pf_15_3, gi_15_4, pf_15_4, gi_15_5, pf_15_5, io_18, gr_18_0, gr_18_1, gi_18_2, pf_18_2, io_21, gr_21_0, gr_21_1, gr_21_2, gr_21_3, gi_21_4, pf_21_4, gi_21_5, pf_21_5, gi_21_6, pf_21_6, gi_21_7, pf_21_7, io_34, gr_34_0, gi_34_1, pf_34_1, io_36, gi_36_0, pf_36_0, gi_36_1, pf_36_1, gr_36_2, gr_36_3, gr_36_4, gi_36_5, pf_36_5, gi_36_6, pf_36_6, gi_36_7, pf_36_7, gr_36_8, gr_36_9, gr_36_10, gr_36_11, gi_36_12, pf_36_12, gi_36_13, pf_36_13, gi_36_14, pf_36_14, gr_36_15, gr_36_16, gi_36_17, pf_36_17, gr_36_18, gr_36_19, gr_36_20, gr_36_21, gr_36_22, gi_36_23, pf_36_23, gr_36_24, gr_36_25, gi_36_26, pf_36_26, gr_36_27, gr_36_28, gr_36_29, gr_36_30, gi_36_31, pf_36_31, gr_36_32, gr_36_33, gi_36_34, pf_36_34, gi_36_35, pf_36_35, gr_36_36, al_3, al_4, al_5, al_6, al_7, al_8, al_9, al_10, al_12, al_13, al_14, al_16, al_17, al_19, al_20, al_22, al_23, al_24, al_26, al_27, al_28, al_29, al_30, al_31, al_32, al_33, al_35, al_37, al_38, al_39, al_40, al_41, al_42, al_43, al_44, al_45, al_46, al_47, al_48, al_49, al_50, al_51, al_52, al_53, al_54, al_55, al_56, al_57, al_58, al_59, ↓reduceIte, Option.bind_some, cI_some, cL_some, cV_some, rz_0, rz_1, rB.i36_5, n_lt (show i < 2147483648 by omega) (show σ 0 0 < 2147483648 by omega)]
      rw [if_neg (by omega)]
    | succ m ih =>
      intro i n B hi hn2 hF h57 h58
      have rB := hF.Fr.R r
      obtain ⟨n, rfl⟩ : ∃ j, n = j + 1 := ⟨n - 1, by omega⟩
      have l58 : (B 58).length = 7 := rB.len rfl
      have e57 : aI (enc B J) 57 (nI i) = some (nI (dg (R i))) := by rw [ai_57 B J (by rw [h57]; omega) (by omega), h57, ht i (by omega)]
      have s58 := si_58 B J (nI (dg (R i))) (show i < (B 58).length by omega) (show i < 2147483648 by omega)
      obtain ⟨C, g1, g2, g3, g4⟩ := ih (i + 1) n (uA B 58 ((B 58).set i (nI (dg (R i))))) (by omega) (by omega) (hF.arr (k := 58) (xs := (B 58).set i (nI (dg (R i)))) (by omega) (by rw [List.length_set])) (by rw [uA_n _ _ _ (by decide)]; exact h57) (fun j hj => by
        rw [uA_s, rd_set _ _ (by omega)]
        by_cases y : j = i
        · rw [if_pos y, y]
        · rw [if_neg y]; exact h58 j (by omega))
      refine ⟨C, ?_, g2, g3, g4⟩
      rw [F_X8_offer]
      simp -implicitDefEqProofs only [io_1, gr_1_0, gr_1_1, gr_1_2, gr_1_3, gr_1_4, gr_1_5, gi_1_6, pf_1_6, gi_1_7, pf_1_7, io_2, gr_2_0, gr_2_1, gr_2_2, gr_2_3, gr_2_4, gr_2_5, gr_2_6, gr_2_7, gi_2_8, pf_2_8, gi_2_9, pf_2_9, gi_2_10, pf_2_10, gi_2_11, pf_2_11, gi_2_12, pf_2_12, gi_2_13, pf_2_13, gi_2_14, pf_2_14, io_11, gr_11_0, gr_11_1, gr_11_2, io_15, gr_15_0, gr_15_1, gi_15_2, pf_15_2, gi_15_3, pf_15_3, gi_15_4, pf_15_4, gi_15_5, pf_15_5, io_18, gr_18_0, gr_18_1, gi_18_2, pf_18_2, io_21, gr_21_0, gr_21_1, gr_21_2, gr_21_3, gi_21_4, pf_21_4, gi_21_5, pf_21_5, gi_21_6, pf_21_6, gi_21_7, pf_21_7, io_34, gr_34_0, gi_34_1, pf_34_1, io_36, gi_36_0, pf_36_0, gi_36_1, pf_36_1, gr_36_2, gr_36_3, gr_36_4, gi_36_5, pf_36_5, gi_36_6, pf_36_6, gi_36_7, pf_36_7, gr_36_8, gr_36_9, gr_36_10, gr_36_11, gi_36_12, pf_36_12, gi_36_13, pf_36_13, gi_36_14, pf_36_14, gr_36_15, gr_36_16, gi_36_17, pf_36_17, gr_36_18, gr_36_19, gr_36_20, gr_36_21, gr_36_22, gi_36_23, pf_36_23, gr_36_24, gr_36_25, gi_36_26, pf_36_26, gr_36_27, gr_36_28, gr_36_29, gr_36_30, gi_36_31, pf_36_31, gr_36_32, gr_36_33, gi_36_34, pf_36_34, gi_36_35, pf_36_35, gr_36_36, al_3, al_4, al_5, al_6, al_7, al_8, al_9, al_10, al_12, al_13, al_14, al_16, al_17, al_19, al_20, al_22, al_23, al_24, al_26, al_27, al_28, al_29, al_30, al_31, al_32, al_33, al_35, al_37, al_38, al_39, al_40, al_41, al_42, al_43, al_44, al_45, al_46, al_47, al_48, al_49, al_50, al_51, al_52, al_53, al_54, al_55, al_56, al_57, al_58, al_59, ↓reduceIte, Option.bind_some, cI_some, cL_some, cV_some, rz_0, rz_1, rB.i36_5, n_lt (show i < 2147483648 by omega) (show σ 0 0 < 2147483648 by omega), e57, s58, nI_1]
      rw [if_pos (by omega)]
      exact g1
  obtain ⟨C, c1, c2, c3, c4⟩ := keep (σ 0 0) 0 (n + 11) A1 (by omega) (by omega) hF2 p3 (fun j hj => by omega)
  refine ⟨C, J, some R, ?_, c2, c3, ⟨ho, by rw [hJ]; rfl, by rw [hJ]; rfl, c4⟩, Or.inl ⟨rfl, z1, z2⟩⟩
  rw [show n + 12 = n + 11 + 1 by omega, F_X8_offer]
  simp -implicitDefEqProofs only [if_neg (show ¬ (1 : Int32) = 0 by decide), p1, bI_0, io_1, gr_1_0, gr_1_1, gr_1_2, gr_1_3, gr_1_4, gr_1_5, gi_1_6, pf_1_6, gi_1_7, pf_1_7, io_2, gr_2_0, gr_2_1, gr_2_2, gr_2_3, gr_2_4, gr_2_5, gr_2_6, gr_2_7, gi_2_8, pf_2_8, gi_2_9, pf_2_9, gi_2_10, pf_2_10, gi_2_11, pf_2_11, gi_2_12, pf_2_12, gi_2_13, pf_2_13, gi_2_14, pf_2_14, io_11, gr_11_0, gr_11_1, gr_11_2, io_15, gr_15_0, gr_15_1, gi_15_2, pf_15_2, gi_15_3, pf_15_3, gi_15_4, pf_15_4, gi_15_5, pf_15_5, io_18, gr_18_0, gr_18_1, gi_18_2, pf_18_2, io_21, gr_21_0, gr_21_1, gr_21_2, gr_21_3, gi_21_4, pf_21_4, gi_21_5, pf_21_5, gi_21_6, pf_21_6, gi_21_7, pf_21_7, io_34, gr_34_0, gi_34_1, pf_34_1, io_36, gi_36_0, pf_36_0, gi_36_1, pf_36_1, gr_36_2, gr_36_3, gr_36_4, gi_36_5, pf_36_5, gi_36_6, pf_36_6, gi_36_7, pf_36_7, gr_36_8, gr_36_9, gr_36_10, gr_36_11, gi_36_12, pf_36_12, gi_36_13, pf_36_13, gi_36_14, pf_36_14, gr_36_15, gr_36_16, gi_36_17, pf_36_17, gr_36_18, gr_36_19, gr_36_20, gr_36_21, gr_36_22, gi_36_23, pf_36_23, gr_36_24, gr_36_25, gi_36_26, pf_36_26, gr_36_27, gr_36_28, gr_36_29, gr_36_30, gi_36_31, pf_36_31, gr_36_32, gr_36_33, gi_36_34, pf_36_34, gi_36_35, pf_36_35, gr_36_36, al_3, al_4, al_5, al_6, al_7, al_8, al_9, al_10, al_12, al_13, al_14, al_16, al_17, al_19, al_20, al_22, al_23, al_24, al_26, al_27, al_28, al_29, al_30, al_31, al_32, al_33, al_35, al_37, al_38, al_39, al_40, al_41, al_42, al_43, al_44, al_45, al_46, al_47, al_48, al_49, al_50, al_51, al_52, al_53, al_54, al_55, al_56, al_57, al_58, al_59, ↓reduceIte, Option.bind_some, cI_some, cL_some, cV_some, rz_0, rz_1, ← hJ]
  rw [if_neg (fun y => y z2)]
  exact c1
end PG
