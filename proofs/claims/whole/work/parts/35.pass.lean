section O7
theorem bits_and (p q : Nat → Bool) (n : Nat) : bits p n &&& bits q n = bits (fun i => p i && q i) n := by
  refine bits_ext (n := n) (Nat.lt_of_le_of_lt Nat.and_le_left (bits_lt p n)) (bits_lt _ n) fun i hi => ?_
  rw [and_test, bits_test]
theorem bits_z {p : Nat → Bool} : ∀ n, (∀ i, i < n → p i = false) → bits p n = 0 := by
  intro n
  induction n with
  | zero => intro _; rfl
  | succ n ih => intro h; rw [bits_S _ _ (h n (by omega))]; exact ih (fun i hi => h i (by omega))
theorem n_or0 (a : Nat) : nI a ||| 0 = nI a := by
  rw [show (0 : Int32) = nI 0 from rfl, n_or, Nat.or_zero]
theorem bits_stepO (p : Nat → Bool) {c : Nat} (hc : c < 31) : (if p c = true then nI (bits p c) ||| (1 : Int32) <<< (nI c &&& 31) else nI (bits p c) ||| 0) = nI (bits p (c + 1)) := by
  rw [n_or0]
  exact bits_step p hc
theorem m_has {fu : Nat} {w : XW} {a b : Nat} (ha : a < 2147483648) (hb : b < 31) : U_X8_has fu [.int (nI a), .int (nI b)] w = some (some (.int (bI (a.testBit b = true))), w) := by
  simp only [u_X8_has, M_X8_has, has_n ha hb]
  cases a.testBit b <;> rfl
variable {σ : SG} {A : Nat → List Int32} {I : Nat → Nat → Int32} {fu : Nat}
theorem m_both1 (r : RR σ A I) {xs : List Int32} {f : Nat → Nat} (hl : xs.length = 9) (hx : ∀ i, i ≤ σ 0 0 + 1 → rd xs i = nI (f i)) (hb : ∀ i, i ≤ σ 0 0 + 1 → f i ≤ 1000000) (d : Int32) : ∀ m c, c + m = σ 0 0 →
    ∀ n, (F_X8_fromBoth fu (n + m)).1 36 d (nI (bits (fun c => decide (f (c + 1) < 1000000)) c)) 0 (nI c) (enc (uA A 53 xs) I) = (F_X8_fromBoth fu n).1 36 d (nI (bits (fun c => decide (f (c + 1) < 1000000)) (σ 0 0))) 0 (nI (σ 0 0)) (enc (uA A 53 xs) I) := by
  have hn := r.n7
  intro m
  induction m with
  | zero => intro c hc n; rw [show c = σ 0 0 by omega]; rfl
  | succ m ih =>
    intro c hcm n
    have hc : c < σ 0 0 := by omega
    have e := ih (c + 1) (by omega) n
    rw [← bits_stepO _ (show c < 31 by omega)] at e
    have ea : aI (enc (uA A 53 xs) I) 53 (nI (c + 1)) = some (nI (f (c + 1))) := by rw [ai_53 _ _ (by rw [uA_s, hl]; omega) (by omega), uA_s, hx _ (by omega)]
    have hf1 := hb (c + 1) (by omega)
    have z : (nI (f (c + 1)) < 1000000) = (f (c + 1) < 1000000) := n_lt (by omega) (by decide)
    rw [show n + (m + 1) = n + m + 1 by omega, F_X8_fromBoth]
    simp only [io_1, gr_1_0, gr_1_1, gr_1_2, gr_1_3, gr_1_4, gr_1_5, gi_1_6, pf_1_6, gi_1_7, pf_1_7, io_2, gr_2_0, gr_2_1, gr_2_2, gr_2_3, gr_2_4, gr_2_5, gr_2_6, gr_2_7, gi_2_8, pf_2_8, gi_2_9, pf_2_9, gi_2_10, pf_2_10, gi_2_11, pf_2_11, gi_2_12, pf_2_12, gi_2_13, pf_2_13, gi_2_14, pf_2_14, io_11, gr_11_0, gr_11_1, gr_11_2, io_15, gr_15_0, gr_15_1, gi_15_2, pf_15_2, gi_15_3, pf_15_3, gi_15_4, pf_15_4, gi_15_5, pf_15_5, io_18, gr_18_0, gr_18_1, gi_18_2, pf_18_2, io_21, gr_21_0, gr_21_1, gr_21_2, gr_21_3, gi_21_4, pf_21_4, gi_21_5, pf_21_5, gi_21_6, pf_21_6, gi_21_7, pf_21_7, io_34, gr_34_0, gi_34_1, pf_34_1, io_36, gi_36_0, pf_36_0, gi_36_1, pf_36_1, gr_36_2, gr_36_3, gr_36_4, gi_36_5, pf_36_5, gi_36_6, pf_36_6, gi_36_7, pf_36_7, gr_36_8, gr_36_9, gr_36_10, gr_36_11, gi_36_12, pf_36_12, gi_36_13, pf_36_13, gi_36_14, pf_36_14, gr_36_15, gr_36_16, gi_36_17, pf_36_17, gr_36_18, gr_36_19, gr_36_20, gr_36_21, gr_36_22, gi_36_23, pf_36_23, gr_36_24, gr_36_25, gi_36_26, pf_36_26, gr_36_27, gr_36_28, gr_36_29, gr_36_30, gi_36_31, pf_36_31, gr_36_32, gr_36_33, gi_36_34, pf_36_34, gi_36_35, pf_36_35, gr_36_36, al_3, al_4, al_5, al_6, al_7, al_8, al_9, al_10, al_12, al_13, al_14, al_16, al_17, al_19, al_20, al_22, al_23, al_24, al_26, al_27, al_28, al_29, al_30, al_31, al_32, al_33, al_35, al_37, al_38, al_39, al_40, al_41, al_42, al_43, al_44, al_45, al_46, al_47, al_48, al_49, al_50, al_51, al_52, al_53, al_54, al_55, al_56, al_57, al_58, al_59, ↓reduceIte, Option.bind_some, cI_some, cL_some, cV_some, rz_0, rz_1, r.i36_5, n_lt (show c < 2147483648 by omega) (show σ 0 0 < 2147483648 by omega), nI_1, ea, z]
    rw [if_pos hc]
    by_cases q : f (c + 1) < 1000000
    · rw [if_pos q]
      rw [if_pos (decide_eq_true q)] at e
      exact e
    · rw [if_neg q]
      rw [if_neg (by rw [decide_eq_true_iff]; exact q)] at e
      exact e
theorem m_both2 (r : RR σ A I) {xs : List Int32} {f : Nat → Nat} (hl : xs.length = 9) (hx : ∀ i, i ≤ σ 0 0 + 1 → rd xs i = nI (f i)) (hb : ∀ i, i ≤ σ 0 0 + 1 → f i ≤ 1000000) (p : Nat → Bool) : ∀ m c, c + m = σ 0 0 →
    ∀ n, m < n → (F_X8_fromBoth fu n).2 36 (nI (bits p (σ 0 0))) (nI (bits (fun c => decide (f (c + 1) < 1000000) && p c) c)) (nI c) (enc (uA A 53 xs) I) = some (some (.int (nI (bits (fun c => decide (f (c + 1) < 1000000) && p c) (σ 0 0)))), enc (uA A 53 xs) I) := by
  have hn := r.n7
  have hp : bits p (σ 0 0) < 2147483648 := Nat.lt_trans (bits_ge hn) (by decide)
  intro m
  induction m with
  | zero =>
    intro c hc n hnn
    obtain ⟨n, rfl⟩ : ∃ k, n = k + 1 := ⟨n - 1, by omega⟩
    rw [F_X8_fromBoth]
    simp only [io_1, gr_1_0, gr_1_1, gr_1_2, gr_1_3, gr_1_4, gr_1_5, gi_1_6, pf_1_6, gi_1_7, pf_1_7, io_2, gr_2_0, gr_2_1, gr_2_2, gr_2_3, gr_2_4, gr_2_5, gr_2_6, gr_2_7, gi_2_8, pf_2_8, gi_2_9, pf_2_9, gi_2_10, pf_2_10, gi_2_11, pf_2_11, gi_2_12, pf_2_12, gi_2_13, pf_2_13, gi_2_14, pf_2_14, io_11, gr_11_0, gr_11_1, gr_11_2, io_15, gr_15_0, gr_15_1, gi_15_2, pf_15_2, gi_15_3, pf_15_3, gi_15_4, pf_15_4, gi_15_5, pf_15_5, io_18, gr_18_0, gr_18_1, gi_18_2, pf_18_2, io_21, gr_21_0, gr_21_1, gr_21_2, gr_21_3, gi_21_4, pf_21_4, gi_21_5, pf_21_5, gi_21_6, pf_21_6, gi_21_7, pf_21_7, io_34, gr_34_0, gi_34_1, pf_34_1, io_36, gi_36_0, pf_36_0, gi_36_1, pf_36_1, gr_36_2, gr_36_3, gr_36_4, gi_36_5, pf_36_5, gi_36_6, pf_36_6, gi_36_7, pf_36_7, gr_36_8, gr_36_9, gr_36_10, gr_36_11, gi_36_12, pf_36_12, gi_36_13, pf_36_13, gi_36_14, pf_36_14, gr_36_15, gr_36_16, gi_36_17, pf_36_17, gr_36_18, gr_36_19, gr_36_20, gr_36_21, gr_36_22, gi_36_23, pf_36_23, gr_36_24, gr_36_25, gi_36_26, pf_36_26, gr_36_27, gr_36_28, gr_36_29, gr_36_30, gi_36_31, pf_36_31, gr_36_32, gr_36_33, gi_36_34, pf_36_34, gi_36_35, pf_36_35, gr_36_36, al_3, al_4, al_5, al_6, al_7, al_8, al_9, al_10, al_12, al_13, al_14, al_16, al_17, al_19, al_20, al_22, al_23, al_24, al_26, al_27, al_28, al_29, al_30, al_31, al_32, al_33, al_35, al_37, al_38, al_39, al_40, al_41, al_42, al_43, al_44, al_45, al_46, al_47, al_48, al_49, al_50, al_51, al_52, al_53, al_54, al_55, al_56, al_57, al_58, al_59, ↓reduceIte, Option.bind_some, cI_some, cL_some, cV_some, rz_0, rz_1, r.i36_5, n_lt (show c < 2147483648 by omega) (show σ 0 0 < 2147483648 by omega)]
    rw [if_neg (by omega), show c = σ 0 0 by omega]
  | succ m ih =>
    intro c hcm n hnn
    obtain ⟨n, rfl⟩ : ∃ k, n = k + 1 := ⟨n - 1, by omega⟩
    have hc : c < σ 0 0 := by omega
    have e := ih (c + 1) (by omega) n (by omega)
    rw [← bits_stepO _ (show c < 31 by omega)] at e
    have ea : aI (enc (uA A 53 xs) I) 53 (nI (c + 1)) = some (nI (f (c + 1))) := by rw [ai_53 _ _ (by rw [uA_s, hl]; omega) (by omega), uA_s, hx _ (by omega)]
    have hf1 := hb (c + 1) (by omega)
    have z : (nI (f (c + 1)) < 1000000) = (f (c + 1) < 1000000) := n_lt (by omega) (by decide)
    have ht : (bits p (σ 0 0)).testBit c = p c := by rw [bits_test]; simp [hc]
    rw [F_X8_fromBoth]
    simp only [io_1, gr_1_0, gr_1_1, gr_1_2, gr_1_3, gr_1_4, gr_1_5, gi_1_6, pf_1_6, gi_1_7, pf_1_7, io_2, gr_2_0, gr_2_1, gr_2_2, gr_2_3, gr_2_4, gr_2_5, gr_2_6, gr_2_7, gi_2_8, pf_2_8, gi_2_9, pf_2_9, gi_2_10, pf_2_10, gi_2_11, pf_2_11, gi_2_12, pf_2_12, gi_2_13, pf_2_13, gi_2_14, pf_2_14, io_11, gr_11_0, gr_11_1, gr_11_2, io_15, gr_15_0, gr_15_1, gi_15_2, pf_15_2, gi_15_3, pf_15_3, gi_15_4, pf_15_4, gi_15_5, pf_15_5, io_18, gr_18_0, gr_18_1, gi_18_2, pf_18_2, io_21, gr_21_0, gr_21_1, gr_21_2, gr_21_3, gi_21_4, pf_21_4, gi_21_5, pf_21_5, gi_21_6, pf_21_6, gi_21_7, pf_21_7, io_34, gr_34_0, gi_34_1, pf_34_1, io_36, gi_36_0, pf_36_0, gi_36_1, pf_36_1, gr_36_2, gr_36_3, gr_36_4, gi_36_5, pf_36_5, gi_36_6, pf_36_6, gi_36_7, pf_36_7, gr_36_8, gr_36_9, gr_36_10, gr_36_11, gi_36_12, pf_36_12, gi_36_13, pf_36_13, gi_36_14, pf_36_14, gr_36_15, gr_36_16, gi_36_17, pf_36_17, gr_36_18, gr_36_19, gr_36_20, gr_36_21, gr_36_22, gi_36_23, pf_36_23, gr_36_24, gr_36_25, gi_36_26, pf_36_26, gr_36_27, gr_36_28, gr_36_29, gr_36_30, gi_36_31, pf_36_31, gr_36_32, gr_36_33, gi_36_34, pf_36_34, gi_36_35, pf_36_35, gr_36_36, al_3, al_4, al_5, al_6, al_7, al_8, al_9, al_10, al_12, al_13, al_14, al_16, al_17, al_19, al_20, al_22, al_23, al_24, al_26, al_27, al_28, al_29, al_30, al_31, al_32, al_33, al_35, al_37, al_38, al_39, al_40, al_41, al_42, al_43, al_44, al_45, al_46, al_47, al_48, al_49, al_50, al_51, al_52, al_53, al_54, al_55, al_56, al_57, al_58, al_59, ↓reduceIte, Option.bind_some, cI_some, cL_some, cV_some, rz_0, rz_1, r.i36_5, n_lt (show c < 2147483648 by omega) (show σ 0 0 < 2147483648 by omega), nI_1, ea, z, m_has hp (show c < 31 by omega), ht, bI_0]
    rw [if_pos hc]
    by_cases q : f (c + 1) < 1000000
    · rw [if_pos q]
      by_cases q2 : p c = true
      · rw [if_neg (fun y => y q2)]
        rw [if_pos (by rw [Bool.and_eq_true]; exact ⟨decide_eq_true q, q2⟩)] at e
        exact e
      · rw [if_pos q2]
        rw [if_neg (by rw [Bool.and_eq_true]; exact fun y => q2 y.2)] at e
        exact e
    · rw [if_neg q]
      rw [if_neg (by rw [Bool.and_eq_true, decide_eq_true_iff]; exact fun y => q y.1)] at e
      exact e
/-- cells to which one comes from both banks -/
theorem m_fromBoth (hf : 10000000000 ≤ fu) {L : Nat → Nat} {v d : Nat} (k : Lk σ A I L v) (r : RR σ A I) (hd : d ≤ 9) : ∃ xs, xs.length = 9 ∧ U_X8_fromBoth fu [.ref 36, .int (nI d)] (enc A I) = some (some (.int (nI (bits (fun c => decide (X σ L v d) && Sd σ L v (c + 1)) (σ 0 0)))), enc (uA A 53 xs) I) := by
  have hn := r.n7
  obtain ⟨xs, f, h1, h2, h3, h4, h5⟩ := m_layFar hf k r hd (show 0 ≤ σ 0 0 + 1 by omega)
  have r2 : RR σ (uA A 53 xs) I := r.sc rfl (by rw [h1]; exact (r.len (k := 53) rfl).symm)
  obtain ⟨ys, g, k1, k2, k3, k4, k5⟩ := m_layFar hf (k.sc (xs := xs) (by decide)) r2 hd (Nat.le_refl (σ 0 0 + 1))
  rw [uA_uA] at k5
  refine ⟨ys, k1, ?_⟩
  have R := rw_of σ L v
  have hset : bits (fun c => decide (X σ L v d) && Sd σ L v (c + 1)) (σ 0 0) = bits (fun c => decide (g (c + 1) < 1000000) && decide (f (c + 1) < 1000000)) (σ 0 0) := by
    refine bits_congr _ fun c hc => ?_
    have zf := h4.i0 R hn (show c + 1 ≤ σ 0 0 + 1 by omega)
    have zg := k4.iN R hn (show c + 1 ≤ σ 0 0 + 1 by omega)
    rw [Bool.eq_iff_iff, Bool.and_eq_true, Bool.and_eq_true, decide_eq_true_iff, decide_eq_true_iff, decide_eq_true_iff, zf, zg, X_rea]
    constructor
    · rintro ⟨a, b⟩
      have := cross_all R a (show c + 1 ≤ σ 0 0 + 1 by omega) b
      exact ⟨this.2, this.1⟩
    · rintro ⟨⟨M, w2⟩, ⟨L', w1⟩⟩
      exact ⟨cross_of R w1 w2, (w1.st R.1 (by omega)).1⟩
  rw [hset]
  obtain ⟨n, hfu⟩ : ∃ n, fu = n + 1 + σ 0 0 := ⟨fu - 1 - σ 0 0, by omega⟩
  simp only [u_X8_fromBoth, M_X8_fromBoth, io_1, gr_1_0, gr_1_1, gr_1_2, gr_1_3, gr_1_4, gr_1_5, gi_1_6, pf_1_6, gi_1_7, pf_1_7, io_2, gr_2_0, gr_2_1, gr_2_2, gr_2_3, gr_2_4, gr_2_5, gr_2_6, gr_2_7, gi_2_8, pf_2_8, gi_2_9, pf_2_9, gi_2_10, pf_2_10, gi_2_11, pf_2_11, gi_2_12, pf_2_12, gi_2_13, pf_2_13, gi_2_14, pf_2_14, io_11, gr_11_0, gr_11_1, gr_11_2, io_15, gr_15_0, gr_15_1, gi_15_2, pf_15_2, gi_15_3, pf_15_3, gi_15_4, pf_15_4, gi_15_5, pf_15_5, io_18, gr_18_0, gr_18_1, gi_18_2, pf_18_2, io_21, gr_21_0, gr_21_1, gr_21_2, gr_21_3, gi_21_4, pf_21_4, gi_21_5, pf_21_5, gi_21_6, pf_21_6, gi_21_7, pf_21_7, io_34, gr_34_0, gi_34_1, pf_34_1, io_36, gi_36_0, pf_36_0, gi_36_1, pf_36_1, gr_36_2, gr_36_3, gr_36_4, gi_36_5, pf_36_5, gi_36_6, pf_36_6, gi_36_7, pf_36_7, gr_36_8, gr_36_9, gr_36_10, gr_36_11, gi_36_12, pf_36_12, gi_36_13, pf_36_13, gi_36_14, pf_36_14, gr_36_15, gr_36_16, gi_36_17, pf_36_17, gr_36_18, gr_36_19, gr_36_20, gr_36_21, gr_36_22, gi_36_23, pf_36_23, gr_36_24, gr_36_25, gi_36_26, pf_36_26, gr_36_27, gr_36_28, gr_36_29, gr_36_30, gi_36_31, pf_36_31, gr_36_32, gr_36_33, gi_36_34, pf_36_34, gi_36_35, pf_36_35, gr_36_36, al_3, al_4, al_5, al_6, al_7, al_8, al_9, al_10, al_12, al_13, al_14, al_16, al_17, al_19, al_20, al_22, al_23, al_24, al_26, al_27, al_28, al_29, al_30, al_31, al_32, al_33, al_35, al_37, al_38, al_39, al_40, al_41, al_42, al_43, al_44, al_45, al_46, al_47, al_48, al_49, al_50, al_51, al_52, al_53, al_54, al_55, al_56, al_57, al_58, al_59, ↓reduceIte, Option.bind_some, cI_some, cL_some, cV_some, rz_0, rz_1]
  rw [show (0 : Int32) = nI 0 from rfl, h5]
  simp only [io_1, gr_1_0, gr_1_1, gr_1_2, gr_1_3, gr_1_4, gr_1_5, gi_1_6, pf_1_6, gi_1_7, pf_1_7, io_2, gr_2_0, gr_2_1, gr_2_2, gr_2_3, gr_2_4, gr_2_5, gr_2_6, gr_2_7, gi_2_8, pf_2_8, gi_2_9, pf_2_9, gi_2_10, pf_2_10, gi_2_11, pf_2_11, gi_2_12, pf_2_12, gi_2_13, pf_2_13, gi_2_14, pf_2_14, io_11, gr_11_0, gr_11_1, gr_11_2, io_15, gr_15_0, gr_15_1, gi_15_2, pf_15_2, gi_15_3, pf_15_3, gi_15_4, pf_15_4, gi_15_5, pf_15_5, io_18, gr_18_0, gr_18_1, gi_18_2, pf_18_2, io_21, gr_21_0, gr_21_1, gr_21_2, gr_21_3, gi_21_4, pf_21_4, gi_21_5, pf_21_5, gi_21_6, pf_21_6, gi_21_7, pf_21_7, io_34, gr_34_0, gi_34_1, pf_34_1, io_36, gi_36_0, pf_36_0, gi_36_1, pf_36_1, gr_36_2, gr_36_3, gr_36_4, gi_36_5, pf_36_5, gi_36_6, pf_36_6, gi_36_7, pf_36_7, gr_36_8, gr_36_9, gr_36_10, gr_36_11, gi_36_12, pf_36_12, gi_36_13, pf_36_13, gi_36_14, pf_36_14, gr_36_15, gr_36_16, gi_36_17, pf_36_17, gr_36_18, gr_36_19, gr_36_20, gr_36_21, gr_36_22, gi_36_23, pf_36_23, gr_36_24, gr_36_25, gi_36_26, pf_36_26, gr_36_27, gr_36_28, gr_36_29, gr_36_30, gi_36_31, pf_36_31, gr_36_32, gr_36_33, gi_36_34, pf_36_34, gi_36_35, pf_36_35, gr_36_36, al_3, al_4, al_5, al_6, al_7, al_8, al_9, al_10, al_12, al_13, al_14, al_16, al_17, al_19, al_20, al_22, al_23, al_24, al_26, al_27, al_28, al_29, al_30, al_31, al_32, al_33, al_35, al_37, al_38, al_39, al_40, al_41, al_42, al_43, al_44, al_45, al_46, al_47, al_48, al_49, al_50, al_51, al_52, al_53, al_54, al_55, al_56, al_57, al_58, al_59, ↓reduceIte, Option.bind_some, cI_some, cL_some, cV_some, rz_0, rz_1]
  have e := m_both1 (fu := fu) r h1 h2 h3 (nI d) (σ 0 0) 0 (by omega) (n + 1)
  rw [← hfu] at e
  refine e.trans ?_
  rw [F_X8_fromBoth]
  simp only [io_1, gr_1_0, gr_1_1, gr_1_2, gr_1_3, gr_1_4, gr_1_5, gi_1_6, pf_1_6, gi_1_7, pf_1_7, io_2, gr_2_0, gr_2_1, gr_2_2, gr_2_3, gr_2_4, gr_2_5, gr_2_6, gr_2_7, gi_2_8, pf_2_8, gi_2_9, pf_2_9, gi_2_10, pf_2_10, gi_2_11, pf_2_11, gi_2_12, pf_2_12, gi_2_13, pf_2_13, gi_2_14, pf_2_14, io_11, gr_11_0, gr_11_1, gr_11_2, io_15, gr_15_0, gr_15_1, gi_15_2, pf_15_2, gi_15_3, pf_15_3, gi_15_4, pf_15_4, gi_15_5, pf_15_5, io_18, gr_18_0, gr_18_1, gi_18_2, pf_18_2, io_21, gr_21_0, gr_21_1, gr_21_2, gr_21_3, gi_21_4, pf_21_4, gi_21_5, pf_21_5, gi_21_6, pf_21_6, gi_21_7, pf_21_7, io_34, gr_34_0, gi_34_1, pf_34_1, io_36, gi_36_0, pf_36_0, gi_36_1, pf_36_1, gr_36_2, gr_36_3, gr_36_4, gi_36_5, pf_36_5, gi_36_6, pf_36_6, gi_36_7, pf_36_7, gr_36_8, gr_36_9, gr_36_10, gr_36_11, gi_36_12, pf_36_12, gi_36_13, pf_36_13, gi_36_14, pf_36_14, gr_36_15, gr_36_16, gi_36_17, pf_36_17, gr_36_18, gr_36_19, gr_36_20, gr_36_21, gr_36_22, gi_36_23, pf_36_23, gr_36_24, gr_36_25, gi_36_26, pf_36_26, gr_36_27, gr_36_28, gr_36_29, gr_36_30, gi_36_31, pf_36_31, gr_36_32, gr_36_33, gi_36_34, pf_36_34, gi_36_35, pf_36_35, gr_36_36, al_3, al_4, al_5, al_6, al_7, al_8, al_9, al_10, al_12, al_13, al_14, al_16, al_17, al_19, al_20, al_22, al_23, al_24, al_26, al_27, al_28, al_29, al_30, al_31, al_32, al_33, al_35, al_37, al_38, al_39, al_40, al_41, al_42, al_43, al_44, al_45, al_46, al_47, al_48, al_49, al_50, al_51, al_52, al_53, al_54, al_55, al_56, al_57, al_58, al_59, ↓reduceIte, Option.bind_some, cI_some, cL_some, cV_some, rz_0, rz_1, r.i36_5, n_lt (show σ 0 0 < 2147483648 by omega) (show σ 0 0 < 2147483648 by omega), nI_1]
  rw [if_neg (by omega), k5]
  exact m_both2 r k1 k2 k3 (fun c => decide (f (c + 1) < 1000000)) (σ 0 0) 0 (by omega) n (by omega)
theorem m_pass (r : RR σ A I) (h52 : ∀ c, c < σ 0 0 → rd (A 52) c = ro (σ 7 c)) (p : Nat → Bool) (hp : ∀ c, c < σ 0 0 → p c = true → σ 7 c ≠ 0) : ∀ m c, c + m = σ 0 0 →
    ∀ n, m < n → F_X8_pass fu n 36 (nI (bits p (σ 0 0))) (nI (bits (fun c => p c && kndB σ 1 c) c)) (nI c) (enc A I) = some (some (.int (nI (bits (fun c => p c && kndB σ 1 c) (σ 0 0)))), enc A I) := by
  have hn := r.n7
  have hpb : bits p (σ 0 0) < 2147483648 := Nat.lt_trans (bits_ge hn) (by decide)
  intro m
  induction m with
  | zero =>
    intro c hc n hnn
    obtain ⟨n, rfl⟩ : ∃ k, n = k + 1 := ⟨n - 1, by omega⟩
    rw [F_X8_pass]
    simp only [io_1, gr_1_0, gr_1_1, gr_1_2, gr_1_3, gr_1_4, gr_1_5, gi_1_6, pf_1_6, gi_1_7, pf_1_7, io_2, gr_2_0, gr_2_1, gr_2_2, gr_2_3, gr_2_4, gr_2_5, gr_2_6, gr_2_7, gi_2_8, pf_2_8, gi_2_9, pf_2_9, gi_2_10, pf_2_10, gi_2_11, pf_2_11, gi_2_12, pf_2_12, gi_2_13, pf_2_13, gi_2_14, pf_2_14, io_11, gr_11_0, gr_11_1, gr_11_2, io_15, gr_15_0, gr_15_1, gi_15_2, pf_15_2, gi_15_3, pf_15_3, gi_15_4, pf_15_4, gi_15_5, pf_15_5, io_18, gr_18_0, gr_18_1, gi_18_2, pf_18_2, io_21, gr_21_0, gr_21_1, gr_21_2, gr_21_3, gi_21_4, pf_21_4, gi_21_5, pf_21_5, gi_21_6, pf_21_6, gi_21_7, pf_21_7, io_34, gr_34_0, gi_34_1, pf_34_1, io_36, gi_36_0, pf_36_0, gi_36_1, pf_36_1, gr_36_2, gr_36_3, gr_36_4, gi_36_5, pf_36_5, gi_36_6, pf_36_6, gi_36_7, pf_36_7, gr_36_8, gr_36_9, gr_36_10, gr_36_11, gi_36_12, pf_36_12, gi_36_13, pf_36_13, gi_36_14, pf_36_14, gr_36_15, gr_36_16, gi_36_17, pf_36_17, gr_36_18, gr_36_19, gr_36_20, gr_36_21, gr_36_22, gi_36_23, pf_36_23, gr_36_24, gr_36_25, gi_36_26, pf_36_26, gr_36_27, gr_36_28, gr_36_29, gr_36_30, gi_36_31, pf_36_31, gr_36_32, gr_36_33, gi_36_34, pf_36_34, gi_36_35, pf_36_35, gr_36_36, al_3, al_4, al_5, al_6, al_7, al_8, al_9, al_10, al_12, al_13, al_14, al_16, al_17, al_19, al_20, al_22, al_23, al_24, al_26, al_27, al_28, al_29, al_30, al_31, al_32, al_33, al_35, al_37, al_38, al_39, al_40, al_41, al_42, al_43, al_44, al_45, al_46, al_47, al_48, al_49, al_50, al_51, al_52, al_53, al_54, al_55, al_56, al_57, al_58, al_59, ↓reduceIte, Option.bind_some, cI_some, cL_some, cV_some, rz_0, rz_1, r.i36_5, n_lt (show c < 2147483648 by omega) (show σ 0 0 < 2147483648 by omega)]
    rw [if_neg (by omega), show c = σ 0 0 by omega]
  | succ m ih =>
    intro c hcm n hnn
    obtain ⟨n, rfl⟩ : ∃ k, n = k + 1 := ⟨n - 1, by omega⟩
    have hc : c < σ 0 0 := by omega
    have e := ih (c + 1) (by omega) n (by omega)
    rw [← bits_stepO _ (show c < 31 by omega)] at e
    have ht : (bits p (σ 0 0)).testBit c = p c := by rw [bits_test]; simp [hc]
    rw [F_X8_pass]
    simp only [io_1, gr_1_0, gr_1_1, gr_1_2, gr_1_3, gr_1_4, gr_1_5, gi_1_6, pf_1_6, gi_1_7, pf_1_7, io_2, gr_2_0, gr_2_1, gr_2_2, gr_2_3, gr_2_4, gr_2_5, gr_2_6, gr_2_7, gi_2_8, pf_2_8, gi_2_9, pf_2_9, gi_2_10, pf_2_10, gi_2_11, pf_2_11, gi_2_12, pf_2_12, gi_2_13, pf_2_13, gi_2_14, pf_2_14, io_11, gr_11_0, gr_11_1, gr_11_2, io_15, gr_15_0, gr_15_1, gi_15_2, pf_15_2, gi_15_3, pf_15_3, gi_15_4, pf_15_4, gi_15_5, pf_15_5, io_18, gr_18_0, gr_18_1, gi_18_2, pf_18_2, io_21, gr_21_0, gr_21_1, gr_21_2, gr_21_3, gi_21_4, pf_21_4, gi_21_5, pf_21_5, gi_21_6, pf_21_6, gi_21_7, pf_21_7, io_34, gr_34_0, gi_34_1, pf_34_1, io_36, gi_36_0, pf_36_0, gi_36_1, pf_36_1, gr_36_2, gr_36_3, gr_36_4, gi_36_5, pf_36_5, gi_36_6, pf_36_6, gi_36_7, pf_36_7, gr_36_8, gr_36_9, gr_36_10, gr_36_11, gi_36_12, pf_36_12, gi_36_13, pf_36_13, gi_36_14, pf_36_14, gr_36_15, gr_36_16, gi_36_17, pf_36_17, gr_36_18, gr_36_19, gr_36_20, gr_36_21, gr_36_22, gi_36_23, pf_36_23, gr_36_24, gr_36_25, gi_36_26, pf_36_26, gr_36_27, gr_36_28, gr_36_29, gr_36_30, gi_36_31, pf_36_31, gr_36_32, gr_36_33, gi_36_34, pf_36_34, gi_36_35, pf_36_35, gr_36_36, al_3, al_4, al_5, al_6, al_7, al_8, al_9, al_10, al_12, al_13, al_14, al_16, al_17, al_19, al_20, al_22, al_23, al_24, al_26, al_27, al_28, al_29, al_30, al_31, al_32, al_33, al_35, al_37, al_38, al_39, al_40, al_41, al_42, al_43, al_44, al_45, al_46, al_47, al_48, al_49, al_50, al_51, al_52, al_53, al_54, al_55, al_56, al_57, al_58, al_59, ↓reduceIte, Option.bind_some, cI_some, cL_some, cV_some, rz_0, rz_1, r.i36_5, n_lt (show c < 2147483648 by omega) (show σ 0 0 < 2147483648 by omega), nI_1, m_has hpb (show c < 31 by omega), ht, bI_0]
    rw [if_pos hc]
    by_cases q2 : p c = true
    · rw [if_neg (fun y => y q2)]
      have h7 := hp c hc q2
      obtain ⟨s, hs⟩ : ∃ s, σ 7 c = s + 1 := ⟨σ 7 c - 1, by omega⟩
      have hss := (r.row hc hs).1
      rw [ai_52 A I (by rw [r.len rfl]; show c < 7; omega) (by omega), h52 c hc, hs, ro_s, Option.bind_some, r.a46 hss, Option.bind_some]
      have ez : ((0 : Int32) < nI (σ 3 s)) = (0 < σ 3 s) := nI_0lt (by have := (r.sto hss).1; omega)
      have ek : kndB σ 1 c = true ↔ 0 < σ 3 s := by
        unfold kndB
        rw [decide_eq_true_iff, hs]
        simp only [Nat.add_sub_cancel]
        omega
      by_cases q : 0 < σ 3 s
      · rw [if_pos (by rw [ez]; exact q)]
        rw [if_pos (by rw [Bool.and_eq_true]; exact ⟨q2, ek.mpr q⟩)] at e
        exact e
      · rw [if_neg (by rw [ez]; exact q)]
        rw [if_neg (by rw [Bool.and_eq_true]; exact fun y => q (ek.mp y.2))] at e
        exact e
    · rw [if_pos q2]
      rw [if_neg (by rw [Bool.and_eq_true]; exact fun y => q2 y.1)] at e
      exact e
theorem X_more (σ : SG) (L : Nat → Nat) (v : Nat) {d d2 : Nat} (h : d ≤ d2) (x : X σ L v d) : X σ L v d2 := (X_rea σ L v d2).mpr (((X_rea σ L v d).mp x).more h)
theorem Sd_dry (σ : SG) {v c : Nat} (hc : c < σ 0 0) : Sd σ (σ 7) v (c + 1) = dryB σ v c := by
  unfold Sd dryB
  simp only [Nat.add_sub_cancel]
  refine decide_eq_decide.mpr ?_
  omega
theorem op_pass (hf : 10000000000 ≤ fu) (r : RR σ A I) (x y : Int32) : OP (U_X7_pass fu) (U_X8_pass fu) [.ref 1, .int x, .int y] [.ref 36, .int x, .int y] A I := by
  have hk := r.k6
  rcases n_in x (n := σ 0 4) (by omega) with ⟨x, hx, rfl⟩ | h
  rotate_left
  · refine OP.q0 (v := -1) r ?_ ?_
    · simp only [u_X7_pass, M_X7_pass, c_isWalker, io_1, gr_1_0, gr_1_1, gr_1_2, gr_1_3, gr_1_4, gr_1_5, gi_1_6, pf_1_6, gi_1_7, pf_1_7, io_2, gr_2_0, gr_2_1, gr_2_2, gr_2_3, gr_2_4, gr_2_5, gr_2_6, gr_2_7, gi_2_8, pf_2_8, gi_2_9, pf_2_9, gi_2_10, pf_2_10, gi_2_11, pf_2_11, gi_2_12, pf_2_12, gi_2_13, pf_2_13, gi_2_14, pf_2_14, io_11, gr_11_0, gr_11_1, gr_11_2, io_15, gr_15_0, gr_15_1, gi_15_2, pf_15_2, gi_15_3, pf_15_3, gi_15_4, pf_15_4, gi_15_5, pf_15_5, io_18, gr_18_0, gr_18_1, gi_18_2, pf_18_2, io_21, gr_21_0, gr_21_1, gr_21_2, gr_21_3, gi_21_4, pf_21_4, gi_21_5, pf_21_5, gi_21_6, pf_21_6, gi_21_7, pf_21_7, io_34, gr_34_0, gi_34_1, pf_34_1, io_36, gi_36_0, pf_36_0, gi_36_1, pf_36_1, gr_36_2, gr_36_3, gr_36_4, gi_36_5, pf_36_5, gi_36_6, pf_36_6, gi_36_7, pf_36_7, gr_36_8, gr_36_9, gr_36_10, gr_36_11, gi_36_12, pf_36_12, gi_36_13, pf_36_13, gi_36_14, pf_36_14, gr_36_15, gr_36_16, gi_36_17, pf_36_17, gr_36_18, gr_36_19, gr_36_20, gr_36_21, gr_36_22, gi_36_23, pf_36_23, gr_36_24, gr_36_25, gi_36_26, pf_36_26, gr_36_27, gr_36_28, gr_36_29, gr_36_30, gi_36_31, pf_36_31, gr_36_32, gr_36_33, gi_36_34, pf_36_34, gi_36_35, pf_36_35, gr_36_36, al_3, al_4, al_5, al_6, al_7, al_8, al_9, al_10, al_12, al_13, al_14, al_16, al_17, al_19, al_20, al_22, al_23, al_24, al_26, al_27, al_28, al_29, al_30, al_31, al_32, al_33, al_35, al_37, al_38, al_39, al_40, al_41, al_42, al_43, al_44, al_45, al_46, al_47, al_48, al_49, al_50, al_51, al_52, al_53, al_54, al_55, al_56, al_57, al_58, al_59, ↓reduceIte, Option.bind_some, cI_some, cL_some, cV_some, rz_0, rz_1, r.i2_14, bI_f h]
    · simp only [u_X8_pass, M_X8_pass, m_isWalker, io_1, gr_1_0, gr_1_1, gr_1_2, gr_1_3, gr_1_4, gr_1_5, gi_1_6, pf_1_6, gi_1_7, pf_1_7, io_2, gr_2_0, gr_2_1, gr_2_2, gr_2_3, gr_2_4, gr_2_5, gr_2_6, gr_2_7, gi_2_8, pf_2_8, gi_2_9, pf_2_9, gi_2_10, pf_2_10, gi_2_11, pf_2_11, gi_2_12, pf_2_12, gi_2_13, pf_2_13, gi_2_14, pf_2_14, io_11, gr_11_0, gr_11_1, gr_11_2, io_15, gr_15_0, gr_15_1, gi_15_2, pf_15_2, gi_15_3, pf_15_3, gi_15_4, pf_15_4, gi_15_5, pf_15_5, io_18, gr_18_0, gr_18_1, gi_18_2, pf_18_2, io_21, gr_21_0, gr_21_1, gr_21_2, gr_21_3, gi_21_4, pf_21_4, gi_21_5, pf_21_5, gi_21_6, pf_21_6, gi_21_7, pf_21_7, io_34, gr_34_0, gi_34_1, pf_34_1, io_36, gi_36_0, pf_36_0, gi_36_1, pf_36_1, gr_36_2, gr_36_3, gr_36_4, gi_36_5, pf_36_5, gi_36_6, pf_36_6, gi_36_7, pf_36_7, gr_36_8, gr_36_9, gr_36_10, gr_36_11, gi_36_12, pf_36_12, gi_36_13, pf_36_13, gi_36_14, pf_36_14, gr_36_15, gr_36_16, gi_36_17, pf_36_17, gr_36_18, gr_36_19, gr_36_20, gr_36_21, gr_36_22, gi_36_23, pf_36_23, gr_36_24, gr_36_25, gi_36_26, pf_36_26, gr_36_27, gr_36_28, gr_36_29, gr_36_30, gi_36_31, pf_36_31, gr_36_32, gr_36_33, gi_36_34, pf_36_34, gi_36_35, pf_36_35, gr_36_36, al_3, al_4, al_5, al_6, al_7, al_8, al_9, al_10, al_12, al_13, al_14, al_16, al_17, al_19, al_20, al_22, al_23, al_24, al_26, al_27, al_28, al_29, al_30, al_31, al_32, al_33, al_35, al_37, al_38, al_39, al_40, al_41, al_42, al_43, al_44, al_45, al_46, al_47, al_48, al_49, al_50, al_51, al_52, al_53, al_54, al_55, al_56, al_57, al_58, al_59, ↓reduceIte, Option.bind_some, cI_some, cL_some, cV_some, rz_0, rz_1, r.i36_23, bI_f h]
  have hwin := bI_t (n_win hx (show σ 0 4 < 2147483648 by omega))
  rcases n_in y (n := σ 0 4) (by omega) with ⟨y, hy, rfl⟩ | h
  rotate_left
  · refine OP.q0 (v := -1) r ?_ ?_
    · simp only [u_X7_pass, M_X7_pass, c_isWalker, io_1, gr_1_0, gr_1_1, gr_1_2, gr_1_3, gr_1_4, gr_1_5, gi_1_6, pf_1_6, gi_1_7, pf_1_7, io_2, gr_2_0, gr_2_1, gr_2_2, gr_2_3, gr_2_4, gr_2_5, gr_2_6, gr_2_7, gi_2_8, pf_2_8, gi_2_9, pf_2_9, gi_2_10, pf_2_10, gi_2_11, pf_2_11, gi_2_12, pf_2_12, gi_2_13, pf_2_13, gi_2_14, pf_2_14, io_11, gr_11_0, gr_11_1, gr_11_2, io_15, gr_15_0, gr_15_1, gi_15_2, pf_15_2, gi_15_3, pf_15_3, gi_15_4, pf_15_4, gi_15_5, pf_15_5, io_18, gr_18_0, gr_18_1, gi_18_2, pf_18_2, io_21, gr_21_0, gr_21_1, gr_21_2, gr_21_3, gi_21_4, pf_21_4, gi_21_5, pf_21_5, gi_21_6, pf_21_6, gi_21_7, pf_21_7, io_34, gr_34_0, gi_34_1, pf_34_1, io_36, gi_36_0, pf_36_0, gi_36_1, pf_36_1, gr_36_2, gr_36_3, gr_36_4, gi_36_5, pf_36_5, gi_36_6, pf_36_6, gi_36_7, pf_36_7, gr_36_8, gr_36_9, gr_36_10, gr_36_11, gi_36_12, pf_36_12, gi_36_13, pf_36_13, gi_36_14, pf_36_14, gr_36_15, gr_36_16, gi_36_17, pf_36_17, gr_36_18, gr_36_19, gr_36_20, gr_36_21, gr_36_22, gi_36_23, pf_36_23, gr_36_24, gr_36_25, gi_36_26, pf_36_26, gr_36_27, gr_36_28, gr_36_29, gr_36_30, gi_36_31, pf_36_31, gr_36_32, gr_36_33, gi_36_34, pf_36_34, gi_36_35, pf_36_35, gr_36_36, al_3, al_4, al_5, al_6, al_7, al_8, al_9, al_10, al_12, al_13, al_14, al_16, al_17, al_19, al_20, al_22, al_23, al_24, al_26, al_27, al_28, al_29, al_30, al_31, al_32, al_33, al_35, al_37, al_38, al_39, al_40, al_41, al_42, al_43, al_44, al_45, al_46, al_47, al_48, al_49, al_50, al_51, al_52, al_53, al_54, al_55, al_56, al_57, al_58, al_59, ↓reduceIte, Option.bind_some, cI_some, cL_some, cV_some, rz_0, rz_1, r.i2_14, hwin, if_neg (by decide : ¬ (1 : Int32) = 0), bI_f h]
    · simp only [u_X8_pass, M_X8_pass, m_isWalker, io_1, gr_1_0, gr_1_1, gr_1_2, gr_1_3, gr_1_4, gr_1_5, gi_1_6, pf_1_6, gi_1_7, pf_1_7, io_2, gr_2_0, gr_2_1, gr_2_2, gr_2_3, gr_2_4, gr_2_5, gr_2_6, gr_2_7, gi_2_8, pf_2_8, gi_2_9, pf_2_9, gi_2_10, pf_2_10, gi_2_11, pf_2_11, gi_2_12, pf_2_12, gi_2_13, pf_2_13, gi_2_14, pf_2_14, io_11, gr_11_0, gr_11_1, gr_11_2, io_15, gr_15_0, gr_15_1, gi_15_2, pf_15_2, gi_15_3, pf_15_3, gi_15_4, pf_15_4, gi_15_5, pf_15_5, io_18, gr_18_0, gr_18_1, gi_18_2, pf_18_2, io_21, gr_21_0, gr_21_1, gr_21_2, gr_21_3, gi_21_4, pf_21_4, gi_21_5, pf_21_5, gi_21_6, pf_21_6, gi_21_7, pf_21_7, io_34, gr_34_0, gi_34_1, pf_34_1, io_36, gi_36_0, pf_36_0, gi_36_1, pf_36_1, gr_36_2, gr_36_3, gr_36_4, gi_36_5, pf_36_5, gi_36_6, pf_36_6, gi_36_7, pf_36_7, gr_36_8, gr_36_9, gr_36_10, gr_36_11, gi_36_12, pf_36_12, gi_36_13, pf_36_13, gi_36_14, pf_36_14, gr_36_15, gr_36_16, gi_36_17, pf_36_17, gr_36_18, gr_36_19, gr_36_20, gr_36_21, gr_36_22, gi_36_23, pf_36_23, gr_36_24, gr_36_25, gi_36_26, pf_36_26, gr_36_27, gr_36_28, gr_36_29, gr_36_30, gi_36_31, pf_36_31, gr_36_32, gr_36_33, gi_36_34, pf_36_34, gi_36_35, pf_36_35, gr_36_36, al_3, al_4, al_5, al_6, al_7, al_8, al_9, al_10, al_12, al_13, al_14, al_16, al_17, al_19, al_20, al_22, al_23, al_24, al_26, al_27, al_28, al_29, al_30, al_31, al_32, al_33, al_35, al_37, al_38, al_39, al_40, al_41, al_42, al_43, al_44, al_45, al_46, al_47, al_48, al_49, al_50, al_51, al_52, al_53, al_54, al_55, al_56, al_57, al_58, al_59, ↓reduceIte, Option.bind_some, cI_some, cL_some, cV_some, rz_0, rz_1, r.i36_23, hwin, if_neg (by decide : ¬ (1 : Int32) = 0), bI_f h]
  have hwin2 := bI_t (n_win hy (show σ 0 4 < 2147483648 by omega))
  have hw := r.wal hx
  have hw2 := r.wal hy
  have h2 := r.1.2.2.2.1
  have hmin : oMin [.int (nI (σ 10 x)), .int (nI (σ 10 y))] (enc A I) = some (some (.int (nI (min (σ 10 x) (σ 10 y)))), enc A I) := by
    simp only [oMin, n_lt (show σ 10 y < 2147483648 by omega) (show σ 10 x < 2147483648 by omega)]
    by_cases q : σ 10 y < σ 10 x
    · rw [if_pos q, Nat.min_eq_right (by omega)]
    · rw [if_neg q, Nat.min_eq_left (by omega)]
  have hX : X σ (σ 7) (σ 0 2) (min (σ 10 x) (σ 10 y)) ↔ X σ (σ 7) (σ 0 2) (σ 10 x) ∧ X σ (σ 7) (σ 0 2) (σ 10 y) := by
    constructor
    · intro z; exact ⟨X_more σ _ _ (Nat.min_le_left _ _) z, X_more σ _ _ (Nat.min_le_right _ _) z⟩
    · rintro ⟨z1, z2⟩
      by_cases q : σ 10 x ≤ σ 10 y
      · rw [Nat.min_eq_left q]; exact z1
      · rw [Nat.min_eq_right (by omega)]; exact z2
  refine OP.q (v := if X σ (σ 7) (σ 0 2) (min (σ 10 x) (σ 10 y)) then nI (bits (dryB σ (σ 0 2)) (σ 0 0) &&& bits (kndB σ 1) (σ 0 0)) else 0) r ⟨A, I, ?_, Fr.rf A I⟩ fun A1 I1 r1 => ?_
  · have rx := c_reachOf (fu := fu) r hx (g := 0) (by omega)
    have ry := c_reachOf (fu := fu) r hy (g := 0) (by omega)
    rw [Nat.sub_zero] at rx ry
    have ok := c_ofKind (fu := fu) (by omega) r (t := 1) (by omega)
    rw [show nI 1 = (1 : Int32) from rfl] at ok
    rw [show nI 0 = (0 : Int32) from rfl] at rx ry
    simp only [u_X7_pass, M_X7_pass, c_isWalker, io_1, gr_1_0, gr_1_1, gr_1_2, gr_1_3, gr_1_4, gr_1_5, gi_1_6, pf_1_6, gi_1_7, pf_1_7, io_2, gr_2_0, gr_2_1, gr_2_2, gr_2_3, gr_2_4, gr_2_5, gr_2_6, gr_2_7, gi_2_8, pf_2_8, gi_2_9, pf_2_9, gi_2_10, pf_2_10, gi_2_11, pf_2_11, gi_2_12, pf_2_12, gi_2_13, pf_2_13, gi_2_14, pf_2_14, io_11, gr_11_0, gr_11_1, gr_11_2, io_15, gr_15_0, gr_15_1, gi_15_2, pf_15_2, gi_15_3, pf_15_3, gi_15_4, pf_15_4, gi_15_5, pf_15_5, io_18, gr_18_0, gr_18_1, gi_18_2, pf_18_2, io_21, gr_21_0, gr_21_1, gr_21_2, gr_21_3, gi_21_4, pf_21_4, gi_21_5, pf_21_5, gi_21_6, pf_21_6, gi_21_7, pf_21_7, io_34, gr_34_0, gi_34_1, pf_34_1, io_36, gi_36_0, pf_36_0, gi_36_1, pf_36_1, gr_36_2, gr_36_3, gr_36_4, gi_36_5, pf_36_5, gi_36_6, pf_36_6, gi_36_7, pf_36_7, gr_36_8, gr_36_9, gr_36_10, gr_36_11, gi_36_12, pf_36_12, gi_36_13, pf_36_13, gi_36_14, pf_36_14, gr_36_15, gr_36_16, gi_36_17, pf_36_17, gr_36_18, gr_36_19, gr_36_20, gr_36_21, gr_36_22, gi_36_23, pf_36_23, gr_36_24, gr_36_25, gi_36_26, pf_36_26, gr_36_27, gr_36_28, gr_36_29, gr_36_30, gi_36_31, pf_36_31, gr_36_32, gr_36_33, gi_36_34, pf_36_34, gi_36_35, pf_36_35, gr_36_36, al_3, al_4, al_5, al_6, al_7, al_8, al_9, al_10, al_12, al_13, al_14, al_16, al_17, al_19, al_20, al_22, al_23, al_24, al_26, al_27, al_28, al_29, al_30, al_31, al_32, al_33, al_35, al_37, al_38, al_39, al_40, al_41, al_42, al_43, al_44, al_45, al_46, al_47, al_48, al_49, al_50, al_51, al_52, al_53, al_54, al_55, al_56, al_57, al_58, al_59, ↓reduceIte, Option.bind_some, cI_some, cL_some, cV_some, rz_0, rz_1, r.i2_14, hwin, hwin2, if_neg (by decide : ¬ (1 : Int32) = 0), rx, ry, hmin, c_filled (show 1000 ≤ fu by omega) r, r.i2_11, c_cross (show 1000 ≤ fu by omega) r h2 (show min (σ 10 x) (σ 10 y) ≤ 9 by omega), bI_0, c_dry (show 1000 ≤ fu by omega) r h2, ok, n_and]
    by_cases q : X σ (σ 7) (σ 0 2) (min (σ 10 x) (σ 10 y))
    · rw [if_neg (fun y => y q), if_pos q]
    · rw [if_pos q, if_neg q]
  · obtain ⟨ys, g1, g2, g3, g4⟩ := m_layNow (fu := fu) (by omega) r1
    obtain ⟨xs, k1, k2⟩ := m_fromBoth hf g3 g4 (show σ 10 x ≤ 9 by omega)
    have r5 := g4.sc (k := 53) (xs := xs) rfl (by rw [k1]; exact (g4.len (k := 53) rfl).symm)
    obtain ⟨zs, l1, l2⟩ := m_fromBoth hf (g3.sc (xs := xs) (by decide)) r5 (show σ 10 y ≤ 9 by omega)
    rw [uA_uA] at l2
    have r6 := g4.sc (k := 53) (xs := zs) rfl (by rw [l1]; exact (g4.len (k := 53) rfl).symm)
    refine ⟨_, _, ?_, Fr.arr (Fr.int (Fr.arr (Fr.rf A1 I1) (k := 52) (xs := ys) rfl (by rw [g1]; exact (r1.len (k := 52) rfl).symm)) (o := 36) (j := 26) (x := nI (σ 0 2)) rfl) (k := 53) (xs := zs) rfl (by rw [l1]; exact (r1.len (k := 53) rfl).symm)⟩
    simp only [u_X8_pass, M_X8_pass, m_isWalker, io_1, gr_1_0, gr_1_1, gr_1_2, gr_1_3, gr_1_4, gr_1_5, gi_1_6, pf_1_6, gi_1_7, pf_1_7, io_2, gr_2_0, gr_2_1, gr_2_2, gr_2_3, gr_2_4, gr_2_5, gr_2_6, gr_2_7, gi_2_8, pf_2_8, gi_2_9, pf_2_9, gi_2_10, pf_2_10, gi_2_11, pf_2_11, gi_2_12, pf_2_12, gi_2_13, pf_2_13, gi_2_14, pf_2_14, io_11, gr_11_0, gr_11_1, gr_11_2, io_15, gr_15_0, gr_15_1, gi_15_2, pf_15_2, gi_15_3, pf_15_3, gi_15_4, pf_15_4, gi_15_5, pf_15_5, io_18, gr_18_0, gr_18_1, gi_18_2, pf_18_2, io_21, gr_21_0, gr_21_1, gr_21_2, gr_21_3, gi_21_4, pf_21_4, gi_21_5, pf_21_5, gi_21_6, pf_21_6, gi_21_7, pf_21_7, io_34, gr_34_0, gi_34_1, pf_34_1, io_36, gi_36_0, pf_36_0, gi_36_1, pf_36_1, gr_36_2, gr_36_3, gr_36_4, gi_36_5, pf_36_5, gi_36_6, pf_36_6, gi_36_7, pf_36_7, gr_36_8, gr_36_9, gr_36_10, gr_36_11, gi_36_12, pf_36_12, gi_36_13, pf_36_13, gi_36_14, pf_36_14, gr_36_15, gr_36_16, gi_36_17, pf_36_17, gr_36_18, gr_36_19, gr_36_20, gr_36_21, gr_36_22, gi_36_23, pf_36_23, gr_36_24, gr_36_25, gi_36_26, pf_36_26, gr_36_27, gr_36_28, gr_36_29, gr_36_30, gi_36_31, pf_36_31, gr_36_32, gr_36_33, gi_36_34, pf_36_34, gi_36_35, pf_36_35, gr_36_36, al_3, al_4, al_5, al_6, al_7, al_8, al_9, al_10, al_12, al_13, al_14, al_16, al_17, al_19, al_20, al_22, al_23, al_24, al_26, al_27, al_28, al_29, al_30, al_31, al_32, al_33, al_35, al_37, al_38, al_39, al_40, al_41, al_42, al_43, al_44, al_45, al_46, al_47, al_48, al_49, al_50, al_51, al_52, al_53, al_54, al_55, al_56, al_57, al_58, al_59, ↓reduceIte, Option.bind_some, cI_some, cL_some, cV_some, rz_0, rz_1, r1.i36_23, hwin, hwin2, if_neg (by decide : ¬ (1 : Int32) = 0), g2, g4.a51 hx, r5.a51 hy, k2, l2, n_and, bits_and]
    have e := m_pass (fu := fu) r6 (fun c hc => (g3.1 c hc).1) (fun c => (decide (X σ (σ 7) (σ 0 2) (σ 10 x)) && Sd σ (σ 7) (σ 0 2) (c + 1)) && (decide (X σ (σ 7) (σ 0 2) (σ 10 y)) && Sd σ (σ 7) (σ 0 2) (c + 1))) (fun c hc hp => by
      rw [Bool.and_eq_true, Bool.and_eq_true, Sd_dry σ hc] at hp
      exact (of_decide_eq_true hp.1.2).1) (σ 0 0) 0 (by omega) fu (by have := r.n7; omega)
    refine e.trans ?_
    by_cases q : X σ (σ 7) (σ 0 2) (min (σ 10 x) (σ 10 y))
    · rw [if_pos q]
      have q2 := hX.mp q
      rw [bits_congr (σ 0 0) (q := fun i => dryB σ (σ 0 2) i && kndB σ 1 i) fun i hi => ?_]
      rw [Sd_dry σ hi, decide_eq_true q2.1, decide_eq_true q2.2]
      cases dryB σ (σ 0 2) i <;> rfl
    · rw [if_neg q, bits_z (σ 0 0) fun i hi => ?_]
      · rfl
      · rw [hX] at q
        rw [Bool.and_eq_false_iff]
        left
        rw [Bool.and_eq_false_iff]
        by_cases z : X σ (σ 7) (σ 0 2) (σ 10 x)
        · right; rw [decide_eq_false (fun y => q ⟨z, y⟩)]; rfl
        · left; rw [decide_eq_false z]; rfl
end O7
