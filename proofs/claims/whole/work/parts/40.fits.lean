/-! ===== how many bits; fits ===== -/
def cnt (p : Nat → Bool) : Nat → Nat
  | 0 => 0
  | n + 1 => cnt p n + (if p n = true then 1 else 0)
theorem cnt_congr {p q : Nat → Bool} : ∀ n, (∀ i, i < n → p i = q i) → cnt p n = cnt q n := by
  intro n
  induction n with
  | zero => intro _; rfl
  | succ n ih => intro h; unfold cnt; rw [ih (fun i hi => h i (by omega)), h n (by omega)]
theorem cnt_le (p : Nat → Bool) : ∀ n, cnt p n ≤ n := by
  intro n
  induction n with
  | zero => exact Nat.le_refl _
  | succ n ih => unfold cnt; split <;> omega
theorem cnt_ext (p : Nat → Bool) (n : Nat) : ∀ m, cnt (fun i => decide (i < n) && p i) (n + m) = cnt p n := by
  intro m
  induction m with
  | zero => exact cnt_congr n fun i hi => by simp [hi]
  | succ m ih =>
    show cnt (fun i => decide (i < n) && p i) (n + m) + (if (decide (n + m < n) && p (n + m)) = true then 1 else 0) = _
    rw [ih]
    have h : ¬ n + m < n := by omega
    simp [h]
def pc (x : Nat) : Nat := cnt (fun i => x.testBit i) 7
theorem pc_bits (p : Nat → Bool) {n : Nat} (h : n ≤ 7) : pc (bits p n) = cnt p n := by
  unfold pc
  have e := cnt_ext p n (7 - n)
  rw [show n + (7 - n) = 7 by omega] at e
  rw [← e]
  exact cnt_congr 7 fun i _ => bits_test p n i
def bcI (a : Int32) : Int32 := match M_J6_bitCount_0f7a4 0 a [] with
  | some (some (.int y), _) => y
  | _ => 0
theorem bc_eq (fu : Nat) (a : Int32) (w : XW) : U_J6_bitCount_0f7a4 fu [.int a] w = some (some (.int (bcI a)), w) := rfl
theorem bc_small : ∀ x, x < 128 → bcI (nI x) = nI (pc x) := by decide +kernel
theorem c_bitCount (fu : Nat) (w : XW) {x : Nat} (h : x < 128) : U_J6_bitCount_0f7a4 fu [.int (nI x)] w = some (some (.int (nI (pc x))), w) := by rw [bc_eq, bc_small x h]
theorem m_bitsOf {fu : Nat} (hfu : 1000 ≤ fu) (w : XW) {x : Nat} (h : x < 128) : U_X8_bitsOf fu [.int (nI x)] w = some (some (.int (nI (pc x))), w) := by
  have loop : ∀ m c n, c + m = 7 → m < n → F_X8_bitsOf fu n (nI x) (nI (cnt (fun i => x.testBit i) c)) (nI c) w = some (some (.int (nI (pc x))), w) := by
    intro m
    induction m with
    | zero =>
      intro c n hc hm
      obtain ⟨n, rfl⟩ : ∃ k, n = k + 1 := ⟨n - 1, by omega⟩
      have e : c = 7 := by omega
      subst e
      simp only [F_X8_bitsOf]
      rw [if_neg (by decide)]
      rfl
    | succ m ih =>
      intro c n hc hm
      obtain ⟨n, rfl⟩ : ∃ k, n = k + 1 := ⟨n - 1, by omega⟩
      have e7 : (nI c < 7) = (c < 7) := n_lt (by omega) (by decide)
      rw [F_X8_bitsOf]
      simp only [e7, bit_n (show x < 2147483648 by omega) (show c < 31 by omega), nI_add, nI_1]
      rw [if_pos (by omega)]
      exact ih (c + 1) n (by omega) (by omega)
  simp only [u_X8_bitsOf, M_X8_bitsOf]
  exact loop 7 0 fu (by omega) (by omega)
theorem n_all (x : Int32) : ∃ k, k < 4294967296 ∧ x = nI k := by
  refine ⟨x.toBitVec.toNat, x.toBitVec.isLt, ?_⟩
  unfold nI
  rw [← Int32.toBitVec_inj]
  simp
theorem n_z {y : Nat} (hy : y < 4294967296) (h : nI y = 0) : y = 0 := by
  have := congrArg (fun z => z.toBitVec.toNat) h
  unfold nI at this
  simp at this
  omega
theorem n_msk : ∀ n, n < 8 → (-1 : Int32) <<< (nI n &&& 31) = nI (2 ^ 32 - (2 ^ n - 1 + 1)) := by decide +kernel
theorem fits_in (x : Int32) {n : Nat} (hn : n ≤ 7) : (∃ j, j < 2 ^ n ∧ x = nI j ∧ x &&& ((-1 : Int32) <<< (nI n &&& 31)) = 0) ∨ (¬ (0 ≤ x ∧ x < nI (2 ^ n)) ∧ ¬ x &&& ((-1 : Int32) <<< (nI n &&& 31)) = 0) := by
  obtain ⟨k, hk, rfl⟩ := n_all x
  rw [n_msk n (by omega), n_and]
  have hpos : 0 < 2 ^ n := Nat.pos_of_ne_zero (by simp)
  have hp7 : 2 ^ n ≤ 128 := Nat.pow_le_pow_right (n := 2) (by omega) hn
  have tb : ∀ i, (2 ^ 32 - (2 ^ n - 1 + 1)).testBit i = (decide (i < 32) && !decide (i < n)) := fun i => by
    rw [Nat.testBit_two_pow_sub_succ (by omega), Nat.testBit_two_pow_sub_one]
  by_cases h : k < 2 ^ n
  · refine Or.inl ⟨k, h, rfl, ?_⟩
    have : k &&& (2 ^ 32 - (2 ^ n - 1 + 1)) = 0 := by
      apply Nat.eq_of_testBit_eq
      intro i
      rw [Nat.testBit_and, tb, Nat.zero_testBit]
      by_cases q : i < n
      · simp [q]
      · rw [Nat.testBit_lt_two_pow (Nat.lt_of_lt_of_le h (Nat.pow_le_pow_right (by omega) (by omega)))]
        rfl
    rw [this]
    rfl
  · have hz : ¬ nI (k &&& (2 ^ 32 - (2 ^ n - 1 + 1))) = 0 := by
      intro z
      have z0 := n_z (Nat.lt_of_le_of_lt Nat.and_le_left hk) z
      apply h
      apply Nat.lt_pow_two_of_testBit
      intro i hi
      have := congrArg (fun y => y.testBit i) z0
      simp only [Nat.testBit_and, tb, Nat.zero_testBit] at this
      by_cases q : i < 32
      · have q2 : ¬ i < n := by omega
        simpa [q, q2] using this
      · exact Nat.testBit_lt_two_pow (Nat.lt_of_lt_of_le (show k < 2 ^ 32 from hk) (Nat.pow_le_pow_right (n := 2) (by omega) (by omega)))
    refine Or.inr ⟨?_, hz⟩
    rintro ⟨a, b⟩
    rcases n_in (nI k) (n := 2 ^ n) (by omega) with ⟨j, hj, e⟩ | q
    · have := congrArg (fun z => z.toBitVec.toNat) e
      unfold nI at this
      simp at this
      omega
    · exact q ⟨a, b⟩
section O9
variable {σ : SG} {A : Nat → List Int32} {I : Nat → Nat → Int32} {fu : Nat}
theorem c_fits (hf : 1000 ≤ fu) {d j : Nat} (hd : d ≤ 30) (hj : j < 128) : ∀ m f n A I, f + m = 10 → m < n → RR σ A I → ∃ A1 I1, F_X7_fits fu n 1 (nI j) (nI d) (nI (bits (fun f => bits (fl σ (σ 7) (fun c => σ 9 c == 1) f d).1 (σ 0 0) == j) f)) (nI f) (enc A I) = some (some (.int (nI (bits (fun f => bits (fl σ (σ 7) (fun c => σ 9 c == 1) f d).1 (σ 0 0) == j) 10))), enc A1 I1) ∧ Fr A I A1 I1 := by
  intro m
  induction m with
  | zero =>
    intro f n A I hf0 hm r
    obtain ⟨n, rfl⟩ : ∃ k, n = k + 1 := ⟨n - 1, by omega⟩
    have e : f = 10 := by omega
    subst e
    refine ⟨A, I, ?_, Fr.rf A I⟩
    simp only [F_X7_fits]
    rw [if_neg (by decide)]
  | succ m ih =>
    intro f n A I hf0 hm r
    obtain ⟨n, rfl⟩ : ∃ k, n = k + 1 := ⟨n - 1, by omega⟩
    obtain ⟨A1, I1, g1, g2, g3⟩ := c_fl (fu := fu) hf r (show f ≤ 9 by omega) hd (fun c => σ 9 c == 1)
    obtain ⟨A2, I2, k1, k2⟩ := ih (f + 1) n A1 I1 (by omega) (by omega) (g2.R r)
    refine ⟨A2, I2, ?_, g2.tr k2⟩
    rw [← bits_step _ (show f < 31 by omega)] at k1
    have e10 : (nI f < 10) = (f < 10) := n_lt (by omega) (by decide)
    have hb := bits_ge (p := (fl σ (σ 7) (fun c => σ 9 c == 1) f d).1) r.n7
    rw [F_X7_fits]
    simp only [e10, io_1, gr_1_0, gr_1_1, gr_1_2, gr_1_3, gr_1_4, gr_1_5, gi_1_6, pf_1_6, gi_1_7, pf_1_7, io_2, gr_2_0, gr_2_1, gr_2_2, gr_2_3, gr_2_4, gr_2_5, gr_2_6, gr_2_7, gi_2_8, pf_2_8, gi_2_9, pf_2_9, gi_2_10, pf_2_10, gi_2_11, pf_2_11, gi_2_12, pf_2_12, gi_2_13, pf_2_13, gi_2_14, pf_2_14, io_11, gr_11_0, gr_11_1, gr_11_2, io_15, gr_15_0, gr_15_1, gi_15_2, pf_15_2, gi_15_3, pf_15_3, gi_15_4, pf_15_4, gi_15_5, pf_15_5, io_18, gr_18_0, gr_18_1, gi_18_2, pf_18_2, io_21, gr_21_0, gr_21_1, gr_21_2, gr_21_3, gi_21_4, pf_21_4, gi_21_5, pf_21_5, gi_21_6, pf_21_6, gi_21_7, pf_21_7, io_34, gr_34_0, gi_34_1, pf_34_1, io_36, gi_36_0, pf_36_0, gi_36_1, pf_36_1, gr_36_2, gr_36_3, gr_36_4, gi_36_5, pf_36_5, gi_36_6, pf_36_6, gi_36_7, pf_36_7, gr_36_8, gr_36_9, gr_36_10, gr_36_11, gi_36_12, pf_36_12, gi_36_13, pf_36_13, gi_36_14, pf_36_14, gr_36_15, gr_36_16, gi_36_17, pf_36_17, gr_36_18, gr_36_19, gr_36_20, gr_36_21, gr_36_22, gi_36_23, pf_36_23, gr_36_24, gr_36_25, gi_36_26, pf_36_26, gr_36_27, gr_36_28, gr_36_29, gr_36_30, gi_36_31, pf_36_31, gr_36_32, gr_36_33, gi_36_34, pf_36_34, gi_36_35, pf_36_35, gr_36_36, al_3, al_4, al_5, al_6, al_7, al_8, al_9, al_10, al_12, al_13, al_14, al_16, al_17, al_19, al_20, al_22, al_23, al_24, al_26, al_27, al_28, al_29, al_30, al_31, al_32, al_33, al_35, al_37, al_38, al_39, al_40, al_41, al_42, al_43, al_44, al_45, al_46, al_47, al_48, al_49, al_50, al_51, al_52, al_53, al_54, al_55, al_56, al_57, al_58, al_59, ↓reduceIte, Option.bind_some, cI_some, cL_some, cV_some, rz_0, rz_1, r.i2_10, g1, g3.2, n_eq (show bits (fl σ (σ 7) (fun c => σ 9 c == 1) f d).1 (σ 0 0) < 2147483648 by omega) (show j < 2147483648 by omega), nI_1]
    rw [if_pos (by omega)]
    by_cases q : bits (fl σ (σ 7) (fun c => σ 9 c == 1) f d).1 (σ 0 0) = j
    · rw [if_pos q]
      rw [if_pos (by simp [q])] at k1
      exact k1
    · rw [if_neg q]
      rw [if_neg (by simp [q])] at k1
      exact k1
theorem m_fits (hf : 1000 ≤ fu) {d j : Nat} (hd : d ≤ 30) (hj : j < 128) : ∀ m f n A I, f + m = 10 → m < n → RR σ A I → ∃ A1 I1, F_X8_fits fu n 36 (nI j) (nI d) (nI (bits (fun f => bits (fl σ (σ 7) (fun c => σ 9 c == 1) f d).1 (σ 0 0) == j) f)) (nI f) (enc A I) = some (some (.int (nI (bits (fun f => bits (fl σ (σ 7) (fun c => σ 9 c == 1) f d).1 (σ 0 0) == j) 10))), enc A1 I1) ∧ Fr A I A1 I1 := by
  intro m
  induction m with
  | zero =>
    intro f n A I hf0 hm r
    obtain ⟨n, rfl⟩ : ∃ k, n = k + 1 := ⟨n - 1, by omega⟩
    have e : f = 10 := by omega
    subst e
    refine ⟨A, I, ?_, Fr.rf A I⟩
    simp only [F_X8_fits]
    rw [if_neg (by decide)]
  | succ m ih =>
    intro f n A I hf0 hm r
    obtain ⟨n, rfl⟩ : ∃ k, n = k + 1 := ⟨n - 1, by omega⟩
    obtain ⟨A1, ⟨w, g1, g2⟩, g3, g4, g5, g6⟩ := q_fl (fu := fu) hf r.q (show f ≤ 9 by omega) hd r.hg
    have e := q_standing (fu := fu) hf g5 (R := σ 7) (st := (fl σ (σ 7) (fun c => σ 9 c == 1) f d).1) fun c hc => ⟨(g4 c hc).1, fl_st r.1 d hc⟩
    obtain ⟨A2, I2, k1, k2⟩ := ih (f + 1) n _ _ (by omega) (by omega) (g6.R r)
    refine ⟨A2, I2, ?_, g6.tr k2⟩
    rw [← bits_stepO _ (show f < 31 by omega)] at k1
    have e10 : (nI f < 10) = (f < 10) := n_lt (by omega) (by decide)
    have hb := bits_ge (p := (fl σ (σ 7) (fun c => σ 9 c == 1) f d).1) r.n7
    rw [F_X8_fits]
    simp only [e10, io_1, gr_1_0, gr_1_1, gr_1_2, gr_1_3, gr_1_4, gr_1_5, gi_1_6, pf_1_6, gi_1_7, pf_1_7, io_2, gr_2_0, gr_2_1, gr_2_2, gr_2_3, gr_2_4, gr_2_5, gr_2_6, gr_2_7, gi_2_8, pf_2_8, gi_2_9, pf_2_9, gi_2_10, pf_2_10, gi_2_11, pf_2_11, gi_2_12, pf_2_12, gi_2_13, pf_2_13, gi_2_14, pf_2_14, io_11, gr_11_0, gr_11_1, gr_11_2, io_15, gr_15_0, gr_15_1, gi_15_2, pf_15_2, gi_15_3, pf_15_3, gi_15_4, pf_15_4, gi_15_5, pf_15_5, io_18, gr_18_0, gr_18_1, gi_18_2, pf_18_2, io_21, gr_21_0, gr_21_1, gr_21_2, gr_21_3, gi_21_4, pf_21_4, gi_21_5, pf_21_5, gi_21_6, pf_21_6, gi_21_7, pf_21_7, io_34, gr_34_0, gi_34_1, pf_34_1, io_36, gi_36_0, pf_36_0, gi_36_1, pf_36_1, gr_36_2, gr_36_3, gr_36_4, gi_36_5, pf_36_5, gi_36_6, pf_36_6, gi_36_7, pf_36_7, gr_36_8, gr_36_9, gr_36_10, gr_36_11, gi_36_12, pf_36_12, gi_36_13, pf_36_13, gi_36_14, pf_36_14, gr_36_15, gr_36_16, gi_36_17, pf_36_17, gr_36_18, gr_36_19, gr_36_20, gr_36_21, gr_36_22, gi_36_23, pf_36_23, gr_36_24, gr_36_25, gi_36_26, pf_36_26, gr_36_27, gr_36_28, gr_36_29, gr_36_30, gi_36_31, pf_36_31, gr_36_32, gr_36_33, gi_36_34, pf_36_34, gi_36_35, pf_36_35, gr_36_36, al_3, al_4, al_5, al_6, al_7, al_8, al_9, al_10, al_12, al_13, al_14, al_16, al_17, al_19, al_20, al_22, al_23, al_24, al_26, al_27, al_28, al_29, al_30, al_31, al_32, al_33, al_35, al_37, al_38, al_39, al_40, al_41, al_42, al_43, al_44, al_45, al_46, al_47, al_48, al_49, al_50, al_51, al_52, al_53, al_54, al_55, al_56, al_57, al_58, al_59, ↓reduceIte, Option.bind_some, cI_some, cL_some, cV_some, rz_0, rz_1, g1, g2, e, n_eq (show bits (fl σ (σ 7) (fun c => σ 9 c == 1) f d).1 (σ 0 0) < 2147483648 by omega) (show j < 2147483648 by omega), nI_1]
    rw [if_pos (by omega)]
    by_cases q : bits (fl σ (σ 7) (fun c => σ 9 c == 1) f d).1 (σ 0 0) = j
    · rw [if_pos q]
      rw [if_pos (by simp [q])] at k1
      exact k1
    · rw [if_neg q]
      rw [if_neg (by simp [q])] at k1
      exact k1
theorem op_fits (hf : 1000 ≤ fu) (r : RR σ A I) (x y : Int32) : OP (U_X7_fits fu) (U_X8_fits fu) [.ref 1, .int x, .int y] [.ref 36, .int x, .int y] A I := by
  have hn := r.n7
  have h10 : ¬ (1 : Int32) = 0 := by decide
  have hp7 : 2 ^ σ 0 0 ≤ 128 := Nat.pow_le_pow_right (n := 2) (by omega) hn
  rcases fits_in x hn with ⟨j, hj, rfl, hz⟩ | ⟨h1, h2⟩
  rotate_left
  · refine OP.q0 (v := -2) r ?_ ?_
    · simp only [u_X7_fits, M_X7_fits, io_1, gr_1_0, gr_1_1, gr_1_2, gr_1_3, gr_1_4, gr_1_5, gi_1_6, pf_1_6, gi_1_7, pf_1_7, io_2, gr_2_0, gr_2_1, gr_2_2, gr_2_3, gr_2_4, gr_2_5, gr_2_6, gr_2_7, gi_2_8, pf_2_8, gi_2_9, pf_2_9, gi_2_10, pf_2_10, gi_2_11, pf_2_11, gi_2_12, pf_2_12, gi_2_13, pf_2_13, gi_2_14, pf_2_14, io_11, gr_11_0, gr_11_1, gr_11_2, io_15, gr_15_0, gr_15_1, gi_15_2, pf_15_2, gi_15_3, pf_15_3, gi_15_4, pf_15_4, gi_15_5, pf_15_5, io_18, gr_18_0, gr_18_1, gi_18_2, pf_18_2, io_21, gr_21_0, gr_21_1, gr_21_2, gr_21_3, gi_21_4, pf_21_4, gi_21_5, pf_21_5, gi_21_6, pf_21_6, gi_21_7, pf_21_7, io_34, gr_34_0, gi_34_1, pf_34_1, io_36, gi_36_0, pf_36_0, gi_36_1, pf_36_1, gr_36_2, gr_36_3, gr_36_4, gi_36_5, pf_36_5, gi_36_6, pf_36_6, gi_36_7, pf_36_7, gr_36_8, gr_36_9, gr_36_10, gr_36_11, gi_36_12, pf_36_12, gi_36_13, pf_36_13, gi_36_14, pf_36_14, gr_36_15, gr_36_16, gi_36_17, pf_36_17, gr_36_18, gr_36_19, gr_36_20, gr_36_21, gr_36_22, gi_36_23, pf_36_23, gr_36_24, gr_36_25, gi_36_26, pf_36_26, gr_36_27, gr_36_28, gr_36_29, gr_36_30, gi_36_31, pf_36_31, gr_36_32, gr_36_33, gi_36_34, pf_36_34, gi_36_35, pf_36_35, gr_36_36, al_3, al_4, al_5, al_6, al_7, al_8, al_9, al_10, al_12, al_13, al_14, al_16, al_17, al_19, al_20, al_22, al_23, al_24, al_26, al_27, al_28, al_29, al_30, al_31, al_32, al_33, al_35, al_37, al_38, al_39, al_40, al_41, al_42, al_43, al_44, al_45, al_46, al_47, al_48, al_49, al_50, al_51, al_52, al_53, al_54, al_55, al_56, al_57, al_58, al_59, ↓reduceIte, Option.bind_some, cI_some, cL_some, cV_some, rz_0, rz_1, r.i2_8, if_neg h2]
    · simp only [u_X8_fits, M_X8_fits, io_1, gr_1_0, gr_1_1, gr_1_2, gr_1_3, gr_1_4, gr_1_5, gi_1_6, pf_1_6, gi_1_7, pf_1_7, io_2, gr_2_0, gr_2_1, gr_2_2, gr_2_3, gr_2_4, gr_2_5, gr_2_6, gr_2_7, gi_2_8, pf_2_8, gi_2_9, pf_2_9, gi_2_10, pf_2_10, gi_2_11, pf_2_11, gi_2_12, pf_2_12, gi_2_13, pf_2_13, gi_2_14, pf_2_14, io_11, gr_11_0, gr_11_1, gr_11_2, io_15, gr_15_0, gr_15_1, gi_15_2, pf_15_2, gi_15_3, pf_15_3, gi_15_4, pf_15_4, gi_15_5, pf_15_5, io_18, gr_18_0, gr_18_1, gi_18_2, pf_18_2, io_21, gr_21_0, gr_21_1, gr_21_2, gr_21_3, gi_21_4, pf_21_4, gi_21_5, pf_21_5, gi_21_6, pf_21_6, gi_21_7, pf_21_7, io_34, gr_34_0, gi_34_1, pf_34_1, io_36, gi_36_0, pf_36_0, gi_36_1, pf_36_1, gr_36_2, gr_36_3, gr_36_4, gi_36_5, pf_36_5, gi_36_6, pf_36_6, gi_36_7, pf_36_7, gr_36_8, gr_36_9, gr_36_10, gr_36_11, gi_36_12, pf_36_12, gi_36_13, pf_36_13, gi_36_14, pf_36_14, gr_36_15, gr_36_16, gi_36_17, pf_36_17, gr_36_18, gr_36_19, gr_36_20, gr_36_21, gr_36_22, gi_36_23, pf_36_23, gr_36_24, gr_36_25, gi_36_26, pf_36_26, gr_36_27, gr_36_28, gr_36_29, gr_36_30, gi_36_31, pf_36_31, gr_36_32, gr_36_33, gi_36_34, pf_36_34, gi_36_35, pf_36_35, gr_36_36, al_3, al_4, al_5, al_6, al_7, al_8, al_9, al_10, al_12, al_13, al_14, al_16, al_17, al_19, al_20, al_22, al_23, al_24, al_26, al_27, al_28, al_29, al_30, al_31, al_32, al_33, al_35, al_37, al_38, al_39, al_40, al_41, al_42, al_43, al_44, al_45, al_46, al_47, al_48, al_49, al_50, al_51, al_52, al_53, al_54, al_55, al_56, al_57, al_58, al_59, ↓reduceIte, Option.bind_some, cI_some, cL_some, cV_some, rz_0, rz_1, r.i36_5, sh_1 (show σ 0 0 < 31 by omega)]
      by_cases q : x < 0
      · rw [if_pos q]
      · rw [if_neg q, if_neg (fun z => h1 ⟨Int32.not_lt.mp q, z⟩)]
  rcases n_rng y (a := 0) (b := 30) (by omega) (by omega) with ⟨d, _, hd, rfl⟩ | h
  rotate_left
  · refine OP.q0 (v := -2) r ?_ ?_
    · simp only [u_X7_fits, M_X7_fits, io_1, gr_1_0, gr_1_1, gr_1_2, gr_1_3, gr_1_4, gr_1_5, gi_1_6, pf_1_6, gi_1_7, pf_1_7, io_2, gr_2_0, gr_2_1, gr_2_2, gr_2_3, gr_2_4, gr_2_5, gr_2_6, gr_2_7, gi_2_8, pf_2_8, gi_2_9, pf_2_9, gi_2_10, pf_2_10, gi_2_11, pf_2_11, gi_2_12, pf_2_12, gi_2_13, pf_2_13, gi_2_14, pf_2_14, io_11, gr_11_0, gr_11_1, gr_11_2, io_15, gr_15_0, gr_15_1, gi_15_2, pf_15_2, gi_15_3, pf_15_3, gi_15_4, pf_15_4, gi_15_5, pf_15_5, io_18, gr_18_0, gr_18_1, gi_18_2, pf_18_2, io_21, gr_21_0, gr_21_1, gr_21_2, gr_21_3, gi_21_4, pf_21_4, gi_21_5, pf_21_5, gi_21_6, pf_21_6, gi_21_7, pf_21_7, io_34, gr_34_0, gi_34_1, pf_34_1, io_36, gi_36_0, pf_36_0, gi_36_1, pf_36_1, gr_36_2, gr_36_3, gr_36_4, gi_36_5, pf_36_5, gi_36_6, pf_36_6, gi_36_7, pf_36_7, gr_36_8, gr_36_9, gr_36_10, gr_36_11, gi_36_12, pf_36_12, gi_36_13, pf_36_13, gi_36_14, pf_36_14, gr_36_15, gr_36_16, gi_36_17, pf_36_17, gr_36_18, gr_36_19, gr_36_20, gr_36_21, gr_36_22, gi_36_23, pf_36_23, gr_36_24, gr_36_25, gi_36_26, pf_36_26, gr_36_27, gr_36_28, gr_36_29, gr_36_30, gi_36_31, pf_36_31, gr_36_32, gr_36_33, gi_36_34, pf_36_34, gi_36_35, pf_36_35, gr_36_36, al_3, al_4, al_5, al_6, al_7, al_8, al_9, al_10, al_12, al_13, al_14, al_16, al_17, al_19, al_20, al_22, al_23, al_24, al_26, al_27, al_28, al_29, al_30, al_31, al_32, al_33, al_35, al_37, al_38, al_39, al_40, al_41, al_42, al_43, al_44, al_45, al_46, al_47, al_48, al_49, al_50, al_51, al_52, al_53, al_54, al_55, al_56, al_57, al_58, al_59, ↓reduceIte, Option.bind_some, cI_some, cL_some, cV_some, rz_0, rz_1, r.i2_8, if_pos hz, c_within, bI_f (show ¬ (0 ≤ y ∧ y ≤ 30) from h)]
    · simp only [u_X8_fits, M_X8_fits, io_1, gr_1_0, gr_1_1, gr_1_2, gr_1_3, gr_1_4, gr_1_5, gi_1_6, pf_1_6, gi_1_7, pf_1_7, io_2, gr_2_0, gr_2_1, gr_2_2, gr_2_3, gr_2_4, gr_2_5, gr_2_6, gr_2_7, gi_2_8, pf_2_8, gi_2_9, pf_2_9, gi_2_10, pf_2_10, gi_2_11, pf_2_11, gi_2_12, pf_2_12, gi_2_13, pf_2_13, gi_2_14, pf_2_14, io_11, gr_11_0, gr_11_1, gr_11_2, io_15, gr_15_0, gr_15_1, gi_15_2, pf_15_2, gi_15_3, pf_15_3, gi_15_4, pf_15_4, gi_15_5, pf_15_5, io_18, gr_18_0, gr_18_1, gi_18_2, pf_18_2, io_21, gr_21_0, gr_21_1, gr_21_2, gr_21_3, gi_21_4, pf_21_4, gi_21_5, pf_21_5, gi_21_6, pf_21_6, gi_21_7, pf_21_7, io_34, gr_34_0, gi_34_1, pf_34_1, io_36, gi_36_0, pf_36_0, gi_36_1, pf_36_1, gr_36_2, gr_36_3, gr_36_4, gi_36_5, pf_36_5, gi_36_6, pf_36_6, gi_36_7, pf_36_7, gr_36_8, gr_36_9, gr_36_10, gr_36_11, gi_36_12, pf_36_12, gi_36_13, pf_36_13, gi_36_14, pf_36_14, gr_36_15, gr_36_16, gi_36_17, pf_36_17, gr_36_18, gr_36_19, gr_36_20, gr_36_21, gr_36_22, gi_36_23, pf_36_23, gr_36_24, gr_36_25, gi_36_26, pf_36_26, gr_36_27, gr_36_28, gr_36_29, gr_36_30, gi_36_31, pf_36_31, gr_36_32, gr_36_33, gi_36_34, pf_36_34, gi_36_35, pf_36_35, gr_36_36, al_3, al_4, al_5, al_6, al_7, al_8, al_9, al_10, al_12, al_13, al_14, al_16, al_17, al_19, al_20, al_22, al_23, al_24, al_26, al_27, al_28, al_29, al_30, al_31, al_32, al_33, al_35, al_37, al_38, al_39, al_40, al_41, al_42, al_43, al_44, al_45, al_46, al_47, al_48, al_49, al_50, al_51, al_52, al_53, al_54, al_55, al_56, al_57, al_58, al_59, ↓reduceIte, Option.bind_some, cI_some, cL_some, cV_some, rz_0, rz_1, r.i36_5, sh_1 (show σ 0 0 < 31 by omega), n_neg (show j < 2147483648 by omega), if_false, n_lt (show j < 2147483648 by omega) (show 2 ^ σ 0 0 < 2147483648 by omega), if_pos hj, m_within, bI_f (show ¬ (0 ≤ y ∧ y ≤ 30) from h)]
  have ht : bI (0 ≤ nI d ∧ nI d ≤ 30) = 1 := bI_t (n_rin (b := 30) (Nat.zero_le d) hd (by decide))
  by_cases h0 : σ 0 0 = 0
  · refine OP.q0 (v := -3) r ?_ ?_
    · simp only [u_X7_fits, M_X7_fits, io_1, gr_1_0, gr_1_1, gr_1_2, gr_1_3, gr_1_4, gr_1_5, gi_1_6, pf_1_6, gi_1_7, pf_1_7, io_2, gr_2_0, gr_2_1, gr_2_2, gr_2_3, gr_2_4, gr_2_5, gr_2_6, gr_2_7, gi_2_8, pf_2_8, gi_2_9, pf_2_9, gi_2_10, pf_2_10, gi_2_11, pf_2_11, gi_2_12, pf_2_12, gi_2_13, pf_2_13, gi_2_14, pf_2_14, io_11, gr_11_0, gr_11_1, gr_11_2, io_15, gr_15_0, gr_15_1, gi_15_2, pf_15_2, gi_15_3, pf_15_3, gi_15_4, pf_15_4, gi_15_5, pf_15_5, io_18, gr_18_0, gr_18_1, gi_18_2, pf_18_2, io_21, gr_21_0, gr_21_1, gr_21_2, gr_21_3, gi_21_4, pf_21_4, gi_21_5, pf_21_5, gi_21_6, pf_21_6, gi_21_7, pf_21_7, io_34, gr_34_0, gi_34_1, pf_34_1, io_36, gi_36_0, pf_36_0, gi_36_1, pf_36_1, gr_36_2, gr_36_3, gr_36_4, gi_36_5, pf_36_5, gi_36_6, pf_36_6, gi_36_7, pf_36_7, gr_36_8, gr_36_9, gr_36_10, gr_36_11, gi_36_12, pf_36_12, gi_36_13, pf_36_13, gi_36_14, pf_36_14, gr_36_15, gr_36_16, gi_36_17, pf_36_17, gr_36_18, gr_36_19, gr_36_20, gr_36_21, gr_36_22, gi_36_23, pf_36_23, gr_36_24, gr_36_25, gi_36_26, pf_36_26, gr_36_27, gr_36_28, gr_36_29, gr_36_30, gi_36_31, pf_36_31, gr_36_32, gr_36_33, gi_36_34, pf_36_34, gi_36_35, pf_36_35, gr_36_36, al_3, al_4, al_5, al_6, al_7, al_8, al_9, al_10, al_12, al_13, al_14, al_16, al_17, al_19, al_20, al_22, al_23, al_24, al_26, al_27, al_28, al_29, al_30, al_31, al_32, al_33, al_35, al_37, al_38, al_39, al_40, al_41, al_42, al_43, al_44, al_45, al_46, al_47, al_48, al_49, al_50, al_51, al_52, al_53, al_54, al_55, al_56, al_57, al_58, al_59, ↓reduceIte, Option.bind_some, cI_some, cL_some, cV_some, rz_0, rz_1, r.i2_8, if_pos hz, c_within, ht, if_neg h10, c_isThere, bI_0, nI_0lt (show σ 0 0 < 2147483648 by omega)]
      rw [if_pos (by omega)]
    · simp only [u_X8_fits, M_X8_fits, io_1, gr_1_0, gr_1_1, gr_1_2, gr_1_3, gr_1_4, gr_1_5, gi_1_6, pf_1_6, gi_1_7, pf_1_7, io_2, gr_2_0, gr_2_1, gr_2_2, gr_2_3, gr_2_4, gr_2_5, gr_2_6, gr_2_7, gi_2_8, pf_2_8, gi_2_9, pf_2_9, gi_2_10, pf_2_10, gi_2_11, pf_2_11, gi_2_12, pf_2_12, gi_2_13, pf_2_13, gi_2_14, pf_2_14, io_11, gr_11_0, gr_11_1, gr_11_2, io_15, gr_15_0, gr_15_1, gi_15_2, pf_15_2, gi_15_3, pf_15_3, gi_15_4, pf_15_4, gi_15_5, pf_15_5, io_18, gr_18_0, gr_18_1, gi_18_2, pf_18_2, io_21, gr_21_0, gr_21_1, gr_21_2, gr_21_3, gi_21_4, pf_21_4, gi_21_5, pf_21_5, gi_21_6, pf_21_6, gi_21_7, pf_21_7, io_34, gr_34_0, gi_34_1, pf_34_1, io_36, gi_36_0, pf_36_0, gi_36_1, pf_36_1, gr_36_2, gr_36_3, gr_36_4, gi_36_5, pf_36_5, gi_36_6, pf_36_6, gi_36_7, pf_36_7, gr_36_8, gr_36_9, gr_36_10, gr_36_11, gi_36_12, pf_36_12, gi_36_13, pf_36_13, gi_36_14, pf_36_14, gr_36_15, gr_36_16, gi_36_17, pf_36_17, gr_36_18, gr_36_19, gr_36_20, gr_36_21, gr_36_22, gi_36_23, pf_36_23, gr_36_24, gr_36_25, gi_36_26, pf_36_26, gr_36_27, gr_36_28, gr_36_29, gr_36_30, gi_36_31, pf_36_31, gr_36_32, gr_36_33, gi_36_34, pf_36_34, gi_36_35, pf_36_35, gr_36_36, al_3, al_4, al_5, al_6, al_7, al_8, al_9, al_10, al_12, al_13, al_14, al_16, al_17, al_19, al_20, al_22, al_23, al_24, al_26, al_27, al_28, al_29, al_30, al_31, al_32, al_33, al_35, al_37, al_38, al_39, al_40, al_41, al_42, al_43, al_44, al_45, al_46, al_47, al_48, al_49, al_50, al_51, al_52, al_53, al_54, al_55, al_56, al_57, al_58, al_59, ↓reduceIte, Option.bind_some, cI_some, cL_some, cV_some, rz_0, rz_1, r.i36_5, sh_1 (show σ 0 0 < 31 by omega), n_neg (show j < 2147483648 by omega), if_false, n_lt (show j < 2147483648 by omega) (show 2 ^ σ 0 0 < 2147483648 by omega), if_pos hj, m_within, ht, if_neg h10, nI_pe0 (show σ 0 0 < 2147483648 by omega)]
      rw [if_pos h0]
  refine OP.q (v := nI (bits (fun f => bits (fl σ (σ 7) (fun c => σ 9 c == 1) f d).1 (σ 0 0) == j) 10)) r ?_ fun A1 I1 r1 => ?_
  · obtain ⟨A1, I1, g1, g2⟩ := c_fits (σ := σ) (fu := fu) hf hd (show j < 128 by omega) 10 0 fu A I (by omega) (by omega) r
    refine ⟨A1, I1, ?_, g2⟩
    simp only [u_X7_fits, M_X7_fits, io_1, gr_1_0, gr_1_1, gr_1_2, gr_1_3, gr_1_4, gr_1_5, gi_1_6, pf_1_6, gi_1_7, pf_1_7, io_2, gr_2_0, gr_2_1, gr_2_2, gr_2_3, gr_2_4, gr_2_5, gr_2_6, gr_2_7, gi_2_8, pf_2_8, gi_2_9, pf_2_9, gi_2_10, pf_2_10, gi_2_11, pf_2_11, gi_2_12, pf_2_12, gi_2_13, pf_2_13, gi_2_14, pf_2_14, io_11, gr_11_0, gr_11_1, gr_11_2, io_15, gr_15_0, gr_15_1, gi_15_2, pf_15_2, gi_15_3, pf_15_3, gi_15_4, pf_15_4, gi_15_5, pf_15_5, io_18, gr_18_0, gr_18_1, gi_18_2, pf_18_2, io_21, gr_21_0, gr_21_1, gr_21_2, gr_21_3, gi_21_4, pf_21_4, gi_21_5, pf_21_5, gi_21_6, pf_21_6, gi_21_7, pf_21_7, io_34, gr_34_0, gi_34_1, pf_34_1, io_36, gi_36_0, pf_36_0, gi_36_1, pf_36_1, gr_36_2, gr_36_3, gr_36_4, gi_36_5, pf_36_5, gi_36_6, pf_36_6, gi_36_7, pf_36_7, gr_36_8, gr_36_9, gr_36_10, gr_36_11, gi_36_12, pf_36_12, gi_36_13, pf_36_13, gi_36_14, pf_36_14, gr_36_15, gr_36_16, gi_36_17, pf_36_17, gr_36_18, gr_36_19, gr_36_20, gr_36_21, gr_36_22, gi_36_23, pf_36_23, gr_36_24, gr_36_25, gi_36_26, pf_36_26, gr_36_27, gr_36_28, gr_36_29, gr_36_30, gi_36_31, pf_36_31, gr_36_32, gr_36_33, gi_36_34, pf_36_34, gi_36_35, pf_36_35, gr_36_36, al_3, al_4, al_5, al_6, al_7, al_8, al_9, al_10, al_12, al_13, al_14, al_16, al_17, al_19, al_20, al_22, al_23, al_24, al_26, al_27, al_28, al_29, al_30, al_31, al_32, al_33, al_35, al_37, al_38, al_39, al_40, al_41, al_42, al_43, al_44, al_45, al_46, al_47, al_48, al_49, al_50, al_51, al_52, al_53, al_54, al_55, al_56, al_57, al_58, al_59, ↓reduceIte, Option.bind_some, cI_some, cL_some, cV_some, rz_0, rz_1, r.i2_8, if_pos hz, c_within, ht, if_neg h10, c_isThere, bI_0, nI_0lt (show σ 0 0 < 2147483648 by omega)]
    rw [if_neg (by omega)]
    exact g1
  · obtain ⟨A2, I2, g1, g2⟩ := m_fits (σ := σ) (fu := fu) hf hd (show j < 128 by omega) 10 0 fu A1 I1 (by omega) (by omega) r1
    refine ⟨A2, I2, ?_, g2⟩
    simp only [u_X8_fits, M_X8_fits, io_1, gr_1_0, gr_1_1, gr_1_2, gr_1_3, gr_1_4, gr_1_5, gi_1_6, pf_1_6, gi_1_7, pf_1_7, io_2, gr_2_0, gr_2_1, gr_2_2, gr_2_3, gr_2_4, gr_2_5, gr_2_6, gr_2_7, gi_2_8, pf_2_8, gi_2_9, pf_2_9, gi_2_10, pf_2_10, gi_2_11, pf_2_11, gi_2_12, pf_2_12, gi_2_13, pf_2_13, gi_2_14, pf_2_14, io_11, gr_11_0, gr_11_1, gr_11_2, io_15, gr_15_0, gr_15_1, gi_15_2, pf_15_2, gi_15_3, pf_15_3, gi_15_4, pf_15_4, gi_15_5, pf_15_5, io_18, gr_18_0, gr_18_1, gi_18_2, pf_18_2, io_21, gr_21_0, gr_21_1, gr_21_2, gr_21_3, gi_21_4, pf_21_4, gi_21_5, pf_21_5, gi_21_6, pf_21_6, gi_21_7, pf_21_7, io_34, gr_34_0, gi_34_1, pf_34_1, io_36, gi_36_0, pf_36_0, gi_36_1, pf_36_1, gr_36_2, gr_36_3, gr_36_4, gi_36_5, pf_36_5, gi_36_6, pf_36_6, gi_36_7, pf_36_7, gr_36_8, gr_36_9, gr_36_10, gr_36_11, gi_36_12, pf_36_12, gi_36_13, pf_36_13, gi_36_14, pf_36_14, gr_36_15, gr_36_16, gi_36_17, pf_36_17, gr_36_18, gr_36_19, gr_36_20, gr_36_21, gr_36_22, gi_36_23, pf_36_23, gr_36_24, gr_36_25, gi_36_26, pf_36_26, gr_36_27, gr_36_28, gr_36_29, gr_36_30, gi_36_31, pf_36_31, gr_36_32, gr_36_33, gi_36_34, pf_36_34, gi_36_35, pf_36_35, gr_36_36, al_3, al_4, al_5, al_6, al_7, al_8, al_9, al_10, al_12, al_13, al_14, al_16, al_17, al_19, al_20, al_22, al_23, al_24, al_26, al_27, al_28, al_29, al_30, al_31, al_32, al_33, al_35, al_37, al_38, al_39, al_40, al_41, al_42, al_43, al_44, al_45, al_46, al_47, al_48, al_49, al_50, al_51, al_52, al_53, al_54, al_55, al_56, al_57, al_58, al_59, ↓reduceIte, Option.bind_some, cI_some, cL_some, cV_some, rz_0, rz_1, r1.i36_5, sh_1 (show σ 0 0 < 31 by omega), n_neg (show j < 2147483648 by omega), if_false, n_lt (show j < 2147483648 by omega) (show 2 ^ σ 0 0 < 2147483648 by omega), if_pos hj, m_within, ht, if_neg h10, nI_pe0 (show σ 0 0 < 2147483648 by omega)]
    rw [if_neg h0]
    exact g1
end O9
