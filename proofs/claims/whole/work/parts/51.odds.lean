/-! ===== odds: the arithmetic ===== -/
theorem mod_half {r x : Nat} (hx : 0 < x) (h : x ≤ r) : 2 * (r % x) < r := by
  have h1 := Nat.div_add_mod r x
  have h2 : 1 ≤ r / x := (Nat.le_div_iff_mul_le hx).mpr (by omega)
  have h3 : x * 1 ≤ x * (r / x) := Nat.mul_le_mul_left x h2
  have h4 := Nat.mod_lt r hx
  omega
theorem st_comD (fu n : Nat) (a2 a3 a4 : Int32) (w : XW) : F_X7_commonDivisor fu (n + 1) a2 a3 a4 w = if a4 < 64 then (if a3 = 0 then some (some (.int a2), w) else if a3 = 0 then none else F_X7_commonDivisor fu n a3 (a2 - a2 / a3 * a3) (a4 + 1) w) else some (some (.int a2), w) := by
  rw [F_X7_commonDivisor]
theorem st_com8 (fu n : Nat) (a4 a6 : Int64) (w : XW) : F_X8_common fu (n + 1) a4 a6 w = if (lg_cmp a6 (0 : Int64)) = 0 then some (some (.long a4), w) else if a6 = 0 then none else F_X8_common fu n a6 (a4 - a4 / a6 * a6) w := by
  rw [F_X8_common]
theorem c_comD {fu : Nat} (w : XW) : ∀ k r g t n, r < 2 ^ k → g < 2147483648 → r < 2147483648 → t + 2 * k ≤ 64 → 2 * k < n → F_X7_commonDivisor fu n (nI g) (nI r) (nI t) w = some (some (.int (nI (Nat.gcd r g))), w) := by
  intro k
  induction k with
  | zero =>
    intro r g t n hr hg hr2 ht hn
    have h0 : r = 0 := by rw [Nat.pow_zero] at hr; omega
    subst h0
    obtain ⟨n, rfl⟩ : ∃ j, n = j + 1 := ⟨n - 1, by omega⟩
    rw [st_comD, Nat.gcd_zero_left]
    by_cases h : nI t < 64
    · rw [if_pos h, if_pos (show nI 0 = 0 from rfl)]
    · rw [if_neg h]
  | succ k ih =>
    intro r g t n hr hg hr2 ht hn
    obtain ⟨n, rfl⟩ : ∃ j, n = j + 2 := ⟨n - 2, by omega⟩
    have e64 : ∀ t, t < 64 → nI t < 64 := fun t h => nI_lt h (by decide)
    rw [st_comD, if_pos (e64 t (by omega))]
    by_cases h : r = 0
    · subst h
      rw [if_pos (show nI 0 = 0 from rfl), Nat.gcd_zero_left]
    · have h0 : ∀ r, r ≠ 0 → r < 2147483648 → ¬ nI r = 0 := fun r h h2 => by rw [nI_pe0 h2]; exact h
      have hx := Nat.mod_lt g (show 0 < r by omega)
      rw [if_neg (h0 r h hr2), if_neg (h0 r h hr2), pk_rem hg (by omega) hr2, nI_1, Nat.gcd_rec r g]
      rw [st_comD, if_pos (e64 (t + 1) (by omega))]
      by_cases h3 : g % r = 0
      · rw [h3, if_pos (show nI 0 = 0 from rfl), Nat.gcd_zero_left]
      · have hx2 := Nat.mod_lt r (show 0 < g % r by omega)
        have hh := mod_half (show 0 < g % r by omega) (show g % r ≤ r by omega)
        rw [if_neg (h0 _ h3 (by omega)), if_neg (h0 _ h3 (by omega)), pk_rem hr2 (by omega) (by omega), nI_1, Nat.gcd_rec (g % r) r]
        rw [Nat.pow_succ] at hr
        exact ih _ _ _ n (by omega) (by omega) (by omega) (by omega) (by omega)
theorem m_comD {fu : Nat} (w : XW) : ∀ n a b, b < n → a < 2 ^ 31 → b < 2 ^ 31 → F_X8_common fu n (lN a) (lN b) w = some (some (.long (lN (Nat.gcd b a))), w) := by
  intro n
  induction n with
  | zero => intro a b h; omega
  | succ n ih =>
    intro a b hn ha hb
    have e0 : ((0 : Int64)) = lN 0 := rfl
    rw [st_com8]
    simp only [lg_cmp_eq, e0, lN_eq hb (show 0 < 2 ^ 31 by decide)]
    by_cases h : b = 0
    · subst h; rw [if_pos rfl, Nat.gcd_zero_left]
    · have hx := Nat.mod_lt a (show 0 < b by omega)
      rw [if_neg h, if_neg h, pk_lRem (by omega) (by omega) (by omega), Nat.gcd_rec b a]
      exact ih _ _ (by omega) hb (by omega)
theorem sm_99 {v : Nat → Nat} : ∀ n, (∀ k, k < n → v k ≤ 99) → sm v n ≤ n * 99 := by
  intro n
  induction n with
  | zero => intro _; exact Nat.zero_le _
  | succ n ih => intro h; have := ih (fun i hi => h i (by omega)); have := h n (by omega); unfold sm; omega
section Q2
variable {σ : SG} {A : Nat → List Int32} {I : Nat → Nat → Int32} {fu : Nat}
theorem RR.f320 (r : RR σ A I) (x : Int32) : RR σ A (uI I 36 0 x) := by
  refine r.she (fun _ _ _ _ _ _ _ => rfl) (fun _ => rfl) (fun a b h1 h2 => ?_) (RS.of r.rs.1 rfl fun q hq => r.rs.o hq)
  unfold uI
  rw [if_neg (fun w => h2 ⟨w.1, Or.inl w.2⟩)]
theorem c_sum10 (hL : LEN A) {q i : Nat} (h : 60 * q + i + 10 ≤ 240) {v : Nat → Nat} (hv : ∀ k, k < 10 → rd (A 14) (60 * q + i + k) = nI (v k)) : ∀ m k n, k + m = 10 → m < n → F_X4_sum fu n 11 (nI q) (nI i) (nI 10) (nI (sm v k)) (nI (i + k)) (enc A I) = some (some (.int (nI (sm v 10))), enc A I) := by
  intro m
  induction m with
  | zero =>
    intro k n hk hn
    obtain ⟨n, rfl⟩ : ∃ j, n = j + 1 := ⟨n - 1, by omega⟩
    simp only [F_X4_sum, nI_add, n_lt (show i + k < 2147483648 by omega) (show i + 10 < 2147483648 by omega)]
    rw [if_neg (by omega), show k = 10 by omega]
  | succ m ih =>
    intro k n hk hn
    obtain ⟨n, rfl⟩ : ∃ j, n = j + 1 := ⟨n - 1, by omega⟩
    have e := ih (k + 1) n (by omega) (by omega)
    have ca := c_at (fu := fu) (I := I) hL (show 60 * q + (i + k) < 240 by omega)
    rw [← Nat.add_assoc, hv k (by omega)] at ca
    simp only [F_X4_sum, nI_add, n_lt (show i + k < 2147483648 by omega) (show i + 10 < 2147483648 by omega), ca, io_1, gr_1_0, gr_1_1, gr_1_2, gr_1_3, gr_1_4, gr_1_5, gi_1_6, pf_1_6, gi_1_7, pf_1_7, io_2, gr_2_0, gr_2_1, gr_2_2, gr_2_3, gr_2_4, gr_2_5, gr_2_6, gr_2_7, gi_2_8, pf_2_8, gi_2_9, pf_2_9, gi_2_10, pf_2_10, gi_2_11, pf_2_11, gi_2_12, pf_2_12, gi_2_13, pf_2_13, gi_2_14, pf_2_14, io_11, gr_11_0, gr_11_1, gr_11_2, io_15, gr_15_0, gr_15_1, gi_15_2, pf_15_2, gi_15_3, pf_15_3, gi_15_4, pf_15_4, gi_15_5, pf_15_5, io_18, gr_18_0, gr_18_1, gi_18_2, pf_18_2, io_21, gr_21_0, gr_21_1, gr_21_2, gr_21_3, gi_21_4, pf_21_4, gi_21_5, pf_21_5, gi_21_6, pf_21_6, gi_21_7, pf_21_7, io_34, gr_34_0, gi_34_1, pf_34_1, io_36, gi_36_0, pf_36_0, gi_36_1, pf_36_1, gr_36_2, gr_36_3, gr_36_4, gi_36_5, pf_36_5, gi_36_6, pf_36_6, gi_36_7, pf_36_7, gr_36_8, gr_36_9, gr_36_10, gr_36_11, gi_36_12, pf_36_12, gi_36_13, pf_36_13, gi_36_14, pf_36_14, gr_36_15, gr_36_16, gi_36_17, pf_36_17, gr_36_18, gr_36_19, gr_36_20, gr_36_21, gr_36_22, gi_36_23, pf_36_23, gr_36_24, gr_36_25, gi_36_26, pf_36_26, gr_36_27, gr_36_28, gr_36_29, gr_36_30, gi_36_31, pf_36_31, gr_36_32, gr_36_33, gi_36_34, pf_36_34, gi_36_35, pf_36_35, gr_36_36, al_3, al_4, al_5, al_6, al_7, al_8, al_9, al_10, al_12, al_13, al_14, al_16, al_17, al_19, al_20, al_22, al_23, al_24, al_26, al_27, al_28, al_29, al_30, al_31, al_32, al_33, al_35, al_37, al_38, al_39, al_40, al_41, al_42, al_43, al_44, al_45, al_46, al_47, al_48, al_49, al_50, al_51, al_52, al_53, al_54, al_55, al_56, al_57, al_58, al_59, ↓reduceIte, Option.bind_some, cI_some, cL_some, cV_some, rz_0, rz_1, nI_1]
    rw [if_pos (by omega)]
    exact e
/-- what a flood's odds give, if one comes across behind it -/
def od (σ : SG) (x d : Nat) (v : Nat → Nat) (f : Nat) : Nat := if X σ (Lst σ (fl σ (σ 7) (fun c => σ 9 c == 1) f d).1) (σ 0 2) (σ 10 x) then v f else 0
theorem od_le (σ : SG) (x d : Nat) (v : Nat → Nat) : ∀ f, od σ x d v f ≤ v f := fun f => by unfold od; split <;> omega
theorem c_weigh (hf : 1000 ≤ fu) {x q i d : Nat} (hd : d ≤ 30) (hx : x < σ 0 4) (h : 60 * q + i + 10 ≤ 240) {v : Nat → Nat} : ∀ m f n A I, f + m = 10 → m < n → RR σ A I → (∀ k, k < 10 → rd (A 14) (60 * q + i + k) = nI (v k)) →
    ∃ A1 I1, F_X7_weightAcross fu n 1 (nI x) (nI q) (nI i) (nI d) (nI (sm (od σ x d v) f)) (nI f) (enc A I) = some (some (.int (nI (sm (od σ x d v) 10))), enc A1 I1) ∧ Fr A I A1 I1 := by
  intro m
  induction m with
  | zero =>
    intro f n A I hf0 hm r hv
    obtain ⟨n, rfl⟩ : ∃ k, n = k + 1 := ⟨n - 1, by omega⟩
    have e : f = 10 := by omega
    subst e
    refine ⟨A, I, ?_, Fr.rf A I⟩
    simp only [F_X7_weightAcross]
    rw [if_neg (by decide)]
  | succ m ih =>
    intro f n A I hf0 hm r hv
    obtain ⟨n, rfl⟩ : ∃ k, n = k + 1 := ⟨n - 1, by omega⟩
    have hw := r.wal hx
    obtain ⟨A1, I1, g1, g2, g3⟩ := c_fl (fu := fu) hf r (show f ≤ 9 by omega) hd (fun c => σ 9 c == 1)
    have r1 := g2.R r
    have h14 : A1 14 = A 14 := g2.1 14 rfl
    obtain ⟨A2, I2, k1, k2⟩ := ih (f + 1) n A1 I1 (by omega) (by omega) r1 (by rw [h14]; exact hv)
    refine ⟨A2, I2, ?_, g2.tr k2⟩
    have e10 : (nI f < 10) = (f < 10) := n_lt (by omega) (by decide)
    have rx := c_reachOf (fu := fu) r1 hx (g := 0) (by omega)
    rw [Nat.sub_zero, show nI 0 = (0 : Int32) from rfl] at rx
    have ca := c_at (fu := fu) (I := I1) r1.2.1 (show 60 * q + (i + f) < 240 by omega)
    rw [← Nat.add_assoc, h14, hv f (by omega)] at ca
    have ci := c_isCrossed (fu := fu) hf r1 (show σ 0 2 ≤ 9 from r1.1.2.2.2.1) (show σ 10 x ≤ 9 by omega) (fl σ (σ 7) (fun c => σ 9 c == 1) f d).1
    rw [F_X7_weightAcross]
    simp only [e10, io_1, gr_1_0, gr_1_1, gr_1_2, gr_1_3, gr_1_4, gr_1_5, gi_1_6, pf_1_6, gi_1_7, pf_1_7, io_2, gr_2_0, gr_2_1, gr_2_2, gr_2_3, gr_2_4, gr_2_5, gr_2_6, gr_2_7, gi_2_8, pf_2_8, gi_2_9, pf_2_9, gi_2_10, pf_2_10, gi_2_11, pf_2_11, gi_2_12, pf_2_12, gi_2_13, pf_2_13, gi_2_14, pf_2_14, io_11, gr_11_0, gr_11_1, gr_11_2, io_15, gr_15_0, gr_15_1, gi_15_2, pf_15_2, gi_15_3, pf_15_3, gi_15_4, pf_15_4, gi_15_5, pf_15_5, io_18, gr_18_0, gr_18_1, gi_18_2, pf_18_2, io_21, gr_21_0, gr_21_1, gr_21_2, gr_21_3, gi_21_4, pf_21_4, gi_21_5, pf_21_5, gi_21_6, pf_21_6, gi_21_7, pf_21_7, io_34, gr_34_0, gi_34_1, pf_34_1, io_36, gi_36_0, pf_36_0, gi_36_1, pf_36_1, gr_36_2, gr_36_3, gr_36_4, gi_36_5, pf_36_5, gi_36_6, pf_36_6, gi_36_7, pf_36_7, gr_36_8, gr_36_9, gr_36_10, gr_36_11, gi_36_12, pf_36_12, gi_36_13, pf_36_13, gi_36_14, pf_36_14, gr_36_15, gr_36_16, gi_36_17, pf_36_17, gr_36_18, gr_36_19, gr_36_20, gr_36_21, gr_36_22, gi_36_23, pf_36_23, gr_36_24, gr_36_25, gi_36_26, pf_36_26, gr_36_27, gr_36_28, gr_36_29, gr_36_30, gi_36_31, pf_36_31, gr_36_32, gr_36_33, gi_36_34, pf_36_34, gi_36_35, pf_36_35, gr_36_36, al_3, al_4, al_5, al_6, al_7, al_8, al_9, al_10, al_12, al_13, al_14, al_16, al_17, al_19, al_20, al_22, al_23, al_24, al_26, al_27, al_28, al_29, al_30, al_31, al_32, al_33, al_35, al_37, al_38, al_39, al_40, al_41, al_42, al_43, al_44, al_45, al_46, al_47, al_48, al_49, al_50, al_51, al_52, al_53, al_54, al_55, al_56, al_57, al_58, al_59, ↓reduceIte, Option.bind_some, cI_some, cL_some, cV_some, rz_0, rz_1, r.i2_10, g1, g3.2, r1.i2_11, rx, ci, bI_0, nI_add, ca, nI_1]
    rw [if_pos (by omega)]
    rw [show sm (od σ x d v) (f + 1) = sm (od σ x d v) f + od σ x d v f from rfl] at k1
    by_cases z : X σ (Lst σ (fl σ (σ 7) (fun c => σ 9 c == 1) f d).1) (σ 0 2) (σ 10 x)
    · rw [if_neg (fun y => y z)]
      rw [show od σ x d v f = v f from if_pos z] at k1
      exact k1
    · rw [if_pos z]
      rw [show od σ x d v f = 0 from if_neg z, Nat.add_zero] at k1
      exact k1
theorem m_weigh (hf : 10000000000 ≤ fu) {x b d w : Nat} (hd : d ≤ 30) (hw1 : w ≤ 1) (hx : x < σ 0 4) (h : b + 10 ≤ 240) {v : Nat → Nat} (hv9 : ∀ k, k < 10 → v k ≤ 99) (hall : 0 < sm v 10) : ∀ m f n A I, f + m = 10 → m < n → RR σ A I → (∀ k, k < 10 → rd (A 39) (b + k) = nI (v k)) →
    ∃ A1 I1, (F_X8_odds fu n).2 36 (nI x) (nI d) (nI w) (nI b) (nI (sm v 10)) (nI (sm (od σ x d v) f)) (nI f) (enc A I) = some (some (.long (lN (if w = 0 then sm (od σ x d v) 10 / Nat.gcd (sm (od σ x d v) 10) (sm v 10) else sm v 10 / Nat.gcd (sm (od σ x d v) 10) (sm v 10)))), enc A1 I1) ∧ Fr A I A1 I1 := by
  have b1 := sm_99 10 hv9
  have b2 := sm_99 10 (v := od σ x d v) (fun k hk => Nat.le_trans (od_le σ x d v k) (hv9 k hk))
  intro m
  induction m with
  | zero =>
    intro f n A I hf0 hm r hv
    obtain ⟨n, rfl⟩ : ∃ k, n = k + 1 := ⟨n - 1, by omega⟩
    have e : f = 10 := by omega
    subst e
    refine ⟨A, I, ?_, Fr.rf A I⟩
    have hc := m_comD (fu := fu) (enc A I) fu (sm (od σ x d v) 10) (sm v 10) (by omega) (by omega) (by omega)
    have hg : 0 < Nat.gcd (sm (od σ x d v) 10) (sm v 10) := Nat.gcd_pos_of_pos_right _ hall
    have hg2 : Nat.gcd (sm (od σ x d v) 10) (sm v 10) ≤ sm v 10 := Nat.gcd_le_right _ hall
    rw [Nat.gcd_comm] at hc
    simp only [F_X8_odds, u_X8_common, M_X8_common, nI_l (show sm (od σ x d v) 10 < 2 ^ 31 by omega), nI_l (show sm v 10 < 2 ^ 31 by omega), hc, io_1, gr_1_0, gr_1_1, gr_1_2, gr_1_3, gr_1_4, gr_1_5, gi_1_6, pf_1_6, gi_1_7, pf_1_7, io_2, gr_2_0, gr_2_1, gr_2_2, gr_2_3, gr_2_4, gr_2_5, gr_2_6, gr_2_7, gi_2_8, pf_2_8, gi_2_9, pf_2_9, gi_2_10, pf_2_10, gi_2_11, pf_2_11, gi_2_12, pf_2_12, gi_2_13, pf_2_13, gi_2_14, pf_2_14, io_11, gr_11_0, gr_11_1, gr_11_2, io_15, gr_15_0, gr_15_1, gi_15_2, pf_15_2, gi_15_3, pf_15_3, gi_15_4, pf_15_4, gi_15_5, pf_15_5, io_18, gr_18_0, gr_18_1, gi_18_2, pf_18_2, io_21, gr_21_0, gr_21_1, gr_21_2, gr_21_3, gi_21_4, pf_21_4, gi_21_5, pf_21_5, gi_21_6, pf_21_6, gi_21_7, pf_21_7, io_34, gr_34_0, gi_34_1, pf_34_1, io_36, gi_36_0, pf_36_0, gi_36_1, pf_36_1, gr_36_2, gr_36_3, gr_36_4, gi_36_5, pf_36_5, gi_36_6, pf_36_6, gi_36_7, pf_36_7, gr_36_8, gr_36_9, gr_36_10, gr_36_11, gi_36_12, pf_36_12, gi_36_13, pf_36_13, gi_36_14, pf_36_14, gr_36_15, gr_36_16, gi_36_17, pf_36_17, gr_36_18, gr_36_19, gr_36_20, gr_36_21, gr_36_22, gi_36_23, pf_36_23, gr_36_24, gr_36_25, gi_36_26, pf_36_26, gr_36_27, gr_36_28, gr_36_29, gr_36_30, gi_36_31, pf_36_31, gr_36_32, gr_36_33, gi_36_34, pf_36_34, gi_36_35, pf_36_35, gr_36_36, al_3, al_4, al_5, al_6, al_7, al_8, al_9, al_10, al_12, al_13, al_14, al_16, al_17, al_19, al_20, al_22, al_23, al_24, al_26, al_27, al_28, al_29, al_30, al_31, al_32, al_33, al_35, al_37, al_38, al_39, al_40, al_41, al_42, al_43, al_44, al_45, al_46, al_47, al_48, al_49, al_50, al_51, al_52, al_53, al_54, al_55, al_56, al_57, al_58, al_59, ↓reduceIte, Option.bind_some, cI_some, cL_some, cV_some, rz_0, rz_1]
    have hz : ¬ lN (Nat.gcd (sm (od σ x d v) 10) (sm v 10)) = 0 := by rw [show (0 : Int64) = lN 0 from rfl, lN_eq (by omega) (by decide)]; omega
    rw [if_neg (by decide)]
    by_cases y : w = 0
    · rw [if_pos (by rw [y]; rfl), if_neg hz, if_pos y, pk_lDiv (by omega) hg (by omega)]
    · rw [if_neg (by rw [nI_pe0 (by omega)]; exact y), if_neg hz, if_neg y, pk_lDiv (by omega) hg (by omega)]
  | succ m ih =>
    intro f n A I hf0 hm r hv
    obtain ⟨n, rfl⟩ : ∃ k, n = k + 1 := ⟨n - 1, by omega⟩
    have hw := r.wal hx
    have hn := r.n7
    obtain ⟨A1, ⟨w1, g1, g2⟩, g3, g4, g5, g6⟩ := q_fl (fu := fu) (by omega) r.q (show f ≤ 9 by omega) hd r.hg
    have r1 := g6.R r
    have k1 : Lk σ A1 (uI I 36 26 (nI (σ 0 2))) (Lst σ (fl σ (σ 7) (fun c => σ 9 c == 1) f d).1) (σ 0 2) := by
      refine ⟨fun c hc => ⟨(g4 c hc).1, fun s hs => ?_⟩, by rw [uI_s], r.1.2.2.2.1⟩
      unfold Lst at hs
      by_cases y : (fl σ (σ 7) (fun c => σ 9 c == 1) f d).1 c = true
      · rw [if_pos y] at hs; exact (r.row hc hs).1
      · rw [if_neg y] at hs; omega
    obtain ⟨xs, c1, c2⟩ := m_comes hf k1 r1 (show σ 10 x ≤ 9 by omega)
    have r2 : RR σ (uA A1 53 xs) (uI I 36 26 (nI (σ 0 2))) := r1.sc rfl (by rw [c1]; exact (r1.len (k := 53) rfl).symm)
    have h39 : A1 39 = A 39 := g3.1 39 (by decide) (by decide) (by decide) (by decide)
    obtain ⟨A2, I2, d1, d2⟩ := ih (f + 1) n _ _ (by omega) (by omega) r2 (by rw [uA_n _ _ _ (by decide), h39]; exact hv)
    refine ⟨A2, I2, ?_, (g6.tr (Fr.arr (Fr.rf _ _) (k := 53) (xs := xs) rfl (by rw [c1]; exact (r1.len (k := 53) rfl).symm))).tr d2⟩
    have e10 : (nI f < 10) = (f < 10) := n_lt (by omega) (by decide)
    have e39 : aI (enc (uA A1 53 xs) (uI I 36 26 (nI (σ 0 2)))) 39 (nI (b + f)) = some (nI (v f)) := by rw [ai_39 _ _ (by rw [r2.len rfl]; show b + f < 240; omega) (by omega), uA_n _ _ _ (by decide), h39, hv f (by omega)]
    rw [show sm (od σ x d v) (f + 1) = sm (od σ x d v) f + od σ x d v f from rfl] at d1
    rw [F_X8_odds]
    simp -implicitDefEqProofs only [e10, io_1, gr_1_0, gr_1_1, gr_1_2, gr_1_3, gr_1_4, gr_1_5, gi_1_6, pf_1_6, gi_1_7, pf_1_7, io_2, gr_2_0, gr_2_1, gr_2_2, gr_2_3, gr_2_4, gr_2_5, gr_2_6, gr_2_7, gi_2_8, pf_2_8, gi_2_9, pf_2_9, gi_2_10, pf_2_10, gi_2_11, pf_2_11, gi_2_12, pf_2_12, gi_2_13, pf_2_13, gi_2_14, pf_2_14, io_11, gr_11_0, gr_11_1, gr_11_2, io_15, gr_15_0, gr_15_1, gi_15_2, pf_15_2, gi_15_3, pf_15_3, gi_15_4, pf_15_4, gi_15_5, pf_15_5, io_18, gr_18_0, gr_18_1, gi_18_2, pf_18_2, io_21, gr_21_0, gr_21_1, gr_21_2, gr_21_3, gi_21_4, pf_21_4, gi_21_5, pf_21_5, gi_21_6, pf_21_6, gi_21_7, pf_21_7, io_34, gr_34_0, gi_34_1, pf_34_1, io_36, gi_36_0, pf_36_0, gi_36_1, pf_36_1, gr_36_2, gr_36_3, gr_36_4, gi_36_5, pf_36_5, gi_36_6, pf_36_6, gi_36_7, pf_36_7, gr_36_8, gr_36_9, gr_36_10, gr_36_11, gi_36_12, pf_36_12, gi_36_13, pf_36_13, gi_36_14, pf_36_14, gr_36_15, gr_36_16, gi_36_17, pf_36_17, gr_36_18, gr_36_19, gr_36_20, gr_36_21, gr_36_22, gi_36_23, pf_36_23, gr_36_24, gr_36_25, gi_36_26, pf_36_26, gr_36_27, gr_36_28, gr_36_29, gr_36_30, gi_36_31, pf_36_31, gr_36_32, gr_36_33, gi_36_34, pf_36_34, gi_36_35, pf_36_35, gr_36_36, al_3, al_4, al_5, al_6, al_7, al_8, al_9, al_10, al_12, al_13, al_14, al_16, al_17, al_19, al_20, al_22, al_23, al_24, al_26, al_27, al_28, al_29, al_30, al_31, al_32, al_33, al_35, al_37, al_38, al_39, al_40, al_41, al_42, al_43, al_44, al_45, al_46, al_47, al_48, al_49, al_50, al_51, al_52, al_53, al_54, al_55, al_56, al_57, al_58, al_59, ↓reduceIte, Option.bind_some, cI_some, cL_some, cV_some, rz_0, rz_1, g1, g2, r1.a51 hx, c2, bI_0, nI_add, e39, nI_1, Int32.add_zero]
    rw [if_pos (by omega)]
    by_cases z : X σ (Lst σ (fl σ (σ 7) (fun c => σ 9 c == 1) f d).1) (σ 0 2) (σ 10 x)
    · rw [if_neg (fun y => y z)]
      rw [show od σ x d v f = v f from if_pos z] at d1
      exact d1
    · rw [if_pos z]
      rw [show od σ x d v f = 0 from if_neg z, Nat.add_zero] at d1
      exact d1
/-- the model's walk over the weights: one is not as told -/
theorem m_oddF {x b : Nat} {y z : Int32} (h39 : (A 39).length = 240) (h : b + 10 ≤ 240) : ∀ m k, k + m = 10 → allW (fun k => rd (A 39) (b + k)) 99 k m = false → ∀ n s,
    (F_X8_odds fu (n + (m + 1))).1 36 (nI x) y z (nI b) s (nI k) (enc A I) = some (some (.long (-9223372036854775808)), enc A I) := by
  intro m
  induction m with
  | zero => intro k hk hw; rw [allW] at hw; cases hw
  | succ m ih =>
    intro k hk hw n s
    have e39 : aI (enc A I) 39 (nI (b + k)) = some (rd (A 39) (b + k)) := ai_39 A I (by rw [h39]; omega) (by omega)
    rw [show n + (m + 1 + 1) = n + (m + 1) + 1 by omega, F_X8_odds]
    have e10 : (nI k < 10) = (k < 10) := n_lt (by omega) (by decide)
    simp only [e10, io_1, gr_1_0, gr_1_1, gr_1_2, gr_1_3, gr_1_4, gr_1_5, gi_1_6, pf_1_6, gi_1_7, pf_1_7, io_2, gr_2_0, gr_2_1, gr_2_2, gr_2_3, gr_2_4, gr_2_5, gr_2_6, gr_2_7, gi_2_8, pf_2_8, gi_2_9, pf_2_9, gi_2_10, pf_2_10, gi_2_11, pf_2_11, gi_2_12, pf_2_12, gi_2_13, pf_2_13, gi_2_14, pf_2_14, io_11, gr_11_0, gr_11_1, gr_11_2, io_15, gr_15_0, gr_15_1, gi_15_2, pf_15_2, gi_15_3, pf_15_3, gi_15_4, pf_15_4, gi_15_5, pf_15_5, io_18, gr_18_0, gr_18_1, gi_18_2, pf_18_2, io_21, gr_21_0, gr_21_1, gr_21_2, gr_21_3, gi_21_4, pf_21_4, gi_21_5, pf_21_5, gi_21_6, pf_21_6, gi_21_7, pf_21_7, io_34, gr_34_0, gi_34_1, pf_34_1, io_36, gi_36_0, pf_36_0, gi_36_1, pf_36_1, gr_36_2, gr_36_3, gr_36_4, gi_36_5, pf_36_5, gi_36_6, pf_36_6, gi_36_7, pf_36_7, gr_36_8, gr_36_9, gr_36_10, gr_36_11, gi_36_12, pf_36_12, gi_36_13, pf_36_13, gi_36_14, pf_36_14, gr_36_15, gr_36_16, gi_36_17, pf_36_17, gr_36_18, gr_36_19, gr_36_20, gr_36_21, gr_36_22, gi_36_23, pf_36_23, gr_36_24, gr_36_25, gi_36_26, pf_36_26, gr_36_27, gr_36_28, gr_36_29, gr_36_30, gi_36_31, pf_36_31, gr_36_32, gr_36_33, gi_36_34, pf_36_34, gi_36_35, pf_36_35, gr_36_36, al_3, al_4, al_5, al_6, al_7, al_8, al_9, al_10, al_12, al_13, al_14, al_16, al_17, al_19, al_20, al_22, al_23, al_24, al_26, al_27, al_28, al_29, al_30, al_31, al_32, al_33, al_35, al_37, al_38, al_39, al_40, al_41, al_42, al_43, al_44, al_45, al_46, al_47, al_48, al_49, al_50, al_51, al_52, al_53, al_54, al_55, al_56, al_57, al_58, al_59, ↓reduceIte, Option.bind_some, cI_some, cL_some, cV_some, rz_0, rz_1, nI_add, e39, m_within, bI_0, nI_1]
    rw [if_pos (by omega)]
    rw [allW] at hw
    by_cases z : 0 ≤ rd (A 39) (b + k) ∧ rd (A 39) (b + k) ≤ 99
    · rw [if_neg (fun y => y z)]
      rw [decide_eq_true z, Bool.true_and] at hw
      exact ih (k + 1) (by omega) hw n _
    · rw [if_pos z]
/-- all are -/
theorem m_oddT {x b : Nat} {y z : Int32} (h39 : (A 39).length = 240) (h : b + 10 ≤ 240) {v : Nat → Nat} (hv : ∀ k, k < 10 → rd (A 39) (b + k) = nI (v k) ∧ v k ≤ 99) : ∀ m k, k + m = 10 → ∀ n,
    (F_X8_odds fu (n + (m + 1))).1 36 (nI x) y z (nI b) (nI (sm v k)) (nI k) (enc A I) =
      if sm v 10 = 0 ∨ ¬ (0 ≤ y ∧ y ≤ 30) ∨ ¬ (0 ≤ z ∧ z ≤ 1) then some (some (.long (-9223372036854775808)), enc A I) else (F_X8_odds fu n).2 36 (nI x) y z (nI b) (nI (sm v 10)) 0 0 (enc A I) := by
  have b1 := sm_99 10 (fun k hk => (hv k hk).2)
  intro m
  induction m with
  | zero =>
    intro k hk n
    have e : k = 10 := by omega
    subst e
    rw [show n + (0 + 1) = n + 1 by omega, F_X8_odds]
    have e10 : (nI 10 < 10) = (10 < 10) := n_lt (by omega) (by decide)
    simp only [e10, io_1, gr_1_0, gr_1_1, gr_1_2, gr_1_3, gr_1_4, gr_1_5, gi_1_6, pf_1_6, gi_1_7, pf_1_7, io_2, gr_2_0, gr_2_1, gr_2_2, gr_2_3, gr_2_4, gr_2_5, gr_2_6, gr_2_7, gi_2_8, pf_2_8, gi_2_9, pf_2_9, gi_2_10, pf_2_10, gi_2_11, pf_2_11, gi_2_12, pf_2_12, gi_2_13, pf_2_13, gi_2_14, pf_2_14, io_11, gr_11_0, gr_11_1, gr_11_2, io_15, gr_15_0, gr_15_1, gi_15_2, pf_15_2, gi_15_3, pf_15_3, gi_15_4, pf_15_4, gi_15_5, pf_15_5, io_18, gr_18_0, gr_18_1, gi_18_2, pf_18_2, io_21, gr_21_0, gr_21_1, gr_21_2, gr_21_3, gi_21_4, pf_21_4, gi_21_5, pf_21_5, gi_21_6, pf_21_6, gi_21_7, pf_21_7, io_34, gr_34_0, gi_34_1, pf_34_1, io_36, gi_36_0, pf_36_0, gi_36_1, pf_36_1, gr_36_2, gr_36_3, gr_36_4, gi_36_5, pf_36_5, gi_36_6, pf_36_6, gi_36_7, pf_36_7, gr_36_8, gr_36_9, gr_36_10, gr_36_11, gi_36_12, pf_36_12, gi_36_13, pf_36_13, gi_36_14, pf_36_14, gr_36_15, gr_36_16, gi_36_17, pf_36_17, gr_36_18, gr_36_19, gr_36_20, gr_36_21, gr_36_22, gi_36_23, pf_36_23, gr_36_24, gr_36_25, gi_36_26, pf_36_26, gr_36_27, gr_36_28, gr_36_29, gr_36_30, gi_36_31, pf_36_31, gr_36_32, gr_36_33, gi_36_34, pf_36_34, gi_36_35, pf_36_35, gr_36_36, al_3, al_4, al_5, al_6, al_7, al_8, al_9, al_10, al_12, al_13, al_14, al_16, al_17, al_19, al_20, al_22, al_23, al_24, al_26, al_27, al_28, al_29, al_30, al_31, al_32, al_33, al_35, al_37, al_38, al_39, al_40, al_41, al_42, al_43, al_44, al_45, al_46, al_47, al_48, al_49, al_50, al_51, al_52, al_53, al_54, al_55, al_56, al_57, al_58, al_59, ↓reduceIte, Option.bind_some, cI_some, cL_some, cV_some, rz_0, rz_1, m_within, bI_0, nI_pe0 (show sm v 10 < 2147483648 by omega)]
    rw [if_neg (by omega)]
    by_cases h1 : sm v 10 = 0
    · rw [if_pos h1, if_pos (Or.inl h1)]
    · rw [if_neg h1]
      by_cases h2 : 0 ≤ y ∧ y ≤ 30
      · rw [if_neg (fun w => w h2)]
        by_cases h3 : 0 ≤ z ∧ z ≤ 1
        · rw [if_neg (fun w => w h3), if_neg (fun w => w.elim h1 (fun w => w.elim (fun w => w h2) (fun w => w h3)))]
        · rw [if_pos h3, if_pos (Or.inr (Or.inr h3))]
      · rw [if_pos h2, if_pos (Or.inr (Or.inl h2))]
  | succ m ih =>
    intro k hk n
    obtain ⟨v1, v2⟩ := hv k (by omega)
    have e39 : aI (enc A I) 39 (nI (b + k)) = some (nI (v k)) := by rw [← v1]; exact ai_39 A I (by rw [h39]; omega) (by omega)
    rw [show n + (m + 1 + 1) = n + (m + 1) + 1 by omega, F_X8_odds]
    have e10 : (nI k < 10) = (k < 10) := n_lt (by omega) (by decide)
    have hw : 0 ≤ nI (v k) ∧ nI (v k) ≤ 99 := n_rin (b := 99) (Nat.zero_le _) v2 (by decide)
    simp only [e10, io_1, gr_1_0, gr_1_1, gr_1_2, gr_1_3, gr_1_4, gr_1_5, gi_1_6, pf_1_6, gi_1_7, pf_1_7, io_2, gr_2_0, gr_2_1, gr_2_2, gr_2_3, gr_2_4, gr_2_5, gr_2_6, gr_2_7, gi_2_8, pf_2_8, gi_2_9, pf_2_9, gi_2_10, pf_2_10, gi_2_11, pf_2_11, gi_2_12, pf_2_12, gi_2_13, pf_2_13, gi_2_14, pf_2_14, io_11, gr_11_0, gr_11_1, gr_11_2, io_15, gr_15_0, gr_15_1, gi_15_2, pf_15_2, gi_15_3, pf_15_3, gi_15_4, pf_15_4, gi_15_5, pf_15_5, io_18, gr_18_0, gr_18_1, gi_18_2, pf_18_2, io_21, gr_21_0, gr_21_1, gr_21_2, gr_21_3, gi_21_4, pf_21_4, gi_21_5, pf_21_5, gi_21_6, pf_21_6, gi_21_7, pf_21_7, io_34, gr_34_0, gi_34_1, pf_34_1, io_36, gi_36_0, pf_36_0, gi_36_1, pf_36_1, gr_36_2, gr_36_3, gr_36_4, gi_36_5, pf_36_5, gi_36_6, pf_36_6, gi_36_7, pf_36_7, gr_36_8, gr_36_9, gr_36_10, gr_36_11, gi_36_12, pf_36_12, gi_36_13, pf_36_13, gi_36_14, pf_36_14, gr_36_15, gr_36_16, gi_36_17, pf_36_17, gr_36_18, gr_36_19, gr_36_20, gr_36_21, gr_36_22, gi_36_23, pf_36_23, gr_36_24, gr_36_25, gi_36_26, pf_36_26, gr_36_27, gr_36_28, gr_36_29, gr_36_30, gi_36_31, pf_36_31, gr_36_32, gr_36_33, gi_36_34, pf_36_34, gi_36_35, pf_36_35, gr_36_36, al_3, al_4, al_5, al_6, al_7, al_8, al_9, al_10, al_12, al_13, al_14, al_16, al_17, al_19, al_20, al_22, al_23, al_24, al_26, al_27, al_28, al_29, al_30, al_31, al_32, al_33, al_35, al_37, al_38, al_39, al_40, al_41, al_42, al_43, al_44, al_45, al_46, al_47, al_48, al_49, al_50, al_51, al_52, al_53, al_54, al_55, al_56, al_57, al_58, al_59, ↓reduceIte, Option.bind_some, cI_some, cL_some, cV_some, rz_0, rz_1, nI_add, e39, m_within, bI_0, nI_1]
    rw [if_pos (by omega), if_neg (fun y => y hw)]
    exact ih (k + 1) (by omega) n
end Q2
