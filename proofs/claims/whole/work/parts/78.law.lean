section LY
variable {fu : Nat} {xs : List Int32}
theorem len7 {a k : Nat} (ha : a ≤ 3584) (hk : k ≤ 4000) : (nI a - 7 < nI k) = (a < k + 7) := by
  have h1 := pk_sub_toInt (a := a) (b := 7) (by omega) (by omega)
  have h2 := pk_sub_toInt (a := k) (b := 0) (by omega) (by omega)
  have e0 : nI k - nI 0 = nI k := Int32.sub_zero _
  rw [e0] at h2
  have h1' : (nI a - 7).toInt = (a : Int) - 7 := h1
  rw [Int32.lt_iff_toInt_lt, h1', h2]
  exact propext (by omega)
theorem law_loop (hf : 10000000000 ≤ fu) (hl : xs.length ≤ 3584) : ∀ m k n (w : XW), xs.length ≤ k + 7 * m → k ≤ xs.length → 4 * m < n → GOOD xs w → ∃ w', GOOD xs w' ∧ (F_L_law fu n).1 0 1 36 (nI k) w = some (some (.int 1), w') := by
  intro m
  induction m with
  | zero =>
    intro k n w hk hkl hn hg
    obtain ⟨n, rfl⟩ : ∃ j, n = j + 1 := ⟨n - 1, by omega⟩
    obtain ⟨A, I, σ, rfl, h0, r, fe⟩ := hg
    have hal : aL (enc A I) 0 = some (nI xs.length) := by rw [← h0]; rfl
    refine ⟨enc A I, ⟨A, I, σ, rfl, h0, r, fe⟩, ?_⟩
    rw [L_0]
    simp only [hal, Option.bind_some, len7 hl (show k ≤ 4000 by omega)]
    rw [if_pos (by omega)]
    rfl
  | succ m ih =>
    intro k n w hk hkl hn hg
    obtain ⟨n, rfl⟩ : ∃ j, n = j + 4 := ⟨n - 4, by omega⟩
    have hg0 := hg
    obtain ⟨A, I, σ, rfl, h0, r, fe⟩ := hg
    have hal : aL (enc A I) 0 = some (nI xs.length) := by rw [← h0]; rfl
    have e7 : nI k + 7 = nI (k + 7) := nI_add k 7
    rw [L_0]
    simp only [hal, Option.bind_some, len7 hl (show k ≤ 4000 by omega)]
    by_cases z : xs.length < k + 7
    · refine ⟨enc A I, hg0, ?_⟩
      rw [if_pos z]
      rfl
    rw [if_neg z]
    have hk7 : k + 7 ≤ xs.length := by omega
    have ex := sc_ai (I := I) h0 hl (show k + 0 < xs.length by omega)
    have e00 : nI k + nI 0 = nI k := by rw [nI_add]; rfl
    rw [e00] at ex
    rw [ex, Option.bind_some]
    have nx : ∀ n' w', 4 * m < n' → GOOD xs w' → ∃ w2, GOOD xs w2 ∧ (F_L_law fu n').1 0 1 36 (nI k + 7) w' = some (some (.int 1), w2) := fun n' w' h1 h2 => by
      rw [e7]; exact ih (k + 7) n' w' (by omega) hk7 h1 h2
    by_cases c0 : (rd xs (k + 0) &&& (63 : Int32)) = (0 : Int32)
    · rw [if_pos c0]
      obtain ⟨w', g1, g2⟩ := lw_0 (fu := fu) hf hl h0 r fe hk7 (n + 1)
      rw [g2]
      exact nx _ w' (by omega) g1
    rw [if_neg c0]
    by_cases c1 : (rd xs (k + 0) &&& (63 : Int32)) = (1 : Int32)
    · rw [if_pos c1]
      obtain ⟨w', g1, g2⟩ := lw_1 (fu := fu) hf hl h0 r fe hk7 (n + 1)
      rw [g2]
      exact nx _ w' (by omega) g1
    rw [if_neg c1]
    by_cases c2 : (rd xs (k + 0) &&& (63 : Int32)) = (2 : Int32)
    · rw [if_pos c2]
      obtain ⟨w', g1, g2⟩ := lw_2 (fu := fu) hf hl h0 r fe hk7 n
      rw [g2]
      exact nx _ w' (by omega) g1
    rw [if_neg c2]
    by_cases c3 : (rd xs (k + 0) &&& (63 : Int32)) = (3 : Int32)
    · rw [if_pos c3]
      obtain ⟨w', g1, g2⟩ := lw_3 (fu := fu) hf hl h0 r fe hk7 (n + 1)
      rw [g2]
      exact nx _ w' (by omega) g1
    rw [if_neg c3]
    by_cases c4 : (rd xs (k + 0) &&& (63 : Int32)) = (4 : Int32)
    · rw [if_pos c4]
      obtain ⟨w', g1, g2⟩ := lw_4 (fu := fu) hf hl h0 r fe hk7 (n + 1)
      rw [g2]
      exact nx _ w' (by omega) g1
    rw [if_neg c4]
    by_cases c5 : (rd xs (k + 0) &&& (63 : Int32)) = (5 : Int32)
    · rw [if_pos c5]
      obtain ⟨w', g1, g2⟩ := lw_5 (fu := fu) hf hl h0 r fe hk7 (n + 1)
      rw [g2]
      exact nx _ w' (by omega) g1
    rw [if_neg c5]
    by_cases c6 : (rd xs (k + 0) &&& (63 : Int32)) = (6 : Int32)
    · rw [if_pos c6]
      obtain ⟨w', g1, g2⟩ := lw_6 (fu := fu) hf hl h0 r fe hk7 (n + 1)
      rw [g2]
      exact nx _ w' (by omega) g1
    rw [if_neg c6]
    by_cases c7 : (rd xs (k + 0) &&& (63 : Int32)) = (7 : Int32)
    · rw [if_pos c7]
      obtain ⟨w', g1, g2⟩ := lw_7 (fu := fu) hf hl h0 r fe hk7 (n + 1)
      rw [g2]
      exact nx _ w' (by omega) g1
    rw [if_neg c7]
    by_cases c8 : (rd xs (k + 0) &&& (63 : Int32)) = (8 : Int32)
    · rw [if_pos c8]
      obtain ⟨w', g1, g2⟩ := lw_8 (fu := fu) hf hl h0 r fe hk7 (n + 1)
      rw [g2]
      exact nx _ w' (by omega) g1
    rw [if_neg c8]
    by_cases c9 : (rd xs (k + 0) &&& (63 : Int32)) = (9 : Int32)
    · rw [if_pos c9]
      obtain ⟨w', g1, g2⟩ := lw_9 (fu := fu) hf hl h0 r fe hk7 (n + 1)
      rw [g2]
      exact nx _ w' (by omega) g1
    rw [if_neg c9]
    by_cases c10 : (rd xs (k + 0) &&& (63 : Int32)) = (10 : Int32)
    · rw [if_pos c10]
      obtain ⟨w', g1, g2⟩ := lw_10 (fu := fu) hf hl h0 r fe hk7 n
      rw [g2]
      exact nx _ w' (by omega) g1
    rw [if_neg c10]
    by_cases c11 : (rd xs (k + 0) &&& (63 : Int32)) = (11 : Int32)
    · rw [if_pos c11]
      obtain ⟨w', g1, g2⟩ := lw_11 (fu := fu) hf hl h0 r fe hk7 (n + 1)
      rw [g2]
      exact nx _ w' (by omega) g1
    rw [if_neg c11]
    by_cases c12 : (rd xs (k + 0) &&& (63 : Int32)) = (12 : Int32)
    · rw [if_pos c12]
      obtain ⟨w', g1, g2⟩ := lw_12 (fu := fu) hf hl h0 r fe hk7 n
      rw [g2]
      exact nx _ w' (by omega) g1
    rw [if_neg c12]
    by_cases c13 : (rd xs (k + 0) &&& (63 : Int32)) = (13 : Int32)
    · rw [if_pos c13]
      obtain ⟨w', g1, g2⟩ := lw_13 (fu := fu) hf hl h0 r fe hk7 (n + 1)
      rw [g2]
      exact nx _ w' (by omega) g1
    rw [if_neg c13]
    by_cases c14 : (rd xs (k + 0) &&& (63 : Int32)) = (14 : Int32)
    · rw [if_pos c14]
      obtain ⟨w', g1, g2⟩ := lw_14 (fu := fu) hf hl h0 r fe hk7 (n + 1)
      rw [g2]
      exact nx _ w' (by omega) g1
    rw [if_neg c14]
    by_cases c15 : (rd xs (k + 0) &&& (63 : Int32)) = (15 : Int32)
    · rw [if_pos c15]
      obtain ⟨w', g1, g2⟩ := lw_15 (fu := fu) hf hl h0 r fe hk7 (n + 1)
      rw [g2]
      exact nx _ w' (by omega) g1
    rw [if_neg c15]
    by_cases c16 : (rd xs (k + 0) &&& (63 : Int32)) = (16 : Int32)
    · rw [if_pos c16]
      obtain ⟨w', g1, g2⟩ := lw_16 (fu := fu) hf hl h0 r fe hk7 (n + 1)
      rw [g2]
      exact nx _ w' (by omega) g1
    rw [if_neg c16]
    by_cases c17 : (rd xs (k + 0) &&& (63 : Int32)) = (17 : Int32)
    · rw [if_pos c17]
      obtain ⟨w', g1, g2⟩ := lw_17 (fu := fu) hf hl h0 r fe hk7 (n + 1)
      rw [g2]
      exact nx _ w' (by omega) g1
    rw [if_neg c17]
    by_cases c18 : (rd xs (k + 0) &&& (63 : Int32)) = (18 : Int32)
    · rw [if_pos c18]
      obtain ⟨w', g1, g2⟩ := lw_18 (fu := fu) hf hl h0 r fe hk7 (n + 1)
      rw [g2]
      exact nx _ w' (by omega) g1
    rw [if_neg c18]
    by_cases c19 : (rd xs (k + 0) &&& (63 : Int32)) = (19 : Int32)
    · rw [if_pos c19]
      obtain ⟨w', g1, g2⟩ := lw_19 (fu := fu) hf hl h0 r fe hk7 (n + 1)
      rw [g2]
      exact nx _ w' (by omega) g1
    rw [if_neg c19]
    by_cases c20 : (rd xs (k + 0) &&& (63 : Int32)) = (20 : Int32)
    · rw [if_pos c20]
      obtain ⟨w', g1, g2⟩ := lw_20 (fu := fu) hf hl h0 r fe hk7 (n + 1)
      rw [g2]
      exact nx _ w' (by omega) g1
    rw [if_neg c20]
    by_cases c21 : (rd xs (k + 0) &&& (63 : Int32)) = (21 : Int32)
    · rw [if_pos c21]
      obtain ⟨w', g1, g2⟩ := lw_21 (fu := fu) hf hl h0 r fe hk7 (n + 1)
      rw [g2]
      exact nx _ w' (by omega) g1
    rw [if_neg c21]
    by_cases c22 : (rd xs (k + 0) &&& (63 : Int32)) = (22 : Int32)
    · rw [if_pos c22]
      obtain ⟨w', g1, g2⟩ := lw_22 (fu := fu) hf hl h0 r fe hk7 (n + 1)
      rw [g2]
      exact nx _ w' (by omega) g1
    rw [if_neg c22]
    by_cases c23 : (rd xs (k + 0) &&& (63 : Int32)) = (23 : Int32)
    · rw [if_pos c23]
      obtain ⟨w', g1, g2⟩ := lw_23 (fu := fu) hf hl h0 r fe hk7 (n + 1)
      rw [g2]
      exact nx _ w' (by omega) g1
    rw [if_neg c23]
    by_cases c24 : (rd xs (k + 0) &&& (63 : Int32)) = (24 : Int32)
    · rw [if_pos c24]
      obtain ⟨w', g1, g2⟩ := lw_24 (fu := fu) hf hl h0 r fe hk7 (n + 1)
      rw [g2]
      exact nx _ w' (by omega) g1
    rw [if_neg c24]
    by_cases c25 : (rd xs (k + 0) &&& (63 : Int32)) = (25 : Int32)
    · rw [if_pos c25]
      obtain ⟨w', g1, g2⟩ := lw_25 (fu := fu) hf hl h0 r fe hk7 (n + 1)
      rw [g2]
      exact nx _ w' (by omega) g1
    rw [if_neg c25]
    by_cases c26 : (rd xs (k + 0) &&& (63 : Int32)) = (26 : Int32)
    · rw [if_pos c26]
      obtain ⟨w', g1, g2⟩ := lw_26 (fu := fu) hf hl h0 r fe hk7 (n + 1)
      rw [g2]
      exact nx _ w' (by omega) g1
    rw [if_neg c26]
    by_cases c27 : (rd xs (k + 0) &&& (63 : Int32)) = (27 : Int32)
    · rw [if_pos c27]
      obtain ⟨w', g1, g2⟩ := lw_27 (fu := fu) hf hl h0 r fe hk7 (n + 1)
      rw [g2]
      exact nx _ w' (by omega) g1
    rw [if_neg c27]
    by_cases c28 : (rd xs (k + 0) &&& (63 : Int32)) = (28 : Int32)
    · rw [if_pos c28]
      obtain ⟨w', g1, g2⟩ := lw_28 (fu := fu) hf hl h0 r fe hk7 (n + 1)
      rw [g2]
      exact nx _ w' (by omega) g1
    rw [if_neg c28]
    by_cases c29 : (rd xs (k + 0) &&& (63 : Int32)) = (29 : Int32)
    · rw [if_pos c29]
      obtain ⟨w', g1, g2⟩ := lw_29 (fu := fu) hf hl h0 r fe hk7 (n + 1)
      rw [g2]
      exact nx _ w' (by omega) g1
    rw [if_neg c29]
    by_cases c30 : (rd xs (k + 0) &&& (63 : Int32)) = (30 : Int32)
    · rw [if_pos c30]
      obtain ⟨w', g1, g2⟩ := lw_30 (fu := fu) hf hl h0 r fe hk7 (n + 1)
      rw [g2]
      exact nx _ w' (by omega) g1
    rw [if_neg c30]
    by_cases c31 : (rd xs (k + 0) &&& (63 : Int32)) = (31 : Int32)
    · rw [if_pos c31]
      obtain ⟨w', g1, g2⟩ := lw_31 (fu := fu) hf hl h0 r fe hk7 (n + 1)
      rw [g2]
      exact nx _ w' (by omega) g1
    rw [if_neg c31]
    by_cases c32 : (rd xs (k + 0) &&& (63 : Int32)) = (32 : Int32)
    · rw [if_pos c32]
      obtain ⟨w', g1, g2⟩ := lw_32 (fu := fu) hf hl h0 r fe hk7 (n + 1)
      rw [g2]
      exact nx _ w' (by omega) g1
    rw [if_neg c32]
    by_cases c33 : (rd xs (k + 0) &&& (63 : Int32)) = (33 : Int32)
    · rw [if_pos c33]
      obtain ⟨w', g1, g2⟩ := lw_33 (fu := fu) hf hl h0 r fe hk7 (n + 1)
      rw [g2]
      exact nx _ w' (by omega) g1
    rw [if_neg c33]
    by_cases c34 : (rd xs (k + 0) &&& (63 : Int32)) = (34 : Int32)
    · rw [if_pos c34]
      obtain ⟨w', g1, g2⟩ := lw_34 (fu := fu) hf hl h0 r fe hk7 (n + 1)
      rw [g2]
      exact nx _ w' (by omega) g1
    rw [if_neg c34]
    by_cases c35 : (rd xs (k + 0) &&& (63 : Int32)) = (35 : Int32)
    · rw [if_pos c35]
      obtain ⟨w', g1, g2⟩ := lw_35 (fu := fu) hf hl h0 r fe hk7 (n + 1)
      rw [g2]
      exact nx _ w' (by omega) g1
    rw [if_neg c35]
    rw [L_40]
    exact nx _ _ (by omega) hg0
end LY
