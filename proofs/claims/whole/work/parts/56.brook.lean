section Q7
variable {σ : SG} {A : Nat → List Int32} {I : Nat → Nat → Int32} {fu : Nat}
theorem c_fill5 (hf : 1000 ≤ fu) (h5 : (A 5).length = 7) : ∃ xs, xs.length = 7 ∧ (∀ i, i < 7 → rd xs i = -9) ∧ U_J7_fill_53178 fu [.ref 5, .int (-9)] (enc A I) = some (none, enc (uA A 5 xs) I) := by
  have loop : ∀ d c n xs, c + d = 7 → d < n → xs.length = 7 → (∀ i, i < c → rd xs i = -9) → ∃ ys, ys.length = 7 ∧ (∀ i, i < 7 → rd ys i = -9) ∧ F_J7_fill_53178 fu n 5 (-9) (nI c) (nI 7) (enc (uA A 5 xs) I) = some (none, enc (uA A 5 ys) I) := by
    intro d
    induction d with
    | zero =>
      intro c n xs hc hn hl h
      obtain ⟨n, rfl⟩ : ∃ j, n = j + 1 := ⟨n - 1, by omega⟩
      refine ⟨xs, hl, fun i hi => h i (by omega), ?_⟩
      simp only [F_J7_fill_53178, n_lt (show c < 2147483648 by omega) (show 7 < 2147483648 by omega)]
      rw [if_neg (by omega)]
    | succ d ih =>
      intro c n xs hc hn hl h
      obtain ⟨n, rfl⟩ : ∃ j, n = j + 1 := ⟨n - 1, by omega⟩
      have hlc : c < xs.length := by omega
      obtain ⟨ys, g1, g2, g3⟩ := ih (c + 1) n (xs.set c (-9)) (by omega) (by omega) (by rw [List.length_set]; exact hl) (fun i hi => by
        rw [rd_set _ _ hlc]
        by_cases y : i = c
        · rw [if_pos y]
        · rw [if_neg y]; exact h i (by omega))
      refine ⟨ys, g1, g2, ?_⟩
      simp only [F_J7_fill_53178, n_lt (show c < 2147483648 by omega) (show 7 < 2147483648 by omega), nI_1]
      rw [if_pos (by omega), si_5 _ _ _ (by rw [uA_s]; exact hlc) (by omega), uA_s, uA_uA]
      exact g3
  obtain ⟨ys, g1, g2, g3⟩ := loop 7 0 fu (A 5) (by omega) (by omega) h5 (fun i hi => by omega)
  rw [uA_self] at g3
  refine ⟨ys, g1, g2, ?_⟩
  have hal : aL (enc A I) 5 = some (nI 7) := by rw [al_5, h5]; rfl
  simp only [u_J7_fill_53178, M_J7_fill_53178, hal, Option.bind_some]
  exact g3
def anw (I : Nat → Nat → Int32) : Nat → Nat → Int32 := uI (uI (uI (uI (uI I 2 10 0) 2 11 0) 2 12 0) 2 13 0) 2 14 0
theorem c_makeAnew (hf : 1000 ≤ fu) (hL : LEN A) : ∃ xs, xs.length = 7 ∧ (∀ i, i < 7 → rd xs i = -9) ∧ U_X0_makeAnew fu [.ref 2] (enc A I) = some (none, enc (uA A 5 xs) (anw I)) := by
  obtain ⟨xs, h1, h2, h3⟩ := c_fill5 (fu := fu) (A := A) (I := I) hf (hL 5 rfl)
  refine ⟨xs, h1, h2, ?_⟩
  simp only [u_X0_makeAnew, M_X0_makeAnew, io_1, gr_1_0, gr_1_1, gr_1_2, gr_1_3, gr_1_4, gr_1_5, gi_1_6, pf_1_6, gi_1_7, pf_1_7, io_2, gr_2_0, gr_2_1, gr_2_2, gr_2_3, gr_2_4, gr_2_5, gr_2_6, gr_2_7, gi_2_8, pf_2_8, gi_2_9, pf_2_9, gi_2_10, pf_2_10, gi_2_11, pf_2_11, gi_2_12, pf_2_12, gi_2_13, pf_2_13, gi_2_14, pf_2_14, io_11, gr_11_0, gr_11_1, gr_11_2, io_15, gr_15_0, gr_15_1, gi_15_2, pf_15_2, gi_15_3, pf_15_3, gi_15_4, pf_15_4, gi_15_5, pf_15_5, io_18, gr_18_0, gr_18_1, gi_18_2, pf_18_2, io_21, gr_21_0, gr_21_1, gr_21_2, gr_21_3, gi_21_4, pf_21_4, gi_21_5, pf_21_5, gi_21_6, pf_21_6, gi_21_7, pf_21_7, io_34, gr_34_0, gi_34_1, pf_34_1, io_36, gi_36_0, pf_36_0, gi_36_1, pf_36_1, gr_36_2, gr_36_3, gr_36_4, gi_36_5, pf_36_5, gi_36_6, pf_36_6, gi_36_7, pf_36_7, gr_36_8, gr_36_9, gr_36_10, gr_36_11, gi_36_12, pf_36_12, gi_36_13, pf_36_13, gi_36_14, pf_36_14, gr_36_15, gr_36_16, gi_36_17, pf_36_17, gr_36_18, gr_36_19, gr_36_20, gr_36_21, gr_36_22, gi_36_23, pf_36_23, gr_36_24, gr_36_25, gi_36_26, pf_36_26, gr_36_27, gr_36_28, gr_36_29, gr_36_30, gi_36_31, pf_36_31, gr_36_32, gr_36_33, gi_36_34, pf_36_34, gi_36_35, pf_36_35, gr_36_36, al_3, al_4, al_5, al_6, al_7, al_8, al_9, al_10, al_12, al_13, al_14, al_16, al_17, al_19, al_20, al_22, al_23, al_24, al_26, al_27, al_28, al_29, al_30, al_31, al_32, al_33, al_35, al_37, al_38, al_39, al_40, al_41, al_42, al_43, al_44, al_45, al_46, al_47, al_48, al_49, al_50, al_51, al_52, al_53, al_54, al_55, al_56, al_57, al_58, al_59, ↓reduceIte, Option.bind_some, cI_some, cL_some, cV_some, rz_0, rz_1, h3]
  rfl
theorem c_readL {q i n m : Nat} (hb : 60 * q + i + n ≤ 240) {v : Nat → Int32} (hm7 : m ≤ 7) (hn : 2 * m + 6 ≤ n) : ∀ d c N ds bs (A : Nat → List Int32) (I : Nat → Nat → Int32), LEN A → (∀ p, p < n → rd (A 14) (60 * q + i + p) = v p) → c + d = m → d < N → ds.length = 7 → bs.length = 7 → (∀ j, j < c → rd ds j = v (1 + j) - 48 ∧ rd bs j = v (m + 3 + j) - 48) →
    ∃ es cs, F_X5_readInto fu N 2 11 (nI q) (nI i) (nI m) (nI c) (enc (uA (uA A 3 ds) 4 bs) I) = some (none, enc (uA (uA A 3 es) 4 cs) (uI (uI I 2 9 (v (2 * m + 5) - 48)) 2 8 (nI m))) ∧ es.length = 7 ∧ cs.length = 7 ∧ ∀ j, j < m → rd es j = v (1 + j) - 48 ∧ rd cs j = v (m + 3 + j) - 48 := by
  intro d
  induction d with
  | zero =>
    intro c N ds bs A I hL hv hc hN hd hbs h
    obtain ⟨N, rfl⟩ : ∃ j, N = j + 1 := ⟨N - 1, by omega⟩
    refine ⟨ds, bs, ?_, hd, hbs, fun j hj => h j (by omega)⟩
    have hL1 : LEN (uA (uA A 3 ds) 4 bs) := (hL.set (by rw [hd]; exact (hL 3 rfl).symm)).set (by rw [hbs, uA_n _ _ _ (by decide)]; exact (hL 4 rfl).symm)
    have ca := c_atV (fu := fu) (I := I) hL1 (show 60 * q + i + (2 * m + 5) < 240 by omega) (show _ = v (2 * m + 5) by rw [uA_n _ _ _ (by decide), uA_n _ _ _ (by decide), hv (2 * m + 5) (by omega)])
    have e5 : nI i + 2 * nI m + 5 = nI (i + (2 * m + 5)) := by
      rw [show (2 : Int32) = nI 2 from rfl, pk_mul, nI_add, show (5 : Int32) = nI 5 from rfl, nI_add, Nat.add_assoc]
    simp only [F_X5_readInto, n_lt (show c < 2147483648 by omega) (show m < 2147483648 by omega), e5, ca, io_1, gr_1_0, gr_1_1, gr_1_2, gr_1_3, gr_1_4, gr_1_5, gi_1_6, pf_1_6, gi_1_7, pf_1_7, io_2, gr_2_0, gr_2_1, gr_2_2, gr_2_3, gr_2_4, gr_2_5, gr_2_6, gr_2_7, gi_2_8, pf_2_8, gi_2_9, pf_2_9, gi_2_10, pf_2_10, gi_2_11, pf_2_11, gi_2_12, pf_2_12, gi_2_13, pf_2_13, gi_2_14, pf_2_14, io_11, gr_11_0, gr_11_1, gr_11_2, io_15, gr_15_0, gr_15_1, gi_15_2, pf_15_2, gi_15_3, pf_15_3, gi_15_4, pf_15_4, gi_15_5, pf_15_5, io_18, gr_18_0, gr_18_1, gi_18_2, pf_18_2, io_21, gr_21_0, gr_21_1, gr_21_2, gr_21_3, gi_21_4, pf_21_4, gi_21_5, pf_21_5, gi_21_6, pf_21_6, gi_21_7, pf_21_7, io_34, gr_34_0, gi_34_1, pf_34_1, io_36, gi_36_0, pf_36_0, gi_36_1, pf_36_1, gr_36_2, gr_36_3, gr_36_4, gi_36_5, pf_36_5, gi_36_6, pf_36_6, gi_36_7, pf_36_7, gr_36_8, gr_36_9, gr_36_10, gr_36_11, gi_36_12, pf_36_12, gi_36_13, pf_36_13, gi_36_14, pf_36_14, gr_36_15, gr_36_16, gi_36_17, pf_36_17, gr_36_18, gr_36_19, gr_36_20, gr_36_21, gr_36_22, gi_36_23, pf_36_23, gr_36_24, gr_36_25, gi_36_26, pf_36_26, gr_36_27, gr_36_28, gr_36_29, gr_36_30, gi_36_31, pf_36_31, gr_36_32, gr_36_33, gi_36_34, pf_36_34, gi_36_35, pf_36_35, gr_36_36, al_3, al_4, al_5, al_6, al_7, al_8, al_9, al_10, al_12, al_13, al_14, al_16, al_17, al_19, al_20, al_22, al_23, al_24, al_26, al_27, al_28, al_29, al_30, al_31, al_32, al_33, al_35, al_37, al_38, al_39, al_40, al_41, al_42, al_43, al_44, al_45, al_46, al_47, al_48, al_49, al_50, al_51, al_52, al_53, al_54, al_55, al_56, al_57, al_58, al_59, ↓reduceIte, Option.bind_some, cI_some, cL_some, cV_some, rz_0, rz_1]
    rw [if_neg (by omega)]
  | succ d ih =>
    intro c N ds bs A I hL hv hc hN hd hbs h
    obtain ⟨N, rfl⟩ : ∃ j, N = j + 1 := ⟨N - 1, by omega⟩
    have hL1 : LEN (uA (uA A 3 ds) 4 bs) := (hL.set (by rw [hd]; exact (hL 3 rfl).symm)).set (by rw [hbs, uA_n _ _ _ (by decide)]; exact (hL 4 rfl).symm)
    have ca := c_atV (fu := fu) (I := I) hL1 (show 60 * q + i + (1 + c) < 240 by omega) (show _ = v (1 + c) by rw [uA_n _ _ _ (by decide), uA_n _ _ _ (by decide), hv (1 + c) (by omega)])
    have s3 := si_3 (uA (uA A 3 ds) 4 bs) I (v (1 + c) - 48) (show c < _ by rw [uA_n _ _ _ (by decide), uA_s]; omega) (show c < 2147483648 by omega)
    have w3 : uA (uA (uA A 3 ds) 4 bs) 3 ((uA (uA A 3 ds) 4 bs 3).set c (v (1 + c) - 48)) = uA (uA A 3 (ds.set c (v (1 + c) - 48))) 4 bs := by
      funext j
      unfold uA
      by_cases y : j = 3
      · rw [y]; rfl
      · rw [if_neg y]
        by_cases y2 : j = 4
        · rw [if_pos y2, if_pos y2]
        · rw [if_neg y2, if_neg y2, if_neg y, if_neg y]
    rw [w3] at s3
    have hL2 : LEN (uA (uA A 3 (ds.set c (v (1 + c) - 48))) 4 bs) := (hL.set (by rw [List.length_set, hd]; exact (hL 3 rfl).symm)).set (by rw [hbs, uA_n _ _ _ (by decide)]; exact (hL 4 rfl).symm)
    have cb := c_atV (fu := fu) (I := I) hL2 (show 60 * q + i + (m + 3 + c) < 240 by omega) (show _ = v (m + 3 + c) by rw [uA_n _ _ _ (by decide), uA_n _ _ _ (by decide), hv (m + 3 + c) (by omega)])
    have s4 := si_4 (uA (uA A 3 (ds.set c (v (1 + c) - 48))) 4 bs) I (v (m + 3 + c) - 48) (show c < _ by rw [uA_s]; omega) (show c < 2147483648 by omega)
    rw [uA_s, uA_uA] at s4
    have e1 : nI i + 1 + nI c = nI (i + (1 + c)) := by rw [nI_1, nI_add, Nat.add_assoc]
    have e3 : nI i + nI m + 3 + nI c = nI (i + (m + 3 + c)) := by
      rw [show (3 : Int32) = nI 3 from rfl, nI_add, nI_add, nI_add]; congr 1; omega
    simp only [F_X5_readInto, n_lt (show c < 2147483648 by omega) (show m < 2147483648 by omega), e1, ca, io_1, gr_1_0, gr_1_1, gr_1_2, gr_1_3, gr_1_4, gr_1_5, gi_1_6, pf_1_6, gi_1_7, pf_1_7, io_2, gr_2_0, gr_2_1, gr_2_2, gr_2_3, gr_2_4, gr_2_5, gr_2_6, gr_2_7, gi_2_8, pf_2_8, gi_2_9, pf_2_9, gi_2_10, pf_2_10, gi_2_11, pf_2_11, gi_2_12, pf_2_12, gi_2_13, pf_2_13, gi_2_14, pf_2_14, io_11, gr_11_0, gr_11_1, gr_11_2, io_15, gr_15_0, gr_15_1, gi_15_2, pf_15_2, gi_15_3, pf_15_3, gi_15_4, pf_15_4, gi_15_5, pf_15_5, io_18, gr_18_0, gr_18_1, gi_18_2, pf_18_2, io_21, gr_21_0, gr_21_1, gr_21_2, gr_21_3, gi_21_4, pf_21_4, gi_21_5, pf_21_5, gi_21_6, pf_21_6, gi_21_7, pf_21_7, io_34, gr_34_0, gi_34_1, pf_34_1, io_36, gi_36_0, pf_36_0, gi_36_1, pf_36_1, gr_36_2, gr_36_3, gr_36_4, gi_36_5, pf_36_5, gi_36_6, pf_36_6, gi_36_7, pf_36_7, gr_36_8, gr_36_9, gr_36_10, gr_36_11, gi_36_12, pf_36_12, gi_36_13, pf_36_13, gi_36_14, pf_36_14, gr_36_15, gr_36_16, gi_36_17, pf_36_17, gr_36_18, gr_36_19, gr_36_20, gr_36_21, gr_36_22, gi_36_23, pf_36_23, gr_36_24, gr_36_25, gi_36_26, pf_36_26, gr_36_27, gr_36_28, gr_36_29, gr_36_30, gi_36_31, pf_36_31, gr_36_32, gr_36_33, gi_36_34, pf_36_34, gi_36_35, pf_36_35, gr_36_36, al_3, al_4, al_5, al_6, al_7, al_8, al_9, al_10, al_12, al_13, al_14, al_16, al_17, al_19, al_20, al_22, al_23, al_24, al_26, al_27, al_28, al_29, al_30, al_31, al_32, al_33, al_35, al_37, al_38, al_39, al_40, al_41, al_42, al_43, al_44, al_45, al_46, al_47, al_48, al_49, al_50, al_51, al_52, al_53, al_54, al_55, al_56, al_57, al_58, al_59, ↓reduceIte, Option.bind_some, cI_some, cL_some, cV_some, rz_0, rz_1, s3, e3, cb, s4]
    rw [if_pos (by omega), nI_1]
    refine ih (c + 1) N _ _ A I hL hv (by omega) (by omega) (by rw [List.length_set]; exact hd) (by rw [List.length_set]; exact hbs) (fun j hj => ?_)
    rw [rd_set _ _ (by omega), rd_set _ _ (by omega)]
    by_cases y : j = c
    · rw [if_pos y, if_pos y, y]; exact ⟨rfl, rfl⟩
    · rw [if_neg y, if_neg y]; exact h j (by omega)
theorem m_brookL {m : Nat} (hm7 : m ≤ 7) : ∀ d c N B (J : Nat → Nat → Int32), c + d = m → d < N → LEN B → J 36 5 = nI m → (∀ j, j < c → rd (B 40) j = rd (B 44) j ∧ rd (B 41) j = rd (B 45) j ∧ rd (B 42) j = 0 ∧ rd (B 43) j = -9) →
    ∃ C, F_X8_brook fu N 36 (nI c) (enc B J) = some (some (.int (nI m)), enc C J) ∧ LEN C ∧ (∀ k, k ≠ 40 → k ≠ 41 → k ≠ 42 → k ≠ 43 → C k = B k) ∧ ∀ j, j < m → rd (C 40) j = rd (B 44) j ∧ rd (C 41) j = rd (B 45) j ∧ rd (C 42) j = 0 ∧ rd (C 43) j = -9 := by
  intro d
  induction d with
  | zero =>
    intro c N B J hc hN hL h5 h
    obtain ⟨N, rfl⟩ : ∃ j, N = j + 1 := ⟨N - 1, by omega⟩
    refine ⟨B, ?_, hL, fun _ _ _ _ _ => rfl, fun j hj => h j (by omega)⟩
    simp only [F_X8_brook, io_1, gr_1_0, gr_1_1, gr_1_2, gr_1_3, gr_1_4, gr_1_5, gi_1_6, pf_1_6, gi_1_7, pf_1_7, io_2, gr_2_0, gr_2_1, gr_2_2, gr_2_3, gr_2_4, gr_2_5, gr_2_6, gr_2_7, gi_2_8, pf_2_8, gi_2_9, pf_2_9, gi_2_10, pf_2_10, gi_2_11, pf_2_11, gi_2_12, pf_2_12, gi_2_13, pf_2_13, gi_2_14, pf_2_14, io_11, gr_11_0, gr_11_1, gr_11_2, io_15, gr_15_0, gr_15_1, gi_15_2, pf_15_2, gi_15_3, pf_15_3, gi_15_4, pf_15_4, gi_15_5, pf_15_5, io_18, gr_18_0, gr_18_1, gi_18_2, pf_18_2, io_21, gr_21_0, gr_21_1, gr_21_2, gr_21_3, gi_21_4, pf_21_4, gi_21_5, pf_21_5, gi_21_6, pf_21_6, gi_21_7, pf_21_7, io_34, gr_34_0, gi_34_1, pf_34_1, io_36, gi_36_0, pf_36_0, gi_36_1, pf_36_1, gr_36_2, gr_36_3, gr_36_4, gi_36_5, pf_36_5, gi_36_6, pf_36_6, gi_36_7, pf_36_7, gr_36_8, gr_36_9, gr_36_10, gr_36_11, gi_36_12, pf_36_12, gi_36_13, pf_36_13, gi_36_14, pf_36_14, gr_36_15, gr_36_16, gi_36_17, pf_36_17, gr_36_18, gr_36_19, gr_36_20, gr_36_21, gr_36_22, gi_36_23, pf_36_23, gr_36_24, gr_36_25, gi_36_26, pf_36_26, gr_36_27, gr_36_28, gr_36_29, gr_36_30, gi_36_31, pf_36_31, gr_36_32, gr_36_33, gi_36_34, pf_36_34, gi_36_35, pf_36_35, gr_36_36, al_3, al_4, al_5, al_6, al_7, al_8, al_9, al_10, al_12, al_13, al_14, al_16, al_17, al_19, al_20, al_22, al_23, al_24, al_26, al_27, al_28, al_29, al_30, al_31, al_32, al_33, al_35, al_37, al_38, al_39, al_40, al_41, al_42, al_43, al_44, al_45, al_46, al_47, al_48, al_49, al_50, al_51, al_52, al_53, al_54, al_55, al_56, al_57, al_58, al_59, ↓reduceIte, Option.bind_some, cI_some, cL_some, cV_some, rz_0, rz_1, h5, n_lt (show c < 2147483648 by omega) (show m < 2147483648 by omega)]
    rw [if_neg (by omega)]
  | succ d ih =>
    intro c N B J hc hN hL h5 h
    obtain ⟨N, rfl⟩ : ∃ j, N = j + 1 := ⟨N - 1, by omega⟩
    have l40 : (B 40).length = 7 := hL 40 rfl
    have l41 : (B 41).length = 7 := hL 41 rfl
    have l42 : (B 42).length = 7 := hL 42 rfl
    have l43 : (B 43).length = 7 := hL 43 rfl
    have l44 : (B 44).length = 7 := hL 44 rfl
    have l45 : (B 45).length = 7 := hL 45 rfl
    have e44 : aI (enc B J) 44 (nI c) = some (rd (B 44) c) := ai_44 B J (by omega) (by omega)
    have s40 := si_40 B J (rd (B 44) c) (show c < (B 40).length by omega) (show c < 2147483648 by omega)
    obtain ⟨B1, hB1⟩ : ∃ X, X = uA B 40 ((B 40).set c (rd (B 44) c)) := ⟨_, rfl⟩
    rw [← hB1] at s40
    have q1 : ∀ k, k ≠ 40 → B1 k = B k := fun k hk => by rw [hB1]; exact uA_n _ _ _ hk
    have e45 : aI (enc B1 J) 45 (nI c) = some (rd (B 45) c) := by rw [ai_45 B1 J (by rw [q1 45 (by decide)]; omega) (by omega), q1 45 (by decide)]
    have s41 := si_41 B1 J (rd (B 45) c) (show c < (B1 41).length by rw [q1 41 (by decide)]; omega) (show c < 2147483648 by omega)
    rw [q1 41 (by decide)] at s41
    obtain ⟨B2, hB2⟩ : ∃ X, X = uA B1 41 ((B 41).set c (rd (B 45) c)) := ⟨_, rfl⟩
    rw [← hB2] at s41
    have q2 : ∀ k, k ≠ 41 → B2 k = B1 k := fun k hk => by rw [hB2]; exact uA_n _ _ _ hk
    have s42 := sz_42 B2 J 0 (show c < (B2 42).length by rw [q2 42 (by decide), q1 42 (by decide)]; omega) (show c < 2147483648 by omega)
    rw [q2 42 (by decide), q1 42 (by decide)] at s42
    obtain ⟨B3, hB3⟩ : ∃ X, X = uA B2 42 ((B 42).set c (0 &&& 1)) := ⟨_, rfl⟩
    rw [← hB3] at s42
    have q3 : ∀ k, k ≠ 42 → B3 k = B2 k := fun k hk => by rw [hB3]; exact uA_n _ _ _ hk
    have s43 := si_43 B3 J (-9) (show c < (B3 43).length by rw [q3 43 (by decide), q2 43 (by decide), q1 43 (by decide)]; omega) (show c < 2147483648 by omega)
    rw [q3 43 (by decide), q2 43 (by decide), q1 43 (by decide)] at s43
    obtain ⟨B4, hB4⟩ : ∃ X, X = uA B3 43 ((B 43).set c (-9)) := ⟨_, rfl⟩
    rw [← hB4] at s43
    have q4 : ∀ k, k ≠ 43 → B4 k = B3 k := fun k hk => by rw [hB4]; exact uA_n _ _ _ hk
    have v40 : B4 40 = (B 40).set c (rd (B 44) c) := by rw [q4 40 (by decide), q3 40 (by decide), q2 40 (by decide), hB1, uA_s]
    have v41 : B4 41 = (B 41).set c (rd (B 45) c) := by rw [q4 41 (by decide), q3 41 (by decide), hB2, uA_s]
    have v42 : B4 42 = (B 42).set c (0 &&& 1) := by rw [q4 42 (by decide), hB3, uA_s]
    have v43 : B4 43 = (B 43).set c (-9) := by rw [hB4, uA_s]
    have oth : ∀ k, k ≠ 40 → k ≠ 41 → k ≠ 42 → k ≠ 43 → B4 k = B k := fun k a b c d => by rw [q4 k d, q3 k c, q2 k b, q1 k a]
    have hL4 : LEN B4 := fun k hk => by
      by_cases z1 : k = 40
      · rw [z1, v40, List.length_set]; exact l40
      · by_cases z2 : k = 41
        · rw [z2, v41, List.length_set]; exact l41
        · by_cases z3 : k = 42
          · rw [z3, v42, List.length_set]; exact l42
          · by_cases z4 : k = 43
            · rw [z4, v43, List.length_set]; exact l43
            · rw [oth k z1 z2 z3 z4]; exact hL k hk
    obtain ⟨C, c1, c2, c3, c4⟩ := ih (c + 1) N B4 J (by omega) (by omega) hL4 h5 (fun j hj => by
      rw [v40, v41, v42, v43, oth 44 (by decide) (by decide) (by decide) (by decide), oth 45 (by decide) (by decide) (by decide) (by decide), rd_set _ _ (by omega), rd_set _ _ (by omega), rd_set _ _ (by omega), rd_set _ _ (by omega)]
      by_cases y : j = c
      · rw [if_pos y, if_pos y, if_pos y, if_pos y, y]; exact ⟨rfl, rfl, rfl, rfl⟩
      · rw [if_neg y, if_neg y, if_neg y, if_neg y]; exact h j (by omega))
    refine ⟨C, ?_, c2, fun k a b c d => by rw [c3 k a b c d, oth k a b c d], fun j hj => ?_⟩
    · simp only [F_X8_brook, io_1, gr_1_0, gr_1_1, gr_1_2, gr_1_3, gr_1_4, gr_1_5, gi_1_6, pf_1_6, gi_1_7, pf_1_7, io_2, gr_2_0, gr_2_1, gr_2_2, gr_2_3, gr_2_4, gr_2_5, gr_2_6, gr_2_7, gi_2_8, pf_2_8, gi_2_9, pf_2_9, gi_2_10, pf_2_10, gi_2_11, pf_2_11, gi_2_12, pf_2_12, gi_2_13, pf_2_13, gi_2_14, pf_2_14, io_11, gr_11_0, gr_11_1, gr_11_2, io_15, gr_15_0, gr_15_1, gi_15_2, pf_15_2, gi_15_3, pf_15_3, gi_15_4, pf_15_4, gi_15_5, pf_15_5, io_18, gr_18_0, gr_18_1, gi_18_2, pf_18_2, io_21, gr_21_0, gr_21_1, gr_21_2, gr_21_3, gi_21_4, pf_21_4, gi_21_5, pf_21_5, gi_21_6, pf_21_6, gi_21_7, pf_21_7, io_34, gr_34_0, gi_34_1, pf_34_1, io_36, gi_36_0, pf_36_0, gi_36_1, pf_36_1, gr_36_2, gr_36_3, gr_36_4, gi_36_5, pf_36_5, gi_36_6, pf_36_6, gi_36_7, pf_36_7, gr_36_8, gr_36_9, gr_36_10, gr_36_11, gi_36_12, pf_36_12, gi_36_13, pf_36_13, gi_36_14, pf_36_14, gr_36_15, gr_36_16, gi_36_17, pf_36_17, gr_36_18, gr_36_19, gr_36_20, gr_36_21, gr_36_22, gi_36_23, pf_36_23, gr_36_24, gr_36_25, gi_36_26, pf_36_26, gr_36_27, gr_36_28, gr_36_29, gr_36_30, gi_36_31, pf_36_31, gr_36_32, gr_36_33, gi_36_34, pf_36_34, gi_36_35, pf_36_35, gr_36_36, al_3, al_4, al_5, al_6, al_7, al_8, al_9, al_10, al_12, al_13, al_14, al_16, al_17, al_19, al_20, al_22, al_23, al_24, al_26, al_27, al_28, al_29, al_30, al_31, al_32, al_33, al_35, al_37, al_38, al_39, al_40, al_41, al_42, al_43, al_44, al_45, al_46, al_47, al_48, al_49, al_50, al_51, al_52, al_53, al_54, al_55, al_56, al_57, al_58, al_59, ↓reduceIte, Option.bind_some, cI_some, cL_some, cV_some, rz_0, rz_1, h5, n_lt (show c < 2147483648 by omega) (show m < 2147483648 by omega), e44, s40, e45, s41, s42, s43, nI_1]
      rw [if_pos (by omega)]
      exact c1
    · have := c4 j hj
      rw [oth 44 (by decide) (by decide) (by decide) (by decide), oth 45 (by decide) (by decide) (by decide) (by decide)] at this
      exact this
/-- a brook made anew -/
def newS (m pc : Nat) (dp bd : Nat → Nat) : SG := fun t i => if t = 0 then (if i = 0 then m else if i = 1 then pc else 0) else if t = 1 then dp i else if t = 2 then bd i else 0
theorem newS_wf {m pc : Nat} {dp bd : Nat → Nat} (h3 : 3 ≤ m) (h7 : m ≤ 7) (hp : pc ≤ 9) (h : ∀ c, c < m → dp c ≤ 9 ∧ bd c ≤ 9) : WF (newS m pc dp bd) := by
  refine ⟨Or.inr h3, h7, hp, Nat.zero_le _, Nat.zero_le _, Nat.zero_le _, fun _ => ⟨rfl, rfl⟩, fun c hc => ⟨(h c hc).1, (h c hc).2, Nat.zero_le _⟩, fun s hs => absurd hs (Nat.not_lt_zero _), fun s hs => absurd hs (Nat.not_lt_zero _), fun c hc s hs => ?_, fun s hs => absurd hs (Nat.not_lt_zero _)⟩
  have : (0 : Nat) = s + 1 := hs
  omega
end Q7
