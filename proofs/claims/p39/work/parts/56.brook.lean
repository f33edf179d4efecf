section Q7
variable {σ : SG} {A : Nat → List Int32} {I : Nat → Nat → Int32} {fu : Nat}
theorem c_fill5 (hf : 1000 ≤ fu) (h5 : (A 5).length = 7) : ∃ xs, xs.length = 7 ∧ (∀ i, i < 7 → rd xs i = -9) ∧ U_J7_fill_53178 fu [.ref 5, .int (-9)] (enc A I) = some (none, enc (uA A 5 xs) I) := by
  have loop : ∀ d c n xs, c + d = 7 → d < n → xs.length = 7 → (∀ i, i < c → rd xs i = -9) → ∃ ys, ys.length = 7 ∧ (∀ i, i < 7 → rd ys i = -9) ∧ F_J7_fill_53178 fu n 5 (-9) (nI c) (nI 7) (enc (uA A 5 xs) I) = some (none, enc (uA A 5 ys) I) := by
    intro d
    induction d with
    | zero =>
      intro c n xs hc hn hl h
      obtain ⟨n, rfl⟩ : ∃ j, n = j + 1 := ⟨n - 1, by omega⟩
      refine ⟨xs, hl, fun i hi => h i (by omega), ?_⟩
      simp only [F_J7_fill_53178, n_lt (show c < 2147483648 by omega) (show 7 < 2147483648 by omega)]
      rw [if_neg (by omega)]
    | succ d ih =>
      intro c n xs hc hn hl h
      obtain ⟨n, rfl⟩ : ∃ j, n = j + 1 := ⟨n - 1, by omega⟩
      have hlc : c < xs.length := by omega
      obtain ⟨ys, g1, g2, g3⟩ := ih (c + 1) n (xs.set c (-9)) (by omega) (by omega) (by rw [List.length_set]; exact hl) (fun i hi => by
        rw [rd_set _ _ hlc]
        by_cases y : i = c
        · rw [if_pos y]
        · rw [if_neg y]; exact h i (by omega))
      refine ⟨ys, g1, g2, ?_⟩
      simp only [F_J7_fill_53178, n_lt (show c < 2147483648 by omega) (show 7 < 2147483648 by omega), nI_1]
      rw [if_pos (by omega), si_5 _ _ _ (by rw [uA_s]; exact hlc) (by omega), uA_s, uA_uA]
      exact g3
  obtain ⟨ys, g1, g2, g3⟩ := loop 7 0 fu (A 5) (by omega) (by omega) h5 (fun i hi => by omega)
  rw [uA_self] at g3
  refine ⟨ys, g1, g2, ?_⟩
  have hal : aL (enc A I) 5 = some (nI 7) := by rw [al_5, h5]; rfl
  simp only [u_J7_fill_53178, M_J7_fill_53178, hal, Option.bind_some]
  exact g3
def anw (I : Nat → Nat → Int32) : Nat → Nat → Int32 := uI (uI (uI (uI (uI I 2 10 0) 2 11 0) 2 12 0) 2 13 0) 2 14 0
theorem c_makeAnew (hf : 1000 ≤ fu) (hL : LEN A) : ∃ xs, xs.length = 7 ∧ (∀ i, i < 7 → rd xs i = -9) ∧ U_X0_makeAnew fu [.ref 2] (enc A I) = some (none, enc (uA A 5 xs) (anw I)) := by
  obtain ⟨xs, h1, h2, h3⟩ := c_fill5 (fu := fu) (A := A) (I := I) hf (hL 5 rfl)
  refine ⟨xs, h1, h2, ?_⟩
  simp only [u_X0_makeAnew, M_X0_makeAnew, io_1, gr_1_0, gr_1_1, gr_1_2, gr_1_3, gr_1_4, gr_1_5, gi_1_6, pf_1_6, gi_1_7, pf_1_7, io_2, gr_2_0, gr_2_1, gr_2_2, gr_2_3, gr_2_4, gr_2_5, gr_2_6, gr_2_7, gi_2_8, pf_2_8, gi_2_9, pf_2_9, gi_2_10, pf_2_10, gi_2_11, pf_2_11, gi_2_12, pf_2_12, gi_2_13, pf_2_13, gi_2_14, pf_2_14, io_11, gr_11_0, gr_11_1, gr_11_2, io_15, gr_15_0, gr_15_1, gi_15_2, pf_15_2, gi_15_3, pf_15_3, gi_15_4, pf_15_4, gi_15_5, pf_15_5, io_18, gr_18_0, gr_18_1, gi_18_2, pf_18_2, io_21, gr_21_0, gr_21_1, gr_21_2, gr_21_3, gi_21_4, pf_21_4, gi_21_5, pf_21_5, gi_21_6, pf_21_6, gi_21_7, pf_21_7, io_34, gr_34_0, gi_34_1, pf_34_1, al_3, al_4, al_5, al_6, al_7, al_8, al_9, al_10, al_12, al_13, al_14, al_16, al_17, al_19, al_20, al_22, al_23, al_24, al_26, al_27, al_28, al_29, al_30, al_31, al_32, al_33, al_35, ↓reduceIte, Option.bind_some, cI_some, cL_some, cV_some, rz_0, rz_1, h3]
  rfl
theorem c_readL {q i n m : Nat} (hb : 60 * q + i + n ≤ 240) {v : Nat → Int32} (hm7 : m ≤ 7) (hn : 2 * m + 6 ≤ n) : ∀ d c N ds bs (A : Nat → List Int32) (I : Nat → Nat → Int32), LEN A → (∀ p, p < n → rd (A 14) (60 * q + i + p) = v p) → c + d = m → d < N → ds.length = 7 → bs.length = 7 → (∀ j, j < c → rd ds j = v (1 + j) - 48 ∧ rd bs j = v (m + 3 + j) - 48) →
    ∃ es cs, F_X5_readInto fu N 2 11 (nI q) (nI i) (nI m) (nI c) (enc (uA (uA A 3 ds) 4 bs) I) = some (none, enc (uA (uA A 3 es) 4 cs) (uI (uI I 2 9 (v (2 * m + 5) - 48)) 2 8 (nI m))) ∧ es.length = 7 ∧ cs.length = 7 ∧ ∀ j, j < m → rd es j = v (1 + j) - 48 ∧ rd cs j = v (m + 3 + j) - 48 := by
  intro d
  induction d with
  | zero =>
    intro c N ds bs A I hL hv hc hN hd hbs h
    obtain ⟨N, rfl⟩ : ∃ j, N = j + 1 := ⟨N - 1, by omega⟩
    refine ⟨ds, bs, ?_, hd, hbs, fun j hj => h j (by omega)⟩
    have hL1 : LEN (uA (uA A 3 ds) 4 bs) := (hL.set (by rw [hd]; exact (hL 3 rfl).symm)).set (by rw [hbs, uA_n _ _ _ (by decide)]; exact (hL 4 rfl).symm)
    have ca := c_atV (fu := fu) (I := I) hL1 (show 60 * q + i + (2 * m + 5) < 240 by omega) (show _ = v (2 * m + 5) by rw [uA_n _ _ _ (by decide), uA_n _ _ _ (by decide), hv (2 * m + 5) (by omega)])
    have e5 : nI i + 2 * nI m + 5 = nI (i + (2 * m + 5)) := by
      rw [show (2 : Int32) = nI 2 from rfl, pk_mul, nI_add, show (5 : Int32) = nI 5 from rfl, nI_add, Nat.add_assoc]
    simp only [F_X5_readInto, n_lt (show c < 2147483648 by omega) (show m < 2147483648 by omega), e5, ca, io_1, gr_1_0, gr_1_1, gr_1_2, gr_1_3, gr_1_4, gr_1_5, gi_1_6, pf_1_6, gi_1_7, pf_1_7, io_2, gr_2_0, gr_2_1, gr_2_2, gr_2_3, gr_2_4, gr_2_5, gr_2_6, gr_2_7, gi_2_8, pf_2_8, gi_2_9, pf_2_9, gi_2_10, pf_2_10, gi_2_11, pf_2_11, gi_2_12, pf_2_12, gi_2_13, pf_2_13, gi_2_14, pf_2_14, io_11, gr_11_0, gr_11_1, gr_11_2, io_15, gr_15_0, gr_15_1, gi_15_2, pf_15_2, gi_15_3, pf_15_3, gi_15_4, pf_15_4, gi_15_5, pf_15_5, io_18, gr_18_0, gr_18_1, gi_18_2, pf_18_2, io_21, gr_21_0, gr_21_1, gr_21_2, gr_21_3, gi_21_4, pf_21_4, gi_21_5, pf_21_5, gi_21_6, pf_21_6, gi_21_7, pf_21_7, io_34, gr_34_0, gi_34_1, pf_34_1, al_3, al_4, al_5, al_6, al_7, al_8, al_9, al_10, al_12, al_13, al_14, al_16, al_17, al_19, al_20, al_22, al_23, al_24, al_26, al_27, al_28, al_29, al_30, al_31, al_32, al_33, al_35, ↓reduceIte, Option.bind_some, cI_some, cL_some, cV_some, rz_0, rz_1]
    rw [if_neg (by omega)]
  | succ d ih =>
    intro c N ds bs A I hL hv hc hN hd hbs h
    obtain ⟨N, rfl⟩ : ∃ j, N = j + 1 := ⟨N - 1, by omega⟩
    have hL1 : LEN (uA (uA A 3 ds) 4 bs) := (hL.set (by rw [hd]; exact (hL 3 rfl).symm)).set (by rw [hbs, uA_n _ _ _ (by decide)]; exact (hL 4 rfl).symm)
    have ca := c_atV (fu := fu) (I := I) hL1 (show 60 * q + i + (1 + c) < 240 by omega) (show _ = v (1 + c) by rw [uA_n _ _ _ (by decide), uA_n _ _ _ (by decide), hv (1 + c) (by omega)])
    have s3 := si_3 (uA (uA A 3 ds) 4 bs) I (v (1 + c) - 48) (show c < _ by rw [uA_n _ _ _ (by decide), uA_s]; omega) (show c < 2147483648 by omega)
    have w3 : uA (uA (uA A 3 ds) 4 bs) 3 ((uA (uA A 3 ds) 4 bs 3).set c (v (1 + c) - 48)) = uA (uA A 3 (ds.set c (v (1 + c) - 48))) 4 bs := by
      funext j
      unfold uA
      by_cases y : j = 3
      · rw [y]; rfl
      · rw [if_neg y]
        by_cases y2 : j = 4
        · rw [if_pos y2, if_pos y2]
        · rw [if_neg y2, if_neg y2, if_neg y, if_neg y]
    rw [w3] at s3
    have hL2 : LEN (uA (uA A 3 (ds.set c (v (1 + c) - 48))) 4 bs) := (hL.set (by rw [List.length_set, hd]; exact (hL 3 rfl).symm)).set (by rw [hbs, uA_n _ _ _ (by decide)]; exact (hL 4 rfl).symm)
    have cb := c_atV (fu := fu) (I := I) hL2 (show 60 * q + i + (m + 3 + c) < 240 by omega) (show _ = v (m + 3 + c) by rw [uA_n _ _ _ (by decide), uA_n _ _ _ (by decide), hv (m + 3 + c) (by omega)])
    have s4 := si_4 (uA (uA A 3 (ds.set c (v (1 + c) - 48))) 4 bs) I (v (m + 3 + c) - 48) (show c < _ by rw [uA_s]; omega) (show c < 2147483648 by omega)
    rw [uA_s, uA_uA] at s4
    have e1 : nI i + 1 + nI c = nI (i + (1 + c)) := by rw [nI_1, nI_add, Nat.add_assoc]
    have e3 : nI i + nI m + 3 + nI c = nI (i + (m + 3 + c)) := by
      rw [show (3 : Int32) = nI 3 from rfl, nI_add, nI_add, nI_add]; congr 1; omega
    simp only [F_X5_readInto, n_lt (show c < 2147483648 by omega) (show m < 2147483648 by omega), e1, ca, io_1, gr_1_0, gr_1_1, gr_1_2, gr_1_3, gr_1_4, gr_1_5, gi_1_6, pf_1_6, gi_1_7, pf_1_7, io_2, gr_2_0, gr_2_1, gr_2_2, gr_2_3, gr_2_4, gr_2_5, gr_2_6, gr_2_7, gi_2_8, pf_2_8, gi_2_9, pf_2_9, gi_2_10, pf_2_10, gi_2_11, pf_2_11, gi_2_12, pf_2_12, gi_2_13, pf_2_13, gi_2_14, pf_2_14, io_11, gr_11_0, gr_11_1, gr_11_2, io_15, gr_15_0, gr_15_1, gi_15_2, pf_15_2, gi_15_3, pf_15_3, gi_15_4, pf_15_4, gi_15_5, pf_15_5, io_18, gr_18_0, gr_18_1, gi_18_2, pf_18_2, io_21, gr_21_0, gr_21_1, gr_21_2, gr_21_3, gi_21_4, pf_21_4, gi_21_5, pf_21_5, gi_21_6, pf_21_6, gi_21_7, pf_21_7, io_34, gr_34_0, gi_34_1, pf_34_1, al_3, al_4, al_5, al_6, al_7, al_8, al_9, al_10, al_12, al_13, al_14, al_16, al_17, al_19, al_20, al_22, al_23, al_24, al_26, al_27, al_28, al_29, al_30, al_31, al_32, al_33, al_35, ↓reduceIte, Option.bind_some, cI_some, cL_some, cV_some, rz_0, rz_1, s3, e3, cb, s4]
    rw [if_pos (by omega), nI_1]
    refine ih (c + 1) N _ _ A I hL hv (by omega) (by omega) (by rw [List.length_set]; exact hd) (by rw [List.length_set]; exact hbs) (fun j hj => ?_)
    rw [rd_set _ _ (by omega), rd_set _ _ (by omega)]
    by_cases y : j = c
    · rw [if_pos y, if_pos y, y]; exact ⟨rfl, rfl⟩
    · rw [if_neg y, if_neg y]; exact h j (by omega)
/-- a brook made anew -/
def newS (m pc : Nat) (dp bd : Nat → Nat) : SG := fun t i => if t = 0 then (if i = 0 then m else if i = 1 then pc else 0) else if t = 1 then dp i else if t = 2 then bd i else 0
theorem newS_wf {m pc : Nat} {dp bd : Nat → Nat} (h3 : 3 ≤ m) (h7 : m ≤ 7) (hp : pc ≤ 9) (h : ∀ c, c < m → dp c ≤ 9 ∧ bd c ≤ 9) : WF (newS m pc dp bd) := by
  refine ⟨Or.inr h3, h7, hp, Nat.zero_le _, Nat.zero_le _, Nat.zero_le _, fun _ => ⟨rfl, rfl⟩, fun c hc => ⟨(h c hc).1, (h c hc).2, Nat.zero_le _⟩, fun s hs => absurd hs (Nat.not_lt_zero _), fun s hs => absurd hs (Nat.not_lt_zero _), fun c hc s hs => ?_, fun s hs => absurd hs (Nat.not_lt_zero _)⟩
  have : (0 : Nat) = s + 1 := hs
  omega
end Q7

