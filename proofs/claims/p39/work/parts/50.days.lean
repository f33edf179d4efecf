section Q1
variable {σ : SG} {A : Nat → List Int32} {I : Nat → Nat → Int32} {fu : Nat}
/-- whether all cells of a stretch are within a limit -/
def allW (f : Nat → Int32) (lim : Int32) : Nat → Nat → Bool
  | _, 0 => true
  | k, m + 1 => decide (0 ≤ f k ∧ f k ≤ lim) && allW f lim (k + 1) m
theorem allW_t {f : Nat → Int32} {lim : Int32} : ∀ m k, allW f lim k m = true → ∀ j, k ≤ j → j < k + m → 0 ≤ f j ∧ f j ≤ lim := by
  intro m
  induction m with
  | zero => intro k _ j h1 h2; omega
  | succ m ih =>
    intro k h j h1 h2
    rw [allW, Bool.and_eq_true, decide_eq_true_iff] at h
    by_cases y : j = k
    · rw [y]; exact h.1
    · exact ih (k + 1) h.2 j (by omega) (by omega)
theorem c_at (hL : LEN A) {q j : Nat} (h : 60 * q + j < 240) : U_X4_at fu [.ref 11, .int (nI q), .int (nI j)] (enc A I) = some (some (.int (rd (A 14) (60 * q + j))), enc A I) := by
  simp only [u_X4_at, M_X4_at, io_1, gr_1_0, gr_1_1, gr_1_2, gr_1_3, gr_1_4, gr_1_5, gi_1_6, pf_1_6, gi_1_7, pf_1_7, io_2, gr_2_0, gr_2_1, gr_2_2, gr_2_3, gr_2_4, gr_2_5, gr_2_6, gr_2_7, gi_2_8, pf_2_8, gi_2_9, pf_2_9, gi_2_10, pf_2_10, gi_2_11, pf_2_11, gi_2_12, pf_2_12, gi_2_13, pf_2_13, gi_2_14, pf_2_14, io_11, gr_11_0, gr_11_1, gr_11_2, io_15, gr_15_0, gr_15_1, gi_15_2, pf_15_2, gi_15_3, pf_15_3, gi_15_4, pf_15_4, gi_15_5, pf_15_5, io_18, gr_18_0, gr_18_1, gi_18_2, pf_18_2, io_21, gr_21_0, gr_21_1, gr_21_2, gr_21_3, gi_21_4, pf_21_4, gi_21_5, pf_21_5, gi_21_6, pf_21_6, gi_21_7, pf_21_7, io_34, gr_34_0, gi_34_1, pf_34_1, al_3, al_4, al_5, al_6, al_7, al_8, al_9, al_10, al_12, al_13, al_14, al_16, al_17, al_19, al_20, al_22, al_23, al_24, al_26, al_27, al_28, al_29, al_30, al_31, al_32, al_33, al_35, ↓reduceIte, Option.bind_some, cI_some, cL_some, cV_some, rz_0, rz_1, (n_60 q j).1, ai_14 A I (show 60 * q + j < (A 14).length by rw [hL 14 rfl]; exact h) (show 60 * q + j < 2147483648 by omega)]
theorem c_areW (hf : 1000 ≤ fu) (hL : LEN A) {q i kk : Nat} (h : 60 * q + i + kk ≤ 240) (lim : Int32) : U_X4_areWithin fu [.ref 11, .int (nI q), .int (nI i), .int (nI kk), .int lim] (enc A I) = some (some (.int (bI (allW (fun k => rd (A 14) (60 * q + i + k)) lim 0 kk = true))), enc A I) := by
  have loop : ∀ m k n, k + m = kk → m < n → F_X4_areWithin fu n 11 (nI q) (nI i) (nI kk) lim (nI (i + k)) (enc A I) = some (some (.int (bI (allW (fun k => rd (A 14) (60 * q + i + k)) lim k m = true))), enc A I) := by
    intro m
    induction m with
    | zero =>
      intro k n hk hn
      obtain ⟨n, rfl⟩ : ∃ j, n = j + 1 := ⟨n - 1, by omega⟩
      simp only [F_X4_areWithin, nI_add, n_lt (show i + k < 2147483648 by omega) (show i + kk < 2147483648 by omega)]
      rw [if_neg (by omega), bI_t (show allW (fun k => rd (A 14) (60 * q + i + k)) lim k 0 = true from rfl)]
      exact rz_1 _
    | succ m ih =>
      intro k n hk hn
      obtain ⟨n, rfl⟩ : ∃ j, n = j + 1 := ⟨n - 1, by omega⟩
      simp only [F_X4_areWithin, nI_add, n_lt (show i + k < 2147483648 by omega) (show i + kk < 2147483648 by omega), c_at hL (show 60 * q + (i + k) < 240 by omega), c_within, io_1, gr_1_0, gr_1_1, gr_1_2, gr_1_3, gr_1_4, gr_1_5, gi_1_6, pf_1_6, gi_1_7, pf_1_7, io_2, gr_2_0, gr_2_1, gr_2_2, gr_2_3, gr_2_4, gr_2_5, gr_2_6, gr_2_7, gi_2_8, pf_2_8, gi_2_9, pf_2_9, gi_2_10, pf_2_10, gi_2_11, pf_2_11, gi_2_12, pf_2_12, gi_2_13, pf_2_13, gi_2_14, pf_2_14, io_11, gr_11_0, gr_11_1, gr_11_2, io_15, gr_15_0, gr_15_1, gi_15_2, pf_15_2, gi_15_3, pf_15_3, gi_15_4, pf_15_4, gi_15_5, pf_15_5, io_18, gr_18_0, gr_18_1, gi_18_2, pf_18_2, io_21, gr_21_0, gr_21_1, gr_21_2, gr_21_3, gi_21_4, pf_21_4, gi_21_5, pf_21_5, gi_21_6, pf_21_6, gi_21_7, pf_21_7, io_34, gr_34_0, gi_34_1, pf_34_1, al_3, al_4, al_5, al_6, al_7, al_8, al_9, al_10, al_12, al_13, al_14, al_16, al_17, al_19, al_20, al_22, al_23, al_24, al_26, al_27, al_28, al_29, al_30, al_31, al_32, al_33, al_35, ↓reduceIte, Option.bind_some, cI_some, cL_some, cV_some, rz_0, rz_1, bI_0, nI_1]
      rw [if_pos (by omega), ← Nat.add_assoc]
      by_cases z : 0 ≤ rd (A 14) (60 * q + i + k) ∧ rd (A 14) (60 * q + i + k) ≤ lim
      · rw [if_neg (fun y => y z), allW, decide_eq_true z, Bool.true_and]
        exact ih (k + 1) n (by omega) (by omega)
      · rw [if_pos z, allW, decide_eq_false z, Bool.false_and, bI_f (by decide)]
  simp only [u_X4_areWithin, M_X4_areWithin, io_1, gr_1_0, gr_1_1, gr_1_2, gr_1_3, gr_1_4, gr_1_5, gi_1_6, pf_1_6, gi_1_7, pf_1_7, io_2, gr_2_0, gr_2_1, gr_2_2, gr_2_3, gr_2_4, gr_2_5, gr_2_6, gr_2_7, gi_2_8, pf_2_8, gi_2_9, pf_2_9, gi_2_10, pf_2_10, gi_2_11, pf_2_11, gi_2_12, pf_2_12, gi_2_13, pf_2_13, gi_2_14, pf_2_14, io_11, gr_11_0, gr_11_1, gr_11_2, io_15, gr_15_0, gr_15_1, gi_15_2, pf_15_2, gi_15_3, pf_15_3, gi_15_4, pf_15_4, gi_15_5, pf_15_5, io_18, gr_18_0, gr_18_1, gi_18_2, pf_18_2, io_21, gr_21_0, gr_21_1, gr_21_2, gr_21_3, gi_21_4, pf_21_4, gi_21_5, pf_21_5, gi_21_6, pf_21_6, gi_21_7, pf_21_7, io_34, gr_34_0, gi_34_1, pf_34_1, al_3, al_4, al_5, al_6, al_7, al_8, al_9, al_10, al_12, al_13, al_14, al_16, al_17, al_19, al_20, al_22, al_23, al_24, al_26, al_27, al_28, al_29, al_30, al_31, al_32, al_33, al_35, ↓reduceIte, Option.bind_some, cI_some, cL_some, cV_some, rz_0, rz_1]
  exact loop kk 0 fu (by omega) (by omega)
theorem c_daysL (hf : 1000 ≤ fu) (r : RR σ A I) {x q i kk : Nat} (hx : x < σ 0 4) (h : 60 * q + i + kk ≤ 240) {v : Nat → Nat} (hv : ∀ k, k < kk → rd (A 14) (60 * q + i + k) = nI (v k) ∧ v k ≤ 9) : ∀ m k n, k + m = kk → m < n →
    F_X7_days fu n 1 (nI x) (nI q) (nI i) (nI kk) (nI (cnt (fun k => decide (X σ (σ 7) (v k) (σ 10 x))) k)) (nI k) (enc A I) = some (some (.int (nI (cnt (fun k => decide (X σ (σ 7) (v k) (σ 10 x))) kk))), enc A I) := by
  have hw := r.wal hx
  intro m
  induction m with
  | zero =>
    intro k n hk hn
    obtain ⟨n, rfl⟩ : ∃ j, n = j + 1 := ⟨n - 1, by omega⟩
    simp only [F_X7_days, n_lt (show k < 2147483648 by omega) (show kk < 2147483648 by omega)]
    rw [if_neg (by omega), show k = kk by omega]
  | succ m ih =>
    intro k n hk hn
    obtain ⟨n, rfl⟩ : ∃ j, n = j + 1 := ⟨n - 1, by omega⟩
    have e := ih (k + 1) n (by omega) (by omega)
    rw [cnt] at e
    obtain ⟨h1, h2⟩ := hv k (by omega)
    have rx := c_reachOf (fu := fu) r hx (g := 0) (by omega)
    rw [Nat.sub_zero, show nI 0 = (0 : Int32) from rfl] at rx
    have ca := c_at (fu := fu) (I := I) r.2.1 (show 60 * q + (i + k) < 240 by omega)
    rw [← Nat.add_assoc, h1] at ca
    simp only [F_X7_days, n_lt (show k < 2147483648 by omega) (show kk < 2147483648 by omega), io_1, gr_1_0, gr_1_1, gr_1_2, gr_1_3, gr_1_4, gr_1_5, gi_1_6, pf_1_6, gi_1_7, pf_1_7, io_2, gr_2_0, gr_2_1, gr_2_2, gr_2_3, gr_2_4, gr_2_5, gr_2_6, gr_2_7, gi_2_8, pf_2_8, gi_2_9, pf_2_9, gi_2_10, pf_2_10, gi_2_11, pf_2_11, gi_2_12, pf_2_12, gi_2_13, pf_2_13, gi_2_14, pf_2_14, io_11, gr_11_0, gr_11_1, gr_11_2, io_15, gr_15_0, gr_15_1, gi_15_2, pf_15_2, gi_15_3, pf_15_3, gi_15_4, pf_15_4, gi_15_5, pf_15_5, io_18, gr_18_0, gr_18_1, gi_18_2, pf_18_2, io_21, gr_21_0, gr_21_1, gr_21_2, gr_21_3, gi_21_4, pf_21_4, gi_21_5, pf_21_5, gi_21_6, pf_21_6, gi_21_7, pf_21_7, io_34, gr_34_0, gi_34_1, pf_34_1, al_3, al_4, al_5, al_6, al_7, al_8, al_9, al_10, al_12, al_13, al_14, al_16, al_17, al_19, al_20, al_22, al_23, al_24, al_26, al_27, al_28, al_29, al_30, al_31, al_32, al_33, al_35, ↓reduceIte, Option.bind_some, cI_some, cL_some, cV_some, rz_0, rz_1, nI_add, ca, c_filled hf r, rx, c_cross hf r h2 (show σ 10 x ≤ 9 by omega), bI_0, nI_1]
    rw [if_pos (by omega)]
    by_cases z : X σ (σ 7) (v k) (σ 10 x)
    · rw [if_neg (fun y => y z)]
      rw [if_pos (decide_eq_true z)] at e
      exact e
    · rw [if_pos z]
      rw [if_neg (by rw [decide_eq_true_iff]; exact z)] at e
      exact e
theorem allW_congr {f g : Nat → Int32} {lim : Int32} : ∀ m k, (∀ j, k ≤ j → j < k + m → f j = g j) → allW f lim k m = allW g lim k m := by
  intro m
  induction m with
  | zero => intro k _; rfl
  | succ m ih =>
    intro k h
    rw [allW, allW, h k (Nat.le_refl _) (by omega), ih (k + 1) (fun j h1 h2 => h j (by omega) (by omega))]
end Q1

