/-! ===== the model's flood ===== -/
section MF
variable {σ : SG} {R : Nat → Nat} {gB : Nat → Bool} {f k fu : Nat} {s : FS}
/-- the relation, whatever cell is guarded beside -/
def RQ (σ : SG) (A : Nat → List Int32) (I : Nat → Nat → Int32) : Prop := WF σ ∧ LEN A ∧ RM σ A (uI I 36 31 (-9))
variable {A : Nat → List Int32} {I : Nat → Nat → Int32}
theorem RR.q (r : RR σ A I) : RQ σ A I := by
  refine ⟨r.1, r.2.1, ?_⟩
  rw [← r.i36_31, uI_self]
  exact r.2.2.2.1
theorem Fr.RQ {B : Nat → List Int32} {J : Nat → Nat → Int32} (h : Fr A (uI I 36 31 (-9)) B (uI J 36 31 (-9))) (r : RQ σ A I) : RQ σ B J := by
  obtain ⟨h1, h2, h3⟩ := h
  obtain ⟨r1, r2, r4⟩ := r
  refine ⟨r1, fun k hk => (h2 k).trans (r2 k hk), ?_⟩
  unfold RM at *
  rw [h3 36 5 rfl, h3 36 6 rfl, h3 36 7 rfl, h3 36 17 rfl, h3 36 23 rfl, h3 36 31 rfl, h1 40 rfl, h1 41 rfl, h1 42 rfl, h1 43 rfl, h1 46 rfl, h1 47 rfl, h1 48 rfl, h1 49 rfl, h1 50 rfl, h1 51 rfl]
  exact r4
theorem RQ.i5 (r : RQ σ A I) : I 36 5 = nI (σ 0 0) := by have := r.2.2.1.1; exact this
theorem RQ.i6 (r : RQ σ A I) : I 36 6 = nI (σ 0 1) := by have := r.2.2.1.2.1; exact this
theorem RQ.i7 (r : RQ σ A I) : I 36 7 = nI (σ 0 2) := by have := r.2.2.1.2.2.1; exact this
theorem RQ.n7 (r : RQ σ A I) : σ 0 0 ≤ 7 := r.1.2.1
theorem RQ.m6 (r : RQ σ A I) : σ 0 3 ≤ 6 := r.1.2.2.2.2.1
theorem RQ.cel (r : RQ σ A I) {c : Nat} (h : c < σ 0 0) : σ 1 c ≤ 9 ∧ σ 2 c ≤ 9 ∧ σ 9 c ≤ 1 := r.1.2.2.2.2.2.2.2.1 c h
theorem RQ.sto (r : RQ σ A I) {s : Nat} (h : s < σ 0 3) : σ 3 s ≤ 2 ∧ 1 ≤ σ 4 s ∧ σ 4 s ≤ 20 ∧ 1 ≤ σ 5 s ∧ σ 5 s ≤ 9 ∧ σ 6 s ≤ 9 := r.1.2.2.2.2.2.2.2.2.1 s h
theorem RQ.row (r : RQ σ A I) {c s : Nat} (h : c < σ 0 0) (hs : σ 7 c = s + 1) : s < σ 0 3 ∧ σ 8 s = c + 1 := r.1.2.2.2.2.2.2.2.2.2.2.1 c h s hs
theorem RQ.plc (r : RQ σ A I) {s : Nat} (h : s < σ 0 3) : σ 8 s = 0 ∨ σ 8 s = 100 ∨ ∃ c, c < σ 0 0 ∧ σ 8 s = c + 1 ∧ σ 7 c = s + 1 := r.1.2.2.2.2.2.2.2.2.2.2.2 s h
theorem RQ.row_lt (r : RQ σ A I) {c : Nat} (h : c < σ 0 0) : σ 7 c ≤ 6 := by
  cases hk : σ 7 c with
  | zero => omega
  | succ s => have := (r.row h hk).1; have := r.m6; omega
theorem RQ.len (r : RQ σ A I) {k : Nat} (h : isArr k = true) : (A k).length = lenT k := r.2.1 k h
theorem RQ.v43 (r : RQ σ A I) {j : Nat} (h : j < σ 0 0) : rd (A 43) j = ro (σ 7 j) := (r.2.2.2.1 j h).2.2.1
theorem RQ.v50 (r : RQ σ A I) {j : Nat} (h : j < σ 0 3) : rd (A 50) j = pl (σ 8 j) := (r.2.2.2.2.1 j h).2.2.2.2
theorem RQ.a41 (r : RQ σ A I) {j : Nat} (h : j < σ 0 0) : aI (enc A I) 41 (nI j) = some (nI (σ 2 j)) := by rw [ai_41 A I (by rw [r.len rfl]; have := r.n7; show j < 7; omega) (by have := r.n7; omega), (r.2.2.2.1 j h).2.1]
theorem RQ.a42 (r : RQ σ A I) {j : Nat} (h : j < σ 0 0) : aZ (enc A I) 42 (nI j) = some (nI (σ 9 j)) := by rw [az_42 A I (by rw [r.len rfl]; have := r.n7; show j < 7; omega) (by have := r.n7; omega), (r.2.2.2.1 j h).2.2.2]
theorem RQ.a43 (r : RQ σ A I) {j : Nat} (h : j < σ 0 0) : aI (enc A I) 43 (nI j) = some (ro (σ 7 j)) := by rw [ai_43 A I (by rw [r.len rfl]; have := r.n7; show j < 7; omega) (by have := r.n7; omega), r.v43 h]
theorem RQ.a46 (r : RQ σ A I) {j : Nat} (h : j < σ 0 3) : aI (enc A I) 46 (nI j) = some (nI (σ 3 j)) := by rw [ai_46 A I (by rw [r.len rfl]; have := r.m6; show j < 6; omega) (by have := r.m6; omega), (r.2.2.2.2.1 j h).1]
theorem RQ.a48 (r : RQ σ A I) {j : Nat} (h : j < σ 0 3) : aI (enc A I) 48 (nI j) = some (nI (σ 5 j)) := by rw [ai_48 A I (by rw [r.len rfl]; have := r.m6; show j < 6; omega) (by have := r.m6; omega), (r.2.2.2.2.1 j h).2.2.1]
theorem q_holdOf (r : RQ σ A I) {s : Nat} (hs : s < σ 0 3) : U_X8_holdOf fu [.ref 36, .int (nI s)] (enc A I) = some (some (.int (nI (hold σ s))), enc A I) := by
  have h := (r.sto hs).1
  simp only [u_X8_holdOf, M_X8_holdOf, io_1, gr_1_0, gr_1_1, gr_1_2, gr_1_3, gr_1_4, gr_1_5, gi_1_6, pf_1_6, gi_1_7, pf_1_7, io_2, gr_2_0, gr_2_1, gr_2_2, gr_2_3, gr_2_4, gr_2_5, gr_2_6, gr_2_7, gi_2_8, pf_2_8, gi_2_9, pf_2_9, gi_2_10, pf_2_10, gi_2_11, pf_2_11, gi_2_12, pf_2_12, gi_2_13, pf_2_13, gi_2_14, pf_2_14, io_11, gr_11_0, gr_11_1, gr_11_2, io_15, gr_15_0, gr_15_1, gi_15_2, pf_15_2, gi_15_3, pf_15_3, gi_15_4, pf_15_4, gi_15_5, pf_15_5, io_18, gr_18_0, gr_18_1, gi_18_2, pf_18_2, io_21, gr_21_0, gr_21_1, gr_21_2, gr_21_3, gi_21_4, pf_21_4, gi_21_5, pf_21_5, gi_21_6, pf_21_6, gi_21_7, pf_21_7, io_34, gr_34_0, gi_34_1, pf_34_1, io_36, gi_36_0, pf_36_0, gi_36_1, pf_36_1, gr_36_2, gr_36_3, gr_36_4, gi_36_5, pf_36_5, gi_36_6, pf_36_6, gi_36_7, pf_36_7, gr_36_8, gr_36_9, gr_36_10, gr_36_11, gi_36_12, pf_36_12, gi_36_13, pf_36_13, gi_36_14, pf_36_14, gr_36_15, gr_36_16, gi_36_17, pf_36_17, gr_36_18, gr_36_19, gr_36_20, gr_36_21, gr_36_22, gi_36_23, pf_36_23, gr_36_24, gr_36_25, gi_36_26, pf_36_26, gr_36_27, gr_36_28, gr_36_29, gr_36_30, gi_36_31, pf_36_31, gr_36_32, gr_36_33, gi_36_34, pf_36_34, gi_36_35, pf_36_35, gr_36_36, al_3, al_4, al_5, al_6, al_7, al_8, al_9, al_10, al_12, al_13, al_14, al_16, al_17, al_19, al_20, al_22, al_23, al_24, al_26, al_27, al_28, al_29, al_30, al_31, al_32, al_33, al_35, al_37, al_38, al_39, al_40, al_41, al_42, al_43, al_44, al_45, al_46, al_47, al_48, al_49, al_50, al_51, al_52, al_53, al_54, al_55, al_56, al_57, al_58, al_59, ↓reduceIte, Option.bind_some, cI_some, cL_some, cV_some, rz_0, rz_1, r.a46 hs, r.a48 hs, nI_0lt (show σ 3 s < 2147483648 by omega), nI_add, n_lit 3, hold]
  by_cases q : 0 < σ 3 s
  · rw [if_pos q, if_neg (by omega)]
  · rw [if_neg q, if_pos (by omega)]; rfl
/-- only rows that no later call reads -/
def FrM (A B : Nat → List Int32) : Prop := (∀ k, k ≠ 52 → k ≠ 54 → k ≠ 55 → k ≠ 56 → B k = A k) ∧ ∀ k, (B k).length = (A k).length
theorem FrM.rf (A : Nat → List Int32) : FrM A A := ⟨fun _ _ _ _ _ => rfl, fun _ => rfl⟩
theorem FrM.tr {A B C : Nat → List Int32} (h : FrM A B) (g : FrM B C) : FrM A C := ⟨fun k a b c d => (g.1 k a b c d).trans (h.1 k a b c d), fun k => (g.2 k).trans (h.2 k)⟩
theorem FrM.arr {A B : Nat → List Int32} (h : FrM A B) {k : Nat} {xs : List Int32} (hk : k = 52 ∨ k = 54 ∨ k = 55 ∨ k = 56) (hl : xs.length = (B k).length) : FrM A (uA B k xs) := by
  refine h.tr ⟨fun j a b c d => uA_n _ _ _ (by omega), fun j => ?_⟩
  by_cases q : j = k
  · rw [q, uA_s]; exact hl
  · rw [uA_n _ _ _ q]
theorem FrM.Fr {A B : Nat → List Int32} (h : FrM A B) (I : Nat → Nat → Int32) : Fr A I B I := by
  refine ⟨fun k hk => h.1 k ?_ ?_ ?_ ?_, h.2, fun _ _ _ => rfl⟩ <;> (intro q; rw [q] at hk; cases hk)
theorem FrM.Q {A B : Nat → List Int32} (h : FrM A B) (r : RQ σ A I) : RQ σ B I := (h.Fr _).RQ r
def b2 (b : Bool) : Int32 := if b = true then 1 else 0
theorem b2_0 (b : Bool) : (b2 b = 0) = (b = false) := by cases b <;> simp [b2]
def MW (σ : SG) (R : Nat → Nat) (A : Nat → List Int32) (s : FS) : Prop := ∀ c, c < σ 0 0 → rd (A 52) c = ro (if s.1 c = true then R c else 0) ∧ rd (A 54) c = nI (s.2.1 c) ∧ rd (A 55) c = wn (s.2.2 c)
theorem half_n : ∀ a, a < 21 → nI a / 2 = nI (a / 2) := by decide +kernel
theorem m_powerAt (hfu : 1000 ≤ fu) (r : RQ σ A I) {c : Nat} (hc : c < σ 0 0) (hf : f ≤ 9) {st : Nat → Bool} (h56 : ∀ i, i < σ 0 0 → rd (A 56) i = b2 (st i)) (hg : gB c = (σ 9 c == 1 || decide (I 36 31 = nI c))) :
    U_X8_powerAt fu [.ref 36, .int (nI c), .int (nI f)] (enc A I) = some (some (.int (nI (if gB c = true then frc σ f st c / 2 else frc σ f st c))), enc A I) := by
  have hn := r.n7
  have hp : σ 0 1 ≤ 9 := (show WF σ from r.1).2.2.1
  have hfr := frc_lt (σ := σ) (f := f) (st := st) hp hf c
  have hcel := r.cel hc
  obtain ⟨n, hfe⟩ : ∃ n, fu = n + 2 := ⟨fu - 2, by omega⟩
  have a56 : ∀ i, i < σ 0 0 → aZ (enc A I) 56 (nI i) = some (b2 (st i)) := fun i hi => by rw [az_56 A I (by rw [r.len rfl]; show i < 7; omega) (by omega), h56 i hi]
  -- the last part
  have p2 : ∀ x y : Nat, y + x = frc σ f st c → (F_X8_powerAt fu (n + 1)).2 36 (nI c) (nI x) (nI y) (enc A I) = some (some (.int (nI (if gB c = true then frc σ f st c / 2 else frc σ f st c))), enc A I) := by
    intro x y hxy
    rw [F_X8_powerAt]
    simp only [io_1, gr_1_0, gr_1_1, gr_1_2, gr_1_3, gr_1_4, gr_1_5, gi_1_6, pf_1_6, gi_1_7, pf_1_7, io_2, gr_2_0, gr_2_1, gr_2_2, gr_2_3, gr_2_4, gr_2_5, gr_2_6, gr_2_7, gi_2_8, pf_2_8, gi_2_9, pf_2_9, gi_2_10, pf_2_10, gi_2_11, pf_2_11, gi_2_12, pf_2_12, gi_2_13, pf_2_13, gi_2_14, pf_2_14, io_11, gr_11_0, gr_11_1, gr_11_2, io_15, gr_15_0, gr_15_1, gi_15_2, pf_15_2, gi_15_3, pf_15_3, gi_15_4, pf_15_4, gi_15_5, pf_15_5, io_18, gr_18_0, gr_18_1, gi_18_2, pf_18_2, io_21, gr_21_0, gr_21_1, gr_21_2, gr_21_3, gi_21_4, pf_21_4, gi_21_5, pf_21_5, gi_21_6, pf_21_6, gi_21_7, pf_21_7, io_34, gr_34_0, gi_34_1, pf_34_1, io_36, gi_36_0, pf_36_0, gi_36_1, pf_36_1, gr_36_2, gr_36_3, gr_36_4, gi_36_5, pf_36_5, gi_36_6, pf_36_6, gi_36_7, pf_36_7, gr_36_8, gr_36_9, gr_36_10, gr_36_11, gi_36_12, pf_36_12, gi_36_13, pf_36_13, gi_36_14, pf_36_14, gr_36_15, gr_36_16, gi_36_17, pf_36_17, gr_36_18, gr_36_19, gr_36_20, gr_36_21, gr_36_22, gi_36_23, pf_36_23, gr_36_24, gr_36_25, gi_36_26, pf_36_26, gr_36_27, gr_36_28, gr_36_29, gr_36_30, gi_36_31, pf_36_31, gr_36_32, gr_36_33, gi_36_34, pf_36_34, gi_36_35, pf_36_35, gr_36_36, al_3, al_4, al_5, al_6, al_7, al_8, al_9, al_10, al_12, al_13, al_14, al_16, al_17, al_19, al_20, al_22, al_23, al_24, al_26, al_27, al_28, al_29, al_30, al_31, al_32, al_33, al_35, al_37, al_38, al_39, al_40, al_41, al_42, al_43, al_44, al_45, al_46, al_47, al_48, al_49, al_50, al_51, al_52, al_53, al_54, al_55, al_56, al_57, al_58, al_59, ↓reduceIte, Option.bind_some, cI_some, cL_some, cV_some, rz_0, rz_1, r.a42 hc, nI_pe0 (show σ 9 c < 2147483648 by omega), nI_add, hxy, half_n _ hfr, if_neg (by decide : ¬ (2 : Int32) = 0)]
    by_cases q : σ 9 c = 0
    · rw [if_pos q]
      by_cases q2 : I 36 31 = nI c
      · rw [if_pos q2, if_pos (by rw [hg, decide_eq_true q2, Bool.or_true])]
      · rw [if_neg q2, if_neg (by rw [hg, decide_eq_false q2, q]; decide)]
    · rw [if_neg q, if_pos (by rw [hg, show σ 9 c = 1 by omega]; rfl)]
  have p1 : ∀ x y : Nat, y + x + (if c + 1 < σ 0 0 ∧ st (c + 1) = true then 1 else 0) = frc σ f st c → (F_X8_powerAt fu (n + 2)).1 36 (nI c) (nI x) (nI y) (enc A I) = some (some (.int (nI (if gB c = true then frc σ f st c / 2 else frc σ f st c))), enc A I) := by
    intro x y hxy
    show (F_X8_powerAt fu (n + 1 + 1)).1 36 (nI c) (nI x) (nI y) (enc A I) = _
    rw [F_X8_powerAt]
    simp only [io_1, gr_1_0, gr_1_1, gr_1_2, gr_1_3, gr_1_4, gr_1_5, gi_1_6, pf_1_6, gi_1_7, pf_1_7, io_2, gr_2_0, gr_2_1, gr_2_2, gr_2_3, gr_2_4, gr_2_5, gr_2_6, gr_2_7, gi_2_8, pf_2_8, gi_2_9, pf_2_9, gi_2_10, pf_2_10, gi_2_11, pf_2_11, gi_2_12, pf_2_12, gi_2_13, pf_2_13, gi_2_14, pf_2_14, io_11, gr_11_0, gr_11_1, gr_11_2, io_15, gr_15_0, gr_15_1, gi_15_2, pf_15_2, gi_15_3, pf_15_3, gi_15_4, pf_15_4, gi_15_5, pf_15_5, io_18, gr_18_0, gr_18_1, gi_18_2, pf_18_2, io_21, gr_21_0, gr_21_1, gr_21_2, gr_21_3, gi_21_4, pf_21_4, gi_21_5, pf_21_5, gi_21_6, pf_21_6, gi_21_7, pf_21_7, io_34, gr_34_0, gi_34_1, pf_34_1, io_36, gi_36_0, pf_36_0, gi_36_1, pf_36_1, gr_36_2, gr_36_3, gr_36_4, gi_36_5, pf_36_5, gi_36_6, pf_36_6, gi_36_7, pf_36_7, gr_36_8, gr_36_9, gr_36_10, gr_36_11, gi_36_12, pf_36_12, gi_36_13, pf_36_13, gi_36_14, pf_36_14, gr_36_15, gr_36_16, gi_36_17, pf_36_17, gr_36_18, gr_36_19, gr_36_20, gr_36_21, gr_36_22, gi_36_23, pf_36_23, gr_36_24, gr_36_25, gi_36_26, pf_36_26, gr_36_27, gr_36_28, gr_36_29, gr_36_30, gi_36_31, pf_36_31, gr_36_32, gr_36_33, gi_36_34, pf_36_34, gi_36_35, pf_36_35, gr_36_36, al_3, al_4, al_5, al_6, al_7, al_8, al_9, al_10, al_12, al_13, al_14, al_16, al_17, al_19, al_20, al_22, al_23, al_24, al_26, al_27, al_28, al_29, al_30, al_31, al_32, al_33, al_35, al_37, al_38, al_39, al_40, al_41, al_42, al_43, al_44, al_45, al_46, al_47, al_48, al_49, al_50, al_51, al_52, al_53, al_54, al_55, al_56, al_57, al_58, al_59, ↓reduceIte, Option.bind_some, cI_some, cL_some, cV_some, rz_0, rz_1, r.i5, nI_1, n_lt (show c + 1 < 2147483648 by omega) (show σ 0 0 < 2147483648 by omega), nI_add]
    by_cases q : c + 1 < σ 0 0
    · rw [if_pos q, a56 (c + 1) q, Option.bind_some]
      by_cases q2 : st (c + 1) = true
      · rw [if_neg (show ¬ b2 (st (c + 1)) = 0 by rw [q2]; decide)]
        rw [if_pos ⟨q, q2⟩] at hxy
        exact p2 1 _ hxy
      · rw [if_pos (show b2 (st (c + 1)) = 0 by rw [Bool.eq_false_iff.mpr q2]; rfl)]
        rw [if_neg (fun z => q2 z.2)] at hxy
        exact p2 0 _ hxy
    · rw [if_neg q]
      rw [if_neg (fun z => q z.1)] at hxy
      exact p2 0 _ hxy
  rw [← hfe] at p1
  simp only [u_X8_powerAt, M_X8_powerAt, io_1, gr_1_0, gr_1_1, gr_1_2, gr_1_3, gr_1_4, gr_1_5, gi_1_6, pf_1_6, gi_1_7, pf_1_7, io_2, gr_2_0, gr_2_1, gr_2_2, gr_2_3, gr_2_4, gr_2_5, gr_2_6, gr_2_7, gi_2_8, pf_2_8, gi_2_9, pf_2_9, gi_2_10, pf_2_10, gi_2_11, pf_2_11, gi_2_12, pf_2_12, gi_2_13, pf_2_13, gi_2_14, pf_2_14, io_11, gr_11_0, gr_11_1, gr_11_2, io_15, gr_15_0, gr_15_1, gi_15_2, pf_15_2, gi_15_3, pf_15_3, gi_15_4, pf_15_4, gi_15_5, pf_15_5, io_18, gr_18_0, gr_18_1, gi_18_2, pf_18_2, io_21, gr_21_0, gr_21_1, gr_21_2, gr_21_3, gi_21_4, pf_21_4, gi_21_5, pf_21_5, gi_21_6, pf_21_6, gi_21_7, pf_21_7, io_34, gr_34_0, gi_34_1, pf_34_1, io_36, gi_36_0, pf_36_0, gi_36_1, pf_36_1, gr_36_2, gr_36_3, gr_36_4, gi_36_5, pf_36_5, gi_36_6, pf_36_6, gi_36_7, pf_36_7, gr_36_8, gr_36_9, gr_36_10, gr_36_11, gi_36_12, pf_36_12, gi_36_13, pf_36_13, gi_36_14, pf_36_14, gr_36_15, gr_36_16, gi_36_17, pf_36_17, gr_36_18, gr_36_19, gr_36_20, gr_36_21, gr_36_22, gi_36_23, pf_36_23, gr_36_24, gr_36_25, gi_36_26, pf_36_26, gr_36_27, gr_36_28, gr_36_29, gr_36_30, gi_36_31, pf_36_31, gr_36_32, gr_36_33, gi_36_34, pf_36_34, gi_36_35, pf_36_35, gr_36_36, al_3, al_4, al_5, al_6, al_7, al_8, al_9, al_10, al_12, al_13, al_14, al_16, al_17, al_19, al_20, al_22, al_23, al_24, al_26, al_27, al_28, al_29, al_30, al_31, al_32, al_33, al_35, al_37, al_38, al_39, al_40, al_41, al_42, al_43, al_44, al_45, al_46, al_47, al_48, al_49, al_50, al_51, al_52, al_53, al_54, al_55, al_56, al_57, al_58, al_59, ↓reduceIte, Option.bind_some, cI_some, cL_some, cV_some, rz_0, rz_1, r.i6, nI_add, nI_0lt (show c < 2147483648 by omega)]
  by_cases q : 0 < c
  · obtain ⟨b, rfl⟩ : ∃ b, c = b + 1 := ⟨c - 1, by omega⟩
    rw [if_pos q, n_sub1, a56 b (by omega), Option.bind_some]
    by_cases q2 : st b = true
    · rw [if_neg (show ¬ b2 (st b) = 0 by rw [q2]; decide)]
      have e0 : (if 0 < b + 1 ∧ st b = true then 1 else 0 : Nat) = 1 := if_pos ⟨q, q2⟩
      exact p1 1 _ (by unfold frc; simp only [Nat.add_sub_cancel]; omega)
    · rw [if_pos (show b2 (st b) = 0 by rw [Bool.eq_false_iff.mpr q2]; rfl)]
      have e0 : (if 0 < b + 1 ∧ st b = true then 1 else 0 : Nat) = 0 := if_neg (fun z => q2 z.2)
      exact p1 0 _ (by unfold frc; simp only [Nat.add_sub_cancel]; omega)
  · rw [if_neg q]
    have e0 : (if 0 < c ∧ st (c - 1) = true then 1 else 0 : Nat) = 0 := if_neg (fun z => q z.1)
    exact p1 0 _ (by unfold frc; omega)
/-! the three passes of a round -/
theorem m_passA (r : RQ σ A I) {x1 x2 x3 : Int32} (hR : ∀ c, c < σ 0 0 → R c ≤ 6) (ho : okS σ R s) : ∀ m c n B, c + m = σ 0 0 → FrM A B → (∀ i, i < σ 0 0 → rd (B 52) i = ro (if s.1 i = true then R i else 0)) → (∀ i, i < c → rd (B 56) i = b2 (s.1 i)) →
    ∃ C, (F_X8_goFlood fu (n + (m + 1))).2.2.1 36 x1 x2 x3 (nI c) (enc B I) = (F_X8_goFlood fu n).2.2.2.1 36 x1 x2 x3 0 (enc C I) ∧ (∀ k, k ≠ 56 → C k = B k) ∧ FrM A C ∧ (∀ i, i < σ 0 0 → rd (C 56) i = b2 (s.1 i)) := by
  have hn := r.n7
  intro m
  induction m with
  | zero =>
    intro c n B hc hF h52 h56
    refine ⟨B, ?_, fun _ _ => rfl, hF, fun i hi => h56 i (by omega)⟩
    rw [show n + (0 + 1) = n + 1 by omega, F_X8_goFlood]
    simp only [io_1, gr_1_0, gr_1_1, gr_1_2, gr_1_3, gr_1_4, gr_1_5, gi_1_6, pf_1_6, gi_1_7, pf_1_7, io_2, gr_2_0, gr_2_1, gr_2_2, gr_2_3, gr_2_4, gr_2_5, gr_2_6, gr_2_7, gi_2_8, pf_2_8, gi_2_9, pf_2_9, gi_2_10, pf_2_10, gi_2_11, pf_2_11, gi_2_12, pf_2_12, gi_2_13, pf_2_13, gi_2_14, pf_2_14, io_11, gr_11_0, gr_11_1, gr_11_2, io_15, gr_15_0, gr_15_1, gi_15_2, pf_15_2, gi_15_3, pf_15_3, gi_15_4, pf_15_4, gi_15_5, pf_15_5, io_18, gr_18_0, gr_18_1, gi_18_2, pf_18_2, io_21, gr_21_0, gr_21_1, gr_21_2, gr_21_3, gi_21_4, pf_21_4, gi_21_5, pf_21_5, gi_21_6, pf_21_6, gi_21_7, pf_21_7, io_34, gr_34_0, gi_34_1, pf_34_1, io_36, gi_36_0, pf_36_0, gi_36_1, pf_36_1, gr_36_2, gr_36_3, gr_36_4, gi_36_5, pf_36_5, gi_36_6, pf_36_6, gi_36_7, pf_36_7, gr_36_8, gr_36_9, gr_36_10, gr_36_11, gi_36_12, pf_36_12, gi_36_13, pf_36_13, gi_36_14, pf_36_14, gr_36_15, gr_36_16, gi_36_17, pf_36_17, gr_36_18, gr_36_19, gr_36_20, gr_36_21, gr_36_22, gi_36_23, pf_36_23, gr_36_24, gr_36_25, gi_36_26, pf_36_26, gr_36_27, gr_36_28, gr_36_29, gr_36_30, gi_36_31, pf_36_31, gr_36_32, gr_36_33, gi_36_34, pf_36_34, gi_36_35, pf_36_35, gr_36_36, al_3, al_4, al_5, al_6, al_7, al_8, al_9, al_10, al_12, al_13, al_14, al_16, al_17, al_19, al_20, al_22, al_23, al_24, al_26, al_27, al_28, al_29, al_30, al_31, al_32, al_33, al_35, al_37, al_38, al_39, al_40, al_41, al_42, al_43, al_44, al_45, al_46, al_47, al_48, al_49, al_50, al_51, al_52, al_53, al_54, al_55, al_56, al_57, al_58, al_59, ↓reduceIte, Option.bind_some, cI_some, cL_some, cV_some, rz_0, rz_1, r.i5, n_lt (show c < 2147483648 by omega) (show σ 0 0 < 2147483648 by omega)]
    rw [if_neg (by omega)]
  | succ m ih =>
    intro c n B hcm hF h52 h56
    have hc : c < σ 0 0 := by omega
    have l56 : c < (B 56).length := by rw [hF.2, r.len rfl]; show c < 7; omega
    have e1 : aI (enc B I) 52 (nI c) = some (ro (if s.1 c = true then R c else 0)) := by rw [ai_52 B I (by rw [hF.2, r.len rfl]; show c < 7; omega) (by omega), h52 c hc]
    have nxt : ∀ C, C = uA B 56 ((B 56).set c (b2 (s.1 c))) → ∃ D, (F_X8_goFlood fu (n + (m + 1))).2.2.1 36 x1 x2 x3 (nI (c + 1)) (enc C I) = (F_X8_goFlood fu n).2.2.2.1 36 x1 x2 x3 0 (enc D I) ∧ (∀ k, k ≠ 56 → D k = B k) ∧ FrM A D ∧ (∀ i, i < σ 0 0 → rd (D 56) i = b2 (s.1 i)) := by
      rintro C rfl
      obtain ⟨D, g1, g2, g3, g4⟩ := ih (c + 1) n (uA B 56 ((B 56).set c (b2 (s.1 c)))) (by omega) (hF.arr (by omega) (by rw [List.length_set])) (by rw [uA_n _ _ _ (by decide)]; exact h52) (fun i hi => by
        rw [uA_s, rd_set _ _ l56]
        by_cases y : i = c
        · rw [if_pos y, y]
        · rw [if_neg y]; exact h56 i (by omega))
      exact ⟨D, g1, fun k hk => (g2 k hk).trans (uA_n _ _ _ hk), g3, g4⟩
    rw [show n + (m + 1 + 1) = n + (m + 1) + 1 by omega, F_X8_goFlood]
    simp only [io_1, gr_1_0, gr_1_1, gr_1_2, gr_1_3, gr_1_4, gr_1_5, gi_1_6, pf_1_6, gi_1_7, pf_1_7, io_2, gr_2_0, gr_2_1, gr_2_2, gr_2_3, gr_2_4, gr_2_5, gr_2_6, gr_2_7, gi_2_8, pf_2_8, gi_2_9, pf_2_9, gi_2_10, pf_2_10, gi_2_11, pf_2_11, gi_2_12, pf_2_12, gi_2_13, pf_2_13, gi_2_14, pf_2_14, io_11, gr_11_0, gr_11_1, gr_11_2, io_15, gr_15_0, gr_15_1, gi_15_2, pf_15_2, gi_15_3, pf_15_3, gi_15_4, pf_15_4, gi_15_5, pf_15_5, io_18, gr_18_0, gr_18_1, gi_18_2, pf_18_2, io_21, gr_21_0, gr_21_1, gr_21_2, gr_21_3, gi_21_4, pf_21_4, gi_21_5, pf_21_5, gi_21_6, pf_21_6, gi_21_7, pf_21_7, io_34, gr_34_0, gi_34_1, pf_34_1, io_36, gi_36_0, pf_36_0, gi_36_1, pf_36_1, gr_36_2, gr_36_3, gr_36_4, gi_36_5, pf_36_5, gi_36_6, pf_36_6, gi_36_7, pf_36_7, gr_36_8, gr_36_9, gr_36_10, gr_36_11, gi_36_12, pf_36_12, gi_36_13, pf_36_13, gi_36_14, pf_36_14, gr_36_15, gr_36_16, gi_36_17, pf_36_17, gr_36_18, gr_36_19, gr_36_20, gr_36_21, gr_36_22, gi_36_23, pf_36_23, gr_36_24, gr_36_25, gi_36_26, pf_36_26, gr_36_27, gr_36_28, gr_36_29, gr_36_30, gi_36_31, pf_36_31, gr_36_32, gr_36_33, gi_36_34, pf_36_34, gi_36_35, pf_36_35, gr_36_36, al_3, al_4, al_5, al_6, al_7, al_8, al_9, al_10, al_12, al_13, al_14, al_16, al_17, al_19, al_20, al_22, al_23, al_24, al_26, al_27, al_28, al_29, al_30, al_31, al_32, al_33, al_35, al_37, al_38, al_39, al_40, al_41, al_42, al_43, al_44, al_45, al_46, al_47, al_48, al_49, al_50, al_51, al_52, al_53, al_54, al_55, al_56, al_57, al_58, al_59, ↓reduceIte, Option.bind_some, cI_some, cL_some, cV_some, rz_0, rz_1, r.i5, n_lt (show c < 2147483648 by omega) (show σ 0 0 < 2147483648 by omega), e1, nI_1]
    rw [if_pos hc]
    by_cases q : s.1 c = true
    · have h0 := (ho c hc q).1
      have h6 := hR c hc
      rw [if_pos q, if_neg (by rw [ro_9 (by omega)]; exact h0), sz_56 B I 1 l56 (by omega), Option.bind_some]
      exact nxt _ (by rw [q]; rfl)
    · rw [if_neg q, if_pos (by rfl), sz_56 B I 0 l56 (by omega), Option.bind_some]
      exact nxt _ (by rw [Bool.eq_false_iff.mpr q]; rfl)
theorem m_passB (hfu : 1000 ≤ fu) (r : RQ σ A I) {x2 x3 : Int32} (hf : f ≤ 9) (hg : ∀ c, c < σ 0 0 → gB c = (σ 9 c == 1 || decide (I 36 31 = nI c))) : ∀ m c n B, c + m = σ 0 0 → FrM A B → (∀ i, i < σ 0 0 → rd (B 56) i = b2 (s.1 i)) → (∀ i, i < σ 0 0 → rd (B 54) i = nI (if i < c then (stp σ R gB f k s).2.1 i else s.2.1 i)) →
    ∃ C, (F_X8_goFlood fu (n + (2 * m + 1))).2.2.2.1 36 (nI f) x2 x3 (nI c) (enc B I) = (F_X8_goFlood fu n).2.2.2.2.2 36 (nI f) x2 x3 0 (enc C I) ∧ (∀ k, k ≠ 54 → C k = B k) ∧ FrM A C ∧ (∀ i, i < σ 0 0 → rd (C 54) i = nI ((stp σ R gB f k s).2.1 i)) := by
  have hn := r.n7
  intro m
  induction m with
  | zero =>
    intro c n B hc hF h56 h54
    refine ⟨B, ?_, fun _ _ => rfl, hF, fun i hi => by rw [h54 i hi, if_pos (by omega)]⟩
    rw [show n + (2 * 0 + 1) = n + 1 by omega, F_X8_goFlood]
    simp only [io_1, gr_1_0, gr_1_1, gr_1_2, gr_1_3, gr_1_4, gr_1_5, gi_1_6, pf_1_6, gi_1_7, pf_1_7, io_2, gr_2_0, gr_2_1, gr_2_2, gr_2_3, gr_2_4, gr_2_5, gr_2_6, gr_2_7, gi_2_8, pf_2_8, gi_2_9, pf_2_9, gi_2_10, pf_2_10, gi_2_11, pf_2_11, gi_2_12, pf_2_12, gi_2_13, pf_2_13, gi_2_14, pf_2_14, io_11, gr_11_0, gr_11_1, gr_11_2, io_15, gr_15_0, gr_15_1, gi_15_2, pf_15_2, gi_15_3, pf_15_3, gi_15_4, pf_15_4, gi_15_5, pf_15_5, io_18, gr_18_0, gr_18_1, gi_18_2, pf_18_2, io_21, gr_21_0, gr_21_1, gr_21_2, gr_21_3, gi_21_4, pf_21_4, gi_21_5, pf_21_5, gi_21_6, pf_21_6, gi_21_7, pf_21_7, io_34, gr_34_0, gi_34_1, pf_34_1, io_36, gi_36_0, pf_36_0, gi_36_1, pf_36_1, gr_36_2, gr_36_3, gr_36_4, gi_36_5, pf_36_5, gi_36_6, pf_36_6, gi_36_7, pf_36_7, gr_36_8, gr_36_9, gr_36_10, gr_36_11, gi_36_12, pf_36_12, gi_36_13, pf_36_13, gi_36_14, pf_36_14, gr_36_15, gr_36_16, gi_36_17, pf_36_17, gr_36_18, gr_36_19, gr_36_20, gr_36_21, gr_36_22, gi_36_23, pf_36_23, gr_36_24, gr_36_25, gi_36_26, pf_36_26, gr_36_27, gr_36_28, gr_36_29, gr_36_30, gi_36_31, pf_36_31, gr_36_32, gr_36_33, gi_36_34, pf_36_34, gi_36_35, pf_36_35, gr_36_36, al_3, al_4, al_5, al_6, al_7, al_8, al_9, al_10, al_12, al_13, al_14, al_16, al_17, al_19, al_20, al_22, al_23, al_24, al_26, al_27, al_28, al_29, al_30, al_31, al_32, al_33, al_35, al_37, al_38, al_39, al_40, al_41, al_42, al_43, al_44, al_45, al_46, al_47, al_48, al_49, al_50, al_51, al_52, al_53, al_54, al_55, al_56, al_57, al_58, al_59, ↓reduceIte, Option.bind_some, cI_some, cL_some, cV_some, rz_0, rz_1, r.i5, n_lt (show c < 2147483648 by omega) (show σ 0 0 < 2147483648 by omega)]
    rw [if_neg (by omega)]
  | succ m ih =>
    intro c n B hcm hF h56 h54
    have hc : c < σ 0 0 := by omega
    have l54 : c < (B 54).length := by rw [hF.2, r.len rfl]; show c < 7; omega
    have e1 : aZ (enc B I) 56 (nI c) = some (b2 (s.1 c)) := by rw [az_56 B I (by rw [hF.2, r.len rfl]; show c < 7; omega) (by omega), h56 c hc]
    have e2 : aI (enc B I) 54 (nI c) = some (nI (s.2.1 c)) := by rw [ai_54 B I l54 (by omega), h54 c hc, if_neg (by omega)]
    have rB : RQ σ B I := hF.Q r
    have nxt : ∀ C, C = uA B 54 ((B 54).set c (nI ((stp σ R gB f k s).2.1 c))) → ∃ D, (F_X8_goFlood fu (n + (2 * m + 1))).2.2.2.1 36 (nI f) x2 x3 (nI (c + 1)) (enc C I) = (F_X8_goFlood fu n).2.2.2.2.2 36 (nI f) x2 x3 0 (enc D I) ∧ (∀ k, k ≠ 54 → D k = B k) ∧ FrM A D ∧ (∀ i, i < σ 0 0 → rd (D 54) i = nI ((stp σ R gB f k s).2.1 i)) := by
      rintro C rfl
      obtain ⟨D, g1, g2, g3, g4⟩ := ih (c + 1) n (uA B 54 ((B 54).set c (nI ((stp σ R gB f k s).2.1 c)))) (by omega) (hF.arr (by omega) (by rw [List.length_set])) (by rw [uA_n _ _ _ (by decide)]; exact h56) (fun i hi => by
        rw [uA_s, rd_set _ _ l54]
        by_cases y : i = c
        · rw [if_pos y, y, if_pos (by omega)]
        · rw [if_neg y, h54 i hi]
          have e : (i < c + 1) = (i < c) := propext (by omega)
          simp only [e])
      exact ⟨D, g1, fun k hk => (g2 k hk).trans (uA_n _ _ _ hk), g3, g4⟩
    -- the adding
    have add : ∀ x : Int32, (if 0 < x then nI (s.2.1 c) + x else nI (s.2.1 c)) = nI ((stp σ R gB f k s).2.1 c) → ∃ D, (F_X8_goFlood fu (n + (2 * m + 1) + 1)).2.2.2.2.1 36 (nI f) x2 x3 (nI c) x (enc B I) = (F_X8_goFlood fu n).2.2.2.2.2 36 (nI f) x2 x3 0 (enc D I) ∧ (∀ k, k ≠ 54 → D k = B k) ∧ FrM A D ∧ (∀ i, i < σ 0 0 → rd (D 54) i = nI ((stp σ R gB f k s).2.1 i)) := by
      intro x hx
      rw [F_X8_goFlood]
      simp only [io_1, gr_1_0, gr_1_1, gr_1_2, gr_1_3, gr_1_4, gr_1_5, gi_1_6, pf_1_6, gi_1_7, pf_1_7, io_2, gr_2_0, gr_2_1, gr_2_2, gr_2_3, gr_2_4, gr_2_5, gr_2_6, gr_2_7, gi_2_8, pf_2_8, gi_2_9, pf_2_9, gi_2_10, pf_2_10, gi_2_11, pf_2_11, gi_2_12, pf_2_12, gi_2_13, pf_2_13, gi_2_14, pf_2_14, io_11, gr_11_0, gr_11_1, gr_11_2, io_15, gr_15_0, gr_15_1, gi_15_2, pf_15_2, gi_15_3, pf_15_3, gi_15_4, pf_15_4, gi_15_5, pf_15_5, io_18, gr_18_0, gr_18_1, gi_18_2, pf_18_2, io_21, gr_21_0, gr_21_1, gr_21_2, gr_21_3, gi_21_4, pf_21_4, gi_21_5, pf_21_5, gi_21_6, pf_21_6, gi_21_7, pf_21_7, io_34, gr_34_0, gi_34_1, pf_34_1, io_36, gi_36_0, pf_36_0, gi_36_1, pf_36_1, gr_36_2, gr_36_3, gr_36_4, gi_36_5, pf_36_5, gi_36_6, pf_36_6, gi_36_7, pf_36_7, gr_36_8, gr_36_9, gr_36_10, gr_36_11, gi_36_12, pf_36_12, gi_36_13, pf_36_13, gi_36_14, pf_36_14, gr_36_15, gr_36_16, gi_36_17, pf_36_17, gr_36_18, gr_36_19, gr_36_20, gr_36_21, gr_36_22, gi_36_23, pf_36_23, gr_36_24, gr_36_25, gi_36_26, pf_36_26, gr_36_27, gr_36_28, gr_36_29, gr_36_30, gi_36_31, pf_36_31, gr_36_32, gr_36_33, gi_36_34, pf_36_34, gi_36_35, pf_36_35, gr_36_36, al_3, al_4, al_5, al_6, al_7, al_8, al_9, al_10, al_12, al_13, al_14, al_16, al_17, al_19, al_20, al_22, al_23, al_24, al_26, al_27, al_28, al_29, al_30, al_31, al_32, al_33, al_35, al_37, al_38, al_39, al_40, al_41, al_42, al_43, al_44, al_45, al_46, al_47, al_48, al_49, al_50, al_51, al_52, al_53, al_54, al_55, al_56, al_57, al_58, al_59, ↓reduceIte, Option.bind_some, cI_some, cL_some, cV_some, rz_0, rz_1, e2, nI_1]
      by_cases q : 0 < x
      · rw [if_pos q] at hx ⊢
        rw [si_54 B I _ l54 (by omega), Option.bind_some, hx]
        exact nxt _ rfl
      · rw [if_neg q] at hx ⊢
        rw [Int32.add_zero, si_54 B I _ l54 (by omega), Option.bind_some, hx]
        exact nxt _ rfl
    rw [show n + (2 * (m + 1) + 1) = n + (2 * m + 1) + 1 + 1 by omega, F_X8_goFlood]
    simp only [io_1, gr_1_0, gr_1_1, gr_1_2, gr_1_3, gr_1_4, gr_1_5, gi_1_6, pf_1_6, gi_1_7, pf_1_7, io_2, gr_2_0, gr_2_1, gr_2_2, gr_2_3, gr_2_4, gr_2_5, gr_2_6, gr_2_7, gi_2_8, pf_2_8, gi_2_9, pf_2_9, gi_2_10, pf_2_10, gi_2_11, pf_2_11, gi_2_12, pf_2_12, gi_2_13, pf_2_13, gi_2_14, pf_2_14, io_11, gr_11_0, gr_11_1, gr_11_2, io_15, gr_15_0, gr_15_1, gi_15_2, pf_15_2, gi_15_3, pf_15_3, gi_15_4, pf_15_4, gi_15_5, pf_15_5, io_18, gr_18_0, gr_18_1, gi_18_2, pf_18_2, io_21, gr_21_0, gr_21_1, gr_21_2, gr_21_3, gi_21_4, pf_21_4, gi_21_5, pf_21_5, gi_21_6, pf_21_6, gi_21_7, pf_21_7, io_34, gr_34_0, gi_34_1, pf_34_1, io_36, gi_36_0, pf_36_0, gi_36_1, pf_36_1, gr_36_2, gr_36_3, gr_36_4, gi_36_5, pf_36_5, gi_36_6, pf_36_6, gi_36_7, pf_36_7, gr_36_8, gr_36_9, gr_36_10, gr_36_11, gi_36_12, pf_36_12, gi_36_13, pf_36_13, gi_36_14, pf_36_14, gr_36_15, gr_36_16, gi_36_17, pf_36_17, gr_36_18, gr_36_19, gr_36_20, gr_36_21, gr_36_22, gi_36_23, pf_36_23, gr_36_24, gr_36_25, gi_36_26, pf_36_26, gr_36_27, gr_36_28, gr_36_29, gr_36_30, gi_36_31, pf_36_31, gr_36_32, gr_36_33, gi_36_34, pf_36_34, gi_36_35, pf_36_35, gr_36_36, al_3, al_4, al_5, al_6, al_7, al_8, al_9, al_10, al_12, al_13, al_14, al_16, al_17, al_19, al_20, al_22, al_23, al_24, al_26, al_27, al_28, al_29, al_30, al_31, al_32, al_33, al_35, al_37, al_38, al_39, al_40, al_41, al_42, al_43, al_44, al_45, al_46, al_47, al_48, al_49, al_50, al_51, al_52, al_53, al_54, al_55, al_56, al_57, al_58, al_59, ↓reduceIte, Option.bind_some, cI_some, cL_some, cV_some, rz_0, rz_1, r.i5, n_lt (show c < 2147483648 by omega) (show σ 0 0 < 2147483648 by omega), e1, m_powerAt hfu rB hc hf h56 (hg c hc), rB.a41 hc]
    rw [if_pos hc]
    by_cases q : s.1 c = true
    · rw [if_neg (show ¬ b2 (s.1 c) = 0 by rw [q]; decide)]
      refine add _ ?_
      have hp : σ 0 1 ≤ 9 := (show WF σ from r.1).2.2.1
      have hfr := frc_lt (σ := σ) (f := f) (st := s.1) hp hf c
      have hb := (r.cel hc).2.1
      have hlt : (if gB c = true then frc σ f s.1 c / 2 else frc σ f s.1 c) < 21 := by split <;> omega
      have z := mor_n _ hlt (σ 2 c) (by omega)
      have em : (stp σ R gB f k s).2.1 c = s.2.1 c + mor σ gB f s.1 c := by show s.2.1 c + (if s.1 c = true then _ else 0) = _; rw [if_pos q]
      rw [em]
      unfold mor
      by_cases q2 : σ 2 c < (if gB c = true then frc σ f s.1 c / 2 else frc σ f s.1 c)
      · rw [if_pos (z.1.mpr q2), z.2 q2, nI_add]
      · rw [if_neg (fun y => q2 (z.1.mp y)), show (if gB c = true then frc σ f s.1 c / 2 else frc σ f s.1 c) - σ 2 c = 0 by omega]
        rfl
    · rw [if_pos (show b2 (s.1 c) = 0 by rw [Bool.eq_false_iff.mpr q]; rfl)]
      refine add 0 ?_
      rw [if_neg (by decide)]
      show nI (s.2.1 c) = nI (s.2.1 c + (if s.1 c = true then _ else 0))
      rw [if_neg q]; rfl
theorem m_passC (r : RQ σ A I) {x1 x2 : Int32} (hk : 1 ≤ k ∧ k < 1000) (hR : ∀ c, c < σ 0 0 → ∀ t, R c = t + 1 → t < σ 0 3) (ho : okS σ R s) (hdg : ∀ c, (stp σ R gB f k s).2.1 c ≤ 1000) : ∀ m c n B, c + m = σ 0 0 → FrM A B → (∀ i, i < σ 0 0 → rd (B 56) i = b2 (s.1 i)) → (∀ i, i < σ 0 0 → rd (B 54) i = nI ((stp σ R gB f k s).2.1 i)) →
    (∀ i, i < σ 0 0 → rd (B 52) i = ro (if (md c s (stp σ R gB f k s)).1 i = true then R i else 0) ∧ rd (B 55) i = wn ((md c s (stp σ R gB f k s)).2.2 i)) →
    ∃ C, (F_X8_goFlood fu (n + (m + 1))).2.2.2.2.2 36 x1 x2 (nI k) (nI c) (enc B I) = (F_X8_goFlood fu n).2.1 36 x1 x2 (nI (k + 1)) (enc C I) ∧ FrM A C ∧ MW σ R C (stp σ R gB f k s) := by
  have hn := r.n7
  intro m
  induction m with
  | zero =>
    intro c n B hc hF h56 h54 h
    refine ⟨B, ?_, hF, fun i hi => ⟨?_, h54 i hi, ?_⟩⟩
    · rw [show n + (0 + 1) = n + 1 by omega, F_X8_goFlood]
      simp only [io_1, gr_1_0, gr_1_1, gr_1_2, gr_1_3, gr_1_4, gr_1_5, gi_1_6, pf_1_6, gi_1_7, pf_1_7, io_2, gr_2_0, gr_2_1, gr_2_2, gr_2_3, gr_2_4, gr_2_5, gr_2_6, gr_2_7, gi_2_8, pf_2_8, gi_2_9, pf_2_9, gi_2_10, pf_2_10, gi_2_11, pf_2_11, gi_2_12, pf_2_12, gi_2_13, pf_2_13, gi_2_14, pf_2_14, io_11, gr_11_0, gr_11_1, gr_11_2, io_15, gr_15_0, gr_15_1, gi_15_2, pf_15_2, gi_15_3, pf_15_3, gi_15_4, pf_15_4, gi_15_5, pf_15_5, io_18, gr_18_0, gr_18_1, gi_18_2, pf_18_2, io_21, gr_21_0, gr_21_1, gr_21_2, gr_21_3, gi_21_4, pf_21_4, gi_21_5, pf_21_5, gi_21_6, pf_21_6, gi_21_7, pf_21_7, io_34, gr_34_0, gi_34_1, pf_34_1, io_36, gi_36_0, pf_36_0, gi_36_1, pf_36_1, gr_36_2, gr_36_3, gr_36_4, gi_36_5, pf_36_5, gi_36_6, pf_36_6, gi_36_7, pf_36_7, gr_36_8, gr_36_9, gr_36_10, gr_36_11, gi_36_12, pf_36_12, gi_36_13, pf_36_13, gi_36_14, pf_36_14, gr_36_15, gr_36_16, gi_36_17, pf_36_17, gr_36_18, gr_36_19, gr_36_20, gr_36_21, gr_36_22, gi_36_23, pf_36_23, gr_36_24, gr_36_25, gi_36_26, pf_36_26, gr_36_27, gr_36_28, gr_36_29, gr_36_30, gi_36_31, pf_36_31, gr_36_32, gr_36_33, gi_36_34, pf_36_34, gi_36_35, pf_36_35, gr_36_36, al_3, al_4, al_5, al_6, al_7, al_8, al_9, al_10, al_12, al_13, al_14, al_16, al_17, al_19, al_20, al_22, al_23, al_24, al_26, al_27, al_28, al_29, al_30, al_31, al_32, al_33, al_35, al_37, al_38, al_39, al_40, al_41, al_42, al_43, al_44, al_45, al_46, al_47, al_48, al_49, al_50, al_51, al_52, al_53, al_54, al_55, al_56, al_57, al_58, al_59, ↓reduceIte, Option.bind_some, cI_some, cL_some, cV_some, rz_0, rz_1, r.i5, n_lt (show c < 2147483648 by omega) (show σ 0 0 < 2147483648 by omega), nI_1]
      rw [if_neg (by omega)]
    · have := (h i hi).1
      simp only [md, show i < c by omega, if_true] at this
      exact this
    · have := (h i hi).2
      simp only [md, show i < c by omega, if_true] at this
      exact this
  | succ m ih =>
    intro c n B hcm hF h56 h54 h
    have hc : c < σ 0 0 := by omega
    have l52 : c < (B 52).length := by rw [hF.2, r.len rfl]; show c < 7; omega
    have l55 : c < (B 55).length := by rw [hF.2, r.len rfl]; show c < 7; omega
    have e1 : aZ (enc B I) 56 (nI c) = some (b2 (s.1 c)) := by rw [az_56 B I (by rw [hF.2, r.len rfl]; show c < 7; omega) (by omega), h56 c hc]
    have e2 : aI (enc B I) 54 (nI c) = some (nI ((stp σ R gB f k s).2.1 c)) := by rw [ai_54 B I (by rw [hF.2, r.len rfl]; show c < 7; omega) (by omega), h54 c hc]
    have v52 : rd (B 52) c = ro (if s.1 c = true then R c else 0) := by have := (h c hc).1; simp only [md, Nat.lt_irrefl, if_false] at this; exact this
    have v55 : rd (B 55) c = wn (s.2.2 c) := by have := (h c hc).2; simp only [md, Nat.lt_irrefl, if_false] at this; exact this
    have e3 : aI (enc B I) 52 (nI c) = some (ro (if s.1 c = true then R c else 0)) := by rw [ai_52 B I l52 (by omega), v52]
    have rB : RQ σ B I := hF.Q r
    -- behind this cell
    have nxt : ∀ C, FrM B C → C 56 = B 56 → C 54 = B 54 → (∀ i, i < σ 0 0 → rd (C 52) i = if i = c then ro (if (stp σ R gB f k s).1 c = true then R c else 0) else rd (B 52) i) → (∀ i, i < σ 0 0 → rd (C 55) i = if i = c then wn ((stp σ R gB f k s).2.2 c) else rd (B 55) i) →
        ∃ D, (F_X8_goFlood fu (n + (m + 1))).2.2.2.2.2 36 x1 x2 (nI k) (nI (c + 1)) (enc C I) = (F_X8_goFlood fu n).2.1 36 x1 x2 (nI (k + 1)) (enc D I) ∧ FrM A D ∧ MW σ R D (stp σ R gB f k s) := by
      intro C hC c56 c54 c52 c55
      refine ih (c + 1) n C (by omega) (hF.tr hC) (by rw [c56]; exact h56) (by rw [c54]; exact h54) (fun i hi => ?_)
      rw [c52 i hi, c55 i hi]
      by_cases y : i = c
      · subst y
        simp [md]
      · rw [if_neg y, if_neg y]
        have e : (i < c + 1) = (i < c) := propext (by omega)
        have := h i hi
        simp only [md] at this ⊢
        simp only [e]
        exact this
    rw [show n + (m + 1 + 1) = n + (m + 1) + 1 by omega, F_X8_goFlood]
    simp only [io_1, gr_1_0, gr_1_1, gr_1_2, gr_1_3, gr_1_4, gr_1_5, gi_1_6, pf_1_6, gi_1_7, pf_1_7, io_2, gr_2_0, gr_2_1, gr_2_2, gr_2_3, gr_2_4, gr_2_5, gr_2_6, gr_2_7, gi_2_8, pf_2_8, gi_2_9, pf_2_9, gi_2_10, pf_2_10, gi_2_11, pf_2_11, gi_2_12, pf_2_12, gi_2_13, pf_2_13, gi_2_14, pf_2_14, io_11, gr_11_0, gr_11_1, gr_11_2, io_15, gr_15_0, gr_15_1, gi_15_2, pf_15_2, gi_15_3, pf_15_3, gi_15_4, pf_15_4, gi_15_5, pf_15_5, io_18, gr_18_0, gr_18_1, gi_18_2, pf_18_2, io_21, gr_21_0, gr_21_1, gr_21_2, gr_21_3, gi_21_4, pf_21_4, gi_21_5, pf_21_5, gi_21_6, pf_21_6, gi_21_7, pf_21_7, io_34, gr_34_0, gi_34_1, pf_34_1, io_36, gi_36_0, pf_36_0, gi_36_1, pf_36_1, gr_36_2, gr_36_3, gr_36_4, gi_36_5, pf_36_5, gi_36_6, pf_36_6, gi_36_7, pf_36_7, gr_36_8, gr_36_9, gr_36_10, gr_36_11, gi_36_12, pf_36_12, gi_36_13, pf_36_13, gi_36_14, pf_36_14, gr_36_15, gr_36_16, gi_36_17, pf_36_17, gr_36_18, gr_36_19, gr_36_20, gr_36_21, gr_36_22, gi_36_23, pf_36_23, gr_36_24, gr_36_25, gi_36_26, pf_36_26, gr_36_27, gr_36_28, gr_36_29, gr_36_30, gi_36_31, pf_36_31, gr_36_32, gr_36_33, gi_36_34, pf_36_34, gi_36_35, pf_36_35, gr_36_36, al_3, al_4, al_5, al_6, al_7, al_8, al_9, al_10, al_12, al_13, al_14, al_16, al_17, al_19, al_20, al_22, al_23, al_24, al_26, al_27, al_28, al_29, al_30, al_31, al_32, al_33, al_35, al_37, al_38, al_39, al_40, al_41, al_42, al_43, al_44, al_45, al_46, al_47, al_48, al_49, al_50, al_51, al_52, al_53, al_54, al_55, al_56, al_57, al_58, al_59, ↓reduceIte, Option.bind_some, cI_some, cL_some, cV_some, rz_0, rz_1, r.i5, n_lt (show c < 2147483648 by omega) (show σ 0 0 < 2147483648 by omega), e1, e2, e3, nI_1]
    rw [if_pos hc]
    by_cases q : s.1 c = true
    · obtain ⟨t, ht⟩ : ∃ t, R c = t + 1 := ⟨R c - 1, by have := (ho c hc q).1; omega⟩
      have hts := hR c hc t ht
      have hh := hold_lt (show WF σ from r.1) hts
      have hd := hdg c
      have em : (stp σ R gB f k s).2.1 c = s.2.1 c + mor σ gB f s.1 c := by show s.2.1 c + (if s.1 c = true then _ else 0) = _; rw [if_pos q]
      rw [if_neg (show ¬ b2 (s.1 c) = 0 by rw [q]; decide), if_pos q, ht, ro_s, q_holdOf rB hts]
      have ez : (nI ((stp σ R gB f k s).2.1 c) < nI (hold σ t)) = ((stp σ R gB f k s).2.1 c < hold σ t) := n_lt (by omega) (by omega)
      simp only [cI_some]
      by_cases z : (stp σ R gB f k s).2.1 c < hold σ t
      · rw [if_pos (by rw [ez]; exact z)]
        rw [em] at z
        have t1 : (stp σ R gB f k s).1 c = true := by show (s.1 c && decide (s.2.1 c + mor σ gB f s.1 c < hold σ (R c - 1))) = true; rw [ht, Nat.add_sub_cancel, q, decide_eq_true z]; rfl
        have t3 : (stp σ R gB f k s).2.2 c = s.2.2 c := by show (if s.1 c = true ∧ hold σ (R c - 1) ≤ _ then k else s.2.2 c) = _; rw [ht, Nat.add_sub_cancel, if_neg (fun y => by omega)]
        refine nxt B (FrM.rf _) rfl rfl (fun i hi => ?_) (fun i hi => ?_)
        · by_cases y : i = c
          · rw [if_pos y, y, v52, t1, q]
          · rw [if_neg y]
        · by_cases y : i = c
          · rw [if_pos y, y, v55, t3]
          · rw [if_neg y]
      · rw [if_neg (by rw [ez]; exact z)]
        rw [em] at z
        have t1 : (stp σ R gB f k s).1 c = false := by show (s.1 c && decide (s.2.1 c + mor σ gB f s.1 c < hold σ (R c - 1))) = false; rw [ht, Nat.add_sub_cancel, decide_eq_false z, Bool.and_false]
        have t3 : (stp σ R gB f k s).2.2 c = k := by show (if s.1 c = true ∧ hold σ (R c - 1) ≤ _ then k else s.2.2 c) = _; rw [ht, Nat.add_sub_cancel, if_pos ⟨q, by omega⟩]
        have hk0 : wn k = nI k := if_neg (by omega)
        have e5 := si_55 (uA B 52 ((B 52).set c (-9))) I (nI k) (show c < _ by rw [uA_n _ _ _ (by decide)]; exact l55) (show c < 2147483648 by omega)
        rw [uA_n B 52 _ (show (55 : Nat) ≠ 52 by decide)] at e5
        rw [gr_36_25, Option.bind_some, si_52 B I (-9) l52 (by omega), Option.bind_some, gr_36_29, Option.bind_some, e5, Option.bind_some]
        refine nxt _ (((FrM.rf B).arr (by omega) (by rw [List.length_set])).arr (by omega) (by rw [List.length_set, uA_n _ _ _ (by decide)])) rfl rfl (fun i hi => ?_) (fun i hi => ?_)
        · rw [uA_n _ _ _ (by decide), uA_s, rd_set _ _ l52, t1]
          rfl
        · rw [uA_s, rd_set _ _ l55, t3, hk0]
    · have q' := Bool.eq_false_iff.mpr q
      rw [if_pos (show b2 (s.1 c) = 0 by rw [q']; rfl)]
      refine nxt B (FrM.rf _) rfl rfl (fun i hi => ?_) (fun i hi => ?_)
      · by_cases y : i = c
        · rw [if_pos y, y, v52, q']; simp [stp, q']
        · rw [if_neg y]
      · by_cases y : i = c
        · rw [if_pos y, y, v55]; simp [stp, q']
        · rw [if_neg y]
theorem m_rounds (hfu : 1000 ≤ fu) (r : RQ σ A I) (hf : f ≤ 9) (hg : ∀ c, c < σ 0 0 → gB c = (σ 9 c == 1 || decide (I 36 31 = nI c))) {rounds : Nat} (hrd : rounds ≤ 30) (hR : ∀ c, c < σ 0 0 → ∀ t, R c = t + 1 → t < σ 0 3) : ∀ m j n B, j + m = rounds → FrM A B → MW σ R B (fl σ R gB f j) →
    ∃ C, (F_X8_goFlood fu (n + (m * (4 * σ 0 0 + 4) + 1))).2.1 36 (nI f) (nI rounds) (nI (j + 1)) (enc B I) = some (none, enc C I) ∧ FrM A C ∧ MW σ R C (fl σ R gB f rounds) := by
  have hn := r.n7
  have hm : σ 0 3 ≤ 6 := r.m6
  have hR6 : ∀ c, c < σ 0 0 → R c ≤ 6 := fun c hc => by
    cases q : R c with
    | zero => exact Nat.zero_le _
    | succ t => have := hR c hc t q; omega
  have hRh : ∀ c, c < σ 0 0 → R c ≠ 0 → 0 < hold σ (R c - 1) := fun c hc h => by
    obtain ⟨t, ht⟩ : ∃ t, R c = t + 1 := ⟨R c - 1, by omega⟩
    rw [ht, Nat.add_sub_cancel]
    exact (hold_lt (show WF σ from r.1) (hR c hc t ht)).1
  have hp : σ 0 1 ≤ 9 := (show WF σ from r.1).2.2.1
  intro m
  induction m with
  | zero =>
    intro j n B hj hF h
    have e : j = rounds := by omega
    subst e
    refine ⟨B, ?_, hF, h⟩
    rw [show n + (0 * (4 * σ 0 0 + 4) + 1) = n + 1 by omega, F_X8_goFlood]
    simp only [n_lt (show j < 2147483648 by omega) (show j + 1 < 2147483648 by omega)]
    rw [if_pos (by omega)]
  | succ m ih =>
    intro j n B hj hF h
    have rB := hF.Q r
    have hdg : ∀ c, (stp σ R gB f (j + 1) (fl σ R gB f j)).2.1 c ≤ 1000 := fun c => by have := fl_dg (σ := σ) (R := R) (gB := gB) hp hf (j + 1) c; unfold fl at this; omega
    obtain ⟨B1, a1, a2, a3, a4⟩ := m_passA (fu := fu) r (x1 := nI f) (x2 := nI rounds) (x3 := nI (j + 1)) hR6 (fl_ok (gB := gB) (f := f) hRh j) (σ 0 0) 0 (n + (m * (4 * σ 0 0 + 4) + 1) + (σ 0 0 + 1) + (2 * σ 0 0 + 1)) B (by omega) hF (fun i hi => (h i hi).1) (fun i hi => by omega)
    obtain ⟨B2, b1, b2, b3, b4⟩ := m_passB (fu := fu) (R := R) (gB := gB) (k := j + 1) (s := fl σ R gB f j) hfu r (x2 := nI rounds) (x3 := nI (j + 1)) hf hg (σ 0 0) 0 (n + (m * (4 * σ 0 0 + 4) + 1) + (σ 0 0 + 1)) B1 (by omega) a3 a4 (fun i hi => by rw [a2 54 (by decide), (h i hi).2.1, if_neg (by omega)])
    obtain ⟨B3, c1, c2, c3⟩ := m_passC (fu := fu) r (x1 := nI f) (x2 := nI rounds) (k := j + 1) (by omega) hR (fl_ok (gB := gB) (f := f) hRh j) hdg (σ 0 0) 0 (n + (m * (4 * σ 0 0 + 4) + 1)) B2 (by omega) b3 (by rw [b2 56 (by decide)]; exact a4) b4 (fun i hi => by
      rw [md_0, b2 52 (by decide), a2 52 (by decide), b2 55 (by decide), a2 55 (by decide)]
      exact ⟨(h i hi).1, (h i hi).2.2⟩)
    obtain ⟨C, d1, d2, d3⟩ := ih (j + 1) n B3 (by omega) c2 c3
    refine ⟨C, ?_, d2, d3⟩
    rw [show n + ((m + 1) * (4 * σ 0 0 + 4) + 1) = n + (m * (4 * σ 0 0 + 4) + 1) + (σ 0 0 + 1) + (2 * σ 0 0 + 1) + (σ 0 0 + 1) + 1 by rw [Nat.succ_mul]; omega, F_X8_goFlood]
    simp only [n_lt (show rounds < 2147483648 by omega) (show j + 1 < 2147483648 by omega)]
    rw [if_neg (by omega)]
    exact a1.trans (b1.trans (c1.trans d1))
end MF
