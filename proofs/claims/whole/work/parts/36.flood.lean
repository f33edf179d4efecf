/-! ===== a flood: one state of rounds ===== -/
abbrev FS : Type := (Nat → Bool) × (Nat → Nat) × (Nat → Nat)
section FL
variable (σ : SG) (R : Nat → Nat) (gB : Nat → Bool) (f : Nat)
def frc (st : Nat → Bool) (c : Nat) : Nat := σ 0 1 + f + ((if 0 < c ∧ st (c - 1) = true then 1 else 0) + (if c + 1 < σ 0 0 ∧ st (c + 1) = true then 1 else 0))
def mor (st : Nat → Bool) (c : Nat) : Nat := (if gB c = true then frc σ f st c / 2 else frc σ f st c) - σ 2 c
def stp (k : Nat) (s : FS) : FS :=
  (fun c => s.1 c && decide (s.2.1 c + mor σ gB f s.1 c < hold σ (R c - 1)), fun c => s.2.1 c + (if s.1 c = true then mor σ gB f s.1 c else 0), fun c => if s.1 c = true ∧ hold σ (R c - 1) ≤ s.2.1 c + mor σ gB f s.1 c then k else s.2.2 c)
def fl : Nat → FS
  | 0 => (fun c => R c != 0, fun _ => 0, fun _ => 0)
  | k + 1 => stp σ R gB f (k + 1) (fl k)
def wn (k : Nat) : Int32 := if k = 0 then -9 else nI k
/-- some cells of a round done already -/
def md (c : Nat) (s t : FS) : FS := (fun i => if i < c then t.1 i else s.1 i, fun i => if i < c then t.2.1 i else s.2.1 i, fun i => if i < c then t.2.2 i else s.2.2 i)
def eqS (s t : FS) : Prop := ∀ i, i < σ 0 0 → s.1 i = t.1 i ∧ s.2.1 i = t.2.1 i ∧ s.2.2 i = t.2.2 i
variable {σ R gB f}
theorem eqS.tr {s t u : FS} (h : eqS σ s t) (g : eqS σ t u) : eqS σ s u := fun i hi => ⟨(h i hi).1.trans (g i hi).1, (h i hi).2.1.trans (g i hi).2.1, (h i hi).2.2.trans (g i hi).2.2⟩
theorem eqS.sy {s t : FS} (h : eqS σ s t) : eqS σ t s := fun i hi => ⟨(h i hi).1.symm, (h i hi).2.1.symm, (h i hi).2.2.symm⟩
theorem md_0 (s t : FS) : md 0 s t = s := by
  unfold md
  simp
theorem md_N (s t : FS) : eqS σ (md (σ 0 0) s t) t := fun i hi => by
  unfold md
  simp [hi]
theorem frc_lt {st : Nat → Bool} (h1 : σ 0 1 ≤ 9) (hf : f ≤ 9) (c : Nat) : frc σ f st c < 21 := by
  unfold frc
  split <;> split <;> omega
theorem mor_lt {st : Nat → Bool} (h1 : σ 0 1 ≤ 9) (hf : f ≤ 9) (c : Nat) : mor σ gB f st c < 21 := by
  have := frc_lt (σ := σ) (st := st) h1 hf c
  unfold mor
  split <;> omega
theorem frc_congr {st st' : Nat → Bool} (h : ∀ i, i < σ 0 0 → st i = st' i) {c : Nat} (hc : c < σ 0 0) : frc σ f st c = frc σ f st' c := by
  unfold frc
  by_cases h0 : 0 < c
  · rw [h (c - 1) (by omega)]
    by_cases h1 : c + 1 < σ 0 0
    · rw [h (c + 1) h1]
    · simp [h1]
  · by_cases h1 : c + 1 < σ 0 0
    · rw [h (c + 1) h1]; simp [h0]
    · simp [h0, h1]
theorem mor_congr {st st' : Nat → Bool} (h : ∀ i, i < σ 0 0 → st i = st' i) {c : Nat} (hc : c < σ 0 0) : mor σ gB f st c = mor σ gB f st' c := by
  unfold mor
  rw [frc_congr h hc]
theorem stp_congr {k : Nat} {s t : FS} (h : eqS σ s t) : eqS σ (stp σ R gB f k s) (stp σ R gB f k t) := fun i hi => by
  have hm := mor_congr (gB := gB) (f := f) (fun j hj => (h j hj).1) hi
  obtain ⟨a, b, c⟩ := h i hi
  refine ⟨?_, ?_, ?_⟩
  · show (s.1 i && _) = (t.1 i && _)
    rw [a, b, hm]
  · show s.2.1 i + _ = t.2.1 i + _
    rw [a, b, hm]
  · show (if s.1 i = true ∧ _ then k else s.2.2 i) = (if t.1 i = true ∧ _ then k else t.2.2 i)
    rw [a, b, c, hm]
/-- nothing digs -/
def quiet (σ : SG) (gB : Nat → Bool) (f : Nat) (s : FS) : Prop := ∀ i, i < σ 0 0 → s.1 i = true → mor σ gB f s.1 i = 0
def okS (σ : SG) (R : Nat → Nat) (s : FS) : Prop := ∀ c, c < σ 0 0 → s.1 c = true → R c ≠ 0 ∧ s.2.1 c < hold σ (R c - 1)
theorem fl_ok (hR : ∀ c, c < σ 0 0 → R c ≠ 0 → 0 < hold σ (R c - 1)) : ∀ k, okS σ R (fl σ R gB f k) := by
  intro k
  induction k with
  | zero =>
    intro c hc h
    have h' : R c ≠ 0 := by
      have h : (R c != 0) = true := h
      simpa using h
    exact ⟨h', hR c hc h'⟩
  | succ k ih =>
    intro c hc h
    have h : ((fl σ R gB f k).1 c && decide ((fl σ R gB f k).2.1 c + mor σ gB f (fl σ R gB f k).1 c < hold σ (R c - 1))) = true := h
    rw [Bool.and_eq_true] at h
    have z := of_decide_eq_true h.2
    refine ⟨(ih c hc h.1).1, ?_⟩
    show (fl σ R gB f k).2.1 c + (if (fl σ R gB f k).1 c = true then mor σ gB f (fl σ R gB f k).1 c else 0) < _
    rw [if_pos h.1]
    exact z
theorem quiet_stp {k : Nat} {s : FS} (ho : okS σ R s) (h : quiet σ gB f s) : eqS σ (stp σ R gB f k s) s := fun i hi => by
  by_cases q : s.1 i = true
  · have h0 := h i hi q
    have h1 := (ho i hi q).2
    refine ⟨?_, ?_, ?_⟩
    · show (s.1 i && decide (s.2.1 i + mor σ gB f s.1 i < hold σ (R i - 1))) = s.1 i
      rw [h0, Nat.add_zero, decide_eq_true h1, Bool.and_true]
    · show s.2.1 i + (if s.1 i = true then mor σ gB f s.1 i else 0) = s.2.1 i
      rw [h0]; simp
    · show (if s.1 i = true ∧ hold σ (R i - 1) ≤ s.2.1 i + mor σ gB f s.1 i then k else s.2.2 i) = s.2.2 i
      rw [if_neg (by rw [h0]; omega)]
  · refine ⟨?_, ?_, ?_⟩
    · show (s.1 i && _) = s.1 i
      rw [Bool.eq_false_iff.mpr q]; rfl
    · show s.2.1 i + (if s.1 i = true then _ else 0) = s.2.1 i
      rw [if_neg q]; rfl
    · show (if s.1 i = true ∧ _ then k else s.2.2 i) = s.2.2 i
      rw [if_neg (fun z => q z.1)]
theorem quiet_congr {s t : FS} (e : eqS σ s t) (h : quiet σ gB f s) : quiet σ gB f t := fun i hi q => by
  rw [← mor_congr (fun j hj => (e j hj).1) hi]
  exact h i hi (by rw [(e i hi).1]; exact q)
theorem fl_quiet (hR : ∀ c, c < σ 0 0 → R c ≠ 0 → 0 < hold σ (R c - 1)) {k : Nat} (h : quiet σ gB f (fl σ R gB f k)) : ∀ j, eqS σ (fl σ R gB f (k + j)) (fl σ R gB f k) := by
  intro j
  induction j with
  | zero => intro i _; exact ⟨rfl, rfl, rfl⟩
  | succ j ih => exact (quiet_stp (fl_ok hR (k + j)) (quiet_congr ih.sy h)).tr ih
theorem fl_dg (h1 : σ 0 1 ≤ 9) (hf : f ≤ 9) : ∀ k c, (fl σ R gB f k).2.1 c ≤ 21 * k := by
  intro k
  induction k with
  | zero => intro c; exact Nat.zero_le _
  | succ k ih =>
    intro c
    have := ih c
    have := mor_lt (σ := σ) (gB := gB) (st := (fl σ R gB f k).1) h1 hf c
    show (fl σ R gB f k).2.1 c + (if (fl σ R gB f k).1 c = true then mor σ gB f (fl σ R gB f k).1 c else 0) ≤ 21 * (k + 1)
    split <;> omega
theorem fl_wn : ∀ k c, (fl σ R gB f k).2.2 c ≤ k := by
  intro k
  induction k with
  | zero => intro c; exact Nat.le_refl _
  | succ k ih =>
    intro c
    have := ih c
    show (if (fl σ R gB f k).1 c = true ∧ _ then k + 1 else (fl σ R gB f k).2.2 c) ≤ k + 1
    split <;> omega
end FL
theorem mor_n : ∀ a, a < 21 → ∀ b, b < 10 → (0 < nI a - nI b ↔ b < a) ∧ (b < a → nI a - nI b = nI (a - b)) := by decide +kernel
theorem n_clear : ∀ a, a < 128 → ∀ c, c < 7 → nI a &&& (((1 : Int32) <<< (nI c &&& 31)) ^^^ (-1)) = nI (a &&& (127 ^^^ 2 ^ c)) := by decide +kernel
theorem clr_test : ∀ c, c < 7 → ∀ i, i < 7 → (127 ^^^ 2 ^ c).testBit i = decide (i ≠ c) := by decide +kernel
theorem bits_clear {p q : Nat → Bool} {n c : Nat} (hn : n ≤ 7) (hc : c < n) (h : ∀ i, i < n → q i = (p i && decide (i ≠ c))) : bits p n &&& (127 ^^^ 2 ^ c) = bits q n := by
  refine bits_ext (n := n) (Nat.lt_of_le_of_lt Nat.and_le_left (bits_lt p n)) (bits_lt _ n) fun i hi => ?_
  rw [Nat.testBit_and, bits_test, bits_test, clr_test c (by omega) i (by omega), h i hi]
  simp [hi]
section FC
variable {σ : SG} {A : Nat → List Int32} {I : Nat → Nat → Int32} {fu : Nat}
theorem bit_n {a k : Nat} (ha : a < 2147483648) (hk : k < 31) : (nI a >>> (nI k &&& 31)) &&& 1 = nI (if a.testBit k = true then 1 else 0) := by
  rw [has_n ha hk]
  cases a.testBit k <;> rfl
theorem c_digging (r : RR σ A I) {c f : Nat} (hc : c < σ 0 0) (hf : f ≤ 9) (st gB : Nat → Bool) : U_X1_digging fu [.ref 2, .int (nI c), .int (nI (bits st (σ 0 0))), .int (nI (bits gB (σ 0 0))), .int (nI f)] (enc A I) = some (some (.int (nI (mor σ gB f st c))), enc A I) := by
  have hn := r.n7
  have hs := bits_ge (p := st) hn
  have hg := bits_ge (p := gB) hn
  have hp := r.1.2.2.1
  have hb := (r.cel hc).2.1
  have e1 : nI (bits st (σ 0 0)) <<< ((1 : Int32) &&& 31) = nI (bits st (σ 0 0) * 2) := sh_l (k := 1) (by omega) (by omega)
  have e2 : (nI (bits st (σ 0 0) * 2) >>> (nI c &&& 31)) &&& 1 = nI (if 0 < c ∧ st (c - 1) = true then 1 else 0) := by
    rw [bit_n (by omega) (by omega)]
    congr 1
    have : (bits st (σ 0 0) * 2).testBit c = decide (0 < c ∧ st (c - 1) = true) := by
      rw [show bits st (σ 0 0) * 2 = 2 ^ 1 * bits st (σ 0 0) by omega, Nat.testBit_two_pow_mul, bits_test]
      by_cases h : 0 < c
      · have h1 : c ≥ 1 := h
        have h2 : c - 1 < σ 0 0 := by omega
        simp [h1, h2]; intro _; omega
      · have h1 : ¬ c ≥ 1 := by omega
        simp [h1]; omega
    rw [this]
    by_cases q : 0 < c ∧ st (c - 1) = true
    · rw [if_pos (decide_eq_true q), if_pos q]
    · rw [if_neg (by rw [decide_eq_true_iff]; exact q), if_neg q]
  have e3 : (nI (bits st (σ 0 0)) >>> (nI (c + 1) &&& 31)) &&& 1 = nI (if c + 1 < σ 0 0 ∧ st (c + 1) = true then 1 else 0) := by
    rw [bit_n (by omega) (by omega), bits_test]
    congr 1
    by_cases h : c + 1 < σ 0 0 <;> simp [h]
  have e4 : (nI (bits gB (σ 0 0)) >>> (nI c &&& 31)) &&& 1 = nI (if gB c = true then 1 else 0) := by
    rw [bit_n (by omega) (by omega), bits_test]
    congr 1
    simp [hc]
  have hfr := frc_lt (σ := σ) (f := f) (st := st) hp hf c
  have e5 : ∀ x : Nat, x ≤ 1 → nI (frc σ f st c) >>> (nI x &&& 31) = nI (frc σ f st c / 2 ^ x) := fun x hx => sh_r (by omega) (by omega)
  simp only [u_X1_digging, M_X1_digging, io_1, gr_1_0, gr_1_1, gr_1_2, gr_1_3, gr_1_4, gr_1_5, gi_1_6, pf_1_6, gi_1_7, pf_1_7, io_2, gr_2_0, gr_2_1, gr_2_2, gr_2_3, gr_2_4, gr_2_5, gr_2_6, gr_2_7, gi_2_8, pf_2_8, gi_2_9, pf_2_9, gi_2_10, pf_2_10, gi_2_11, pf_2_11, gi_2_12, pf_2_12, gi_2_13, pf_2_13, gi_2_14, pf_2_14, io_11, gr_11_0, gr_11_1, gr_11_2, io_15, gr_15_0, gr_15_1, gi_15_2, pf_15_2, gi_15_3, pf_15_3, gi_15_4, pf_15_4, gi_15_5, pf_15_5, io_18, gr_18_0, gr_18_1, gi_18_2, pf_18_2, io_21, gr_21_0, gr_21_1, gr_21_2, gr_21_3, gi_21_4, pf_21_4, gi_21_5, pf_21_5, gi_21_6, pf_21_6, gi_21_7, pf_21_7, io_34, gr_34_0, gi_34_1, pf_34_1, io_36, gi_36_0, pf_36_0, gi_36_1, pf_36_1, gr_36_2, gr_36_3, gr_36_4, gi_36_5, pf_36_5, gi_36_6, pf_36_6, gi_36_7, pf_36_7, gr_36_8, gr_36_9, gr_36_10, gr_36_11, gi_36_12, pf_36_12, gi_36_13, pf_36_13, gi_36_14, pf_36_14, gr_36_15, gr_36_16, gi_36_17, pf_36_17, gr_36_18, gr_36_19, gr_36_20, gr_36_21, gr_36_22, gi_36_23, pf_36_23, gr_36_24, gr_36_25, gi_36_26, pf_36_26, gr_36_27, gr_36_28, gr_36_29, gr_36_30, gi_36_31, pf_36_31, gr_36_32, gr_36_33, gi_36_34, pf_36_34, gi_36_35, pf_36_35, gr_36_36, al_3, al_4, al_5, al_6, al_7, al_8, al_9, al_10, al_12, al_13, al_14, al_16, al_17, al_19, al_20, al_22, al_23, al_24, al_26, al_27, al_28, al_29, al_30, al_31, al_32, al_33, al_35, al_37, al_38, al_39, al_40, al_41, al_42, al_43, al_44, al_45, al_46, al_47, al_48, al_49, al_50, al_51, al_52, al_53, al_54, al_55, al_56, al_57, al_58, al_59, ↓reduceIte, Option.bind_some, cI_some, cL_some, cV_some, rz_0, rz_1, r.i2_9, r.a4 hc, nI_1, e1, e2, e3, e4, nI_add]
  rw [show σ 0 1 + f + ((if 0 < c ∧ st (c - 1) = true then 1 else 0) + (if c + 1 < σ 0 0 ∧ st (c + 1) = true then 1 else 0)) = frc σ f st c from rfl, e5 _ (by split <;> omega)]
  have e6 : frc σ f st c / 2 ^ (if gB c = true then 1 else 0) = (if gB c = true then frc σ f st c / 2 else frc σ f st c) := by
    by_cases q : gB c = true
    · rw [if_pos q, if_pos q]
    · rw [if_neg q, if_neg q]; omega
  rw [e6]
  have hlt : (if gB c = true then frc σ f st c / 2 else frc σ f st c) < 21 := by split <;> omega
  have z := mor_n _ hlt (σ 2 c) (by omega)
  unfold mor
  by_cases q : σ 2 c < (if gB c = true then frc σ f st c / 2 else frc σ f st c)
  · rw [if_pos (z.1.mpr q), z.2 q]
  · rw [if_neg (fun y => q (z.1.mp y)), show (if gB c = true then frc σ f st c / 2 else frc σ f st c) - σ 2 c = 0 by omega]
    rfl
end FC
