section P3
/-- stones of some cells gone -/
def gS (σ : SG) (g : Nat → Bool) : SG := fun t i => if t = 7 then (if g i = true then 0 else σ 7 i) else if t = 8 then (if σ 8 i ≠ 0 ∧ σ 8 i ≠ 100 ∧ g (σ 8 i - 1) = true then 100 else σ 8 i) else σ t i
def gc (g : Nat → Bool) (c i : Nat) : Bool := decide (i < c) && g i
theorem gS7 (σ : SG) (g : Nat → Bool) (i : Nat) : gS σ g 7 i = if g i = true then 0 else σ 7 i := rfl
theorem gS8 (σ : SG) (g : Nat → Bool) (i : Nat) : gS σ g 8 i = if σ 8 i ≠ 0 ∧ σ 8 i ≠ 100 ∧ g (σ 8 i - 1) = true then 100 else σ 8 i := rfl
theorem gc_skip {g : Nat → Bool} {c : Nat} (h : g c = false) : gc g (c + 1) = gc g c := by
  funext i
  unfold gc
  by_cases y : i = c
  · rw [y, h, Bool.and_false, Bool.and_false]
  · have : (i < c + 1) = (i < c) := propext (by omega)
    simp only [this]
theorem gc_0 (g : Nat → Bool) (i : Nat) : gc g 0 i = false := by unfold gc; simp
theorem gc_c (g : Nat → Bool) (c : Nat) : gc g c c = false := by unfold gc; simp
theorem gc_s {g : Nat → Bool} {c i : Nat} (h : i ≠ c) : gc g (c + 1) i = gc g c i := by
  unfold gc
  have : (i < c + 1) = (i < c) := propext (by omega)
  simp only [this]
theorem gc_t {g : Nat → Bool} {c : Nat} (h : g c = true) : gc g (c + 1) c = true := by unfold gc; simp [h]
variable {σ : SG} {A : Nat → List Int32} {I : Nat → Nat → Int32} {fu : Nat}
/-- the numbers behind one cell more -/
theorem gS_step (r : WF σ) {g : Nat → Bool} {c t : Nat} (hc : c < σ 0 0) (hg : g c = true) (ht : σ 7 c = t + 1) {s : Nat} (hs : s < σ 0 3) : gS σ (gc g (c + 1)) 8 s = if s = t then 100 else gS σ (gc g c) 8 s := by
  have ht2 := (r.2.2.2.2.2.2.2.2.2.2.1 c hc t ht).2
  have hn := r.2.1
  rw [gS8, gS8]
  by_cases y : s = t
  · subst y
    rw [if_pos rfl, ht2, Nat.add_sub_cancel, if_pos ⟨by omega, by omega, gc_t hg⟩]
  · rw [if_neg y]
    have : σ 8 s ≠ 0 ∧ σ 8 s ≠ 100 → σ 8 s - 1 ≠ c := by
      rintro ⟨a, b⟩ z
      rcases r.2.2.2.2.2.2.2.2.2.2.2 s hs with h | h | ⟨b, h1, h2, h3⟩
      · exact a h
      · contradiction
      · have : b = c := by omega
        subst this
        omega
    by_cases q : σ 8 s ≠ 0 ∧ σ 8 s ≠ 100
    · rw [gc_s (this q)]
    · have h1 : ¬ (σ 8 s ≠ 0 ∧ σ 8 s ≠ 100 ∧ gc g (c + 1) (σ 8 s - 1) = true) := fun z => q ⟨z.1, z.2.1⟩
      have h2 : ¬ (σ 8 s ≠ 0 ∧ σ 8 s ≠ 100 ∧ gc g c (σ 8 s - 1) = true) := fun z => q ⟨z.1, z.2.1⟩
      rw [if_neg h1, if_neg h2]
theorem c_lose (r : RR σ A I) (g : Nat → Bool) (hg0 : ∀ c, c < σ 0 0 → g c = true → σ 7 c ≠ 0) : ∀ m c n xs x, c + m = σ 0 0 → m < n → xs.length = 7 → (∀ i, i < σ 0 0 → rd xs i = ro (gS σ (gc g c) 7 i)) → x = nI (bits (fun s => gS σ (gc g c) 8 s == 100) (σ 0 3)) →
    ∃ ys, ys.length = 7 ∧ (∀ i, i < σ 0 0 → rd ys i = ro (gS σ g 7 i)) ∧ F_X0_loseStonesOf fu n 2 (nI (bits g (σ 0 0))) (nI c) (enc (uA A 5 xs) (uI I 2 13 x)) = some (none, enc (uA A 5 ys) (uI I 2 13 (nI (bits (fun s => gS σ g 8 s == 100) (σ 0 3))))) := by
  have hn := r.n7
  have hm6 := r.m6
  have hb := bits_ge (p := g) hn
  intro m
  induction m with
  | zero =>
    intro c n xs x hc hm hl h hx
    obtain ⟨n, rfl⟩ : ∃ k, n = k + 1 := ⟨n - 1, by omega⟩
    have e : c = σ 0 0 := by omega
    subst e
    have eg : ∀ i, i < σ 0 0 → gc g (σ 0 0) i = g i := fun i hi => by unfold gc; simp [hi]
    refine ⟨xs, hl, fun i hi => by rw [h i hi, gS7, gS7, eg i hi], ?_⟩
    have e2 : bits (fun s => gS σ (gc g (σ 0 0)) 8 s == 100) (σ 0 3) = bits (fun s => gS σ g 8 s == 100) (σ 0 3) := bits_congr _ fun s hs => by
      rw [gS8, gS8]
      rcases r.plc hs with q | q | ⟨c, h1, h2, h3⟩
      · simp [q]
      · simp [q]
      · rw [h2, Nat.add_sub_cancel, eg c h1]
    subst hx
    rw [e2]
    simp only [F_X0_loseStonesOf, io_1, gr_1_0, gr_1_1, gr_1_2, gr_1_3, gr_1_4, gr_1_5, gi_1_6, pf_1_6, gi_1_7, pf_1_7, io_2, gr_2_0, gr_2_1, gr_2_2, gr_2_3, gr_2_4, gr_2_5, gr_2_6, gr_2_7, gi_2_8, pf_2_8, gi_2_9, pf_2_9, gi_2_10, pf_2_10, gi_2_11, pf_2_11, gi_2_12, pf_2_12, gi_2_13, pf_2_13, gi_2_14, pf_2_14, io_11, gr_11_0, gr_11_1, gr_11_2, io_15, gr_15_0, gr_15_1, gi_15_2, pf_15_2, gi_15_3, pf_15_3, gi_15_4, pf_15_4, gi_15_5, pf_15_5, io_18, gr_18_0, gr_18_1, gi_18_2, pf_18_2, io_21, gr_21_0, gr_21_1, gr_21_2, gr_21_3, gi_21_4, pf_21_4, gi_21_5, pf_21_5, gi_21_6, pf_21_6, gi_21_7, pf_21_7, io_34, gr_34_0, gi_34_1, pf_34_1, io_36, gi_36_0, pf_36_0, gi_36_1, pf_36_1, gr_36_2, gr_36_3, gr_36_4, gi_36_5, pf_36_5, gi_36_6, pf_36_6, gi_36_7, pf_36_7, gr_36_8, gr_36_9, gr_36_10, gr_36_11, gi_36_12, pf_36_12, gi_36_13, pf_36_13, gi_36_14, pf_36_14, gr_36_15, gr_36_16, gi_36_17, pf_36_17, gr_36_18, gr_36_19, gr_36_20, gr_36_21, gr_36_22, gi_36_23, pf_36_23, gr_36_24, gr_36_25, gi_36_26, pf_36_26, gr_36_27, gr_36_28, gr_36_29, gr_36_30, gi_36_31, pf_36_31, gr_36_32, gr_36_33, gi_36_34, pf_36_34, gi_36_35, pf_36_35, gr_36_36, al_3, al_4, al_5, al_6, al_7, al_8, al_9, al_10, al_12, al_13, al_14, al_16, al_17, al_19, al_20, al_22, al_23, al_24, al_26, al_27, al_28, al_29, al_30, al_31, al_32, al_33, al_35, al_37, al_38, al_39, al_40, al_41, al_42, al_43, al_44, al_45, al_46, al_47, al_48, al_49, al_50, al_51, al_52, al_53, al_54, al_55, al_56, al_57, al_58, al_59, ↓reduceIte, Option.bind_some, cI_some, cL_some, cV_some, rz_0, rz_1]
    rw [show uI I 2 13 (nI (bits (fun s => gS σ g 8 s == 100) (σ 0 3))) 2 8 = I 2 8 from rfl, r.i2_8, if_neg (by rw [n_lt (by omega) (by omega)]; omega)]
  | succ m ih =>
    intro c n xs x hcm hm hl h hx
    obtain ⟨n, rfl⟩ : ∃ k, n = k + 1 := ⟨n - 1, by omega⟩
    have hc : c < σ 0 0 := by omega
    have hlc : c < xs.length := by omega
    have ht : (bits g (σ 0 0)).testBit c = g c := by rw [bits_test]; simp [hc]
    have e1 : aI (enc (uA A 5 xs) (uI I 2 13 x)) 5 (nI c) = some (ro (σ 7 c)) := by
      rw [ai_5 _ _ (by rw [uA_s]; exact hlc) (by omega), uA_s, h c hc, gS7, gc_c]; rfl
    have h6 := r.row_lt hc
    simp only [F_X0_loseStonesOf, io_1, gr_1_0, gr_1_1, gr_1_2, gr_1_3, gr_1_4, gr_1_5, gi_1_6, pf_1_6, gi_1_7, pf_1_7, io_2, gr_2_0, gr_2_1, gr_2_2, gr_2_3, gr_2_4, gr_2_5, gr_2_6, gr_2_7, gi_2_8, pf_2_8, gi_2_9, pf_2_9, gi_2_10, pf_2_10, gi_2_11, pf_2_11, gi_2_12, pf_2_12, gi_2_13, pf_2_13, gi_2_14, pf_2_14, io_11, gr_11_0, gr_11_1, gr_11_2, io_15, gr_15_0, gr_15_1, gi_15_2, pf_15_2, gi_15_3, pf_15_3, gi_15_4, pf_15_4, gi_15_5, pf_15_5, io_18, gr_18_0, gr_18_1, gi_18_2, pf_18_2, io_21, gr_21_0, gr_21_1, gr_21_2, gr_21_3, gi_21_4, pf_21_4, gi_21_5, pf_21_5, gi_21_6, pf_21_6, gi_21_7, pf_21_7, io_34, gr_34_0, gi_34_1, pf_34_1, io_36, gi_36_0, pf_36_0, gi_36_1, pf_36_1, gr_36_2, gr_36_3, gr_36_4, gi_36_5, pf_36_5, gi_36_6, pf_36_6, gi_36_7, pf_36_7, gr_36_8, gr_36_9, gr_36_10, gr_36_11, gi_36_12, pf_36_12, gi_36_13, pf_36_13, gi_36_14, pf_36_14, gr_36_15, gr_36_16, gi_36_17, pf_36_17, gr_36_18, gr_36_19, gr_36_20, gr_36_21, gr_36_22, gi_36_23, pf_36_23, gr_36_24, gr_36_25, gi_36_26, pf_36_26, gr_36_27, gr_36_28, gr_36_29, gr_36_30, gi_36_31, pf_36_31, gr_36_32, gr_36_33, gi_36_34, pf_36_34, gi_36_35, pf_36_35, gr_36_36, al_3, al_4, al_5, al_6, al_7, al_8, al_9, al_10, al_12, al_13, al_14, al_16, al_17, al_19, al_20, al_22, al_23, al_24, al_26, al_27, al_28, al_29, al_30, al_31, al_32, al_33, al_35, al_37, al_38, al_39, al_40, al_41, al_42, al_43, al_44, al_45, al_46, al_47, al_48, al_49, al_50, al_51, al_52, al_53, al_54, al_55, al_56, al_57, al_58, al_59, ↓reduceIte, Option.bind_some, cI_some, cL_some, cV_some, rz_0, rz_1, c_hasn _ (show bits g (σ 0 0) < 2147483648 by omega) (show c < 31 by omega), ht, bI_0]
    rw [show uI I 2 13 x 2 8 = I 2 8 from rfl, r.i2_8, if_pos (by rw [n_lt (by omega) (by omega)]; exact hc)]
    by_cases q : g c = true
    · have h7 := hg0 c hc q
      obtain ⟨t, ht7⟩ : ∃ t, σ 7 c = t + 1 := ⟨σ 7 c - 1, by omega⟩
      have hts := (r.row hc ht7).1
      rw [if_neg (fun z => z q), e1, Option.bind_some, if_neg (by rw [ro_9 (by omega)]; exact h7)]
      rw [Option.bind_some, ht7, ro_s, uI_s, hx, sh_1 (show t < 31 by omega), n_or, bits_one _ hts]
      rw [si_5 _ _ (-9) (by rw [uA_s]; exact hlc) (by omega), Option.bind_some, uA_s, uA_uA, uI_uI, nI_1]
      refine ih (c + 1) n (xs.set c (-9)) _ (by omega) (by omega) (by rw [List.length_set]; exact hl) (fun i hi => ?_) (congrArg nI (bits_congr _ fun s hs => ?_))
      · rw [rd_set _ _ hlc, gS7]
        by_cases y : i = c
        · rw [if_pos y, y, gc_t q]; rfl
        · rw [if_neg y, h i hi, gS7, gc_s y]
      · rw [gS_step r.1 hc q ht7 hs]
        by_cases y : s = t
        · simp [y]
        · simp [y]
    · rw [if_pos q, nI_1]
      have sk := gc_skip (Bool.eq_false_iff.mpr q)
      exact ih (c + 1) n xs x (by omega) (by omega) hl (by rw [sk]; exact h) (by rw [sk]; exact hx)
/-- the model's last pass -/
theorem m_lose (r : RQ σ A I) {st : Nat → Bool} (h52 : ∀ c, c < σ 0 0 → rd (A 52) c = ro (if st c = true then σ 7 c else 0)) {x3 : Nat} : ∀ m c n xs zs, c + m = σ 0 0 → m < n → xs.length = 7 → zs.length = 6 →
    (∀ i, i < σ 0 0 → rd xs i = ro (gS σ (gc (fun c => σ 7 c != 0 && !st c) c) 7 i)) → (∀ s, s < σ 0 3 → rd zs s = pl (gS σ (gc (fun c => σ 7 c != 0 && !st c) c) 8 s)) →
    ∃ ys us, ys.length = 7 ∧ us.length = 6 ∧ (∀ i, i < σ 0 0 → rd ys i = ro (gS σ (fun c => σ 7 c != 0 && !st c) 7 i)) ∧ (∀ s, s < σ 0 3 → rd us s = pl (gS σ (fun c => σ 7 c != 0 && !st c) 8 s)) ∧
      F_X8_flood fu n 36 (nI (cnt (fun c => σ 7 c != 0 && !st c) c)) (nI c) (enc (uA (uA A 43 xs) 50 zs) I) = some (some (.int (nI (cnt (fun c => σ 7 c != 0 && !st c) (σ 0 0)))), enc (uA (uA A 43 ys) 50 us) I) := by
  have hn := r.n7
  have hm6 := r.m6
  generalize hgd : (fun c => σ 7 c != 0 && !st c) = g
  have hgv : ∀ c, g c = (σ 7 c != 0 && !st c) := fun c => by rw [← hgd]
  intro m
  induction m with
  | zero =>
    intro c n xs zs hc hm hl hl2 h h2
    obtain ⟨n, rfl⟩ : ∃ k, n = k + 1 := ⟨n - 1, by omega⟩
    have e : c = σ 0 0 := by omega
    subst e
    have eg : ∀ i, i < σ 0 0 → gc g (σ 0 0) i = g i := fun i hi => by unfold gc; simp [hi]
    refine ⟨xs, zs, hl, hl2, fun i hi => by rw [h i hi, gS7, gS7, eg i hi], fun s hs => ?_, ?_⟩
    · rw [h2 s hs, gS8, gS8]
      rcases r.plc hs with q | q | ⟨c, a1, a2, a3⟩
      · simp [q]
      · simp [q]
      · rw [a2, Nat.add_sub_cancel, eg c a1]
    · simp only [F_X8_flood, io_1, gr_1_0, gr_1_1, gr_1_2, gr_1_3, gr_1_4, gr_1_5, gi_1_6, pf_1_6, gi_1_7, pf_1_7, io_2, gr_2_0, gr_2_1, gr_2_2, gr_2_3, gr_2_4, gr_2_5, gr_2_6, gr_2_7, gi_2_8, pf_2_8, gi_2_9, pf_2_9, gi_2_10, pf_2_10, gi_2_11, pf_2_11, gi_2_12, pf_2_12, gi_2_13, pf_2_13, gi_2_14, pf_2_14, io_11, gr_11_0, gr_11_1, gr_11_2, io_15, gr_15_0, gr_15_1, gi_15_2, pf_15_2, gi_15_3, pf_15_3, gi_15_4, pf_15_4, gi_15_5, pf_15_5, io_18, gr_18_0, gr_18_1, gi_18_2, pf_18_2, io_21, gr_21_0, gr_21_1, gr_21_2, gr_21_3, gi_21_4, pf_21_4, gi_21_5, pf_21_5, gi_21_6, pf_21_6, gi_21_7, pf_21_7, io_34, gr_34_0, gi_34_1, pf_34_1, io_36, gi_36_0, pf_36_0, gi_36_1, pf_36_1, gr_36_2, gr_36_3, gr_36_4, gi_36_5, pf_36_5, gi_36_6, pf_36_6, gi_36_7, pf_36_7, gr_36_8, gr_36_9, gr_36_10, gr_36_11, gi_36_12, pf_36_12, gi_36_13, pf_36_13, gi_36_14, pf_36_14, gr_36_15, gr_36_16, gi_36_17, pf_36_17, gr_36_18, gr_36_19, gr_36_20, gr_36_21, gr_36_22, gi_36_23, pf_36_23, gr_36_24, gr_36_25, gi_36_26, pf_36_26, gr_36_27, gr_36_28, gr_36_29, gr_36_30, gi_36_31, pf_36_31, gr_36_32, gr_36_33, gi_36_34, pf_36_34, gi_36_35, pf_36_35, gr_36_36, al_3, al_4, al_5, al_6, al_7, al_8, al_9, al_10, al_12, al_13, al_14, al_16, al_17, al_19, al_20, al_22, al_23, al_24, al_26, al_27, al_28, al_29, al_30, al_31, al_32, al_33, al_35, al_37, al_38, al_39, al_40, al_41, al_42, al_43, al_44, al_45, al_46, al_47, al_48, al_49, al_50, al_51, al_52, al_53, al_54, al_55, al_56, al_57, al_58, al_59, ↓reduceIte, Option.bind_some, cI_some, cL_some, cV_some, rz_0, rz_1, r.i5, n_lt (show σ 0 0 < 2147483648 by omega) (show σ 0 0 < 2147483648 by omega)]
      rw [if_neg (by omega)]
  | succ m ih =>
    intro c n xs zs hcm hm hl hl2 h h2
    obtain ⟨n, rfl⟩ : ∃ k, n = k + 1 := ⟨n - 1, by omega⟩
    have hc : c < σ 0 0 := by omega
    have hlc : c < xs.length := by omega
    have h6 := r.row_lt hc
    have e1 : aI (enc (uA (uA A 43 xs) 50 zs) I) 43 (nI c) = some (ro (σ 7 c)) := by
      rw [ai_43 _ _ (by rw [uA_n _ _ _ (by decide), uA_s]; exact hlc) (by omega), uA_n _ _ _ (by decide), uA_s, h c hc, gS7, gc_c]; rfl
    have e2 : aI (enc (uA (uA A 43 xs) 50 zs) I) 52 (nI c) = some (ro (if st c = true then σ 7 c else 0)) := by
      rw [ai_52 _ _ (by rw [uA_n _ _ _ (by decide), uA_n _ _ _ (by decide), r.len rfl]; show c < 7; omega) (by omega), uA_n _ _ _ (by decide), uA_n _ _ _ (by decide), h52 c hc]
    have hcn : cnt g (c + 1) = cnt g c + (if g c = true then 1 else 0) := rfl
    simp -implicitDefEqProofs only [F_X8_flood, io_1, gr_1_0, gr_1_1, gr_1_2, gr_1_3, gr_1_4, gr_1_5, gi_1_6, pf_1_6, gi_1_7, pf_1_7, io_2, gr_2_0, gr_2_1, gr_2_2, gr_2_3, gr_2_4, gr_2_5, gr_2_6, gr_2_7, gi_2_8, pf_2_8, gi_2_9, pf_2_9, gi_2_10, pf_2_10, gi_2_11, pf_2_11, gi_2_12, pf_2_12, gi_2_13, pf_2_13, gi_2_14, pf_2_14, io_11, gr_11_0, gr_11_1, gr_11_2, io_15, gr_15_0, gr_15_1, gi_15_2, pf_15_2, gi_15_3, pf_15_3, gi_15_4, pf_15_4, gi_15_5, pf_15_5, io_18, gr_18_0, gr_18_1, gi_18_2, pf_18_2, io_21, gr_21_0, gr_21_1, gr_21_2, gr_21_3, gi_21_4, pf_21_4, gi_21_5, pf_21_5, gi_21_6, pf_21_6, gi_21_7, pf_21_7, io_34, gr_34_0, gi_34_1, pf_34_1, io_36, gi_36_0, pf_36_0, gi_36_1, pf_36_1, gr_36_2, gr_36_3, gr_36_4, gi_36_5, pf_36_5, gi_36_6, pf_36_6, gi_36_7, pf_36_7, gr_36_8, gr_36_9, gr_36_10, gr_36_11, gi_36_12, pf_36_12, gi_36_13, pf_36_13, gi_36_14, pf_36_14, gr_36_15, gr_36_16, gi_36_17, pf_36_17, gr_36_18, gr_36_19, gr_36_20, gr_36_21, gr_36_22, gi_36_23, pf_36_23, gr_36_24, gr_36_25, gi_36_26, pf_36_26, gr_36_27, gr_36_28, gr_36_29, gr_36_30, gi_36_31, pf_36_31, gr_36_32, gr_36_33, gi_36_34, pf_36_34, gi_36_35, pf_36_35, gr_36_36, al_3, al_4, al_5, al_6, al_7, al_8, al_9, al_10, al_12, al_13, al_14, al_16, al_17, al_19, al_20, al_22, al_23, al_24, al_26, al_27, al_28, al_29, al_30, al_31, al_32, al_33, al_35, al_37, al_38, al_39, al_40, al_41, al_42, al_43, al_44, al_45, al_46, al_47, al_48, al_49, al_50, al_51, al_52, al_53, al_54, al_55, al_56, al_57, al_58, al_59, ↓reduceIte, Option.bind_some, cI_some, cL_some, cV_some, rz_0, rz_1, r.i5, n_lt (show c < 2147483648 by omega) (show σ 0 0 < 2147483648 by omega), e1, e2, nI_1]
    rw [if_pos hc]
    by_cases q0 : σ 7 c = 0
    · have gf : g c = false := by rw [hgv, q0]; rfl
      have sk := gc_skip gf
      rw [if_pos (by rw [ro_9 (by omega)]; exact q0)]
      have := ih (c + 1) n xs zs (by omega) (by omega) hl hl2 (by rw [sk]; exact h) (by rw [sk]; exact h2)
      rw [hcn, gf, if_neg (by decide), Nat.add_zero] at this
      exact this
    · rw [if_neg (by rw [ro_9 (by omega)]; exact q0)]
      by_cases q1 : st c = true
      · have gf : g c = false := by rw [hgv, q1]; simp
        have sk := gc_skip gf
        rw [if_pos q1, if_neg (by rw [ro_9 (by omega)]; exact q0)]
        have := ih (c + 1) n xs zs (by omega) (by omega) hl hl2 (by rw [sk]; exact h) (by rw [sk]; exact h2)
        rw [hcn, gf, if_neg (by decide), Nat.add_zero] at this
        exact this
      · have gt : g c = true := by rw [hgv, Bool.eq_false_iff.mpr q1]; simp [q0]
        obtain ⟨t, ht7⟩ : ∃ t, σ 7 c = t + 1 := ⟨σ 7 c - 1, by omega⟩
        have hts := (r.row hc ht7).1
        have hlt : t < zs.length := by omega
        rw [if_neg q1, if_pos (show ro 0 = -9 from rfl), ht7, ro_s]
        have e5 := si_50 (uA (uA A 43 xs) 50 zs) I (-5) (show t < _ by rw [uA_s]; exact hlt) (show t < 2147483648 by omega)
        rw [uA_s, uA_uA] at e5
        have e6 := si_43 (uA (uA A 43 xs) 50 (zs.set t (-5))) I (-9) (show c < _ by rw [uA_n _ _ _ (by decide), uA_s]; exact hlc) (show c < 2147483648 by omega)
        rw [uA_n (uA A 43 xs) 50 _ (show (43 : Nat) ≠ 50 by decide), uA_s, show uA (uA (uA A 43 xs) 50 (zs.set t (-5))) 43 (xs.set c (-9)) = uA (uA A 43 (xs.set c (-9))) 50 (zs.set t (-5)) by
          funext j
          unfold uA
          by_cases y : j = 43
          · rw [if_pos y, if_neg (by omega), if_pos y]
          · by_cases y2 : j = 50
            · rw [if_neg y, if_pos y2, if_pos y2]
            · rw [if_neg y, if_neg y2, if_neg y, if_neg y2, if_neg y]] at e6
        rw [e5, Option.bind_some, gr_36_11, Option.bind_some, e6, Option.bind_some]
        have := ih (c + 1) n (xs.set c (-9)) (zs.set t (-5)) (by omega) (by omega) (by rw [List.length_set]; exact hl) (by rw [List.length_set]; exact hl2) (fun i hi => ?_) (fun s hs => ?_)
        · rw [hcn, gt, if_pos rfl] at this
          exact this
        · rw [rd_set _ _ hlc, gS7]
          by_cases y : i = c
          · rw [if_pos y, y, gc_t gt]; rfl
          · rw [if_neg y, h i hi, gS7, gc_s y]
        · rw [rd_set _ _ hlt, gS_step r.1 hc gt ht7 hs]
          by_cases y : s = t
          · rw [if_pos y, if_pos y]; rfl
          · rw [if_neg y, if_neg y]; exact h2 s hs
theorem WF.gone (r : WF σ) (g : Nat → Bool) : WF (gS σ g) := by
  obtain ⟨w1, w2, w3, w4, w5, w6, w7, w8, w9, w10, w11, w12⟩ := r
  have w2' : σ 0 0 ≤ 7 := w2
  refine ⟨w1, w2, w3, w4, w5, w6, w7, w8, w9, w10, fun c hc t ht => ?_, fun t ht => ?_⟩
  · have hc' : c < σ 0 0 := hc
    rw [gS7] at ht
    by_cases q : g c = true
    · rw [if_pos q] at ht; omega
    · rw [if_neg q] at ht
      have h := w11 c hc t ht
      refine ⟨h.1, ?_⟩
      rw [gS8, h.2, Nat.add_sub_cancel, if_neg (fun z => q z.2.2)]
  · rw [gS8]
    rcases w12 t ht with h | h | ⟨c, h1, h2, h3⟩
    · left; rw [h, if_neg (by omega)]
    · right; left; rw [h, if_neg (by omega)]
    · by_cases q : g c = true
      · right; left
        have h1' : c < σ 0 0 := h1
        rw [h2, Nat.add_sub_cancel, if_pos ⟨by omega, by omega, q⟩]
      · right; right
        refine ⟨c, h1, ?_, ?_⟩
        · rw [h2, Nat.add_sub_cancel, if_neg (fun z => q z.2.2)]
        · rw [gS7, if_neg q]; exact h3
theorem n_not (b : Nat) : nI b ^^^ (-1) = nI (b ^^^ (2 ^ 32 - 1)) := by
  rw [show (-1 : Int32) = nI (2 ^ 32 - 1) by decide, n_xor]
theorem bits_sub (p q : Nat → Bool) {n : Nat} (hn : n ≤ 7) : bits p n &&& (bits q n ^^^ (2 ^ 32 - 1)) = bits (fun i => p i && !q i) n := by
  refine bits_ext (n := n) (Nat.lt_of_le_of_lt Nat.and_le_left (bits_lt p n)) (bits_lt _ n) fun i hi => ?_
  rw [Nat.testBit_and, Nat.testBit_xor, Nat.testBit_two_pow_sub_one, bits_test, bits_test, bits_test]
  have : i < 32 := by omega
  simp [hi, this]
end P3
