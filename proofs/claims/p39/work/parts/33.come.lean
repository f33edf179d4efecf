/-! ===== who comes across: both objects ===== -/
section SH
variable {N : Nat} {S : Nat → Bool} {e : Nat → Nat} {d : Nat}
theorem short0 (r : Rw N S e) : ∀ p, p ≤ N + 1 → rea N S e d p → ∃ M, M ≤ p ∧ Wk N S e d 0 M p := by
  intro p
  induction p using Nat.strongRecOn with
  | _ p ih =>
    intro hp hr
    by_cases h0 : p = 0
    · subst h0; exact ⟨0, Nat.le_refl _, .z⟩
    · obtain ⟨L, w⟩ := hr
      obtain ⟨t, ht, hrt, hn⟩ := w.over r p (by omega) (Nat.le_refl _)
      obtain ⟨M, hM, w2⟩ := ih t ht (by omega) hrt
      exact ⟨M + 1, by omega, w2.s ⟨by omega, hp, (w.st r.1 (by omega)).1, fun _ => hn, fun _ => by omega⟩⟩
theorem shortN (r : Rw N S e) : ∀ L p, Wk N S e d (N + 1) L p → ∃ M, M + p ≤ N + 1 ∧ Wk N S e d (N + 1) M p := by
  intro L
  induction L using Nat.strongRecOn with
  | _ L ih =>
    intro p w
    cases L with
    | zero => have w' : p = N + 1 := w; subst w'; exact ⟨0, by omega, .z⟩
    | succ L =>
      obtain ⟨q, w1, k⟩ := w
      by_cases h : q < p
      · obtain ⟨M, hM, w2⟩ := w1.mono r p (by omega) k.2.1 k.2.2.1
        exact ih M (by omega) p w2
      · obtain ⟨M, hM, w2⟩ := ih L (by omega) q w1
        have := k.1
        exact ⟨M + 1, by omega, w2.s k⟩
theorem Dst.i0 (r : Rw N S e) (hN : N ≤ 7) {f : Nat → Nat} (D : Dst N S e d 0 f) {p : Nat} (hp : p ≤ N + 1) : f p < 1000000 ↔ rea N S e d p :=
  D.iff hp fun L w => by obtain ⟨M, hM, g⟩ := short0 r p hp ⟨L, w⟩; exact ⟨M, by omega, g⟩
theorem Dst.iN (r : Rw N S e) (hN : N ≤ 7) {f : Nat → Nat} (D : Dst N S e d (N + 1) f) {p : Nat} (hp : p ≤ N + 1) : f p < 1000000 ↔ ∃ L, Wk N S e d (N + 1) L p :=
  D.iff hp fun L w => by obtain ⟨M, hM, g⟩ := shortN r L p w; exact ⟨M, by omega, g⟩
theorem gr_congr {S' : Nat → Bool} {e' : Nat → Nat} : ∀ m c G, (∀ i, i < m → S (c + i + 1) = S' (c + i + 1) ∧ (S (c + i + 1) = true → e (c + i + 1) = e' (c + i + 1))) → gr S e d m c G = gr S' e' d m c G := by
  intro m
  induction m with
  | zero => intro c G _; rfl
  | succ m ih =>
    intro c G h
    have h0 := h 0 (by omega)
    rw [Nat.add_zero] at h0
    have ht : ∀ i, i < m → S (c + 1 + i + 1) = S' (c + 1 + i + 1) ∧ (S (c + 1 + i + 1) = true → e (c + 1 + i + 1) = e' (c + 1 + i + 1)) := fun i hi => by
      have := h (i + 1) (by omega)
      rw [show c + (i + 1) + 1 = c + 1 + i + 1 by omega] at this
      exact this
    unfold gr
    rw [← h0.1]
    by_cases hs : S (c + 1) = true
    · rw [if_pos hs, if_pos hs, ← h0.2 hs, ih _ _ ht]
    · rw [if_neg hs, if_neg hs, ih _ _ ht]
end SH
theorem far_lt : ∀ G, G < 20 → ∀ c, c < 8 → ∀ x, x < 2 → (nI G - 1 < nI c - nI x ↔ G + x < c + 1) := by decide +kernel
theorem top_lt : ∀ h, h < 21 → ∀ d, d < 10 → ∀ v, v < 10 → (nI h - nI d - nI v < 1 ↔ ¬ (d + v < h)) := by decide +kernel
theorem far_cmp : ∀ G, G < 20 → ∀ c, c < 8 → (nI G - 1 < nI c ↔ G < c + 1) := by decide +kernel
theorem bits_ge {p : Nat → Bool} {n : Nat} (h : n ≤ 7) : bits p n < 128 := Nat.lt_of_lt_of_le (bits_lt p n) (Nat.pow_le_pow_right (by omega) h)
theorem bits_step (p : Nat → Bool) {c : Nat} (hc : c < 31) : (if p c = true then nI (bits p c) ||| (1 : Int32) <<< (nI c &&& 31) else nI (bits p c)) = nI (bits p (c + 1)) := by
  have e : bits p (c + 1) = bits p c + (if p c = true then 2 ^ c else 0) := rfl
  by_cases h : p c = true
  · rw [if_pos h, e, if_pos h, sh_1 hc, n_or, bits_or]
  · rw [if_neg h, e, if_neg h, Nat.add_zero]
/-- the cells whose stone stands dry -/
def dryB (σ : SG) (v c : Nat) : Bool := decide (σ 7 c ≠ 0 ∧ σ 1 c + v < σ 4 (σ 7 c - 1))
def kndB (σ : SG) (t c : Nat) : Bool := decide (σ 7 c ≠ 0 ∧ t ≤ σ 3 (σ 7 c - 1))
section CR
variable {σ : SG} {A : Nat → List Int32} {I : Nat → Nat → Int32} {fu : Nat}
theorem c_dry_loop (r : RR σ A I) {v : Nat} (hv : v ≤ 9) : ∀ m c n, c + m = σ 0 0 → m < n → F_X0_dry fu n 2 (nI v) (nI (bits (dryB σ v) c)) (nI c) (enc A I) = some (some (.int (nI (bits (dryB σ v) (σ 0 0)))), enc A I) := by
  have hn := r.n7
  intro m
  induction m with
  | zero =>
    intro c n hc hm
    obtain ⟨n, rfl⟩ : ∃ k, n = k + 1 := ⟨n - 1, by omega⟩
    simp only [F_X0_dry, io_1, gr_1_0, gr_1_1, gr_1_2, gr_1_3, gr_1_4, gr_1_5, gi_1_6, pf_1_6, gi_1_7, pf_1_7, io_2, gr_2_0, gr_2_1, gr_2_2, gr_2_3, gr_2_4, gr_2_5, gr_2_6, gr_2_7, gi_2_8, pf_2_8, gi_2_9, pf_2_9, gi_2_10, pf_2_10, gi_2_11, pf_2_11, gi_2_12, pf_2_12, gi_2_13, pf_2_13, gi_2_14, pf_2_14, io_11, gr_11_0, gr_11_1, gr_11_2, io_15, gr_15_0, gr_15_1, gi_15_2, pf_15_2, gi_15_3, pf_15_3, gi_15_4, pf_15_4, gi_15_5, pf_15_5, io_18, gr_18_0, gr_18_1, gi_18_2, pf_18_2, io_21, gr_21_0, gr_21_1, gr_21_2, gr_21_3, gi_21_4, pf_21_4, gi_21_5, pf_21_5, gi_21_6, pf_21_6, gi_21_7, pf_21_7, io_34, gr_34_0, gi_34_1, pf_34_1, al_3, al_4, al_5, al_6, al_7, al_8, al_9, al_10, al_12, al_13, al_14, al_16, al_17, al_19, al_20, al_22, al_23, al_24, al_26, al_27, al_28, al_29, al_30, al_31, al_32, al_33, al_35, ↓reduceIte, Option.bind_some, cI_some, cL_some, cV_some, rz_0, rz_1, r.i2_8, n_lt (show c < 2147483648 by omega) (show σ 0 0 < 2147483648 by omega)]
    rw [if_neg (by omega), show c = σ 0 0 by omega]
  | succ m ih =>
    intro c n hcm hm
    obtain ⟨n, rfl⟩ : ∃ k, n = k + 1 := ⟨n - 1, by omega⟩
    have hc : c < σ 0 0 := by omega
    have h6 := r.row_lt hc
    have e := ih (c + 1) n (by omega) (by omega)
    rw [← bits_step (dryB σ v) (show c < 31 by omega)] at e
    simp only [F_X0_dry, io_1, gr_1_0, gr_1_1, gr_1_2, gr_1_3, gr_1_4, gr_1_5, gi_1_6, pf_1_6, gi_1_7, pf_1_7, io_2, gr_2_0, gr_2_1, gr_2_2, gr_2_3, gr_2_4, gr_2_5, gr_2_6, gr_2_7, gi_2_8, pf_2_8, gi_2_9, pf_2_9, gi_2_10, pf_2_10, gi_2_11, pf_2_11, gi_2_12, pf_2_12, gi_2_13, pf_2_13, gi_2_14, pf_2_14, io_11, gr_11_0, gr_11_1, gr_11_2, io_15, gr_15_0, gr_15_1, gi_15_2, pf_15_2, gi_15_3, pf_15_3, gi_15_4, pf_15_4, gi_15_5, pf_15_5, io_18, gr_18_0, gr_18_1, gi_18_2, pf_18_2, io_21, gr_21_0, gr_21_1, gr_21_2, gr_21_3, gi_21_4, pf_21_4, gi_21_5, pf_21_5, gi_21_6, pf_21_6, gi_21_7, pf_21_7, io_34, gr_34_0, gi_34_1, pf_34_1, al_3, al_4, al_5, al_6, al_7, al_8, al_9, al_10, al_12, al_13, al_14, al_16, al_17, al_19, al_20, al_22, al_23, al_24, al_26, al_27, al_28, al_29, al_30, al_31, al_32, al_33, al_35, ↓reduceIte, Option.bind_some, cI_some, cL_some, cV_some, rz_0, rz_1, r.i2_8, n_lt (show c < 2147483648 by omega) (show σ 0 0 < 2147483648 by omega), r.a5 hc, ro_9 (show σ 7 c < 2147483648 by omega), nI_1]
    rw [if_pos hc]
    cases hk : σ 7 c with
    | zero =>
      rw [if_pos rfl]
      rw [if_neg (by simp [dryB, hk])] at e
      exact e
    | succ s =>
      have hs := (r.row hc hk).1
      have t1 := (r.sto hs).2.2.1
      have t2 := (r.cel hc).1
      rw [if_neg (by omega), ro_s, c_topOf r hs hc]
      simp only [io_1, gr_1_0, gr_1_1, gr_1_2, gr_1_3, gr_1_4, gr_1_5, gi_1_6, pf_1_6, gi_1_7, pf_1_7, io_2, gr_2_0, gr_2_1, gr_2_2, gr_2_3, gr_2_4, gr_2_5, gr_2_6, gr_2_7, gi_2_8, pf_2_8, gi_2_9, pf_2_9, gi_2_10, pf_2_10, gi_2_11, pf_2_11, gi_2_12, pf_2_12, gi_2_13, pf_2_13, gi_2_14, pf_2_14, io_11, gr_11_0, gr_11_1, gr_11_2, io_15, gr_15_0, gr_15_1, gi_15_2, pf_15_2, gi_15_3, pf_15_3, gi_15_4, pf_15_4, gi_15_5, pf_15_5, io_18, gr_18_0, gr_18_1, gi_18_2, pf_18_2, io_21, gr_21_0, gr_21_1, gr_21_2, gr_21_3, gi_21_4, pf_21_4, gi_21_5, pf_21_5, gi_21_6, pf_21_6, gi_21_7, pf_21_7, io_34, gr_34_0, gi_34_1, pf_34_1, al_3, al_4, al_5, al_6, al_7, al_8, al_9, al_10, al_12, al_13, al_14, al_16, al_17, al_19, al_20, al_22, al_23, al_24, al_26, al_27, al_28, al_29, al_30, al_31, al_32, al_33, al_35, ↓reduceIte, Option.bind_some, cI_some, cL_some, cV_some, rz_0, rz_1, topI]
      have e1 : dryB σ v c = true ↔ σ 1 c + v < σ 4 s := by
        unfold dryB
        rw [decide_eq_true_iff, hk]
        simp only [Nat.add_sub_cancel]
        omega
      have e2 := top_lt _ (show σ 4 s < 21 by omega) _ (show σ 1 c < 10 by omega) _ (show v < 10 by omega)
      by_cases q : σ 1 c + v < σ 4 s
      · rw [if_neg (fun z => e2.mp z q)]
        rw [if_pos (e1.mpr q)] at e
        exact e
      · rw [if_pos (e2.mpr q)]
        rw [if_neg (fun z => q (e1.mp z))] at e
        exact e
theorem c_dry (hf : 1000 ≤ fu) (r : RR σ A I) {v : Nat} (hv : v ≤ 9) : U_X0_dry fu [.ref 2, .int (nI v)] (enc A I) = some (some (.int (nI (bits (dryB σ v) (σ 0 0)))), enc A I) := by
  have hn := r.n7
  simp only [u_X0_dry, M_X0_dry, io_1, gr_1_0, gr_1_1, gr_1_2, gr_1_3, gr_1_4, gr_1_5, gi_1_6, pf_1_6, gi_1_7, pf_1_7, io_2, gr_2_0, gr_2_1, gr_2_2, gr_2_3, gr_2_4, gr_2_5, gr_2_6, gr_2_7, gi_2_8, pf_2_8, gi_2_9, pf_2_9, gi_2_10, pf_2_10, gi_2_11, pf_2_11, gi_2_12, pf_2_12, gi_2_13, pf_2_13, gi_2_14, pf_2_14, io_11, gr_11_0, gr_11_1, gr_11_2, io_15, gr_15_0, gr_15_1, gi_15_2, pf_15_2, gi_15_3, pf_15_3, gi_15_4, pf_15_4, gi_15_5, pf_15_5, io_18, gr_18_0, gr_18_1, gi_18_2, pf_18_2, io_21, gr_21_0, gr_21_1, gr_21_2, gr_21_3, gi_21_4, pf_21_4, gi_21_5, pf_21_5, gi_21_6, pf_21_6, gi_21_7, pf_21_7, io_34, gr_34_0, gi_34_1, pf_34_1, al_3, al_4, al_5, al_6, al_7, al_8, al_9, al_10, al_12, al_13, al_14, al_16, al_17, al_19, al_20, al_22, al_23, al_24, al_26, al_27, al_28, al_29, al_30, al_31, al_32, al_33, al_35, ↓reduceIte, Option.bind_some, cI_some, cL_some, cV_some, rz_0, rz_1]
  exact c_dry_loop r hv (σ 0 0) 0 fu (by omega) (by omega)
theorem c_ofKind_loop (r : RR σ A I) {t : Nat} (ht : t ≤ 2) : ∀ m c n, c + m = σ 0 0 → m < n → F_X0_ofKind fu n 2 (nI t) (nI (bits (kndB σ t) c)) (nI c) (enc A I) = some (some (.int (nI (bits (kndB σ t) (σ 0 0)))), enc A I) := by
  have hn := r.n7
  intro m
  induction m with
  | zero =>
    intro c n hc hm
    obtain ⟨n, rfl⟩ : ∃ k, n = k + 1 := ⟨n - 1, by omega⟩
    simp only [F_X0_ofKind, io_1, gr_1_0, gr_1_1, gr_1_2, gr_1_3, gr_1_4, gr_1_5, gi_1_6, pf_1_6, gi_1_7, pf_1_7, io_2, gr_2_0, gr_2_1, gr_2_2, gr_2_3, gr_2_4, gr_2_5, gr_2_6, gr_2_7, gi_2_8, pf_2_8, gi_2_9, pf_2_9, gi_2_10, pf_2_10, gi_2_11, pf_2_11, gi_2_12, pf_2_12, gi_2_13, pf_2_13, gi_2_14, pf_2_14, io_11, gr_11_0, gr_11_1, gr_11_2, io_15, gr_15_0, gr_15_1, gi_15_2, pf_15_2, gi_15_3, pf_15_3, gi_15_4, pf_15_4, gi_15_5, pf_15_5, io_18, gr_18_0, gr_18_1, gi_18_2, pf_18_2, io_21, gr_21_0, gr_21_1, gr_21_2, gr_21_3, gi_21_4, pf_21_4, gi_21_5, pf_21_5, gi_21_6, pf_21_6, gi_21_7, pf_21_7, io_34, gr_34_0, gi_34_1, pf_34_1, al_3, al_4, al_5, al_6, al_7, al_8, al_9, al_10, al_12, al_13, al_14, al_16, al_17, al_19, al_20, al_22, al_23, al_24, al_26, al_27, al_28, al_29, al_30, al_31, al_32, al_33, al_35, ↓reduceIte, Option.bind_some, cI_some, cL_some, cV_some, rz_0, rz_1, r.i2_8, n_lt (show c < 2147483648 by omega) (show σ 0 0 < 2147483648 by omega)]
    rw [if_neg (by omega), show c = σ 0 0 by omega]
  | succ m ih =>
    intro c n hcm hm
    obtain ⟨n, rfl⟩ : ∃ k, n = k + 1 := ⟨n - 1, by omega⟩
    have hc : c < σ 0 0 := by omega
    have h6 := r.row_lt hc
    have e := ih (c + 1) n (by omega) (by omega)
    rw [← bits_step (kndB σ t) (show c < 31 by omega)] at e
    simp only [F_X0_ofKind, io_1, gr_1_0, gr_1_1, gr_1_2, gr_1_3, gr_1_4, gr_1_5, gi_1_6, pf_1_6, gi_1_7, pf_1_7, io_2, gr_2_0, gr_2_1, gr_2_2, gr_2_3, gr_2_4, gr_2_5, gr_2_6, gr_2_7, gi_2_8, pf_2_8, gi_2_9, pf_2_9, gi_2_10, pf_2_10, gi_2_11, pf_2_11, gi_2_12, pf_2_12, gi_2_13, pf_2_13, gi_2_14, pf_2_14, io_11, gr_11_0, gr_11_1, gr_11_2, io_15, gr_15_0, gr_15_1, gi_15_2, pf_15_2, gi_15_3, pf_15_3, gi_15_4, pf_15_4, gi_15_5, pf_15_5, io_18, gr_18_0, gr_18_1, gi_18_2, pf_18_2, io_21, gr_21_0, gr_21_1, gr_21_2, gr_21_3, gi_21_4, pf_21_4, gi_21_5, pf_21_5, gi_21_6, pf_21_6, gi_21_7, pf_21_7, io_34, gr_34_0, gi_34_1, pf_34_1, al_3, al_4, al_5, al_6, al_7, al_8, al_9, al_10, al_12, al_13, al_14, al_16, al_17, al_19, al_20, al_22, al_23, al_24, al_26, al_27, al_28, al_29, al_30, al_31, al_32, al_33, al_35, ↓reduceIte, Option.bind_some, cI_some, cL_some, cV_some, rz_0, rz_1, r.i2_8, n_lt (show c < 2147483648 by omega) (show σ 0 0 < 2147483648 by omega), r.a5 hc, ro_9 (show σ 7 c < 2147483648 by omega), nI_1]
    rw [if_pos hc]
    cases hk : σ 7 c with
    | zero =>
      rw [if_pos rfl]
      rw [if_neg (by simp [kndB, hk])] at e
      exact e
    | succ s =>
      have hs := (r.row hc hk).1
      have t1 := (r.sto hs).1
      rw [if_neg (by omega), ro_s, r.a6 hs]
      simp only [Option.bind_some, n_lt (show σ 3 s < 2147483648 by omega) (show t < 2147483648 by omega)]
      have e1 : kndB σ t c = true ↔ t ≤ σ 3 s := by
        unfold kndB
        rw [decide_eq_true_iff, hk]
        simp only [Nat.add_sub_cancel]
        omega
      by_cases q : t ≤ σ 3 s
      · rw [if_neg (by omega)]
        rw [if_pos (e1.mpr q)] at e
        exact e
      · rw [if_pos (by omega)]
        rw [if_neg (fun z => q (e1.mp z))] at e
        exact e
theorem c_ofKind (hf : 1000 ≤ fu) (r : RR σ A I) {t : Nat} (ht : t ≤ 2) : U_X0_ofKind fu [.ref 2, .int (nI t)] (enc A I) = some (some (.int (nI (bits (kndB σ t) (σ 0 0)))), enc A I) := by
  have hn := r.n7
  simp only [u_X0_ofKind, M_X0_ofKind, io_1, gr_1_0, gr_1_1, gr_1_2, gr_1_3, gr_1_4, gr_1_5, gi_1_6, pf_1_6, gi_1_7, pf_1_7, io_2, gr_2_0, gr_2_1, gr_2_2, gr_2_3, gr_2_4, gr_2_5, gr_2_6, gr_2_7, gi_2_8, pf_2_8, gi_2_9, pf_2_9, gi_2_10, pf_2_10, gi_2_11, pf_2_11, gi_2_12, pf_2_12, gi_2_13, pf_2_13, gi_2_14, pf_2_14, io_11, gr_11_0, gr_11_1, gr_11_2, io_15, gr_15_0, gr_15_1, gi_15_2, pf_15_2, gi_15_3, pf_15_3, gi_15_4, pf_15_4, gi_15_5, pf_15_5, io_18, gr_18_0, gr_18_1, gi_18_2, pf_18_2, io_21, gr_21_0, gr_21_1, gr_21_2, gr_21_3, gi_21_4, pf_21_4, gi_21_5, pf_21_5, gi_21_6, pf_21_6, gi_21_7, pf_21_7, io_34, gr_34_0, gi_34_1, pf_34_1, al_3, al_4, al_5, al_6, al_7, al_8, al_9, al_10, al_12, al_13, al_14, al_16, al_17, al_19, al_20, al_22, al_23, al_24, al_26, al_27, al_28, al_29, al_30, al_31, al_32, al_33, al_35, ↓reduceIte, Option.bind_some, cI_some, cL_some, cV_some, rz_0, rz_1]
  exact c_ofKind_loop r ht (σ 0 0) 0 fu (by omega) (by omega)
theorem c_filled (hf : 1000 ≤ fu) (r : RR σ A I) : U_X0_filled fu [.ref 2] (enc A I) = some (some (.int (nI (bits (fun c => σ 7 c != 0) (σ 0 0)))), enc A I) := by
  have h := c_ofKind hf r (t := 0) (by omega)
  have e : bits (kndB σ 0) (σ 0 0) = bits (fun c => σ 7 c != 0) (σ 0 0) := bits_congr _ fun i _ => by
    unfold kndB
    by_cases q : σ 7 i = 0 <;> simp [q]
  rw [e] at h
  simp only [u_X0_filled, M_X0_filled, io_1, gr_1_0, gr_1_1, gr_1_2, gr_1_3, gr_1_4, gr_1_5, gi_1_6, pf_1_6, gi_1_7, pf_1_7, io_2, gr_2_0, gr_2_1, gr_2_2, gr_2_3, gr_2_4, gr_2_5, gr_2_6, gr_2_7, gi_2_8, pf_2_8, gi_2_9, pf_2_9, gi_2_10, pf_2_10, gi_2_11, pf_2_11, gi_2_12, pf_2_12, gi_2_13, pf_2_13, gi_2_14, pf_2_14, io_11, gr_11_0, gr_11_1, gr_11_2, io_15, gr_15_0, gr_15_1, gi_15_2, pf_15_2, gi_15_3, pf_15_3, gi_15_4, pf_15_4, gi_15_5, pf_15_5, io_18, gr_18_0, gr_18_1, gi_18_2, pf_18_2, io_21, gr_21_0, gr_21_1, gr_21_2, gr_21_3, gi_21_4, pf_21_4, gi_21_5, pf_21_5, gi_21_6, pf_21_6, gi_21_7, pf_21_7, io_34, gr_34_0, gi_34_1, pf_34_1, al_3, al_4, al_5, al_6, al_7, al_8, al_9, al_10, al_12, al_13, al_14, al_16, al_17, al_19, al_20, al_22, al_23, al_24, al_26, al_27, al_28, al_29, al_30, al_31, al_32, al_33, al_35, ↓reduceIte, Option.bind_some, cI_some, cL_some, cV_some, rz_0, rz_1]
  rw [show (0 : Int32) = nI 0 from rfl, h]
  rfl
theorem c_farthest_loop (hf : 1000 ≤ fu) {a t N d : Nat} (ha : a < 128) (ht : t < 128) (hN : N ≤ 7) (hd : d ≤ 9) (w : XW) : ∀ m c G n, c + m = N → 2 * m < n → G ≤ c + 10 →
    (F_X7_farthest fu n).1 (nI a) (nI t) (nI N) (nI d) (nI G - 1) (nI c) w = some (some (.int (nI (gr (fun p => a.testBit (p - 1)) (fun p => if t.testBit (p - 1) = true then 1 else 0) d m c G) - 1)), w) := by
  intro m
  induction m with
  | zero =>
    intro c G n hc hm hG
    obtain ⟨n, rfl⟩ : ∃ k, n = k + 1 := ⟨n - 1, by omega⟩
    simp only [F_X7_farthest, n_lt (show c < 2147483648 by omega) (show N < 2147483648 by omega), gr]
    rw [if_neg (by omega)]
  | succ m ih =>
    intro c G n hcm hm hG
    obtain ⟨n, rfl⟩ : ∃ k, n = k + 2 := ⟨n - 2, by omega⟩
    have hc : c < N := by omega
    have hst : ∀ x, x ≤ 1 → (F_X7_farthest fu (n + 1)).2 (nI a) (nI t) (nI N) (nI d) (nI G - 1) (nI c) (nI x) w = if G + x < c + 1 then some (some (.int (nI G - 1)), w) else (F_X7_farthest fu n).1 (nI a) (nI t) (nI N) (nI d) (nI (c + 1 + x + d) - 1) (nI (c + 1)) w := by
      intro x hx
      simp only [F_X7_farthest]
      have e1 : nI c + nI x + nI d = nI (c + 1 + x + d) - 1 := by
        rw [show c + 1 + x + d = c + x + d + 1 by omega, n_sub1, nI_add, nI_add]
      rw [e1, nI_1]
      have z := far_lt G (by omega) c (by omega) x (by omega)
      by_cases q : G + x < c + 1
      · rw [if_pos (z.mpr q), if_pos q]
      · rw [if_neg (fun y => q (z.mp y)), if_neg q]
    show (F_X7_farthest fu (n + 1 + 1)).1 (nI a) (nI t) (nI N) (nI d) (nI G - 1) (nI c) w = _
    rw [F_X7_farthest]
    simp only [n_lt (show c < 2147483648 by omega) (show N < 2147483648 by omega), c_hasn w (show a < 2147483648 by omega) (show c < 31 by omega), c_hasn w (show t < 2147483648 by omega) (show c < 31 by omega), io_1, gr_1_0, gr_1_1, gr_1_2, gr_1_3, gr_1_4, gr_1_5, gi_1_6, pf_1_6, gi_1_7, pf_1_7, io_2, gr_2_0, gr_2_1, gr_2_2, gr_2_3, gr_2_4, gr_2_5, gr_2_6, gr_2_7, gi_2_8, pf_2_8, gi_2_9, pf_2_9, gi_2_10, pf_2_10, gi_2_11, pf_2_11, gi_2_12, pf_2_12, gi_2_13, pf_2_13, gi_2_14, pf_2_14, io_11, gr_11_0, gr_11_1, gr_11_2, io_15, gr_15_0, gr_15_1, gi_15_2, pf_15_2, gi_15_3, pf_15_3, gi_15_4, pf_15_4, gi_15_5, pf_15_5, io_18, gr_18_0, gr_18_1, gi_18_2, pf_18_2, io_21, gr_21_0, gr_21_1, gr_21_2, gr_21_3, gi_21_4, pf_21_4, gi_21_5, pf_21_5, gi_21_6, pf_21_6, gi_21_7, pf_21_7, io_34, gr_34_0, gi_34_1, pf_34_1, al_3, al_4, al_5, al_6, al_7, al_8, al_9, al_10, al_12, al_13, al_14, al_16, al_17, al_19, al_20, al_22, al_23, al_24, al_26, al_27, al_28, al_29, al_30, al_31, al_32, al_33, al_35, ↓reduceIte, Option.bind_some, cI_some, cL_some, cV_some, rz_0, rz_1, bI_0, gr, Nat.add_sub_cancel]
    rw [if_pos hc]
    by_cases h : a.testBit c = true
    · rw [if_neg (fun q => q h), if_pos h]
      by_cases h2 : t.testBit c = true
      · rw [if_neg (fun q => q h2), if_pos h2]
        refine (hst 1 (by omega)).trans ?_
        by_cases q : G + 1 < c + 1
        · rw [if_pos q, if_pos q]
        · rw [if_neg q, if_neg q]
          exact ih (c + 1) _ n (by omega) (by omega) (by omega)
      · rw [if_pos h2, if_neg h2]
        refine (hst 0 (by omega)).trans ?_
        by_cases q : G + 0 < c + 1
        · rw [if_pos q, if_pos q]
        · rw [if_neg q, if_neg q]
          exact ih (c + 1) _ n (by omega) (by omega) (by omega)
    · rw [if_pos h, if_neg h, nI_1]
      rw [show n + 1 = n + 1 from rfl]
      exact ih (c + 1) G (n + 1) (by omega) (by omega) (by omega)
/-- what of the row stands, when only a set of cells counts -/
def Lst (σ : SG) (st : Nat → Bool) (c : Nat) : Nat := if st c = true then σ 7 c else 0
/-- one comes across -/
abbrev X (σ : SG) (L : Nat → Nat) (v d : Nat) : Prop := σ 0 0 + 1 ≤ grN (σ 0 0) (Sd σ L v) (ez σ L) d
theorem and_test (p q : Nat → Bool) (n c : Nat) : (bits p n &&& bits q n).testBit c = (decide (c < n) && (p c && q c)) := by
  rw [Nat.testBit_and, bits_test, bits_test]
  by_cases h : c < n <;> simp [h]
theorem gr_row {σ : SG} {st : Nat → Bool} {v d m c : Nat} (h3 : ∀ i, i < σ 0 0 → σ 7 i ≠ 0 → σ 3 (σ 7 i - 1) ≤ 2) (h : m + c = σ 0 0) (G : Nat) : gr (fun p => (bits (dryB σ v) (σ 0 0) &&& bits st (σ 0 0)).testBit (p - 1)) (fun p => if (bits (kndB σ 2) (σ 0 0)).testBit (p - 1) = true then 1 else 0) d m c G = gr (Sd σ (Lst σ st) v) (ez σ (Lst σ st)) d m c G := by
  refine gr_congr m c G fun i hi => ?_
  simp only [Nat.add_sub_cancel, and_test, bits_test, show c + i < σ 0 0 by omega, decide_true, Bool.true_and]
  have e1 : Sd σ (Lst σ st) v (c + i + 1) = (dryB σ v (c + i) && st (c + i)) := by
    unfold Sd dryB Lst
    simp only [Nat.add_sub_cancel]
    by_cases q : st (c + i) = true
    · simp only [q, ↓reduceIte, Bool.and_true]
      refine decide_eq_decide.mpr ?_
      omega
    · simp only [q, Bool.and_false]
      exact decide_eq_false (by simp; omega)
  refine ⟨e1.symm, fun hs => ?_⟩
  rw [Bool.and_eq_true] at hs
  have hd := of_decide_eq_true hs.1
  have hl : Lst σ st (c + i) = σ 7 (c + i) := if_pos hs.2
  unfold ez kndB
  simp only [Nat.add_sub_cancel, hl]
  rw [if_neg (show ¬ (c + i + 1 = 0 ∨ c + i + 1 = σ 0 0 + 1) by omega)]
  have h2 := h3 (c + i) (by omega) hd.1
  by_cases q : σ 3 (σ 7 (c + i) - 1) = 2
  · rw [if_pos (decide_eq_true ⟨hd.1, by omega⟩), if_pos ⟨hd.1, q⟩]
  · rw [if_neg (fun z => q (by have := (of_decide_eq_true z).2; omega)), if_neg (fun z => q z.2)]
theorem RR.k2 (r : RR σ A I) : ∀ i, i < σ 0 0 → σ 7 i ≠ 0 → σ 3 (σ 7 i - 1) ≤ 2 := by
  intro i hi h
  obtain ⟨s, hs⟩ : ∃ s, σ 7 i = s + 1 := ⟨σ 7 i - 1, by omega⟩
  rw [hs, Nat.add_sub_cancel]
  exact (r.sto (r.row hi hs).1).1
theorem grN_le (σ : SG) (L : Nat → Nat) (v : Nat) {d : Nat} (hd : d ≤ 9) (hn : σ 0 0 ≤ 7) : grN (σ 0 0) (Sd σ L v) (ez σ L) d < 18 := by
  obtain ⟨⟨p, hp, _, hg⟩, _⟩ := grN_spec (d := d) (rw_of σ L v)
  have := ez1 σ L p
  omega
theorem c_far (hf : 1000 ≤ fu) (r : RR σ A I) {v d : Nat} (hd : d ≤ 9) (st : Nat → Bool) (w : XW) : U_X7_farthest fu [.int (nI (bits (dryB σ v) (σ 0 0) &&& bits st (σ 0 0))), .int (nI (bits (kndB σ 2) (σ 0 0))), .int (nI (σ 0 0)), .int (nI d)] w = some (some (.int (nI (grN (σ 0 0) (Sd σ (Lst σ st) v) (ez σ (Lst σ st)) d) - 1)), w) := by
  have hn := r.n7
  have e := c_farthest_loop (fu := fu) hf (a := bits (dryB σ v) (σ 0 0) &&& bits st (σ 0 0)) (t := bits (kndB σ 2) (σ 0 0)) (N := σ 0 0) (d := d) (Nat.lt_of_le_of_lt Nat.and_le_left (bits_ge hn)) (bits_ge hn) hn hd w (σ 0 0) 0 d fu (by omega) (by omega) (by omega)
  rw [gr_row r.k2 (by omega)] at e
  simp only [u_X7_farthest, M_X7_farthest]
  exact e
theorem c_isCrossed (hf : 1000 ≤ fu) (r : RR σ A I) {v d : Nat} (hv : v ≤ 9) (hd : d ≤ 9) (st : Nat → Bool) : U_X0_isCrossed fu [.ref 2, .int (nI (bits st (σ 0 0))), .int (nI v), .int (nI d)] (enc A I) = some (some (.int (bI (X σ (Lst σ st) v d))), enc A I) := by
  have hn := r.n7
  have hg := grN_le σ (Lst σ st) v hd hn
  simp only [u_X0_isCrossed, M_X0_isCrossed, io_1, gr_1_0, gr_1_1, gr_1_2, gr_1_3, gr_1_4, gr_1_5, gi_1_6, pf_1_6, gi_1_7, pf_1_7, io_2, gr_2_0, gr_2_1, gr_2_2, gr_2_3, gr_2_4, gr_2_5, gr_2_6, gr_2_7, gi_2_8, pf_2_8, gi_2_9, pf_2_9, gi_2_10, pf_2_10, gi_2_11, pf_2_11, gi_2_12, pf_2_12, gi_2_13, pf_2_13, gi_2_14, pf_2_14, io_11, gr_11_0, gr_11_1, gr_11_2, io_15, gr_15_0, gr_15_1, gi_15_2, pf_15_2, gi_15_3, pf_15_3, gi_15_4, pf_15_4, gi_15_5, pf_15_5, io_18, gr_18_0, gr_18_1, gi_18_2, pf_18_2, io_21, gr_21_0, gr_21_1, gr_21_2, gr_21_3, gi_21_4, pf_21_4, gi_21_5, pf_21_5, gi_21_6, pf_21_6, gi_21_7, pf_21_7, io_34, gr_34_0, gi_34_1, pf_34_1, al_3, al_4, al_5, al_6, al_7, al_8, al_9, al_10, al_12, al_13, al_14, al_16, al_17, al_19, al_20, al_22, al_23, al_24, al_26, al_27, al_28, al_29, al_30, al_31, al_32, al_33, al_35, ↓reduceIte, Option.bind_some, cI_some, cL_some, cV_some, rz_0, rz_1, c_dry hf r hv]
  rw [show (2 : Int32) = nI 2 from rfl, c_ofKind hf r (by omega)]
  simp only [io_1, gr_1_0, gr_1_1, gr_1_2, gr_1_3, gr_1_4, gr_1_5, gi_1_6, pf_1_6, gi_1_7, pf_1_7, io_2, gr_2_0, gr_2_1, gr_2_2, gr_2_3, gr_2_4, gr_2_5, gr_2_6, gr_2_7, gi_2_8, pf_2_8, gi_2_9, pf_2_9, gi_2_10, pf_2_10, gi_2_11, pf_2_11, gi_2_12, pf_2_12, gi_2_13, pf_2_13, gi_2_14, pf_2_14, io_11, gr_11_0, gr_11_1, gr_11_2, io_15, gr_15_0, gr_15_1, gi_15_2, pf_15_2, gi_15_3, pf_15_3, gi_15_4, pf_15_4, gi_15_5, pf_15_5, io_18, gr_18_0, gr_18_1, gi_18_2, pf_18_2, io_21, gr_21_0, gr_21_1, gr_21_2, gr_21_3, gi_21_4, pf_21_4, gi_21_5, pf_21_5, gi_21_6, pf_21_6, gi_21_7, pf_21_7, io_34, gr_34_0, gi_34_1, pf_34_1, al_3, al_4, al_5, al_6, al_7, al_8, al_9, al_10, al_12, al_13, al_14, al_16, al_17, al_19, al_20, al_22, al_23, al_24, al_26, al_27, al_28, al_29, al_30, al_31, al_32, al_33, al_35, ↓reduceIte, Option.bind_some, cI_some, cL_some, cV_some, rz_0, rz_1, r.i2_8, n_and, c_far hf r hd]
  have z := far_cmp (grN (σ 0 0) (Sd σ (Lst σ st) v) (ez σ (Lst σ st)) d) (by omega) (σ 0 0) (by omega)
  by_cases q : X σ (Lst σ st) v d
  · rw [if_neg (fun y => by have := z.mp y; unfold X at q; omega), bI_t q]
  · rw [if_pos (z.mpr (by unfold X at q; omega)), bI_f q]
theorem Lst_all (σ : SG) : Lst σ (fun c => σ 7 c != 0) = σ 7 := by
  funext c
  unfold Lst
  by_cases q : σ 7 c = 0 <;> simp [q]
theorem c_cross (hf : 1000 ≤ fu) (r : RR σ A I) {v d : Nat} (hv : v ≤ 9) (hd : d ≤ 9) : U_X0_isCrossed fu [.ref 2, .int (nI (bits (fun c => σ 7 c != 0) (σ 0 0))), .int (nI v), .int (nI d)] (enc A I) = some (some (.int (bI (X σ (σ 7) v d))), enc A I) := by
  rw [c_isCrossed hf r hv hd, Lst_all]
/-! the model -/
theorem X_rea (σ : SG) (L : Nat → Nat) (v d : Nat) : X σ L v d ↔ rea (σ 0 0) (Sd σ L v) (ez σ L) d (σ 0 0 + 1) := grN_cross (rw_of σ L v)
end CR

