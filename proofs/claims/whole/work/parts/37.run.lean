/-! ===== a row filled with one number ===== -/
theorem c_fillE {fu : Nat} {w : XW} {k n0 : Nat} {xs : List Int32} {v : Int32} (hf : n0 < fu ∧ n0 < 1000) (hw : w[k]? = some (.inr (0, xs))) (hk : k ≠ 0) (hl : xs.length = n0) : U_J7_fill_53178 fu [.ref k, .int v] w = some (none, w.set k (.inr (0, List.replicate n0 v))) := by
  have hkw : k < w.length := (List.getElem?_eq_some_iff.mp hw).1
  have loop : ∀ d c n ys, c + d = n0 → d < n → ys.length = n0 → (∀ i, i < c → ys[i]? = some v) → F_J7_fill_53178 fu n k v (nI c) (nI n0) (w.set k (.inr (0, ys))) = some (none, w.set k (.inr (0, List.replicate n0 v))) := by
    intro d
    induction d with
    | zero =>
      intro c n ys hc hn hy h
      obtain ⟨n, rfl⟩ : ∃ j, n = j + 1 := ⟨n - 1, by omega⟩
      have e : ys = List.replicate n0 v := by
        apply List.ext_getElem?
        intro i
        rw [List.getElem?_replicate]
        by_cases z : i < n0
        · rw [if_pos z]; exact h i (by omega)
        · rw [if_neg z]; exact List.getElem?_eq_none (by omega)
      rw [e]
      simp only [F_J7_fill_53178, n_lt (show c < 2147483648 by omega) (show n0 < 2147483648 by omega)]
      rw [if_neg (by omega)]
    | succ d ih =>
      intro c n ys hc hn hy h
      obtain ⟨n, rfl⟩ : ∃ j, n = j + 1 := ⟨n - 1, by omega⟩
      have e := sI_enc (w := w.set k (.inr (0, ys))) (k := k) (xs := ys) (x := v) (by rw [List.getElem?_set_self hkw]) hk (j := c) (by omega) (by omega)
      rw [List.set_set] at e
      simp only [F_J7_fill_53178, n_lt (show c < 2147483648 by omega) (show n0 < 2147483648 by omega), nI_1, e, Option.bind_some]
      rw [if_pos (by omega)]
      refine ih (c + 1) n (ys.set c v) (by omega) (by omega) (by rw [List.length_set]; exact hy) fun i hi => ?_
      rw [List.getElem?_set]
      by_cases z : c = i
      · rw [if_pos z, if_pos (by omega)]
      · rw [if_neg z]; exact h i (by omega)
  have hal : aL w k = some (nI n0) := by
    unfold aL
    rw [hw]
    dsimp only
    rw [if_pos (Or.inl rfl), hl]
    rfl
  have h0 := loop n0 0 fu xs (by omega) (by omega) hl (fun i hi => by omega)
  rw [show w.set k (.inr (0, xs)) = w from by
    apply List.ext_getElem?
    intro i
    rw [List.getElem?_set]
    by_cases z : k = i
    · subst z; rw [if_pos rfl, if_pos hkw, hw]
    · rw [if_neg z]] at h0
  simp only [u_J7_fill_53178, M_J7_fill_53178, hal, Option.bind_some]
  exact h0
/-! ===== the class's flood ===== -/
section FR2
def FWd (σ : SG) (o d w : Nat) (A : Nat → List Int32) (I : Nat → Nat → Int32) (s : FS) : Prop :=
  (∀ c, c < σ 0 0 → rd (A d) c = nI (s.2.1 c) ∧ rd (A w) c = wn (s.2.2 c)) ∧ I o 2 = nI (bits s.1 (σ 0 0))
def FrF (o d w : Nat) (A : Nat → List Int32) (I : Nat → Nat → Int32) (A1 : Nat → List Int32) (I1 : Nat → Nat → Int32) : Prop :=
  (∀ k, k ≠ d → k ≠ w → A1 k = A k) ∧ (A1 d).length = (A d).length ∧ (A1 w).length = (A w).length ∧ ∀ a j, ¬ (a = o ∧ j = 2) → I1 a j = I a j
theorem FrF.rf (o d w : Nat) (A : Nat → List Int32) (I : Nat → Nat → Int32) : FrF o d w A I A I := ⟨fun _ _ _ => rfl, rfl, rfl, fun _ _ _ => rfl⟩
theorem FrF.tr {o d w : Nat} {A B C : Nat → List Int32} {I J K : Nat → Nat → Int32} (h : FrF o d w A I B J) (g : FrF o d w B J C K) : FrF o d w A I C K :=
  ⟨fun k h1 h2 => (g.1 k h1 h2).trans (h.1 k h1 h2), g.2.1.trans h.2.1, g.2.2.1.trans h.2.2.1, fun a j hj => (g.2.2.2 a j hj).trans (h.2.2.2 a j hj)⟩
theorem FrF.Fr {o d w : Nat} {A B : Nat → List Int32} {I J : Nat → Nat → Int32} (hd : scrA d = true) (hw : scrA w = true) (ho : scrI o 2 = true) (h : FrF o d w A I B J) : Fr A I B J := by
  refine ⟨fun k hk => h.1 k (fun q => by rw [q, hd] at hk; cases hk) (fun q => by rw [q, hw] at hk; cases hk), fun k => ?_, fun a j hj => h.2.2.2 a j (fun q => by rw [q.1, q.2, ho] at hj; cases hj)⟩
  by_cases q : k = d
  · rw [q]; exact h.2.1
  · by_cases q2 : k = w
    · rw [q2]; exact h.2.2.1
    · rw [h.1 k q q2]
theorem FrF.arr {o d w : Nat} {A B : Nat → List Int32} {I J : Nat → Nat → Int32} (h : FrF o d w A I B J) {k : Nat} {xs : List Int32} (hk : k = d ∨ k = w) (hl : xs.length = (B k).length) : FrF o d w A I (uA B k xs) J := by
  refine h.tr ⟨fun j h1 h2 => uA_n _ _ _ (by omega), ?_, ?_, fun _ _ _ => rfl⟩
  · by_cases q : d = k
    · rw [← q, uA_s]; rw [← q] at hl; exact hl
    · rw [uA_n _ _ _ q]
  · by_cases q : w = k
    · rw [← q, uA_s]; rw [← q] at hl; exact hl
    · rw [uA_n _ _ _ q]
theorem FrF.int {o d w : Nat} {A B : Nat → List Int32} {I J : Nat → Nat → Int32} (h : FrF o d w A I B J) (x : Int32) : FrF o d w A I B (uI J o 2 x) :=
  h.tr ⟨fun _ _ _ => rfl, rfl, rfl, fun a j hj => if_neg hj⟩
theorem FWd.congr {σ : SG} {o d w : Nat} {A : Nat → List Int32} {I : Nat → Nat → Int32} {s t : FS} (h : FWd σ o d w A I s) (e : eqS σ s t) : FWd σ o d w A I t :=
  ⟨fun c hc => by rw [← (e c hc).2.1, ← (e c hc).2.2]; exact h.1 c hc, by rw [h.2]; exact congrArg nI (bits_congr _ fun i hi => (e i hi).1)⟩
/-- one cell more is done -/
theorem FWd.step {σ : SG} {o d w : Nat} (hdw : d ≠ w) {A B : Nat → List Int32} {I J : Nat → Nat → Int32} {s t : FS} {c : Nat} (h : FWd σ o d w A I (md c s t)) (hc : c < σ 0 0)
    (h1 : ∀ i, i < σ 0 0 → rd (B d) i = if i = c then nI (t.2.1 c) else rd (A d) i) (h2 : ∀ i, i < σ 0 0 → rd (B w) i = if i = c then wn (t.2.2 c) else rd (A w) i) (h3 : J o 2 = nI (bits (fun i => if i = c then t.1 c else (md c s t).1 i) (σ 0 0))) : FWd σ o d w B J (md (c + 1) s t) := by
  refine ⟨fun i hi => ?_, ?_⟩
  · rw [h1 i hi, h2 i hi]
    by_cases q : i = c
    · subst q
      rw [if_pos rfl, if_pos rfl]
      simp [md]
    · rw [if_neg q, if_neg q]
      have := h.1 i hi
      have e : (i < c + 1) = (i < c) := propext (by omega)
      simp only [md] at this ⊢
      simp only [e]
      exact this
  · rw [h3]
    refine congrArg nI (bits_congr _ fun i hi => ?_)
    by_cases q : i = c
    · subst q; rw [if_pos rfl]; simp [md]
    · rw [if_neg q]
      have e : (i < c + 1) = (i < c) := propext (by omega)
      simp only [md, e]
variable {σ : SG} {R : Nat → Nat} {gB : Nat → Bool} {f k fu : Nat} {s : FS}
/-- how the stones of a row are told -/
def rowR (σ : SG) (R : Nat → Nat) (xs : List Int32) : Prop := ∀ c, c < σ 0 0 → rd xs c = ro (R c) ∧ ∀ t, R c = t + 1 → t < σ 0 3
theorem rowR.le {xs : List Int32} (h : rowR σ R xs) (hm : σ 0 3 ≤ 6) {c : Nat} (hc : c < σ 0 0) : R c ≤ 6 := by
  cases q : R c with
  | zero => exact Nat.zero_le _
  | succ t => have := (h c hc).2 t q; omega
theorem hold_lt (r : WF σ) {t : Nat} (ht : t < σ 0 3) : 0 < hold σ t ∧ hold σ t < 13 := by
  have h := r.2.2.2.2.2.2.2.2.1 t ht
  unfold hold
  split <;> omega
theorem c_goRounda (hf : f ≤ 9) (hk : 1 ≤ k ∧ k < 1000) (hdg : ∀ c, s.2.1 c ≤ 1000) : ∀ m c n A I b, c + m = σ 0 0 → 2 * m < n → RR σ A I → rowR σ R (A 5) → okS σ R s → FWd σ 18 19 20 A I (md c s (stp σ R gB f k s)) → b ≤ 1 → (b = 0 ↔ ∀ i, i < c → s.1 i = true → mor σ gB f s.1 i = 0) →
    ∃ b' A1 I1, (F_X1_goRound fu n).1 18 2 (nI (bits gB (σ 0 0))) (nI f) (nI k) (nI b) (nI (bits s.1 (σ 0 0))) (nI c) (enc A I) = some (some (.int (nI b')), enc A1 I1) ∧ b' ≤ 1 ∧ (b' = 0 ↔ quiet σ gB f s) ∧ FrF 18 19 20 A I A1 I1 ∧ FWd σ 18 19 20 A1 I1 (md (σ 0 0) s (stp σ R gB f k s)) := by
  intro m
  induction m with
  | zero =>
    intro c n A I b hc hn r hR ho h hb hq
    obtain ⟨n, rfl⟩ : ∃ k, n = k + 1 := ⟨n - 1, by omega⟩
    have hn7 := r.n7
    have e : c = σ 0 0 := by omega
    subst e
    refine ⟨b, A, I, ?_, hb, hq, FrF.rf _ _ _ _ _, h⟩
    rw [F_X1_goRound]
    simp only [io_1, gr_1_0, gr_1_1, gr_1_2, gr_1_3, gr_1_4, gr_1_5, gi_1_6, pf_1_6, gi_1_7, pf_1_7, io_2, gr_2_0, gr_2_1, gr_2_2, gr_2_3, gr_2_4, gr_2_5, gr_2_6, gr_2_7, gi_2_8, pf_2_8, gi_2_9, pf_2_9, gi_2_10, pf_2_10, gi_2_11, pf_2_11, gi_2_12, pf_2_12, gi_2_13, pf_2_13, gi_2_14, pf_2_14, io_11, gr_11_0, gr_11_1, gr_11_2, io_15, gr_15_0, gr_15_1, gi_15_2, pf_15_2, gi_15_3, pf_15_3, gi_15_4, pf_15_4, gi_15_5, pf_15_5, io_18, gr_18_0, gr_18_1, gi_18_2, pf_18_2, io_21, gr_21_0, gr_21_1, gr_21_2, gr_21_3, gi_21_4, pf_21_4, gi_21_5, pf_21_5, gi_21_6, pf_21_6, gi_21_7, pf_21_7, io_34, gr_34_0, gi_34_1, pf_34_1, io_36, gi_36_0, pf_36_0, gi_36_1, pf_36_1, gr_36_2, gr_36_3, gr_36_4, gi_36_5, pf_36_5, gi_36_6, pf_36_6, gi_36_7, pf_36_7, gr_36_8, gr_36_9, gr_36_10, gr_36_11, gi_36_12, pf_36_12, gi_36_13, pf_36_13, gi_36_14, pf_36_14, gr_36_15, gr_36_16, gi_36_17, pf_36_17, gr_36_18, gr_36_19, gr_36_20, gr_36_21, gr_36_22, gi_36_23, pf_36_23, gr_36_24, gr_36_25, gi_36_26, pf_36_26, gr_36_27, gr_36_28, gr_36_29, gr_36_30, gi_36_31, pf_36_31, gr_36_32, gr_36_33, gi_36_34, pf_36_34, gi_36_35, pf_36_35, gr_36_36, al_3, al_4, al_5, al_6, al_7, al_8, al_9, al_10, al_12, al_13, al_14, al_16, al_17, al_19, al_20, al_22, al_23, al_24, al_26, al_27, al_28, al_29, al_30, al_31, al_32, al_33, al_35, al_37, al_38, al_39, al_40, al_41, al_42, al_43, al_44, al_45, al_46, al_47, al_48, al_49, al_50, al_51, al_52, al_53, al_54, al_55, al_56, al_57, al_58, al_59, ↓reduceIte, Option.bind_some, cI_some, cL_some, cV_some, rz_0, rz_1, r.i2_8, n_lt (show σ 0 0 < 2147483648 by omega) (show σ 0 0 < 2147483648 by omega)]
    rw [if_neg (by omega)]
    rcases (show b = 0 ∨ b = 1 by omega) with rfl | rfl
    · exact rz_0 _
    · exact rz_1 _
  | succ m ih =>
    intro c n A I b hcm hn r hR ho h hb hq
    obtain ⟨n, rfl⟩ : ∃ k, n = k + 2 := ⟨n - 2, by omega⟩
    have hn7 := r.n7
    have hc : c < σ 0 0 := by omega
    have hbl := bits_ge (p := s.1) hn7
    have ht : (bits s.1 (σ 0 0)).testBit c = s.1 c := by rw [bits_test]; simp [hc]
    show ∃ b' A1 I1, (F_X1_goRound fu (n + 1 + 1)).1 _ _ _ _ _ _ _ _ _ = _ ∧ _
    rw [F_X1_goRound]
    simp only [io_1, gr_1_0, gr_1_1, gr_1_2, gr_1_3, gr_1_4, gr_1_5, gi_1_6, pf_1_6, gi_1_7, pf_1_7, io_2, gr_2_0, gr_2_1, gr_2_2, gr_2_3, gr_2_4, gr_2_5, gr_2_6, gr_2_7, gi_2_8, pf_2_8, gi_2_9, pf_2_9, gi_2_10, pf_2_10, gi_2_11, pf_2_11, gi_2_12, pf_2_12, gi_2_13, pf_2_13, gi_2_14, pf_2_14, io_11, gr_11_0, gr_11_1, gr_11_2, io_15, gr_15_0, gr_15_1, gi_15_2, pf_15_2, gi_15_3, pf_15_3, gi_15_4, pf_15_4, gi_15_5, pf_15_5, io_18, gr_18_0, gr_18_1, gi_18_2, pf_18_2, io_21, gr_21_0, gr_21_1, gr_21_2, gr_21_3, gi_21_4, pf_21_4, gi_21_5, pf_21_5, gi_21_6, pf_21_6, gi_21_7, pf_21_7, io_34, gr_34_0, gi_34_1, pf_34_1, io_36, gi_36_0, pf_36_0, gi_36_1, pf_36_1, gr_36_2, gr_36_3, gr_36_4, gi_36_5, pf_36_5, gi_36_6, pf_36_6, gi_36_7, pf_36_7, gr_36_8, gr_36_9, gr_36_10, gr_36_11, gi_36_12, pf_36_12, gi_36_13, pf_36_13, gi_36_14, pf_36_14, gr_36_15, gr_36_16, gi_36_17, pf_36_17, gr_36_18, gr_36_19, gr_36_20, gr_36_21, gr_36_22, gi_36_23, pf_36_23, gr_36_24, gr_36_25, gi_36_26, pf_36_26, gr_36_27, gr_36_28, gr_36_29, gr_36_30, gi_36_31, pf_36_31, gr_36_32, gr_36_33, gi_36_34, pf_36_34, gi_36_35, pf_36_35, gr_36_36, al_3, al_4, al_5, al_6, al_7, al_8, al_9, al_10, al_12, al_13, al_14, al_16, al_17, al_19, al_20, al_22, al_23, al_24, al_26, al_27, al_28, al_29, al_30, al_31, al_32, al_33, al_35, al_37, al_38, al_39, al_40, al_41, al_42, al_43, al_44, al_45, al_46, al_47, al_48, al_49, al_50, al_51, al_52, al_53, al_54, al_55, al_56, al_57, al_58, al_59, ↓reduceIte, Option.bind_some, cI_some, cL_some, cV_some, rz_0, rz_1, r.i2_8, n_lt (show c < 2147483648 by omega) (show σ 0 0 < 2147483648 by omega), c_hasn _ (show bits s.1 (σ 0 0) < 2147483648 by omega) (show c < 31 by omega), ht, bI_0, c_digging r hc hf, nI_1, nI_pe0 (show b < 2147483648 by omega)]
    rw [if_pos hc]
    by_cases q : s.1 c = true
    · rw [if_neg (fun y => y q)]
      have hok := ho c hc q
      obtain ⟨t, hRt⟩ : ∃ t, R c = t + 1 := ⟨R c - 1, by omega⟩
      have hts := (hR c hc).2 t hRt
      have hmo := mor_lt (σ := σ) (gB := gB) (st := s.1) r.1.2.2.1 hf c
      have hh := hold_lt r.1 hts
      have hdc := hdg c
      have vd : rd (A 19) c = nI (s.2.1 c) := by have := (h.1 c hc).1; simp only [md, Nat.lt_irrefl, if_false] at this; exact this
      have ld : c < (A 19).length := by rw [r.len rfl]; show c < 7; omega
      have lw : c < (A 20).length := by rw [r.len rfl]; show c < 7; omega
      have lr : c < (A 5).length := by rw [r.len rfl]; show c < 7; omega
      have hr1 : RR σ (uA A 19 ((A 19).set c (nI (s.2.1 c + mor σ gB f s.1 c)))) I := r.sc rfl (by rw [List.length_set])
      have e1 : aI (enc A I) 19 (nI c) = some (nI (s.2.1 c)) := by rw [ai_19 A I ld (by omega), vd]
      have e2 := si_19 A I (nI (s.2.1 c + mor σ gB f s.1 c)) ld (show c < 2147483648 by omega)
      have e3 : aI (enc (uA A 19 ((A 19).set c (nI (s.2.1 c + mor σ gB f s.1 c)))) I) 19 (nI c) = some (nI (s.2.1 c + mor σ gB f s.1 c)) := by
        rw [ai_19 _ _ (by rw [uA_s, List.length_set]; exact ld) (by omega), uA_s, rd_set _ _ ld, if_pos rfl]
      have e4 : aI (enc (uA A 19 ((A 19).set c (nI (s.2.1 c + mor σ gB f s.1 c)))) I) 5 (nI c) = some (nI t) := by
        rw [ai_5 (uA A 19 ((A 19).set c (nI (s.2.1 c + mor σ gB f s.1 c)))) I (by rw [uA_n _ _ _ (by decide)]; exact lr) (by omega), uA_n _ _ _ (by decide), (hR c hc).1, hRt, ro_s]
      -- the second part, by its flag
      have two : ∀ b1, b1 ≤ 1 → (b1 = 0 ↔ ∀ i, i < c + 1 → s.1 i = true → mor σ gB f s.1 i = 0) → ∃ b' A1 I1, (F_X1_goRound fu (n + 1)).2 18 2 (nI (bits gB (σ 0 0))) (nI f) (nI k) (nI (bits s.1 (σ 0 0))) (nI c) (nI (mor σ gB f s.1 c)) (nI b1) (enc A I) = some (some (.int (nI b')), enc A1 I1) ∧ b' ≤ 1 ∧ (b' = 0 ↔ quiet σ gB f s) ∧ FrF 18 19 20 A I A1 I1 ∧ FWd σ 18 19 20 A1 I1 (md (σ 0 0) s (stp σ R gB f k s)) := by
        intro b1 hb1 hq1
        rw [F_X1_goRound]
        simp only [io_1, gr_1_0, gr_1_1, gr_1_2, gr_1_3, gr_1_4, gr_1_5, gi_1_6, pf_1_6, gi_1_7, pf_1_7, io_2, gr_2_0, gr_2_1, gr_2_2, gr_2_3, gr_2_4, gr_2_5, gr_2_6, gr_2_7, gi_2_8, pf_2_8, gi_2_9, pf_2_9, gi_2_10, pf_2_10, gi_2_11, pf_2_11, gi_2_12, pf_2_12, gi_2_13, pf_2_13, gi_2_14, pf_2_14, io_11, gr_11_0, gr_11_1, gr_11_2, io_15, gr_15_0, gr_15_1, gi_15_2, pf_15_2, gi_15_3, pf_15_3, gi_15_4, pf_15_4, gi_15_5, pf_15_5, io_18, gr_18_0, gr_18_1, gi_18_2, pf_18_2, io_21, gr_21_0, gr_21_1, gr_21_2, gr_21_3, gi_21_4, pf_21_4, gi_21_5, pf_21_5, gi_21_6, pf_21_6, gi_21_7, pf_21_7, io_34, gr_34_0, gi_34_1, pf_34_1, io_36, gi_36_0, pf_36_0, gi_36_1, pf_36_1, gr_36_2, gr_36_3, gr_36_4, gi_36_5, pf_36_5, gi_36_6, pf_36_6, gi_36_7, pf_36_7, gr_36_8, gr_36_9, gr_36_10, gr_36_11, gi_36_12, pf_36_12, gi_36_13, pf_36_13, gi_36_14, pf_36_14, gr_36_15, gr_36_16, gi_36_17, pf_36_17, gr_36_18, gr_36_19, gr_36_20, gr_36_21, gr_36_22, gi_36_23, pf_36_23, gr_36_24, gr_36_25, gi_36_26, pf_36_26, gr_36_27, gr_36_28, gr_36_29, gr_36_30, gi_36_31, pf_36_31, gr_36_32, gr_36_33, gi_36_34, pf_36_34, gi_36_35, pf_36_35, gr_36_36, al_3, al_4, al_5, al_6, al_7, al_8, al_9, al_10, al_12, al_13, al_14, al_16, al_17, al_19, al_20, al_22, al_23, al_24, al_26, al_27, al_28, al_29, al_30, al_31, al_32, al_33, al_35, al_37, al_38, al_39, al_40, al_41, al_42, al_43, al_44, al_45, al_46, al_47, al_48, al_49, al_50, al_51, al_52, al_53, al_54, al_55, al_56, al_57, al_58, al_59, ↓reduceIte, Option.bind_some, cI_some, cL_some, cV_some, rz_0, rz_1, e1, nI_add, e2, e3, e4, c_holdOf hr1 hts, n_lt (show s.2.1 c + mor σ gB f s.1 c < 2147483648 by omega) (show hold σ t < 2147483648 by omega), nI_1]
        have t2 : (stp σ R gB f k s).2.1 c = s.2.1 c + mor σ gB f s.1 c := by show s.2.1 c + (if s.1 c = true then _ else 0) = _; rw [if_pos q]
        by_cases z : s.2.1 c + mor σ gB f s.1 c < hold σ t
        · rw [if_pos z]
          have t1 : (stp σ R gB f k s).1 c = true := by show (s.1 c && decide (s.2.1 c + mor σ gB f s.1 c < hold σ (R c - 1))) = true; rw [hRt, Nat.add_sub_cancel, q, decide_eq_true z]; rfl
          have t3 : (stp σ R gB f k s).2.2 c = s.2.2 c := by show (if s.1 c = true ∧ hold σ (R c - 1) ≤ _ then k else s.2.2 c) = _; rw [hRt, Nat.add_sub_cancel, if_neg (fun y => by omega)]
          have h' : FWd σ 18 19 20 (uA A 19 ((A 19).set c (nI (s.2.1 c + mor σ gB f s.1 c)))) I (md (c + 1) s (stp σ R gB f k s)) := by
            refine h.step (by decide) hc (fun i hi => ?_) (fun i hi => ?_) ?_
            · rw [uA_s, rd_set _ _ ld, t2]
            · rw [uA_n _ _ _ (by decide)]
              by_cases y : i = c
              · rw [if_pos y, y, t3]; have := (h.1 c hc).2; simp only [md, Nat.lt_irrefl, if_false] at this; exact this
              · rw [if_neg y]
            · rw [h.2]
              refine congrArg nI (bits_congr _ fun i hi => ?_)
              by_cases y : i = c
              · rw [if_pos y, y, t1]; simp [md, q]
              · rw [if_neg y]
          obtain ⟨b', A1, I1, g1, g2, g3, g4, g5⟩ := ih (c + 1) n _ I b1 (by omega) (by omega) hr1 (by rw [uA_n _ _ _ (by decide)]; exact hR) ho h' hb1 hq1
          exact ⟨b', A1, I1, g1, g2, g3, ((FrF.rf _ _ _ A I).arr (Or.inl rfl) (by rw [List.length_set])).tr g4, g5⟩
        · rw [if_neg z]
          have t1 : (stp σ R gB f k s).1 c = false := by show (s.1 c && decide (s.2.1 c + mor σ gB f s.1 c < hold σ (R c - 1))) = false; rw [hRt, Nat.add_sub_cancel, decide_eq_false z, Bool.and_false]
          have t3 : (stp σ R gB f k s).2.2 c = k := by show (if s.1 c = true ∧ hold σ (R c - 1) ≤ _ then k else s.2.2 c) = _; rw [hRt, Nat.add_sub_cancel, if_pos ⟨q, by omega⟩]
          have hcl : bits (md c s (stp σ R gB f k s)).1 (σ 0 0) &&& (127 ^^^ 2 ^ c) = bits (fun i => if i = c then (stp σ R gB f k s).1 c else (md c s (stp σ R gB f k s)).1 i) (σ 0 0) := bits_clear hn7 hc fun i hi => by
            by_cases y : i = c
            · rw [if_pos y, t1]; simp [y]
            · rw [if_neg y]; simp [y]
          rw [h.2, n_clear _ (bits_ge hn7) c (by omega), hcl]
          have e5 := si_20 (uA A 19 ((A 19).set c (nI (s.2.1 c + mor σ gB f s.1 c)))) (uI I 18 2 (nI (bits (fun i => if i = c then (stp σ R gB f k s).1 c else (md c s (stp σ R gB f k s)).1 i) (σ 0 0)))) (nI k) (show c < _ by rw [uA_n _ _ _ (by decide)]; exact lw) (show c < 2147483648 by omega)
          rw [e5, Option.bind_some]
          rw [uA_n A 19 _ (show (20 : Nat) ≠ 19 by decide)]
          have hk0 : wn k = nI k := if_neg (by omega)
          have hr2 : RR σ (uA (uA A 19 ((A 19).set c (nI (s.2.1 c + mor σ gB f s.1 c)))) 20 ((A 20).set c (nI k))) (uI I 18 2 (nI (bits (fun i => if i = c then (stp σ R gB f k s).1 c else (md c s (stp σ R gB f k s)).1 i) (σ 0 0)))) :=
            (Fr.int (Fr.arr (Fr.rf _ _) rfl (by rw [List.length_set, uA_n _ _ _ (by decide)])) rfl).R hr1
          have h' : FWd σ 18 19 20 (uA (uA A 19 ((A 19).set c (nI (s.2.1 c + mor σ gB f s.1 c)))) 20 ((A 20).set c (nI k))) (uI I 18 2 (nI (bits (fun i => if i = c then (stp σ R gB f k s).1 c else (md c s (stp σ R gB f k s)).1 i) (σ 0 0)))) (md (c + 1) s (stp σ R gB f k s)) := by
            refine h.step (by decide) hc (fun i hi => ?_) (fun i hi => ?_) ?_
            · rw [uA_n _ _ _ (by decide), uA_s, rd_set _ _ ld, t2]
            · rw [uA_s, rd_set _ _ lw, t3, hk0]
            · exact uI_s _ _ _ _
          obtain ⟨b', A1, I1, g1, g2, g3, g4, g5⟩ := ih (c + 1) n _ _ b1 (by omega) (by omega) hr2 (by rw [uA_n _ _ _ (by decide), uA_n _ _ _ (by decide)]; exact hR) ho h' hb1 hq1
          refine ⟨b', A1, I1, g1, g2, g3, ((((FrF.rf _ _ _ A I).arr (Or.inl rfl) (by rw [List.length_set])).arr (Or.inr rfl) (by rw [List.length_set, uA_n _ _ _ (by decide)])).int _).tr g4, g5⟩
      have hz : ((0 : Int32) < nI (mor σ gB f s.1 c)) = (0 < mor σ gB f s.1 c) := nI_0lt (by omega)
      by_cases hb0 : b = 0
      · rw [if_pos hb0]
        have hq0 := hq.mp hb0
        by_cases y : 0 < mor σ gB f s.1 c
        · rw [if_pos (by rw [hz]; exact y)]
          exact two 1 (Nat.le_refl _) ⟨fun z => by omega, fun z => by have := z c (by omega) q; omega⟩
        · rw [if_neg (by rw [hz]; exact y)]
          refine two 0 (by omega) ⟨fun _ i hi hs => ?_, fun _ => rfl⟩
          by_cases w : i = c
          · subst w; omega
          · exact hq0 i (by omega) hs
      · rw [if_neg hb0]
        exact two 1 (Nat.le_refl _) ⟨fun z => by omega, fun z => absurd (hq.mpr fun i hi hs => z i (by omega) hs) hb0⟩
    · rw [if_pos q]
      have q' := Bool.eq_false_iff.mpr q
      have h' : FWd σ 18 19 20 A I (md (c + 1) s (stp σ R gB f k s)) := by
        refine h.step (by decide) hc (fun i hi => ?_) (fun i hi => ?_) ?_
        · by_cases y : i = c
          · rw [if_pos y, y, (h.1 c hc).1]
            simp [md, stp, q']
          · rw [if_neg y]
        · by_cases y : i = c
          · rw [if_pos y, y, (h.1 c hc).2]
            simp [md, stp, q']
          · rw [if_neg y]
        · rw [h.2]
          refine congrArg nI (bits_congr _ fun i hi => ?_)
          by_cases y : i = c
          · rw [if_pos y, y]; simp [md, stp, q']
          · rw [if_neg y]
      refine ih (c + 1) (n + 1) A I b (by omega) (by omega) r hR ho h' hb (hq.trans ⟨fun z i hi hs => ?_, fun z i hi hs => z i (by omega) hs⟩)
      by_cases y : i = c
      · subst y; exact absurd hs q
      · exact z i (by omega) hs
theorem c_rounda (hfu : 1000 ≤ fu) (hf : f ≤ 9) (hk : 1 ≤ k ∧ k < 1000) (hdg : ∀ c, s.2.1 c ≤ 1000) {A : Nat → List Int32} {I : Nat → Nat → Int32} (r : RR σ A I) (hR : rowR σ R (A 5)) (ho : okS σ R s) (h : FWd σ 18 19 20 A I s) :
    ∃ b' A1 I1, U_X1_goRound fu [.ref 18, .ref 2, .int (nI (bits gB (σ 0 0))), .int (nI f), .int (nI k)] (enc A I) = some (some (.int (nI b')), enc A1 I1) ∧ b' ≤ 1 ∧ (b' = 0 ↔ quiet σ gB f s) ∧ FrF 18 19 20 A I A1 I1 ∧ FWd σ 18 19 20 A1 I1 (stp σ R gB f k s) := by
  have hn7 := r.n7
  obtain ⟨b', A1, I1, g1, g2, g3, g4, g5⟩ := c_goRounda (fu := fu) (gB := gB) hf hk hdg (σ 0 0) 0 fu A I 0 (by omega) (by omega) r hR ho (by rw [md_0]; exact h) (by omega) ⟨fun _ i hi => by omega, fun _ => rfl⟩
  refine ⟨b', A1, I1, ?_, g2, g3, g4, g5.congr (md_N _ _)⟩
  simp only [u_X1_goRound, M_X1_goRound, io_1, gr_1_0, gr_1_1, gr_1_2, gr_1_3, gr_1_4, gr_1_5, gi_1_6, pf_1_6, gi_1_7, pf_1_7, io_2, gr_2_0, gr_2_1, gr_2_2, gr_2_3, gr_2_4, gr_2_5, gr_2_6, gr_2_7, gi_2_8, pf_2_8, gi_2_9, pf_2_9, gi_2_10, pf_2_10, gi_2_11, pf_2_11, gi_2_12, pf_2_12, gi_2_13, pf_2_13, gi_2_14, pf_2_14, io_11, gr_11_0, gr_11_1, gr_11_2, io_15, gr_15_0, gr_15_1, gi_15_2, pf_15_2, gi_15_3, pf_15_3, gi_15_4, pf_15_4, gi_15_5, pf_15_5, io_18, gr_18_0, gr_18_1, gi_18_2, pf_18_2, io_21, gr_21_0, gr_21_1, gr_21_2, gr_21_3, gi_21_4, pf_21_4, gi_21_5, pf_21_5, gi_21_6, pf_21_6, gi_21_7, pf_21_7, io_34, gr_34_0, gi_34_1, pf_34_1, io_36, gi_36_0, pf_36_0, gi_36_1, pf_36_1, gr_36_2, gr_36_3, gr_36_4, gi_36_5, pf_36_5, gi_36_6, pf_36_6, gi_36_7, pf_36_7, gr_36_8, gr_36_9, gr_36_10, gr_36_11, gi_36_12, pf_36_12, gi_36_13, pf_36_13, gi_36_14, pf_36_14, gr_36_15, gr_36_16, gi_36_17, pf_36_17, gr_36_18, gr_36_19, gr_36_20, gr_36_21, gr_36_22, gi_36_23, pf_36_23, gr_36_24, gr_36_25, gi_36_26, pf_36_26, gr_36_27, gr_36_28, gr_36_29, gr_36_30, gi_36_31, pf_36_31, gr_36_32, gr_36_33, gi_36_34, pf_36_34, gi_36_35, pf_36_35, gr_36_36, al_3, al_4, al_5, al_6, al_7, al_8, al_9, al_10, al_12, al_13, al_14, al_16, al_17, al_19, al_20, al_22, al_23, al_24, al_26, al_27, al_28, al_29, al_30, al_31, al_32, al_33, al_35, al_37, al_38, al_39, al_40, al_41, al_42, al_43, al_44, al_45, al_46, al_47, al_48, al_49, al_50, al_51, al_52, al_53, al_54, al_55, al_56, al_57, al_58, al_59, ↓reduceIte, Option.bind_some, cI_some, cL_some, cV_some, rz_0, rz_1, h.2, Bool.and_self]
  exact g1
theorem c_runRa (hfu : 1000 ≤ fu) (hf : f ≤ 9) {rounds : Nat} (hrd : rounds ≤ 30) (hRh : ∀ c, c < σ 0 0 → R c ≠ 0 → 0 < hold σ (R c - 1)) : ∀ m j b n A I, j + m = rounds → m + 1 < n → RR σ A I → rowR σ R (A 5) → FWd σ 18 19 20 A I (fl σ R gB f j) → b ≤ 1 → (b = 0 → quiet σ gB f (fl σ R gB f j)) →
    ∃ A1 I1, F_X1_run fu n 18 2 (nI (bits gB (σ 0 0))) (nI f) (nI rounds) (nI b) (nI (j + 1)) (enc A I) = some (none, enc A1 I1) ∧ FrF 18 19 20 A I A1 I1 ∧ FWd σ 18 19 20 A1 I1 (fl σ R gB f rounds) := by
  intro m
  induction m with
  | zero =>
    intro j b n A I hj hn r hR h hb hq
    obtain ⟨n, rfl⟩ : ∃ k, n = k + 1 := ⟨n - 1, by omega⟩
    have e : j = rounds := by omega
    subst e
    refine ⟨A, I, ?_, FrF.rf _ _ _ _ _, h⟩
    rw [F_X1_run]
    simp only [n_lt (show j < 2147483648 by omega) (show j + 1 < 2147483648 by omega)]
    rw [if_pos (by omega)]
  | succ m ih =>
    intro j b n A I hj hn r hR h hb hq
    obtain ⟨n, rfl⟩ : ∃ k, n = k + 1 := ⟨n - 1, by omega⟩
    rw [F_X1_run]
    simp only [n_lt (show rounds < 2147483648 by omega) (show j + 1 < 2147483648 by omega), nI_pe0 (show b < 2147483648 by omega)]
    rw [if_neg (by omega)]
    by_cases hb0 : b = 0
    · rw [if_pos hb0]
      refine ⟨A, I, rfl, FrF.rf _ _ _ _ _, h.congr ?_⟩
      rw [show rounds = j + (m + 1) by omega]
      exact (fl_quiet hRh (hq hb0) (m + 1)).sy
    · rw [if_neg hb0]
      have hdg : ∀ c, (fl σ R gB f j).2.1 c ≤ 1000 := fun c => by have := fl_dg (σ := σ) (R := R) (gB := gB) r.1.2.2.1 hf j c; omega
      obtain ⟨b', A1, I1, g1, g2, g3, g4, g5⟩ := c_rounda (fu := fu) (gB := gB) (k := j + 1) hfu hf (by omega) hdg r hR (fl_ok hRh j) h
      rw [g1]
      simp only [io_1, gr_1_0, gr_1_1, gr_1_2, gr_1_3, gr_1_4, gr_1_5, gi_1_6, pf_1_6, gi_1_7, pf_1_7, io_2, gr_2_0, gr_2_1, gr_2_2, gr_2_3, gr_2_4, gr_2_5, gr_2_6, gr_2_7, gi_2_8, pf_2_8, gi_2_9, pf_2_9, gi_2_10, pf_2_10, gi_2_11, pf_2_11, gi_2_12, pf_2_12, gi_2_13, pf_2_13, gi_2_14, pf_2_14, io_11, gr_11_0, gr_11_1, gr_11_2, io_15, gr_15_0, gr_15_1, gi_15_2, pf_15_2, gi_15_3, pf_15_3, gi_15_4, pf_15_4, gi_15_5, pf_15_5, io_18, gr_18_0, gr_18_1, gi_18_2, pf_18_2, io_21, gr_21_0, gr_21_1, gr_21_2, gr_21_3, gi_21_4, pf_21_4, gi_21_5, pf_21_5, gi_21_6, pf_21_6, gi_21_7, pf_21_7, io_34, gr_34_0, gi_34_1, pf_34_1, io_36, gi_36_0, pf_36_0, gi_36_1, pf_36_1, gr_36_2, gr_36_3, gr_36_4, gi_36_5, pf_36_5, gi_36_6, pf_36_6, gi_36_7, pf_36_7, gr_36_8, gr_36_9, gr_36_10, gr_36_11, gi_36_12, pf_36_12, gi_36_13, pf_36_13, gi_36_14, pf_36_14, gr_36_15, gr_36_16, gi_36_17, pf_36_17, gr_36_18, gr_36_19, gr_36_20, gr_36_21, gr_36_22, gi_36_23, pf_36_23, gr_36_24, gr_36_25, gi_36_26, pf_36_26, gr_36_27, gr_36_28, gr_36_29, gr_36_30, gi_36_31, pf_36_31, gr_36_32, gr_36_33, gi_36_34, pf_36_34, gi_36_35, pf_36_35, gr_36_36, al_3, al_4, al_5, al_6, al_7, al_8, al_9, al_10, al_12, al_13, al_14, al_16, al_17, al_19, al_20, al_22, al_23, al_24, al_26, al_27, al_28, al_29, al_30, al_31, al_32, al_33, al_35, al_37, al_38, al_39, al_40, al_41, al_42, al_43, al_44, al_45, al_46, al_47, al_48, al_49, al_50, al_51, al_52, al_53, al_54, al_55, al_56, al_57, al_58, al_59, ↓reduceIte, Option.bind_some, cI_some, cL_some, cV_some, rz_0, rz_1, nI_1]
      have hF := g4.Fr rfl rfl rfl
      obtain ⟨A2, I2, l1, l2, l3⟩ := ih (j + 1) b' n A1 I1 (by omega) (by omega) (hF.R r) (by rw [g4.1 5 (by decide) (by decide)]; exact hR) g5 g2 (fun z => quiet_congr (quiet_stp (fl_ok hRh j) (g3.mp z)).sy (g3.mp z))
      exact ⟨A2, I2, l1, g4.tr l2, l3⟩
/-- the class's flood over a row -/
theorem c_runa (hfu : 1000 ≤ fu) (hf : f ≤ 9) {rounds : Nat} (hrd : rounds ≤ 30) (gB : Nat → Bool) {A : Nat → List Int32} {I : Nat → Nat → Int32} (r : RR σ A I) :
    ∃ A1 I1, U_X1_run fu [.ref 18, .ref 2, .int (nI (bits gB (σ 0 0))), .int (nI f), .int (nI rounds)] (enc A I) = some (none, enc A1 I1) ∧ FrF 18 19 20 A I A1 I1 ∧ FWd σ 18 19 20 A1 I1 (fl σ (σ 7) gB f rounds) := by
  have hn7 := r.n7
  have hR : rowR σ (σ 7) (A 5) := fun c hc => ⟨r.v5 hc, fun t ht => (r.row hc ht).1⟩
  have hRh : ∀ c, c < σ 0 0 → σ 7 c ≠ 0 → 0 < hold σ (σ 7 c - 1) := fun c hc h => by
    obtain ⟨t, ht⟩ : ∃ t, σ 7 c = t + 1 := ⟨σ 7 c - 1, by omega⟩
    rw [ht, Nat.add_sub_cancel]
    exact (hold_lt r.1 ((hR c hc).2 t ht)).1
  have cf := c_filled (fu := fu) hfu r
  obtain ⟨B, hB⟩ : ∃ B, B = uA (uA A 19 (List.replicate 7 0)) 20 (List.replicate 7 (-9)) := ⟨_, rfl⟩
  obtain ⟨J, hJ⟩ : ∃ J, J = uI I 18 2 (nI (bits (fun c => σ 7 c != 0) (σ 0 0))) := ⟨_, rfl⟩
  have f1 := c_fillE (fu := fu) (n0 := 7) (w := enc A J) (k := 19) (xs := A 19) (v := 0) (by omega) rfl (by decide) (r.len rfl)
  have f2 := c_fillE (fu := fu) (n0 := 7) (w := enc (uA A 19 (List.replicate 7 0)) J) (k := 20) (xs := A 20) (v := -9) (by omega) rfl (by decide) (r.len rfl)
  have f1' : U_J7_fill_53178 fu [.ref 19, .int 0] (enc A J) = some (none, enc (uA A 19 (List.replicate 7 0)) J) := f1
  have f2' : U_J7_fill_53178 fu [.ref 20, .int (-9)] (enc (uA A 19 (List.replicate 7 0)) J) = some (none, enc B J) := f2.trans (by rw [hB]; rfl)
  have hfr2 : FrF 18 19 20 A I B J := by
    rw [hB, hJ]
    exact (((FrF.rf 18 19 20 A I).arr (Or.inl rfl) (by rw [List.length_replicate]; exact (r.len (k := 19) rfl).symm)).arr (Or.inr rfl) (by rw [List.length_replicate, uA_n _ _ _ (by decide)]; exact (r.len (k := 20) rfl).symm)).int _
  have rep : ∀ (v : Int32) i, i < 7 → rd (List.replicate 7 v) i = v := fun v i hi => by
    unfold rd
    rw [List.getD_eq_getElem?_getD, List.getElem?_replicate, if_pos hi]; rfl
  have hW : FWd σ 18 19 20 B J (fl σ (σ 7) gB f 0) := by
    refine ⟨fun c hc => ⟨?_, ?_⟩, ?_⟩
    · rw [hB, uA_n _ _ _ (by decide), uA_s, rep _ _ (by omega)]; rfl
    · rw [hB, uA_s, rep _ _ (by omega)]; rfl
    · rw [hJ]; exact uI_s _ _ _ _
  obtain ⟨A2, I2, l1, l2, l3⟩ := c_runRa (fu := fu) (gB := gB) (R := σ 7) hfu hf hrd hRh rounds 0 1 fu B J (by omega) (by omega) ((hfr2.Fr rfl rfl rfl).R r) (by rw [hfr2.1 5 (by decide) (by decide)]; exact hR) hW (Nat.le_refl _) (fun z => by omega)
  refine ⟨A2, I2, ?_, hfr2.tr l2, l3⟩
  simp -implicitDefEqProofs only [u_X1_run, M_X1_run, io_1, gr_1_0, gr_1_1, gr_1_2, gr_1_3, gr_1_4, gr_1_5, gi_1_6, pf_1_6, gi_1_7, pf_1_7, io_2, gr_2_0, gr_2_1, gr_2_2, gr_2_3, gr_2_4, gr_2_5, gr_2_6, gr_2_7, gi_2_8, pf_2_8, gi_2_9, pf_2_9, gi_2_10, pf_2_10, gi_2_11, pf_2_11, gi_2_12, pf_2_12, gi_2_13, pf_2_13, gi_2_14, pf_2_14, io_11, gr_11_0, gr_11_1, gr_11_2, io_15, gr_15_0, gr_15_1, gi_15_2, pf_15_2, gi_15_3, pf_15_3, gi_15_4, pf_15_4, gi_15_5, pf_15_5, io_18, gr_18_0, gr_18_1, gi_18_2, pf_18_2, io_21, gr_21_0, gr_21_1, gr_21_2, gr_21_3, gi_21_4, pf_21_4, gi_21_5, pf_21_5, gi_21_6, pf_21_6, gi_21_7, pf_21_7, io_34, gr_34_0, gi_34_1, pf_34_1, io_36, gi_36_0, pf_36_0, gi_36_1, pf_36_1, gr_36_2, gr_36_3, gr_36_4, gi_36_5, pf_36_5, gi_36_6, pf_36_6, gi_36_7, pf_36_7, gr_36_8, gr_36_9, gr_36_10, gr_36_11, gi_36_12, pf_36_12, gi_36_13, pf_36_13, gi_36_14, pf_36_14, gr_36_15, gr_36_16, gi_36_17, pf_36_17, gr_36_18, gr_36_19, gr_36_20, gr_36_21, gr_36_22, gi_36_23, pf_36_23, gr_36_24, gr_36_25, gi_36_26, pf_36_26, gr_36_27, gr_36_28, gr_36_29, gr_36_30, gi_36_31, pf_36_31, gr_36_32, gr_36_33, gi_36_34, pf_36_34, gi_36_35, pf_36_35, gr_36_36, al_3, al_4, al_5, al_6, al_7, al_8, al_9, al_10, al_12, al_13, al_14, al_16, al_17, al_19, al_20, al_22, al_23, al_24, al_26, al_27, al_28, al_29, al_30, al_31, al_32, al_33, al_35, al_37, al_38, al_39, al_40, al_41, al_42, al_43, al_44, al_45, al_46, al_47, al_48, al_49, al_50, al_51, al_52, al_53, al_54, al_55, al_56, al_57, al_58, al_59, ↓reduceIte, Option.bind_some, cI_some, cL_some, cV_some, rz_0, rz_1, cf, ← hJ, f1', f2']
  exact l1
end FR2
