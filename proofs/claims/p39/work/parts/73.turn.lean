/-! ===== the law's turns: water, cells, who comes across, the highest water ===== -/
section TM
variable {σ : SG} {A : Nat → List Int32} {I : Nat → Nat → Int32} {fu : Nat} {P : Prop}
theorem TI.wat (h : TI P σ A I) {j : Nat} {J : Nat → Nat → Int32} (r : RR (uN σ 0 2 j) A J) : TI P (uN σ 0 2 j) A J := by
  obtain ⟨⟨b1, b2⟩, h2, h3, h4, h5, h6, h7, h8⟩ := h
  exact ⟨⟨r.1, b2⟩, r, h3, h4, h5, h6, h7, h8⟩
theorem t_act (hf : 1000 ≤ fu) (h : TI P σ A I) {turn : Nat} (ht : turn < 14) {n : Nat} (hn : 50 ≤ n) :
    ∃ j σ' B J v, n ≤ j + 45 ∧ TI P σ' B J ∧ σ' 0 3 = σ 0 3 ∧ (F_L_law fu (n)).2.2.2.1 0 1 36 37 (nI (σ 0 3)) 38 39 (nI (σ 0 2)) (nI turn) (enc A I) = (F_L_law fu (j)).2.2.2.2.2.2.2.2.2.1 0 1 36 37 (nI (σ 0 3)) 38 39 (nI (σ' 0 2)) (nI turn) v 0 0 (enc B J) := by
  have hn7 := h.n7
  have hm6 := h.m6
  have hn3 := h.n3
  obtain ⟨n, rfl⟩ : ∃ m, n = m + 1 := ⟨n - 1, by omega⟩
  obtain ⟨v, hv⟩ := l_cell (fu := fu) (A := A) (I := I) (by have := h.2.2.1; omega) (k := 8 + turn) (by omega)
  obtain ⟨k, hk, hk2⟩ := l_some (fu := fu) v (show 1 ≤ σ 0 3 + 1 by omega) (by omega) (enc A I)
  obtain ⟨c, hc, hc2⟩ := l_some (fu := fu) (v >>> ((3 : Int32) &&& 31)) (show 1 ≤ σ 0 0 + 1 by omega) (by omega) (enc A I)
  have e8 : (8 : Int32) + nI turn = nI (8 + turn) := by rw [show (8 : Int32) = nI 8 from rfl, nI_add]
  rw [L_3, if_pos (by rw [show (14 : Int32) = nI 14 from rfl, n_lt (by omega) (by omega)]; exact ht), e8, hv, cI_some, nI_1, hk2, cI_some, h.lb.b0, Option.bind_some, nI_1, hc2, cI_some]
  by_cases z : k < σ 0 3
  · rw [if_pos (by rw [n_lt (by omega) (by omega)]; exact z)]
    obtain ⟨j, σ', B, j1, j2, j3, j4, j5⟩ := t_stone (fu := fu) hf h z (show c ≤ σ 0 0 by omega) (nI (σ 0 2)) (nI turn) v (n := n) (by omega)
    exact ⟨j, σ', B, I, v, by omega, j2, j3, by rw [j4]; exact j5⟩
  · rw [if_neg (by rw [n_lt (by omega) (by omega)]; exact z)]
    obtain ⟨w, hw, hw2⟩ := l_some (fu := fu) (v >>> ((7 : Int32) &&& 31)) (show 1 ≤ 4 by omega) (by omega) (enc A I)
    have hw2 : U_L_some fu [.int (v >>> ((7 : Int32) &&& 31)), .int 4] (enc A I) = some (some (.int (nI w)), enc A I) := hw2
    obtain ⟨e1, r1⟩ := k_water (fu := fu) h.r (show σ 0 0 ≠ 0 by omega) (show w ≤ 9 by omega)
    rw [hw2, cI_some, e1, cI_some, if_pos rfl]
    exact ⟨n, uN σ 0 2 w, A, _, v, by omega, h.wat r1, rfl, rfl⟩
abbrev inN (σ : SG) : Nat → Bool := fun c => σ 7 c != 0
theorem t_cell (h : TI P σ A I) {q : Nat} (hc : q < σ 0 0) (a9 a10 : Int32) (n : Nat) :
    (F_L_law fu (n + 3)).2.2.2.2.2.2.2.2.2.1 0 1 36 37 (nI (σ 0 3)) 38 39 (nI (σ 0 2)) a9 a10 (nI (cnt (inN σ) q)) (nI q) (enc A I) = (F_L_law fu (n)).2.2.2.2.2.2.2.2.2.1 0 1 36 37 (nI (σ 0 3)) 38 39 (nI (σ 0 2)) a9 a10 (nI (cnt (inN σ) (q + 1))) (nI (q + 1)) (enc A I) := by
  have hn := h.n7
  have l0 := h.lb.l0 (I := I) hc
  have hle := h.lb.le hc
  have c2 := k_ofCell2 (fu := fu) h.r hc
  have c4 := k_ofCell4 (fu := fu) h.r hc
  have e6 : ∀ s, (6 : Int32) + nI s = nI (6 + s) := fun s => by rw [show (6 : Int32) = nI 6 from rfl, nI_add]
  have e2 : (2 : Int32) + nI q = nI (2 + q) := by rw [show (2 : Int32) = nI 2 from rfl, nI_add]
  rw [L_9, h.lb.b0, Option.bind_some, if_pos (by rw [n_lt (by omega) (by omega)]; exact hc), l0, Option.bind_some]
  cases hs : σ 7 q with
  | zero =>
    rw [hs] at l0 c2 c4
    rw [if_pos (show lo 0 < 0 by decide), L_10, c2, cI_some, l0, Option.bind_some, if_pos (show lo 0 < 0 by decide), L_11, if_pos (show ro 0 = -9 from rfl), c4, cI_some, l0, Option.bind_some, if_pos (show lo 0 < 0 by decide), if_pos rfl, if_pos rfl, nI_1, Int32.add_zero]
    rw [show cnt (inN σ) (q + 1) = cnt (inN σ) q by rw [cnt, if_neg (by simp [inN, hs]), Nat.add_zero]]
  | succ s =>
    rw [hs] at l0 c2 c4
    rw [if_neg (Nat.succ_ne_zero s), Nat.add_sub_cancel] at c4
    rw [hs] at hle
    have hsM := h.lb.row hc hs
    have ng : ¬ lo (s + 1) < 0 := by rw [lo_neg (by omega)]; omega
    rw [if_neg ng, L_10, c2, cI_some, l0, Option.bind_some, if_neg ng, Option.bind_some, L_11, if_pos (show ro (s + 1) = lo (s + 1) from rfl), c4, cI_some, l0, Option.bind_some, if_neg ng, Option.bind_some, lo_s, e6, (h.lb.t0 hsM).2, Option.bind_some, e2, h.lb.b2 hc, Option.bind_some, if_pos (show topI σ s q (nI (σ 0 2)) = nI (σ 4 s) - nI (σ 1 q) - nI (σ 0 2) from rfl), nI_1, nI_1]
    rw [show cnt (inN σ) (q + 1) = cnt (inN σ) q + 1 by rw [cnt, if_pos (by simp [inN, hs])]]
theorem t_cells (h : TI P σ A I) (a9 a10 : Int32) : ∀ m q n, q + m = σ 0 0 →
    (F_L_law fu (n + 3 * m)).2.2.2.2.2.2.2.2.2.1 0 1 36 37 (nI (σ 0 3)) 38 39 (nI (σ 0 2)) a9 a10 (nI (cnt (inN σ) q)) (nI q) (enc A I) = (F_L_law fu (n)).2.2.2.2.2.2.2.2.2.1 0 1 36 37 (nI (σ 0 3)) 38 39 (nI (σ 0 2)) a9 a10 (nI (cnt (inN σ) (σ 0 0))) (nI (σ 0 0)) (enc A I) := by
  intro m
  induction m with
  | zero => intro q n hq; rw [show q = σ 0 0 by omega]; rfl
  | succ m ih =>
    intro q n hq
    rw [show n + 3 * (m + 1) = n + 3 * m + 3 by omega, t_cell h (by omega), ih (q + 1) n (by omega)]
theorem t_end9 (hf : 1000 ≤ fu) (h : TI P σ A I) (a9 a10 : Int32) (n : Nat) :
    ∃ x, x < 3 ∧ (F_L_law fu (n + 1)).2.2.2.2.2.2.2.2.2.1 0 1 36 37 (nI (σ 0 3)) 38 39 (nI (σ 0 2)) a9 a10 (nI (cnt (inN σ) (σ 0 0))) (nI (σ 0 0)) (enc A I) = (F_L_law fu (n)).2.2.2.2.2.2.2.2.2.2.2.2.1 0 1 36 37 (nI (σ 0 3)) 38 39 (nI (σ 0 2)) a9 a10 (nI x) 0 (enc A I) := by
  have hn := h.n7
  obtain ⟨x, hx, hx2⟩ := l_some (fu := fu) (a10 >>> ((11 : Int32) &&& 31)) (show 1 ≤ 3 by omega) (by omega) (enc A I)
  have hx2 : U_L_some fu [.int (a10 >>> ((11 : Int32) &&& 31)), .int 3] (enc A I) = some (some (.int (nI x)), enc A I) := hx2
  refine ⟨x, hx, ?_⟩
  rw [L_9, h.lb.b0, Option.bind_some, if_neg (by rw [n_lt (by omega) (by omega)]; omega), k_many3 hf h.r, cI_some, if_pos rfl, k_many6 h.r, cI_some, if_pos rfl, hx2, cI_some]
/-- who comes across, as the law and as the class see it -/
theorem t_can (hf : 1000 ≤ fu) (h : TI P σ A I) {x g : Nat} (hx : x < 3) (hg : g ≤ 1) (a9 a10 : Int32) (n : Nat) :
    (F_L_law fu (n + 1)).2.2.2.2.2.2.2.2.2.2.2.2.2.1 0 1 36 37 (nI (σ 0 3)) 38 39 (nI (σ 0 2)) a9 a10 (nI x) (nI g) (nI g) (nI x) 1 (enc A I) = (F_L_law fu (n)).2.2.2.2.2.2.2.2.2.2.2.2.2.2.1 0 1 36 37 (nI (σ 0 3)) 38 39 (nI (σ 0 2)) a9 a10 (nI x) (nI g) (-9) 0 (enc A I) := by
  have hx4 : x < σ 0 4 := by rw [h.w3]; exact hx
  have hw := h.r.wal hx4
  rw [L_13, k_can hf h.r hx4 hg, cI_some, h.lb.s0 hx, Option.bind_some, pk_sub (show g ≤ σ 10 x by omega), l_can hf h.lb h.v9 (by omega), cI_some]
  by_cases z : X σ (σ 7) (σ 0 2) (σ 10 x - g)
  · rw [bI_t z, if_neg (by decide), if_pos rfl]
  · rw [bI_f z, if_pos rfl, if_pos rfl]
theorem t_high (hf : 1000 ≤ fu) (h : TI P σ A I) {x g : Nat} (hx : x < 3) (hg : g ≤ 1) (a9 a10 : Int32) : ∀ m w n, w + m = 10 →
    (F_L_law fu (n + m)).2.2.2.2.2.2.2.2.2.2.2.2.2.2.1 0 1 36 37 (nI (σ 0 3)) 38 39 (nI (σ 0 2)) a9 a10 (nI x) (nI g) (topv (fun v => decide (X σ (σ 7) v (σ 10 x - g))) w) (nI w) (enc A I) = (F_L_law fu (n)).2.2.2.2.2.2.2.2.2.2.2.2.2.2.1 0 1 36 37 (nI (σ 0 3)) 38 39 (nI (σ 0 2)) a9 a10 (nI x) (nI g) (topv (fun v => decide (X σ (σ 7) v (σ 10 x - g))) 10) (nI 10) (enc A I) := by
  have hx4 : x < σ 0 4 := by rw [h.w3]; exact hx
  have hw := h.r.wal hx4
  intro m
  induction m with
  | zero => intro w n hq; rw [show w = 10 by omega]; rfl
  | succ m ih =>
    intro w n hq
    rw [show n + (m + 1) = n + m + 1 from rfl, L_14, if_pos (by rw [show (10 : Int32) = nI 10 from rfl, n_lt (by omega) (by omega)]; omega), h.lb.s0 hx, Option.bind_some, pk_sub (show g ≤ σ 10 x by omega), l_can hf h.lb (show w ≤ 9 by omega) (by omega), cI_some, ← ih (w + 1) n (by omega), nI_1]
    by_cases z : X σ (σ 7) w (σ 10 x - g)
    · rw [bI_t z, if_neg (by decide), topv, if_pos (decide_eq_true z)]
    · rw [bI_f z, if_pos rfl, topv, if_neg (by rw [decide_eq_true_iff]; exact z)]
theorem t_pail (hf : 1000 ≤ fu) (h : TI P σ A I) {x g : Nat} (hx : x < 3) (hg : g ≤ 1) (a9 a10 : Int32) (n : Nat) :
    (F_L_law fu (n + 13)).2.2.2.2.2.2.2.2.2.2.2.2.1 0 1 36 37 (nI (σ 0 3)) 38 39 (nI (σ 0 2)) a9 a10 (nI x) (nI g) (enc A I) = (F_L_law fu (n)).2.2.2.2.2.2.2.2.2.2.2.2.1 0 1 36 37 (nI (σ 0 3)) 38 39 (nI (σ 0 2)) a9 a10 (nI x) (nI (g + 1)) (enc A I) := by
  have hx4 : x < σ 0 4 := by rw [h.w3]; exact hx
  have e1 : (F_L_law fu (n + 13)).2.2.2.2.2.2.2.2.2.2.2.2.1 0 1 36 37 (nI (σ 0 3)) 38 39 (nI (σ 0 2)) a9 a10 (nI x) (nI g) (enc A I) = (F_L_law fu (n + 12)).2.2.2.2.2.2.2.2.2.2.2.2.2.1 0 1 36 37 (nI (σ 0 3)) 38 39 (nI (σ 0 2)) a9 a10 (nI x) (nI g) (nI g) (nI x) 1 (enc A I) := by
    rw [L_12, if_pos (by rw [show (2 : Int32) = nI 2 from rfl, n_lt (by omega) (by omega)]; omega)]
    by_cases z : g = 1
    · rw [z]; rfl
    · rw [show g = 0 by omega]; rfl
  have e2 := t_high (fu := fu) hf h hx hg a9 a10 10 0 (n + 1) (by omega)
  have kh := k_highest (fu := fu) hf h.r hx4 hg
  rw [e1, t_can hf h hx hg]
  refine e2.trans ?_
  rw [L_14, if_neg (by decide)]
  by_cases z : g = 1
  · rw [z] at kh ⊢
    have kh : U_X7_highest fu [.ref 1, .int (nI x), .int 1] (enc A I) = _ := kh
    rw [if_pos (show nI 1 = (1 : Int32) from rfl), kh, cI_some, if_pos rfl]; rfl
  · have g0 : g = 0 := by omega
    rw [g0] at kh ⊢
    have kh : U_X7_highest fu [.ref 1, .int (nI x), .int 0] (enc A I) = _ := kh
    rw [if_neg (show ¬ nI 0 = (1 : Int32) by decide), kh, cI_some, if_pos rfl]; rfl
theorem t_pails (hf : 1000 ≤ fu) (h : TI P σ A I) {x : Nat} (hx : x < 3) (a9 a10 : Int32) (n : Nat) :
    (F_L_law fu (n + 27)).2.2.2.2.2.2.2.2.2.2.2.2.1 0 1 36 37 (nI (σ 0 3)) 38 39 (nI (σ 0 2)) a9 a10 (nI x) 0 (enc A I) = (F_L_law fu (n)).2.2.2.2.2.2.2.2.2.2.2.2.2.2.2.1 0 1 36 37 (nI (σ 0 3)) 38 39 (nI (σ 0 2)) a9 a10 (nI x) (nI (σ 0 0 + 1)) (-9) 9 (enc A I) := by
  have e1 := t_pail (fu := fu) hf h hx (g := 0) (by omega) a9 a10 (n + 1 + 13)
  have e2 := t_pail (fu := fu) hf h hx (g := 1) (by omega) a9 a10 (n + 1)
  rw [show nI 0 = (0 : Int32) from rfl, show (0 : Nat) + 1 = 1 from rfl] at e1
  rw [show n + 27 = n + 1 + 13 + 13 from rfl, e1, e2, L_12, if_neg (by decide), h.lb.b0, Option.bind_some, nI_1]
end TM
