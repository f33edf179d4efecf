/-! ===== a whole turn, all turns, what is refused ===== -/
section TT
variable {σ : SG} {A : Nat → List Int32} {I : Nat → Nat → Int32} {fu : Nat} {P : Prop}
theorem t_turn (hf : 1000 ≤ fu) {turn : Nat} (ht : turn < 14) (h : TI (0 < turn) σ A I) {n : Nat} (hn : 400 ≤ n) :
    ∃ j σ' B J, n ≤ j + 400 ∧ TI (0 < turn + 1) σ' B J ∧ σ' 0 3 = σ 0 3 ∧ (F_L_law fu (n)).2.2.2.1 0 1 36 37 (nI (σ 0 3)) 38 39 (nI (σ 0 2)) (nI turn) (enc A I) = (F_L_law fu (j)).2.2.2.1 0 1 36 37 (nI (σ 0 3)) 38 39 (nI (σ' 0 2)) (nI (turn + 1)) (enc B J) := by
  obtain ⟨j1, σ1, A1, I1, v, l1, h1, m1, e1⟩ := t_act (fu := fu) hf h ht (n := n) (by omega)
  have hN := h1.n7
  obtain ⟨k, hk⟩ : ∃ k, j1 = k + 27 + 1 + 3 * σ1 0 0 := ⟨j1 - (27 + 1 + 3 * σ1 0 0), by omega⟩
  have e2 := t_cells (fu := fu) h1 (nI turn) v (σ1 0 0) 0 (k + 27 + 1) (Nat.zero_add _)
  rw [show cnt (inN σ1) 0 = 0 from rfl, show nI 0 = (0 : Int32) from rfl] at e2
  obtain ⟨x, hx, e3⟩ := t_end9 (fu := fu) hf h1 (nI turn) v (k + 27)
  have e4 := t_pails (fu := fu) hf h1 hx (nI turn) v k
  obtain ⟨j2, A2, I2, l2, h2, e5⟩ := t_way (fu := fu) hf h1 hx (nI turn) v (n := k) (by omega)
  obtain ⟨i, hi⟩ : ∃ i, j2 = i + 1 + σ1 0 0 + 1 := ⟨j2 - (1 + σ1 0 0 + 1), by omega⟩
  obtain ⟨y, hy, e6⟩ := t_come (fu := fu) hf h2 hx (nI turn) v (i + 1 + σ1 0 0)
  have e7 := t_due (fu := fu) h2 (x := x) (y := y) (nI turn) v (σ1 0 0) 0 (i + 1) (Nat.zero_add _)
  rw [show bits (DD σ1 (σ1 10 x) (σ1 10 y)) 0 = 0 from rfl, show nI 0 = (0 : Int32) from rfl] at e7
  obtain ⟨A3, I3, e8, e9⟩ := t_pass (fu := fu) hf h2 hx hy ht v i
  rw [e1, ← m1, hk, e2, e3, e4, e5, hi, e6, e7]
  by_cases z : 0 < turn % 5
  · obtain ⟨h3, e8⟩ := e8 z
    rw [e8]
    exact ⟨i, σ1, A3, I3, by omega, h3.imp (fun _ => by omega), rfl, rfl⟩
  · obtain ⟨h3, d, hd, e9⟩ := e9 (by omega)
    obtain ⟨j3, A4, I4, l4, h4, e10⟩ := t_days (fu := fu) hf (turn := turn) hx hd v d 0 i (fun _ => 0) A3 I3 h3 (Nat.zero_add _) (by omega) (fun k hk => absurd hk (Nat.not_lt_zero _))
    rw [show cnt (fun k => decide (X σ1 (σ1 7) ((fun _ => 0) k) (σ1 10 x))) 0 = 0 from rfl, show nI 0 = (0 : Int32) from rfl] at e10
    rw [e9, e10]
    exact ⟨j3, σ1, A4, I4, by omega, h4.imp (fun _ => trivial), rfl, rfl⟩
theorem t_turns (hf : 1000 ≤ fu) : ∀ m turn n (σ : SG) (A : Nat → List Int32) (I : Nat → Nat → Int32), turn + m = 14 → 400 * m ≤ n → TI (0 < turn) σ A I →
    ∃ j σ' B J, n ≤ j + 400 * m ∧ TI True σ' B J ∧ σ' 0 3 = σ 0 3 ∧ (F_L_law fu (n)).2.2.2.1 0 1 36 37 (nI (σ 0 3)) 38 39 (nI (σ 0 2)) (nI turn) (enc A I) = (F_L_law fu (j)).2.2.2.1 0 1 36 37 (nI (σ 0 3)) 38 39 (nI (σ' 0 2)) (nI 14) (enc B J) := by
  intro m
  induction m with
  | zero =>
    intro turn n σ A I ht hn h
    obtain rfl : turn = 14 := by omega
    exact ⟨n, σ, A, I, by omega, h.imp (fun _ => by omega), rfl, rfl⟩
  | succ m ih =>
    intro turn n σ A I ht hn h
    obtain ⟨j, σ1, B, J, l1, h1, m1, e1⟩ := t_turn (fu := fu) hf (show turn < 14 by omega) h (n := n) (by omega)
    obtain ⟨j2, σ2, C, K, l2, h2, m2, e2⟩ := ih (turn + 1) j σ1 B J (by omega) (by omega) h1
    have l3 : n ≤ j2 + 400 * (m + 1) := by rw [Nat.mul_succ]; exact Nat.le_trans l1 (by rw [← Nat.add_assoc]; exact Nat.add_le_add_right l2 400)
    rw [e1, ← m1, e2]
    exact ⟨j2, σ2, C, K, l3, h2, m2, rfl⟩
theorem ninW {k N : Nat} {x : Int32} (h : ¬ x < nI N) : ¬ (0 ≤ x ∧ x < nI N) := fun w => h w.2
theorem t_ref (hf : 1000 ≤ fu) (h : TI True σ A I) (n : Nat) : ∃ B J, TI True σ B J ∧ (F_L_law fu (n + 1)).2.2.2.2.2.2.2.2.2.2.2.2.2.2.2.2.2.2.2.2.2.2 1 (enc A I) = some (some (.int 1), enc B J) := by
  have hw3 := h.w3
  have h03 : 0 < σ 0 4 := by omega
  have n3 : ¬ ((0 : Int32) ≤ 3 ∧ (3 : Int32) < nI (σ 0 4)) := by rw [hw3]; decide
  have nm : ¬ ((0 : Int32) ≤ -1 ∧ (-1 : Int32) < nI (σ 0 4)) := fun w => absurd w.1 (by decide)
  have c1 : U_X7_water fu [.ref 1, .int 10] (enc A I) = _ := k_waterN (by decide)
  have c2 : U_X7_walker fu [.ref 1, .int 0] (enc A I) = _ := k_walkerN (by decide)
  have c3 : U_X7_walker fu [.ref 1, .int 10] (enc A I) = _ := k_walkerN (by decide)
  have c4 := k_strideN (fu := fu) h.r n3
  have c5 := k_canN (fu := fu) h.r n3 1
  have c6 := k_wayN (fu := fu) h.r n3 0
  have c7 := k_wayM (fu := fu) h.r h03 (q := -2) (by decide)
  have c7 : U_X7_way fu [.ref 1, .int 0, .int (-2)] (enc A I) = some (some (.int (-1)), enc A I) := c7
  have c8 := k_highestN (fu := fu) h.r nm 1
  have c9 := k_passN (fu := fu) h.r h03 n3
  have c9 : U_X7_pass fu [.ref 1, .int 0, .int 3] (enc A I) = some (some (.int (-1)), enc A I) := c9
  have c10 := k_daysN (fu := fu) h.r n3 1 1 0 0
  obtain ⟨J, hJ⟩ : ∃ J, J = uI I 1 7 0 := ⟨_, rfl⟩
  have g := h.f17 0
  rw [← hJ] at c10 g
  have hJ0 : uI J 1 7 0 = J := by rw [hJ]; exact uI_uI _ _ _ _ _
  have ho := g.2.2.2.2.2.2.2 trivial
  have c11 := k_days (fu := fu) hf g.r h03 (show 1 < 4 by omega) (show 1 ≤ 2 by omega) ho (i := 0) (kk := 0) (by omega) (v := fun _ => 0) (fun k hk => absurd hk (Nat.not_lt_zero _))
  rw [hJ0] at c11
  have c11 : U_X7_days fu [.ref 1, .int 0, .int 1, .int 1, .int 0, .int 0] (enc A J) = some (some (.int 0), enc A J) := c11
  obtain ⟨c12, r12⟩ := k_put (fu := fu) g.r (show 1 < 4 by omega) ho (show 0 < 8 by omega) (nI 10)
  rw [cut_1 10 (by decide), hJ0] at c12 r12
  have c12 : U_X7_put fu [.ref 1, .int 1, .int 0, .int 10] (enc A J) = _ := c12
  obtain ⟨B, hB⟩ : ∃ B, B = uA A 14 ((A 14).set (60 * 1 + 0) (nI 10)) := ⟨_, rfl⟩
  rw [← hB] at c12 r12
  have o : ∀ k, k ≠ 14 → B k = A k := fun k hk => by rw [hB, uA_n _ _ _ hk]
  have gB : TI True σ B J := by
    obtain ⟨h1, h2, h3, h4, h5, h6, h7, h8⟩ := g
    exact ⟨h1.to (o 36 (by decide)) (o 37 (by decide)) (o 38 (by decide)) (o 39 (by decide)) (o 40 (by decide)), r12, by rw [o 0 (by decide)]; exact h3, h4, h5, h6, h7.to (o 12 (by decide)) (o 13 (by decide)), fun p => (h8 p).to (o 12 (by decide)) (o 13 (by decide))⟩
  have hoB := gB.2.2.2.2.2.2.2 trivial
  have hnB := gB.2.2.2.2.2.2.1
  have l14 : (A 14).length = 240 := h.r.len rfl
  have c13 := k_daysW (fu := fu) hf gB.r h03 (show 1 < 4 by omega) (show 1 ≤ 2 by omega) hoB (i := 0) (kk := 1) (by omega) (j := 0) (by omega) (by
    rw [hB, uA_s, rd_set _ _ (by omega), if_pos rfl]; decide)
  rw [hJ0] at c13
  have c13 : U_X7_days fu [.ref 1, .int 0, .int 1, .int 1, .int 0, .int 1] (enc B J) = some (some (.int (-2)), enc B J) := c13
  have c14 := k_daysF (fu := fu) gB.r h03 (show 1 < 4 by omega) (show 1 ≤ 2 by omega) hoB (i := 8) (n := 1) (z := 3) (by decide) (by decide) (by decide)
  have c14 : U_X7_days fu [.ref 1, .int 0, .int 1, .int 1, .int 8, .int 1] (enc B J) = some (some (.int (-10 - 3)), enc B (uI J 1 7 3)) := c14
  have g2 := gB.f17 3
  have c15 := k_daysF (fu := fu) g2.r h03 (show 1 < 4 by omega) (show 0 ≤ 2 by omega) hoB (i := 0) (n := 1) (z := 2) (by decide) (by decide) (by decide)
  have c15 : U_X7_days fu [.ref 1, .int 0, .int 1, .int 0, .int 0, .int 1] (enc B (uI J 1 7 3)) = some (some (.int (-10 - 2)), enc B (uI (uI J 1 7 3) 1 7 2)) := c15
  have g3 := g2.f17 2
  have c16 := k_daysF (fu := fu) g3.r h03 (show 1 < 4 by omega) (show 1 ≤ 2 by omega) hoB (i := 0) (n := -1) (z := 4) (by decide) (by decide) (by decide)
  have c16 : U_X7_days fu [.ref 1, .int 0, .int 1, .int 1, .int 0, .int (-1)] (enc B (uI (uI J 1 7 3) 1 7 2)) = some (some (.int (-10 - 4)), enc B (uI (uI (uI J 1 7 3) 1 7 2) 1 7 4)) := c16
  have g4 := g3.f17 4
  have c17 := k_daysF (fu := fu) g4.r h03 (show 2 < 4 by omega) (show 1 ≤ 2 by omega) hnB (i := 0) (n := 1) (z := 1) (by decide) (by decide) (by decide)
  have c17 : U_X7_days fu [.ref 1, .int 0, .int 2, .int 1, .int 0, .int 1] (enc B (uI (uI (uI J 1 7 3) 1 7 2) 1 7 4)) = some (some (.int (-10 - 1)), enc B (uI (uI (uI (uI J 1 7 3) 1 7 2) 1 7 4) 1 7 1)) := c17
  have g5 := g4.f17 1
  refine ⟨B, _, g5, ?_⟩
  rw [L_22, c1, cI_some, if_pos rfl, c2, cI_some, if_pos rfl, c3, cI_some, if_pos rfl, c4, cI_some, if_pos rfl, c5, cI_some, if_pos rfl, c6, cI_some, if_pos rfl, c7, cI_some, if_pos rfl, c8, cI_some, if_pos rfl, c9, cI_some, if_pos rfl, c10, cI_some, if_pos rfl, c11, cI_some, if_pos rfl, c12, cI_some, if_pos rfl, c13, cI_some, if_pos rfl, c14, cI_some, if_pos (by decide), c15, cI_some, if_pos (by decide), c16, cI_some, if_pos (by decide), c17, cI_some, if_pos (by decide)]
  rfl
theorem t_end (hf : 1000 ≤ fu) (h : TI True σ A I) (a8 : Int32) (n : Nat) : ∃ B J, TI True σ B J ∧ (F_L_law fu (n + 2)).2.2.2.1 0 1 36 37 (nI (σ 0 3)) 38 39 a8 (nI 14) (enc A I) = some (some (.int 1), enc B J) := by
  have hN := h.n7
  have hM := h.m6
  obtain ⟨B, J, b1, b2⟩ := t_ref (fu := fu) hf h n
  refine ⟨B, J, b1, ?_⟩
  have c1 := k_setS (fu := fu) h.r (x := nI (σ 0 3)) (fun w => by have := w.2; rw [n_lt (by omega) (by omega)] at this; omega) 0
  rw [L_3, if_neg (by decide), c1, cI_some, if_pos rfl]
  by_cases z : σ 0 3 = 0
  · rw [if_pos (by rw [z]; rfl)]; exact b2
  · have c2 := k_setC (fu := fu) h.r (s := 0) (by omega) (y := nI (σ 0 0)) (fun w => nI_pos (show σ 0 0 < 2147483648 by omega) (by rw [w]; decide)) (fun w => by have := w.2; rw [n_lt (by omega) (by omega)] at this; omega)
    have c2 : U_X7_set fu [.ref 1, .int 0, .int (nI (σ 0 0))] (enc A I) = some (some (.int (-1)), enc A I) := c2
    have c3 := k_setC (fu := fu) h.r (s := 0) (by omega) (y := -1) (by decide) (fun w => absurd w.1 (by decide))
    have c3 : U_X7_set fu [.ref 1, .int 0, .int (-1)] (enc A I) = some (some (.int (-1)), enc A I) := c3
    rw [if_neg (fun w => by rw [nI_pe0 (by omega)] at w; exact z w), h.lb.b0, Option.bind_some, c2, cI_some, if_pos rfl, c3, cI_some, if_pos rfl]
    exact b2
end TT
