/-! ===== the law's turns: who can let whom pass, days ===== -/
section TP
variable {σ : SG} {A : Nat → List Int32} {I : Nat → Nat → Int32} {fu : Nat} {P : Prop}
def PP (σ : SG) (d1 d2 i : Nat) : Bool :=
  ((cs (σ 0 0) (S0 σ) (E0 σ) d1 0 9 i && cs (σ 0 0) (S0 σ) (E0 σ) d1 (σ 0 0 + 1) 9 i) && cs (σ 0 0) (S0 σ) (E0 σ) d2 0 9 i) && cs (σ 0 0) (S0 σ) (E0 σ) d2 (σ 0 0 + 1) 9 i
theorem pp_iff (hN : σ 0 0 ≤ 7) {d1 d2 i : Nat} (hi : i < σ 0 0) : PP σ d1 d2 (i + 1) = true ↔ (X σ (σ 7) (σ 0 2) (min d1 d2) ∧ dryB σ (σ 0 2) i = true) := by
  unfold PP
  rw [Bool.and_eq_true, Bool.and_eq_true, Bool.and_eq_true, cs_9 hN (by omega) (by omega), cs_9 hN (by omega) (by omega), cs_9 hN (by omega) (by omega), cs_9 hN (by omega) (by omega), ← Sd_dry σ hi]
  constructor
  · rintro ⟨⟨⟨⟨L1, a1⟩, ⟨L2, a2⟩⟩, ⟨L3, a3⟩⟩, ⟨L4, a4⟩⟩
    refine ⟨?_, (a1.st (rw0 σ).1 (by omega)).1⟩
    have x1 := (X_rea σ (σ 7) (σ 0 2) d1).mpr (cross_of (rw0 σ) a1 a2)
    have x2 := (X_rea σ (σ 7) (σ 0 2) d2).mpr (cross_of (rw0 σ) a3 a4)
    by_cases z : d1 ≤ d2
    · rw [show min d1 d2 = d1 by omega]; exact x1
    · rw [show min d1 d2 = d2 by omega]; exact x2
  · rintro ⟨x, hS⟩
    obtain ⟨b1, b2⟩ := cross_all (rw0 σ) ((X_rea σ (σ 7) (σ 0 2) d1).mp (X_more σ (σ 7) (σ 0 2) (by omega) x)) (show i + 1 ≤ σ 0 0 + 1 by omega) hS
    obtain ⟨b3, b4⟩ := cross_all (rw0 σ) ((X_rea σ (σ 7) (σ 0 2) d2).mp (X_more σ (σ 7) (σ 0 2) (by omega) x)) (show i + 1 ≤ σ 0 0 + 1 by omega) hS
    exact ⟨⟨⟨b1, b2⟩, b3⟩, b4⟩
def DD (σ : SG) (d1 d2 i : Nat) : Bool := PP σ d1 d2 (i + 1) && decide (0 < σ 3 (σ 7 i - 1))
theorem dd_eq (hN : σ 0 0 ≤ 7) (d1 d2 : Nat) : (if X σ (σ 7) (σ 0 2) (min d1 d2) then nI (bits (dryB σ (σ 0 2)) (σ 0 0) &&& bits (kndB σ 1) (σ 0 0)) else 0) = nI (bits (DD σ d1 d2) (σ 0 0)) := by
  by_cases x : X σ (σ 7) (σ 0 2) (min d1 d2)
  · rw [if_pos x, bits_and]
    congr 1
    refine bits_congr _ fun i hi => ?_
    have h := pp_iff hN (d1 := d1) (d2 := d2) hi
    unfold DD
    by_cases y : dryB σ (σ 0 2) i = true
    · rw [h.mpr ⟨x, y⟩, y, Bool.true_and, Bool.true_and]
      have y' := y
      unfold dryB at y'
      rw [decide_eq_true_iff] at y'
      unfold kndB
      exact decide_eq_decide.mpr ⟨fun w => by omega, fun w => ⟨y'.1, by omega⟩⟩
    · have e : PP σ d1 d2 (i + 1) = false := Bool.eq_false_iff.mpr fun w => y (h.mp w).2
      rw [e, Bool.eq_false_iff.mpr y, Bool.false_and, Bool.false_and]
  · rw [if_neg x]
    rw [bits_z (p := DD σ d1 d2) _ fun i hi => ?_]
    · rfl
    · have h := pp_iff hN (d1 := d1) (d2 := d2) hi
      unfold DD
      rw [show PP σ d1 d2 (i + 1) = false from Bool.eq_false_iff.mpr fun w => x (h.mp w).1, Bool.false_and]
theorem t_come (hf : 1000 ≤ fu) (h : TI P σ A I) {x : Nat} (hx : x < 3) (a9 a10 : Int32) (n : Nat) :
    ∃ y, y < 3 ∧ (F_L_law fu (n + 1)).2.2.2.2.2.2.2.2.2.2.2.2.2.2.2.2.2.2.2.1 0 1 36 37 (nI (σ 0 3)) 38 39 (nI (σ 0 2)) a9 a10 (nI x) (nI (σ 0 0 + 1)) (enc A I) = (F_L_law fu (n)).2.2.2.2.2.2.2.2.2.2.2.2.2.2.2.2.2.2.2.2.1 0 1 36 37 (nI (σ 0 3)) 38 39 (nI (σ 0 2)) a9 a10 (nI x) (nI y) (nI (bits (PP σ (σ 10 x) (σ 10 y)) (σ 0 0 + 2))) 0 0 (enc A I) := by
  obtain ⟨y, hy, hy2⟩ := l_some (fu := fu) (a10 >>> ((13 : Int32) &&& 31)) (show 1 ≤ 3 by omega) (by omega) (enc A I)
  have hy2 : U_L_some fu [.int (a10 >>> ((13 : Int32) &&& 31)), .int 3] (enc A I) = some (some (.int (nI y)), enc A I) := hy2
  have hwx := h.r.wal (show x < σ 0 4 by rw [h.w3]; exact hx)
  have hwy := h.r.wal (show y < σ 0 4 by rw [h.w3]; exact hy)
  have c0 : ∀ d, d ≤ 9 → U_L_come fu [.ref 36, .ref 37, .ref 39, .int (nI (σ 0 2)), .int (nI d), .int 0, .int 9] (enc A I) = some (some (.int (nI (bits (cs (σ 0 0) (S0 σ) (E0 σ) d 0 9) (σ 0 0 + 2)))), enc A I) := fun d hd =>
    l_come (fu := fu) (I := I) hf h.lb (v := σ 0 2) (d := d) (a := 0) (n := 9) h.v9 hd (Nat.zero_le _) (by omega)
  have c1 : ∀ d, d ≤ 9 → U_L_come fu [.ref 36, .ref 37, .ref 39, .int (nI (σ 0 2)), .int (nI d), .int (nI (σ 0 0 + 1)), .int 9] (enc A I) = some (some (.int (nI (bits (cs (σ 0 0) (S0 σ) (E0 σ) d (σ 0 0 + 1) 9) (σ 0 0 + 2)))), enc A I) := fun d hd =>
    l_come (fu := fu) (I := I) hf h.lb (v := σ 0 2) (d := d) (a := σ 0 0 + 1) (n := 9) h.v9 hd (Nat.le_refl _) (by omega)
  refine ⟨y, hy, ?_⟩
  rw [L_19, hy2, cI_some, h.lb.s0 hx, Option.bind_some, c0 _ hwx.2, cI_some, h.lb.s0 hx, Option.bind_some, c1 _ hwx.2, cI_some, h.lb.s0 hy, Option.bind_some, c0 _ hwy.2, cI_some, h.lb.s0 hy, Option.bind_some, c1 _ hwy.2, cI_some, n_and, n_and, n_and, bits_and, bits_and, bits_and]
  rfl
theorem t_due (h : TI P σ A I) {x y : Nat} (a9 a10 : Int32) : ∀ m q n, q + m = σ 0 0 →
    (F_L_law fu (n + m)).2.2.2.2.2.2.2.2.2.2.2.2.2.2.2.2.2.2.2.2.1 0 1 36 37 (nI (σ 0 3)) 38 39 (nI (σ 0 2)) a9 a10 (nI x) (nI y) (nI (bits (PP σ (σ 10 x) (σ 10 y)) (σ 0 0 + 2))) (nI (bits (DD σ (σ 10 x) (σ 10 y)) q)) (nI q) (enc A I) =
    (F_L_law fu (n)).2.2.2.2.2.2.2.2.2.2.2.2.2.2.2.2.2.2.2.2.1 0 1 36 37 (nI (σ 0 3)) 38 39 (nI (σ 0 2)) a9 a10 (nI x) (nI y) (nI (bits (PP σ (σ 10 x) (σ 10 y)) (σ 0 0 + 2))) (nI (bits (DD σ (σ 10 x) (σ 10 y)) (σ 0 0))) (nI (σ 0 0)) (enc A I) := by
  have hN := h.n7
  intro m
  induction m with
  | zero => intro q n hq; rw [show q = σ 0 0 by omega]; rfl
  | succ m ih =>
    intro q n hq
    have hc : q < σ 0 0 := by omega
    rw [show n + (m + 1) = n + m + 1 from rfl, L_20, h.lb.b0, Option.bind_some, if_pos (by rw [n_lt (by omega) (by omega)]; exact hc), ← ih (q + 1) n (by omega), ← bits_step (DD σ (σ 10 x) (σ 10 y)) (show q < 31 by omega), nI_1]
    simp only [bits_has (show σ 0 0 + 2 ≤ 30 by omega) (show q + 1 < σ 0 0 + 2 by omega)]
    by_cases z : PP σ (σ 10 x) (σ 10 y) (q + 1) = true
    · have hd := ((pp_iff hN hc).mp z).2
      unfold dryB at hd
      rw [decide_eq_true_iff] at hd
      obtain ⟨s, hs⟩ : ∃ s, σ 7 q = s + 1 := ⟨σ 7 q - 1, by omega⟩
      have hsM := h.lb.row hc hs
      have hst := h.r.sto hsM
      have ed : (DD σ (σ 10 x) (σ 10 y) q = true) = (0 < σ 3 s) := by
        unfold DD
        rw [z, Bool.true_and, hs, Nat.add_sub_cancel, decide_eq_true_iff]
      rw [if_pos z, h.lb.l0 hc, Option.bind_some, hs, lo_s, (h.lb.t0 hsM).1, Option.bind_some]
      simp only [ed, nI_0lt (show σ 3 s < 2147483648 by omega)]
      by_cases w : 0 < σ 3 s
      · rw [if_pos w, if_pos w]
      · rw [if_neg w, if_neg w]
    · rw [if_neg z, if_neg (show ¬ DD σ (σ 10 x) (σ 10 y) q = true by unfold DD; rw [Bool.eq_false_iff.mpr z, Bool.false_and]; decide)]
theorem TI.imp {Q : Prop} (h : TI P σ A I) (g : Q → P) : TI Q σ A I := ⟨h.1, h.2.1, h.2.2.1, h.2.2.2.1, h.2.2.2.2.1, h.2.2.2.2.2.1, h.2.2.2.2.2.2.1, fun q => h.2.2.2.2.2.2.2 (g q)⟩
theorem t_pass (hf : 1000 ≤ fu) (h : TI P σ A I) {x y turn : Nat} (hx : x < 3) (hy : y < 3) (ht : turn < 14) (a10 : Int32) (n : Nat) :
    ∃ B J, (0 < turn % 5 → TI P σ B J ∧ (F_L_law fu (n + 1)).2.2.2.2.2.2.2.2.2.2.2.2.2.2.2.2.2.2.2.2.1 0 1 36 37 (nI (σ 0 3)) 38 39 (nI (σ 0 2)) (nI turn) a10 (nI x) (nI y) (nI (bits (PP σ (σ 10 x) (σ 10 y)) (σ 0 0 + 2))) (nI (bits (DD σ (σ 10 x) (σ 10 y)) (σ 0 0))) (nI (σ 0 0)) (enc A I) = (F_L_law fu (n)).2.2.2.1 0 1 36 37 (nI (σ 0 3)) 38 39 (nI (σ 0 2)) (nI (turn + 1)) (enc B J)) ∧
      (turn % 5 = 0 → TI True σ B J ∧ ∃ days, days < 7 ∧ (F_L_law fu (n + 1)).2.2.2.2.2.2.2.2.2.2.2.2.2.2.2.2.2.2.2.2.1 0 1 36 37 (nI (σ 0 3)) 38 39 (nI (σ 0 2)) (nI turn) a10 (nI x) (nI y) (nI (bits (PP σ (σ 10 x) (σ 10 y)) (σ 0 0 + 2))) (nI (bits (DD σ (σ 10 x) (σ 10 y)) (σ 0 0))) (nI (σ 0 0)) (enc A I) = (F_L_law fu (n)).2.2.2.2.2.2.2.2.2.2.2.2.2.2.2.2.2.2.2.2.2.1 0 1 36 37 (nI (σ 0 3)) 38 39 (nI (σ 0 2)) (nI turn) a10 (nI x) (nI days) 0 0 (enc B J)) := by
  have hN := h.n7
  have hx4 : x < σ 0 4 := by rw [h.w3]; exact hx
  have hy4 : y < σ 0 4 := by rw [h.w3]; exact hy
  have p1 := k_pass (fu := fu) hf h.r hx4 hy4
  have p2 := k_pass (fu := fu) hf h.r hy4 hx4
  rw [Nat.min_comm (σ 10 y) (σ 10 x)] at p2
  rw [dd_eq hN] at p1 p2
  have n5 : ¬ (5 : Int32) = 0 := by decide
  have em : nI turn - nI turn / 5 * 5 = nI (turn % 5) := n_mod (a := turn) (b := 5) (by omega) (by omega)
  have base : (F_L_law fu (n + 1)).2.2.2.2.2.2.2.2.2.2.2.2.2.2.2.2.2.2.2.2.1 0 1 36 37 (nI (σ 0 3)) 38 39 (nI (σ 0 2)) (nI turn) a10 (nI x) (nI y) (nI (bits (PP σ (σ 10 x) (σ 10 y)) (σ 0 0 + 2))) (nI (bits (DD σ (σ 10 x) (σ 10 y)) (σ 0 0))) (nI (σ 0 0)) (enc A I) = (if 0 < nI (turn % 5) then
            (F_L_law fu (n)).2.2.2.1 0 1 36 37 (nI (σ 0 3)) 38 39 (nI (σ 0 2)) (nI (turn + 1)) (enc A I)
          else
            cI (U_L_some fu [.int (a10 >>> ((15 : Int32) &&& 31)), .int (7 : Int32)] (enc A I)) fun x121 w120 =>
            cI (U_X7_sheet fu [.ref 1, .int (1 : Int32), .int (1 : Int32), .int (8 : Int32)] w120) fun x123 w122 =>
            (if x123 = (1 : Int32) then
              (F_L_law fu (n)).2.2.2.2.2.2.2.2.2.2.2.2.2.2.2.2.2.2.2.2.2.1 0 1 36 37 (nI (σ 0 3)) 38 39 (nI (σ 0 2)) (nI turn) a10 (nI x) x121 (0 : Int32) (0 : Int32) w122
            else
              retZ (0 : Int32) w122)) := by
    rw [L_20, h.lb.b0, Option.bind_some, if_neg (by rw [n_lt (by omega) (by omega)]; omega), p1, cI_some, if_pos rfl, p2, cI_some, if_pos rfl, if_neg n5, em, nI_1]
  by_cases z : 0 < turn % 5
  · refine ⟨A, I, fun _ => ⟨h, ?_⟩, fun w => by omega⟩
    rw [base, if_pos (by rw [nI_0lt (by omega)]; exact z)]
  · obtain ⟨d, hd, hd2⟩ := l_some (fu := fu) (a10 >>> ((15 : Int32) &&& 31)) (show 1 ≤ 7 by omega) (by omega) (enc A I)
    have hd2 : U_L_some fu [.int (a10 >>> ((15 : Int32) &&& 31)), .int 7] (enc A I) = some (some (.int (nI d)), enc A I) := hd2
    obtain ⟨A1, e1, r1, c12, c13, oo, c14⟩ := k_sheet (fu := fu) hf h.r (q := 1) (t := 1) (n := 8) (by omega) (by omega) (by omega)
    have e1 : U_X7_sheet fu [.ref 1, .int 1, .int 1, .int 8] (enc A I) = some (some (.int 1), enc A1 (uI I 1 7 0)) := e1
    refine ⟨A1, uI I 1 7 0, fun w => absurd w z, fun _ => ⟨?_, d, hd, ?_⟩⟩
    · obtain ⟨h1, h2, h3, h4, h5, h6, h7, h8⟩ := h
      have o : ∀ k, 15 ≤ k → A1 k = A k := fun k hk => oo k (by omega) (by omega) (by omega)
      have l13 : (A 13).length = 4 := h2.len rfl
      have l12 : (A 12).length = 4 := h2.len rfl
      refine ⟨h1.to (o 36 (by decide)) (o 37 (by decide)) (o 38 (by decide)) (o 39 (by decide)) (o 40 (by decide)), r1, by rw [oo 0 (by decide) (by decide) (by decide)]; exact h3, h4, h5, h6, ?_, fun _ => ⟨by omega, by omega, ?_, ?_⟩⟩
      · show rd (A1 13) 2 = -1
        rw [c13, rd_set _ _ (by omega), if_neg (by decide)]; exact h7
      · rw [c13, rd_set _ _ (by omega), if_pos rfl]
      · rw [c12, rd_set _ _ (by omega), if_pos rfl]
    · rw [base, if_neg (by rw [nI_0lt (by omega)]; exact z), hd2, cI_some, e1, cI_some, if_pos rfl]
theorem t_days (hf : 1000 ≤ fu) {x turn days : Nat} (hx : x < 3) (hd : days < 7) (a10 : Int32) : ∀ m q n (v : Nat → Nat) (A : Nat → List Int32) (I : Nat → Nat → Int32), TI True σ A I → q + m = days → m + 1 ≤ n → (∀ k, k < q → rd (A 14) (60 * 1 + 1 + k) = nI (v k) ∧ v k ≤ 9) →
    ∃ j B J, n ≤ j + m + 1 ∧ TI True σ B J ∧ (F_L_law fu (n)).2.2.2.2.2.2.2.2.2.2.2.2.2.2.2.2.2.2.2.2.2.1 0 1 36 37 (nI (σ 0 3)) 38 39 (nI (σ 0 2)) (nI turn) a10 (nI x) (nI days) (nI (cnt (fun k => decide (X σ (σ 7) (v k) (σ 10 x))) q)) (nI q) (enc A I) = (F_L_law fu (j)).2.2.2.1 0 1 36 37 (nI (σ 0 3)) 38 39 (nI (σ 0 2)) (nI (turn + 1)) (enc B J) := by
  intro m
  induction m with
  | zero =>
    intro q n v A I h hq hn hv
    obtain ⟨n, rfl⟩ : ∃ k, n = k + 1 := ⟨n - 1, by omega⟩
    have hx4 : x < σ 0 4 := by rw [h.w3]; exact hx
    have ho := h.2.2.2.2.2.2.2 trivial
    have e := k_days (fu := fu) hf h.r hx4 (show 1 < 4 by omega) (show 1 ≤ 2 by omega) ho (i := 1) (kk := q) (by omega) hv
    have e : U_X7_days fu [.ref 1, .int (nI x), .int 1, .int 1, .int 1, .int (nI q)] (enc A I) = _ := e
    have g := h.f17 0
    refine ⟨n, A, uI I 1 7 0, by omega, g, ?_⟩
    rw [L_21, show q = days by omega, if_neg (by rw [n_lt (by omega) (by omega)]; omega), show days = q by omega, e, cI_some, if_pos rfl, k_many6 g.r, cI_some, if_pos rfl, nI_1]
  | succ m ih =>
    intro q n v A I h hq hn hv
    obtain ⟨n, rfl⟩ : ∃ k, n = k + 1 := ⟨n - 1, by omega⟩
    have hx4 : x < σ 0 4 := by rw [h.w3]; exact hx
    have hwx := h.r.wal hx4
    have ho := h.2.2.2.2.2.2.2 trivial
    obtain ⟨w, hw, hw2⟩ := l_some (fu := fu) (a10 >>> (((9 : Int32) + nI q) &&& 31)) (show 1 ≤ 10 by omega) (by omega) (enc A I)
    have hw2 : U_L_some fu [.int (a10 >>> (((9 : Int32) + nI q) &&& 31)), .int 10] (enc A I) = some (some (.int (nI w)), enc A I) := hw2
    obtain ⟨e1, r1⟩ := k_put (fu := fu) h.r (show 1 < 4 by omega) ho (show 1 + q < 8 by omega) (nI w)
    have e1 : U_X7_put fu [.ref 1, .int 1, .int (nI (1 + q)), .int (nI w)] (enc A I) = _ := e1
    rw [cut_1 w (by omega)] at e1 r1
    have eq1 : (1 : Int32) + nI q = nI (1 + q) := by rw [show (1 : Int32) = nI 1 from rfl, nI_add]
    obtain ⟨B, hB⟩ : ∃ B, B = uA A 14 ((A 14).set (60 * 1 + (1 + q)) (nI w)) := ⟨_, rfl⟩
    rw [← hB] at e1 r1
    have o : ∀ k, k ≠ 14 → B k = A k := fun k hk => by rw [hB, uA_n _ _ _ hk]
    have g : TI True σ B (uI I 1 7 0) := by
      obtain ⟨h1, h2, h3, h4, h5, h6, h7, h8⟩ := h
      exact ⟨h1.to (o 36 (by decide)) (o 37 (by decide)) (o 38 (by decide)) (o 39 (by decide)) (o 40 (by decide)), r1, by rw [o 0 (by decide)]; exact h3, h4, h5, h6, h7.to (o 12 (by decide)) (o 13 (by decide)), fun p => (h8 p).to (o 12 (by decide)) (o 13 (by decide))⟩
    have l14 : (A 14).length = 240 := h.r.len rfl
    obtain ⟨j, C, J, j1, j2, j3⟩ := ih (q + 1) n (fun k => if k = q then w else v k) B (uI I 1 7 0) g (by omega) (by omega) (fun k hk => by
      rw [hB, uA_s, rd_set _ _ (by omega)]
      by_cases z : k = q
      · rw [if_pos (by omega), if_pos z]; exact ⟨rfl, by omega⟩
      · rw [if_neg (by omega), if_neg z]; exact hv k (by omega))
    have ec : cnt (fun k => decide (X σ (σ 7) ((fun k => if k = q then w else v k) k) (σ 10 x))) (q + 1) = cnt (fun k => decide (X σ (σ 7) (v k) (σ 10 x))) q + (if X σ (σ 7) w (σ 10 x) then 1 else 0) := by
      rw [cnt, cnt_congr (q := fun k => decide (X σ (σ 7) (v k) (σ 10 x))) q fun k hk => by
        show decide (X σ (σ 7) (if k = q then w else v k) (σ 10 x)) = _
        rw [if_neg (by omega)]]
      congr 1
      show (if decide (X σ (σ 7) (if q = q then w else v q) (σ 10 x)) = true then 1 else 0) = _
      rw [if_pos rfl]
      by_cases z : X σ (σ 7) w (σ 10 x)
      · rw [if_pos z, if_pos (decide_eq_true z)]
      · rw [if_neg z, if_neg (by rw [decide_eq_true_iff]; exact z)]
    rw [ec] at j3
    refine ⟨j, C, J, by omega, j2, ?_⟩
    rw [L_21, if_pos (by rw [n_lt (by omega) (by omega)]; omega), hw2, cI_some, eq1, e1, cI_some, if_pos rfl, g.lb.s0 hx, Option.bind_some, l_can hf g.lb (show w ≤ 9 by omega) hwx.2, cI_some, ← j3, nI_1]
    by_cases z : X σ (σ 7) w (σ 10 x)
    · rw [bI_t z, if_neg (by decide), if_pos z, nI_1]
    · rw [bI_f z, if_pos rfl, if_neg z, Int32.add_zero, Nat.add_zero (cnt (fun k => decide (X σ (σ 7) (v k) (σ 10 x))) q)]
end TP
