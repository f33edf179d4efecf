/-! ===== the law's brook: its text, and what b holds ===== -/
theorem cut_0 : ∀ n, n < 128 → cutI 0 (nI n) = nI n := by decide +kernel
theorem cut_1 : ∀ n, n < 128 → cutI 1 (nI n) = nI n := by decide +kernel
section PU
variable {σ : SG} {A : Nat → List Int32} {J : Nat → Nat → Int32} {fu : Nat}
/-- while the text is being written -/
def PF (σ : SG) (A : Nat → List Int32) (J : Nat → Nat → Int32) : Prop := RR σ A J ∧ SHo A 0 (some (30, 0)) ∧ A 40 = [0] ∧ (A 36).length = 16 ∧ uI J 1 7 0 = J ∧ (A 0).length < 2147483648
def FP (A B : Nat → List Int32) : Prop := ∀ k, k ≠ 14 → k ≠ 36 → B k = A k
theorem FP.rf (A : Nat → List Int32) : FP A A := fun _ _ _ => rfl
theorem FP.tr {A B C : Nat → List Int32} (h : FP A B) (g : FP B C) : FP A C := fun k a b => (g k a b).trans (h k a b)
theorem PF.fp {B : Nat → List Int32} (h : PF σ A J) (g : FP A B) (r : RR σ B J) (l : (B 36).length = 16) : PF σ B J := by
  obtain ⟨h1, h2, h3, h4, h5, h6⟩ := h
  refine ⟨r, ?_, (g 40 (by decide) (by decide)).trans h3, l, h5, by rw [g 0 (by decide) (by decide)]; exact h6⟩
  obtain ⟨a, b, c, d⟩ := h2
  exact ⟨a, b, by rw [g 13 (by decide) (by decide)]; exact c, by rw [g 12 (by decide) (by decide)]; exact d⟩
theorem PF.put (h : PF σ A J) {j : Nat} (hj : j < 30) {z : Nat} (hz : z < 128) :
    U_X7_put fu [.ref 1, .int 0, .int (nI j), .int (nI z)] (enc A J) = some (some (.int 1), enc (uA A 14 ((A 14).set j (nI z))) J) ∧ PF σ (uA A 14 ((A 14).set j (nI z))) J := by
  obtain ⟨h1, h2, h3, h4, h5, h6⟩ := h
  obtain ⟨e, r⟩ := k_put (fu := fu) h1 (show 0 < 4 by decide) h2 hj (nI z)
  rw [cut_0 z hz, show 60 * 0 + j = j by omega, h5] at e r
  refine ⟨e, PF.fp ⟨h1, h2, h3, h4, h5, h6⟩ (fun k a b => uA_n _ _ _ a) r ?_⟩
  rw [uA_n _ _ _ (by decide)]; exact h4
theorem PF.s36 (h : PF σ A J) {j : Nat} (hj : j < 16) (x : Int32) :
    sI (enc A J) 36 (nI j) x = some (enc (uA A 36 ((A 36).set j x)) J) ∧ PF σ (uA A 36 ((A 36).set j x)) J := by
  have g := h
  obtain ⟨h1, h2, h3, h4, h5, h6⟩ := h
  refine ⟨si_36 (by rw [h3]; decide) x (by rw [h4]; exact hj) (by omega), g.fp (fun k _ b => uA_n _ _ _ b) (h1.tl fun k hk => uA_n _ _ _ (by omega)) ?_⟩
  rw [uA_s, List.length_set]; exact h4
theorem PF.r36 (h : PF σ A J) {j : Nat} (hj : j < 16) : aI (enc A J) 36 (nI j) = some (rd (A 36) j) := ai_36 (by rw [h.2.2.1]; decide) (by rw [h.2.2.2.1]; exact hj) (by omega)
theorem PF.l14 (h : PF σ A J) : (A 14).length = 240 := h.1.len rfl
theorem PF.l36 (h : PF σ A J) : (A 36).length = 16 := h.2.2.2.1
/-- how far the depths are written -/
def TD (m : Nat) (A : Nat → List Int32) (c : Nat) : Prop :=
  rd (A 36) 0 = nI m ∧ (∃ e, e ≤ 9 ∧ rd (A 36) 1 = nI e) ∧ rd (A 14) 0 = nI 100 ∧ ∀ i, i < c → ∃ e, e ≤ 9 ∧ rd (A 14) (1 + i) = nI (48 + e) ∧ rd (A 36) (2 + i) = nI e
def TB (m : Nat) (A : Nat → List Int32) (c : Nat) : Prop :=
  TD m A m ∧ rd (A 14) (m + 1) = nI 59 ∧ rd (A 14) (m + 2) = nI 98 ∧ ∀ i, i < c → ∃ e, e ≤ 9 ∧ rd (A 14) (m + 3 + i) = nI (48 + e)
/-- a number of digits more -/
theorem PF.two (h : PF σ A J) {j q z : Nat} (hj : j < 30) (hq : q < 16) (hz : z ≤ 9) (n : Nat) (K : Int32 → XW → Option XO) :
    ∃ B, PF σ B J ∧ FP A B ∧ B 14 = (A 14).set j (nI (48 + z)) ∧ B 36 = (A 36).set q (nI z) ∧
    ((sI (enc A J) 36 (nI q) (nI z)).bind fun w19 => (aI w19 36 (nI q)).bind fun x20 => cI (U_X7_put fu [.ref 1, .int 0, .int (nI j), .int ((48 : Int32) + x20)] w19) K) = K 1 (enc B J) := by
  obtain ⟨s1, s2⟩ := h.s36 hq (nI z)
  have v : rd ((uA A 36 ((A 36).set q (nI z))) 36) q = nI z := by rw [uA_s, rd_set _ _ (by rw [h.l36]; exact hq), if_pos rfl]
  obtain ⟨p1, p2⟩ := s2.put (fu := fu) hj (show 48 + z < 128 by omega)
  refine ⟨_, p2, fun k a b => by rw [uA_n _ _ _ a, uA_n _ _ _ b], by rw [uA_s, uA_n _ _ _ (by decide)], by rw [uA_n _ _ _ (by decide), uA_s], ?_⟩
  rw [s1, Option.bind_some, s2.r36 hq, Option.bind_some, v, show (48 : Int32) + nI z = nI (48 + z) by rw [show (48 : Int32) = nI 48 from rfl, nI_add], p1, cI_some]
theorem put_d2 (h : PF σ A J) {m c b : Nat} (hm : m ≤ 7) (hc : c < m) (hb1 : 1 ≤ b) (hb : b ≤ 10) (t : TD m A c) (a5 s1 : Int32) (n : Nat) :
    ∃ B, PF σ B J ∧ FP A B ∧ TD m B (c + 1) ∧ (F_L_put fu (n + 1)).2.2.1 1 0 0 36 a5 (nI (1 + c)) (nI c) (nI b) s1 (nI (2 + c)) 36 (enc A J) = (F_L_put fu n).2.1 1 0 0 36 a5 (nI (1 + (c + 1))) (nI (c + 1)) (enc B J) := by
  obtain ⟨e, e1, e2⟩ := l_some (fu := fu) s1 hb1 (show b < 2147483648 by omega) (enc A J)
  obtain ⟨B, b1, b2, b3, b4, b5⟩ := h.two (fu := fu) (show 1 + c < 30 by omega) (show 2 + c < 16 by omega) (show e ≤ 9 by omega) n (fun x22 w21 => if x22 = (1 : Int32) then (F_L_put fu n).2.1 1 0 0 36 a5 (nI (1 + c) + 1) (nI c + 1) w21 else some (some (.int (-99 : Int32)), w21))
  refine ⟨B, b1, b2, ?_, ?_⟩
  · obtain ⟨t1, t2, t3, t4⟩ := t
    have r36 : ∀ i, i ≠ 2 + c → rd (B 36) i = rd (A 36) i := fun i hi => by rw [b4, rd_set _ _ (by rw [h.l36]; omega), if_neg hi]
    have r14 : ∀ i, i ≠ 1 + c → rd (B 14) i = rd (A 14) i := fun i hi => by rw [b3, rd_set _ _ (by rw [h.l14]; omega), if_neg hi]
    refine ⟨by rw [r36 0 (by omega)]; exact t1, by rw [r36 1 (by omega)]; exact t2, by rw [r14 0 (by omega)]; exact t3, fun i hi => ?_⟩
    by_cases z : i = c
    · refine ⟨e, by omega, ?_, ?_⟩
      · rw [z, b3, rd_set _ _ (by rw [h.l14]; omega), if_pos rfl]
      · rw [z, b4, rd_set _ _ (by rw [h.l36]; omega), if_pos rfl]
    · rw [r14 (1 + i) (by omega), r36 (2 + i) (by omega)]
      exact t4 i (by omega)
  · rw [F_L_put]
    dsimp only
    rw [e2, cI_some, show (2 : Int32) + nI c = nI (2 + c) by rw [show (2 : Int32) = nI 2 from rfl, nI_add]]
    refine b5.trans ?_
    rw [if_pos rfl, nI_1, nI_1]
    rfl
theorem put_d (hf : 1000 ≤ fu) {m : Nat} (hm3 : 3 ≤ m) (hm : m ≤ 7) (a5 : Int32) : ∀ k c n (A : Nat → List Int32), PF σ A J → TD m A c → c + k = m → 2 * k < n →
    ∃ B j, n ≤ j + (2 * k + 1) ∧ PF σ B J ∧ FP A B ∧ TB m B 0 ∧ (F_L_put fu n).2.1 1 0 0 36 a5 (nI (1 + c)) (nI c) (enc A J) = (F_L_put fu j).2.2.2.1 1 0 0 36 a5 (nI (m + 3)) 0 (enc B J) := by
  intro k
  induction k with
  | zero =>
    intro c n A h t hc hn
    obtain ⟨n, rfl⟩ : ∃ j, n = j + 1 := ⟨n - 1, by omega⟩
    obtain rfl : c = m := by omega
    obtain ⟨p1, p2⟩ := h.put (fu := fu) (show 1 + c < 30 by omega) (show 59 < 128 by omega)
    obtain ⟨q1, q2⟩ := p2.put (fu := fu) (show 1 + c + 1 < 30 by omega) (show 98 < 128 by omega)
    have r14 : ∀ i, rd ((uA (uA A 14 ((A 14).set (1 + c) (nI 59))) 14 ((uA A 14 ((A 14).set (1 + c) (nI 59)) 14).set (1 + c + 1) (nI 98))) 14) i = if i = 1 + c + 1 then nI 98 else if i = 1 + c then nI 59 else rd (A 14) i := fun i => by
      rw [uA_s, uA_s, rd_set _ _ (by rw [List.length_set, h.l14]; omega), rd_set _ _ (by rw [h.l14]; omega)]
    refine ⟨_, n, by omega, q2, fun k a b => by rw [uA_n _ _ _ a, uA_n _ _ _ a], ⟨⟨?_, ?_, ?_, ?_⟩, ?_, ?_, fun i hi => absurd hi (Nat.not_lt_zero _)⟩, ?_⟩
    · rw [uA_n _ _ _ (by decide), uA_n _ _ _ (by decide)]; exact t.1
    · rw [uA_n _ _ _ (by decide), uA_n _ _ _ (by decide)]; exact t.2.1
    · rw [r14, if_neg (by omega), if_neg (by omega)]; exact t.2.2.1
    · intro i hi
      rw [r14, if_neg (by omega), if_neg (by omega), uA_n _ _ _ (by decide), uA_n _ _ _ (by decide)]
      exact t.2.2.2 i hi
    · rw [r14, if_neg (by omega), if_pos (by omega)]
    · rw [r14, if_pos (by omega)]
    · rw [F_L_put]
      dsimp only
      have r0 := h.r36 (j := 0) (by omega)
      rw [t.1, show nI 0 = (0 : Int32) from rfl] at r0
      rw [r0, Option.bind_some, if_neg (by rw [n_lt (by omega) (by omega)]; omega)]
      have p1 : U_X7_put fu [.ref 1, .int 0, .int (nI (1 + c)), .int 59] (enc A J) = _ := p1
      have q1 : U_X7_put fu [.ref 1, .int 0, .int (nI (1 + c + 1)), .int 98] _ = _ := q1
      rw [p1, cI_some, if_pos rfl, nI_1, q1, cI_some, if_pos rfl, nI_1, show 1 + c + 1 + 1 = c + 3 by omega]
  | succ k ih =>
    intro c n A h t hc hn
    obtain ⟨n, rfl⟩ : ∃ j, n = j + 2 := ⟨n - 2, by omega⟩
    obtain ⟨x, hx⟩ := l_cell (fu := fu) (A := A) (I := J) h.2.2.2.2.2 (k := 1) (by omega)
    obtain ⟨y, hy, hy2⟩ := l_some (fu := fu) (a5 >>> ((9 : Int32) &&& 31)) (show 1 ≤ 2 by omega) (by omega) (enc A J)
    have key : ∀ b, 1 ≤ b → b ≤ 10 → ∀ s1, ∃ B j, n + 2 ≤ j + (2 * (k + 1) + 1) ∧ PF σ B J ∧ FP A B ∧ TB m B 0 ∧ (F_L_put fu (n + 1)).2.2.1 1 0 0 36 a5 (nI (1 + c)) (nI c) (nI b) s1 (nI (2 + c)) 36 (enc A J) = (F_L_put fu j).2.2.2.1 1 0 0 36 a5 (nI (m + 3)) 0 (enc B J) := fun b hb1 hb s1 => by
      obtain ⟨B, b1, b2, b3, b4⟩ := put_d2 (fu := fu) h hm (show c < m by omega) hb1 hb t a5 s1 n
      obtain ⟨C, j, c1, c2, c3, c4, c5⟩ := ih (c + 1) n B b1 b3 (by omega) (by omega)
      exact ⟨C, j, by omega, c2, b2.tr c3, c4, b4.trans c5⟩
    rw [F_L_put]
    dsimp only
    have r0 := h.r36 (j := 0) (by omega)
    rw [t.1, show nI 0 = (0 : Int32) from rfl] at r0
    have hx : U_L_cell fu [.ref 0, .int ((0 : Int32) + 1)] (enc A J) = some (some (.int x), enc A J) := hx
    have hy2 : U_L_some fu [.int (a5 >>> ((9 : Int32) &&& 31)), .int 2] (enc A J) = some (some (.int (nI y)), enc A J) := hy2
    have e2 : (2 : Int32) + nI c = nI (2 + c) := by rw [show (2 : Int32) = nI 2 from rfl, nI_add]
    rw [r0, Option.bind_some, if_pos (by rw [n_lt (by omega) (by omega)]; omega), hx, cI_some, hy2, cI_some, e2]
    by_cases z : nI y = 0
    · rw [if_pos z]; exact key 10 (by omega) (by omega) _
    · rw [if_neg z]; exact key 4 (by omega) (by omega) _
theorem put_b2 (h : PF σ A J) {m c b : Nat} (hm3 : 3 ≤ m) (hm : m ≤ 7) (hc : c < m) (hb1 : 1 ≤ b) (hb : b ≤ 10) (t : TB m A c) (a5 s1 : Int32) (n : Nat) :
    ∃ B, PF σ B J ∧ FP A B ∧ TB m B (c + 1) ∧ (F_L_put fu (n + 1)).2.2.2.2 1 0 0 36 a5 (nI (m + 3 + c)) (nI c) (nI b) s1 (nI (9 + c)) 36 (enc A J) = (F_L_put fu n).2.2.2.1 1 0 0 36 a5 (nI (m + 3 + (c + 1))) (nI (c + 1)) (enc B J) := by
  obtain ⟨e, e1, e2⟩ := l_some (fu := fu) s1 hb1 (show b < 2147483648 by omega) (enc A J)
  obtain ⟨B, b1, b2, b3, b4, b5⟩ := h.two (fu := fu) (show m + 3 + c < 30 by omega) (show 9 + c < 16 by omega) (show e ≤ 9 by omega) n (fun x22 w21 => if x22 = (1 : Int32) then (F_L_put fu n).2.2.2.1 1 0 0 36 a5 (nI (m + 3 + c) + 1) (nI c + 1) w21 else some (some (.int (-99 : Int32)), w21))
  refine ⟨B, b1, b2, ?_, ?_⟩
  · obtain ⟨⟨t1, t2, t3, t4⟩, t5, t6, t7⟩ := t
    have r36 : ∀ i, i ≠ 9 + c → rd (B 36) i = rd (A 36) i := fun i hi => by rw [b4, rd_set _ _ (by rw [h.l36]; omega), if_neg hi]
    have r14 : ∀ i, i ≠ m + 3 + c → rd (B 14) i = rd (A 14) i := fun i hi => by rw [b3, rd_set _ _ (by rw [h.l14]; omega), if_neg hi]
    refine ⟨⟨by rw [r36 0 (by omega)]; exact t1, by rw [r36 1 (by omega)]; exact t2, by rw [r14 0 (by omega)]; exact t3, fun i hi => ?_⟩, by rw [r14 _ (by omega)]; exact t5, by rw [r14 _ (by omega)]; exact t6, fun i hi => ?_⟩
    · rw [r14 (1 + i) (by omega), r36 (2 + i) (by omega)]
      exact t4 i hi
    · by_cases z : i = c
      · refine ⟨e, by omega, ?_⟩
        rw [z, b3, rd_set _ _ (by rw [h.l14]; omega), if_pos rfl]
      · rw [r14 (m + 3 + i) (by omega)]
        exact t7 i (by omega)
  · rw [F_L_put]
    dsimp only
    rw [e2, cI_some, show (9 : Int32) + nI c = nI (9 + c) by rw [show (9 : Int32) = nI 9 from rfl, nI_add]]
    refine b5.trans ?_
    rw [if_pos rfl, nI_1, nI_1]
    rfl
/-- the whole text -/
def TX (m : Nat) (A : Nat → List Int32) : Prop := TB m A m ∧ rd (A 14) (2 * m + 3) = nI 59 ∧ rd (A 14) (2 * m + 4) = nI 112 ∧ ∃ e, e ≤ 9 ∧ rd (A 14) (2 * m + 5) = nI (48 + e)
theorem put_b (hf : 1000 ≤ fu) {m : Nat} (hm3 : 3 ≤ m) (hm : m ≤ 7) (a5 : Int32) : ∀ k c n (A : Nat → List Int32), PF σ A J → TB m A c → c + k = m → 2 * k < n →
    ∃ B, PF σ B J ∧ FP A B ∧ TX m B ∧ (F_L_put fu n).2.2.2.1 1 0 0 36 a5 (nI (m + 3 + c)) (nI c) (enc A J) = some (some (.int (nI (2 * m + 6))), enc B J) := by
  intro k
  induction k with
  | zero =>
    intro c n A h t hc hn
    obtain ⟨n, rfl⟩ : ∃ j, n = j + 1 := ⟨n - 1, by omega⟩
    obtain rfl : c = m := by omega
    obtain ⟨⟨t1, ⟨pc, hpc, t2⟩, t3, t4⟩, t5, t6, t7⟩ := t
    obtain ⟨p1, p2⟩ := h.put (fu := fu) (show c + 3 + c < 30 by omega) (show 59 < 128 by omega)
    obtain ⟨q1, q2⟩ := p2.put (fu := fu) (show c + 3 + c + 1 < 30 by omega) (show 112 < 128 by omega)
    obtain ⟨u1, u2⟩ := q2.put (fu := fu) (show c + 3 + c + 1 + 1 < 30 by omega) (show 48 + pc < 128 by omega)
    generalize hB : uA (uA (uA A 14 ((A 14).set (c + 3 + c) (nI 59))) 14 ((uA A 14 ((A 14).set (c + 3 + c) (nI 59)) 14).set (c + 3 + c + 1) (nI 112))) 14 ((uA (uA A 14 ((A 14).set (c + 3 + c) (nI 59))) 14 ((uA A 14 ((A 14).set (c + 3 + c) (nI 59)) 14).set (c + 3 + c + 1) (nI 112)) 14).set (c + 3 + c + 1 + 1) (nI (48 + pc))) = B at *
    have r14 : ∀ i, rd (B 14) i = if i = c + 3 + c + 1 + 1 then nI (48 + pc) else if i = c + 3 + c + 1 then nI 112 else if i = c + 3 + c then nI 59 else rd (A 14) i := fun i => by
      rw [← hB, uA_s, uA_s, uA_s, rd_set _ _ (by rw [List.length_set, List.length_set, h.l14]; omega), rd_set _ _ (by rw [List.length_set, h.l14]; omega), rd_set _ _ (by rw [h.l14]; omega)]
    have o : ∀ k, k ≠ 14 → B k = A k := fun k a => by rw [← hB, uA_n _ _ _ a, uA_n _ _ _ a, uA_n _ _ _ a]
    have r14' : ∀ i, i < c + 3 + c → rd (B 14) i = rd (A 14) i := fun i hi => by rw [r14, if_neg (by omega), if_neg (by omega), if_neg (by omega)]
    refine ⟨B, u2, fun k a _ => o k a, ⟨⟨⟨?_, ⟨pc, hpc, ?_⟩, ?_, ?_⟩, ?_, ?_, fun i hi => ?_⟩, ?_, ?_, ⟨pc, hpc, ?_⟩⟩, ?_⟩
    · rw [o 36 (by decide)]; exact t1
    · rw [o 36 (by decide)]; exact t2
    · rw [r14' 0 (by omega)]; exact t3
    · intro i hi
      rw [r14' _ (by omega), o 36 (by decide)]
      exact t4 i hi
    · rw [r14' _ (by omega)]; exact t5
    · rw [r14' _ (by omega)]; exact t6
    · rw [r14' _ (by omega)]; exact t7 i hi
    · rw [r14, if_neg (by omega), if_neg (by omega), if_pos (by omega)]
    · rw [r14, if_neg (by omega), if_pos (by omega)]
    · rw [r14, if_pos (by omega)]
    · rw [F_L_put]
      dsimp only
      have r0 := h.r36 (j := 0) (by omega)
      rw [t1, show nI 0 = (0 : Int32) from rfl] at r0
      rw [r0, Option.bind_some, if_neg (by rw [n_lt (by omega) (by omega)]; omega)]
      have p1 : U_X7_put fu [.ref 1, .int 0, .int (nI (c + 3 + c)), .int 59] (enc A J) = _ := p1
      have q1 : U_X7_put fu [.ref 1, .int 0, .int (nI (c + 3 + c + 1)), .int 112] _ = _ := q1
      have r1 := q2.r36 (j := 1) (by omega)
      rw [uA_n _ 14 _ (show (36 : Nat) ≠ 14 by decide), uA_n _ 14 _ (show (36 : Nat) ≠ 14 by decide), t2, show nI 1 = (1 : Int32) from rfl] at r1
      rw [p1, cI_some, if_pos rfl, nI_1, q1, cI_some, if_pos rfl, r1, Option.bind_some, nI_1, show (48 : Int32) + nI pc = nI (48 + pc) by rw [show (48 : Int32) = nI 48 from rfl, nI_add], u1, cI_some, if_pos rfl, nI_1, show c + 3 + c + 1 + 1 + 1 = 2 * c + 6 by omega]
  | succ k ih =>
    intro c n A h t hc hn
    obtain ⟨n, rfl⟩ : ∃ j, n = j + 2 := ⟨n - 2, by omega⟩
    obtain ⟨x, hx⟩ := l_cell (fu := fu) (A := A) (I := J) h.2.2.2.2.2 (k := 2) (by omega)
    obtain ⟨y, hy, hy2⟩ := l_some (fu := fu) (a5 >>> ((10 : Int32) &&& 31)) (show 1 ≤ 2 by omega) (by omega) (enc A J)
    have key : ∀ b, 1 ≤ b → b ≤ 10 → ∀ s1, ∃ B, PF σ B J ∧ FP A B ∧ TX m B ∧ (F_L_put fu (n + 1)).2.2.2.2 1 0 0 36 a5 (nI (m + 3 + c)) (nI c) (nI b) s1 (nI (9 + c)) 36 (enc A J) = some (some (.int (nI (2 * m + 6))), enc B J) := fun b hb1 hb s1 => by
      obtain ⟨B, b1, b2, b3, b4⟩ := put_b2 (fu := fu) h hm3 hm (show c < m by omega) hb1 hb t a5 s1 n
      obtain ⟨C, c2, c3, c4, c5⟩ := ih (c + 1) n B b1 b3 (by omega) (by omega)
      exact ⟨C, c2, b2.tr c3, c4, b4.trans c5⟩
    rw [F_L_put]
    dsimp only
    have r0 := h.r36 (j := 0) (by omega)
    rw [t.1.1, show nI 0 = (0 : Int32) from rfl] at r0
    have hx : U_L_cell fu [.ref 0, .int ((0 : Int32) + 2)] (enc A J) = some (some (.int x), enc A J) := hx
    have hy2 : U_L_some fu [.int (a5 >>> ((10 : Int32) &&& 31)), .int 2] (enc A J) = some (some (.int (nI y)), enc A J) := hy2
    have e2 : (9 : Int32) + nI c = nI (9 + c) := by rw [show (9 : Int32) = nI 9 from rfl, nI_add]
    rw [r0, Option.bind_some, if_pos (by rw [n_lt (by omega) (by omega)]; omega), hx, cI_some, hy2, cI_some, e2]
    by_cases z : nI y = 0
    · rw [if_pos z]; exact key 10 (by omega) (by omega) _
    · rw [if_neg z]; exact key 4 (by omega) (by omega) _
end PU
