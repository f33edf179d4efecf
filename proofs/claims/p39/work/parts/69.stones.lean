/-! ===== the law's stones ===== -/
section SN
variable {σ : SG} {A : Nat → List Int32} {I : Nat → Nat → Int32} {fu : Nat}
/-- so many stones told -/
def SS (σ0 σ : SG) (A0 A : Nat → List Int32) (I : Nat → Nat → Int32) (k : Nat) : Prop :=
  RR σ A I ∧ σ 0 3 = k ∧ (A 37).length = 24 ∧ (∀ i, i < k → rd (A 37) i = nI (σ 3 i) ∧ rd (A 37) (6 + i) = nI (σ 4 i)) ∧ (∀ j, j ≠ 6 → j ≠ 7 → j ≠ 8 → j ≠ 9 → j ≠ 37 → A j = A0 j) ∧
  σ 0 0 = σ0 0 0 ∧ σ 0 2 = σ0 0 2 ∧ σ 0 4 = σ0 0 4 ∧ (∀ c, σ 1 c = σ0 1 c) ∧ (∀ c, σ 7 c = σ0 7 c) ∧ (∀ s, s < k → σ 8 s = 0)
theorem stones2 {σ0 : SG} {A0 : Nat → List Int32} (h0 : σ0 0 0 ≠ 0) (h40 : A0 40 = [0, 0]) {k a b : Nat} (hk : k < 6) (s : SS σ0 σ A0 A I k) (ha : a ≤ 2) (hb1 : 1 ≤ b) (hb : b ≤ 20)
    (a5 a7 s1 : Int32) (n : Nat) (hq : rd (A 37) k = nI a) :
    ∃ σ1 B J, SS σ0 σ1 A0 B J (k + 1) ∧ (F_L_stones fu (n + 1)).2 1 0 3 37 a5 (nI k) a7 (nI b) s1 1 (nI (6 + k)) 37 (enc A I) = (F_L_stones fu n).1 1 0 3 37 a5 (nI (k + 1)) (enc B J) := by
  obtain ⟨r, h3, l37, hr, ho, g1, g2, g3, g4, g5, g6⟩ := s
  have m40 : 2 ≤ (A 40).length := by rw [ho 40 (by decide) (by decide) (by decide) (by decide) (by decide), h40]; decide
  obtain ⟨e, he, e2⟩ := l_some (fu := fu) s1 hb1 (show b < 2147483648 by omega) (enc A I)
  have t1 : sI (enc A I) 37 (nI (6 + k)) ((1 : Int32) + nI e) = some (enc (uA A 37 ((A 37).set (6 + k) (nI (1 + e)))) I) := by
    rw [show (1 : Int32) + nI e = nI (1 + e) by rw [show (1 : Int32) = nI 1 from rfl, nI_add]]
    exact si_37 m40 _ (by omega) (by omega)
  obtain ⟨A1, hA1⟩ : ∃ X, X = uA A 37 ((A 37).set (6 + k) (nI (1 + e))) := ⟨_, rfl⟩
  rw [← hA1] at t1
  have o1 : ∀ j, j ≠ 37 → A1 j = A j := fun j hj => by rw [hA1, uA_n _ _ _ hj]
  have v1 : A1 37 = (A 37).set (6 + k) (nI (1 + e)) := by rw [hA1, uA_s]
  obtain ⟨w, hw, w2⟩ := l_some (fu := fu) (a7 >>> ((5 : Int32) &&& 31)) (show 1 ≤ 9 by omega) (by omega) (enc A1 I)
  have w2 : U_L_some fu [.int (a7 >>> ((5 : Int32) &&& 31)), .int 9] (enc A1 I) = some (some (.int (nI w)), enc A1 I) := w2
  have e12 : (12 : Int32) + nI k = nI (12 + k) := by rw [show (12 : Int32) = nI 12 from rfl, nI_add]
  have e18 : (18 : Int32) + nI k = nI (18 + k) := by rw [show (18 : Int32) = nI 18 from rfl, nI_add]
  have e6 : (6 : Int32) + nI k = nI (6 + k) := by rw [show (6 : Int32) = nI 6 from rfl, nI_add]
  have t2 : sI (enc A1 I) 37 (nI (12 + k)) ((1 : Int32) + nI w) = some (enc (uA A1 37 ((A1 37).set (12 + k) (nI (1 + w)))) I) := by
    rw [show (1 : Int32) + nI w = nI (1 + w) by rw [show (1 : Int32) = nI 1 from rfl, nI_add]]
    exact si_37 (by rw [o1 40 (by decide)]; exact m40) _ (by rw [v1, List.length_set]; omega) (by omega)
  obtain ⟨A2, hA2⟩ : ∃ X, X = uA A1 37 ((A1 37).set (12 + k) (nI (1 + w))) := ⟨_, rfl⟩
  rw [← hA2] at t2
  have o2 : ∀ j, j ≠ 37 → A2 j = A j := fun j hj => by rw [hA2, uA_n _ _ _ hj, o1 j hj]
  have v2 : A2 37 = (A1 37).set (12 + k) (nI (1 + w)) := by rw [hA2, uA_s]
  obtain ⟨d, hd, d2⟩ := l_some (fu := fu) (a7 >>> ((8 : Int32) &&& 31)) (show 1 ≤ 10 by omega) (by omega) (enc A2 I)
  have d2 : U_L_some fu [.int (a7 >>> ((8 : Int32) &&& 31)), .int 10] (enc A2 I) = some (some (.int (nI d)), enc A2 I) := d2
  have t3 : sI (enc A2 I) 37 (nI (18 + k)) (nI d) = some (enc (uA A2 37 ((A2 37).set (18 + k) (nI d))) I) :=
    si_37 (by rw [o2 40 (by decide)]; exact m40) _ (by rw [v2, List.length_set, v1, List.length_set]; omega) (by omega)
  obtain ⟨A3, hA3⟩ : ∃ X, X = uA A2 37 ((A2 37).set (18 + k) (nI d)) := ⟨_, rfl⟩
  rw [← hA3] at t3
  have o3 : ∀ j, j ≠ 37 → A3 j = A j := fun j hj => by rw [hA3, uA_n _ _ _ hj, o2 j hj]
  have rr : ∀ i, rd (A3 37) i = if i = 18 + k then nI d else if i = 12 + k then nI (1 + w) else if i = 6 + k then nI (1 + e) else rd (A 37) i := fun i => by
    rw [hA3, uA_s, rd_set _ _ (by rw [v2, List.length_set, v1, List.length_set]; omega), v2, rd_set _ _ (by rw [v1, List.length_set]; omega), v1, rd_set _ _ (by omega)]
  have l3 : (A3 37).length = 24 := by rw [hA3, uA_s, List.length_set, v2, List.length_set, v1, List.length_set]; exact l37
  have m3 : 2 ≤ (A3 40).length := by rw [o3 40 (by decide)]; exact m40
  have q1 : aI (enc A3 I) 37 (nI k) = some (nI a) := by rw [ai_37 m3 (by omega) (by omega), rr, if_neg (by omega), if_neg (by omega), if_neg (by omega), hq]
  have q2 : aI (enc A3 I) 37 (nI (6 + k)) = some (nI (1 + e)) := by rw [ai_37 m3 (by omega) (by omega), rr, if_neg (by omega), if_neg (by omega), if_pos (by omega)]
  have q3 : aI (enc A3 I) 37 (nI (12 + k)) = some (nI (1 + w)) := by rw [ai_37 m3 (by omega) (by omega), rr, if_neg (by omega), if_pos (by omega)]
  have q4 : aI (enc A3 I) 37 (nI (18 + k)) = some (nI d) := by rw [ai_37 m3 (by omega) (by omega), rr, if_pos (by omega)]
  have r3 : RR σ A3 I := r.tl fun j hj => o3 j (by omega)
  obtain ⟨A4, c1, c2, c3⟩ := k_stone (fu := fu) r3 (by rw [g1]; exact h0) ha (show 1 ≤ 1 + e by omega) (show 1 + e ≤ 20 by omega) (show 1 ≤ 1 + w by omega) (show 1 + w ≤ 9 by omega) (show d ≤ 9 by omega) (by omega)
  have hn3 : addS σ a (1 + e) (1 + w) d 0 3 = k + 1 := by
    show σ 0 3 + 1 = k + 1
    omega
  have e3 : ∀ i, addS σ a (1 + e) (1 + w) d 3 i = if i = k then a else σ 3 i := fun i => by
    rw [← h3]
    simp [addS, uN]
  have e4 : ∀ i, addS σ a (1 + e) (1 + w) d 4 i = if i = k then 1 + e else σ 4 i := fun i => by
    rw [← h3]
    simp [addS, uN]
  have e8 : ∀ i, addS σ a (1 + e) (1 + w) d 8 i = if i = k then 0 else σ 8 i := fun i => by
    rw [← h3]
    simp [addS, uN]
  have v4 : A4 37 = A3 37 := c3 37 (by decide) (by decide) (by decide) (by decide)
  refine ⟨_, A4, _, ⟨c2, hn3, by rw [v4]; exact l3, fun i hi => ?_, fun j j1 j2 j3 j4 j5 => ?_, ?_, ?_, ?_, fun c => ?_, fun c => ?_, fun s hs => ?_⟩, ?_⟩
  · have x1 := rr i
    have x2 := rr (6 + i)
    rw [if_neg (by omega), if_neg (by omega), if_neg (by omega)] at x1
    rw [if_neg (by omega), if_neg (by omega)] at x2
    rw [v4, x1, x2, e3, e4]
    by_cases z : i = k
    · rw [if_pos (show 6 + i = 6 + k by omega), if_pos z, if_pos z, z]
      exact ⟨hq, rfl⟩
    · rw [if_neg (show ¬ 6 + i = 6 + k by omega), if_neg z, if_neg z]
      exact hr i (by omega)
  · rw [c3 j j1 j2 j3 j4, o3 j j5, ho j j1 j2 j3 j4 j5]
  · rw [← g1]; simp [addS, uN]
  · rw [← g2]; simp [addS, uN]
  · rw [← g3]; simp [addS, uN]
  · rw [← g4 c]; simp [addS, uN]
  · rw [← g5 c]; simp [addS, uN]
  · rw [e8]
    by_cases z : s = k
    · rw [if_pos z]
    · rw [if_neg z]; exact g6 s (by omega)
  · rw [F_L_stones]
    dsimp only
    rw [e2, cI_some, t1, Option.bind_some, w2, cI_some, e12, t2, Option.bind_some, d2, cI_some, e18, t3, Option.bind_some, q1, Option.bind_some, e6, q2, Option.bind_some, q3, Option.bind_some, q4, Option.bind_some, c1, cI_some, h3, if_pos rfl, nI_1]
theorem stones1 {σ0 : SG} {A0 : Nat → List Int32} (h0 : σ0 0 0 ≠ 0) (h40 : A0 40 = [0, 0]) (hl : (A0 0).length < 2147483648) {many : Nat} (hm : many ≤ 6) : ∀ m k n (σ : SG) (A : Nat → List Int32) (I : Nat → Nat → Int32), SS σ0 σ A0 A I k → k + m = many → 2 * m < n →
    ∃ σ1 B J, SS σ0 σ1 A0 B J many ∧ (F_L_stones fu n).1 1 0 3 37 (nI many) (nI k) (enc A I) = some (some (.int (nI many)), enc B J) := by
  intro m
  induction m with
  | zero =>
    intro k n σ A I s hk hn
    obtain ⟨n, rfl⟩ : ∃ j, n = j + 1 := ⟨n - 1, by omega⟩
    obtain rfl : k = many := by omega
    refine ⟨σ, A, I, s, ?_⟩
    rw [F_L_stones]
    dsimp only
    rw [if_neg (by rw [n_lt (by omega) (by omega)]; omega)]
  | succ m ih =>
    intro k n σ A I s hk hn
    obtain ⟨n, rfl⟩ : ∃ j, n = j + 2 := ⟨n - 2, by omega⟩
    obtain ⟨r, h3, l37, hr, ho, g⟩ := s
    have m40 : 2 ≤ (A 40).length := by rw [ho 40 (by decide) (by decide) (by decide) (by decide) (by decide), h40]; decide
    have hl0 : (A 0).length < 2147483648 := by rw [ho 0 (by decide) (by decide) (by decide) (by decide) (by decide)]; exact hl
    have n3 : ¬ (3 : Int32) = 0 := by decide
    have ei : ((3 : Int32) + 1) + (nI k - nI k / 3 * 3) = nI (4 + k % 3) := by
      show nI 4 + (nI k - nI k / nI 3 * nI 3) = _
      rw [n_mod (by omega) (by omega), nI_add]
    obtain ⟨x, hx⟩ := l_cell (fu := fu) (A := A) (I := I) hl0 (k := 4 + k % 3) (by omega)
    obtain ⟨X, hX⟩ : ∃ X, X = x >>> (((nI k / (3 : Int32)) * (12 : Int32)) &&& 31) := ⟨_, rfl⟩
    obtain ⟨a, ha, a2⟩ := l_some (fu := fu) X (show 1 ≤ 3 by omega) (by omega) (enc A I)
    have a2 : U_L_some fu [.int X, .int 3] (enc A I) = some (some (.int (nI a)), enc A I) := a2
    have t1 : sI (enc A I) 37 (nI k) (nI a) = some (enc (uA A 37 ((A 37).set k (nI a))) I) := si_37 m40 _ (by omega) (by omega)
    obtain ⟨A1, hA1⟩ : ∃ X, X = uA A 37 ((A 37).set k (nI a)) := ⟨_, rfl⟩
    rw [← hA1] at t1
    have o1 : ∀ j, j ≠ 37 → A1 j = A j := fun j hj => by rw [hA1, uA_n _ _ _ hj]
    have v1 : A1 37 = (A 37).set k (nI a) := by rw [hA1, uA_s]
    obtain ⟨y, hy⟩ := l_cell (fu := fu) (A := A1) (I := I) (by rw [o1 0 (by decide)]; exact hl0) (k := 3) (by omega)
    have hy : U_L_cell fu [.ref 0, .int 3] (enc A1 I) = some (some (.int y), enc A1 I) := hy
    obtain ⟨b, hb, b2⟩ := l_some (fu := fu) (y >>> ((6 : Int32) &&& 31)) (show 1 ≤ 2 by omega) (by omega) (enc A1 I)
    have b2 : U_L_some fu [.int (y >>> ((6 : Int32) &&& 31)), .int 2] (enc A1 I) = some (some (.int (nI b)), enc A1 I) := b2
    have s1 : SS σ0 σ A0 A1 I k := by
      refine ⟨r.tl fun j hj => o1 j (by omega), h3, by rw [v1, List.length_set]; exact l37, fun i hi => ?_, fun j j1 j2 j3 j4 j5 => by rw [o1 j j5, ho j j1 j2 j3 j4 j5], g⟩
      rw [v1, rd_set _ _ (by omega), rd_set _ _ (by omega), if_neg (by omega), if_neg (by omega)]
      exact hr i hi
    have hq : rd (A1 37) k = nI a := by rw [v1, rd_set _ _ (by omega), if_pos rfl]
    have key : ∀ b, 1 ≤ b → b ≤ 20 → ∀ sx, ∃ σ1 B J, SS σ0 σ1 A0 B J many ∧ (F_L_stones fu (n + 1)).2 1 0 3 37 (nI many) (nI k) X (nI b) sx 1 (nI (6 + k)) 37 (enc A1 I) = some (some (.int (nI many)), enc B J) := fun b hb1 hb sx => by
      obtain ⟨σ1, B, J, c1, c2⟩ := stones2 (fu := fu) h0 h40 (show k < 6 by omega) s1 (show a ≤ 2 by omega) hb1 hb (nI many) X sx n hq
      obtain ⟨σ2, C, K, d1, d2⟩ := ih (k + 1) n σ1 B J c1 (by omega) (by omega)
      exact ⟨σ2, C, K, d1, c2.trans d2⟩
    have e6 : (6 : Int32) + nI k = nI (6 + k) := by rw [show (6 : Int32) = nI 6 from rfl, nI_add]
    rw [F_L_stones]
    dsimp only
    rw [if_pos (by rw [n_lt (by omega) (by omega)]; omega), if_neg n3, ei, hx, cI_some, if_neg n3, ← hX, a2, cI_some, t1, Option.bind_some, hy, cI_some, b2, cI_some, e6]
    by_cases z : nI b = 0
    · rw [if_pos z]; exact key 20 (by omega) (by omega) _
    · rw [if_neg z]; exact key 8 (by omega) (by omega) _
theorem l_stones (hf : 1000 ≤ fu) {σ0 : SG} (h0 : σ0 0 0 ≠ 0) (r : RR σ0 A I) (h3 : σ0 0 3 = 0) (h40 : A 40 = [0, 0]) (hl : (A 0).length < 2147483648) (l37 : (A 37).length = 24) :
    ∃ many σ1 B J, many ≤ 6 ∧ SS σ0 σ1 A B J many ∧ U_L_stones fu [.ref 1, .ref 0, .int 3, .int 6, .ref 37] (enc A I) = some (some (.int (nI many)), enc B J) := by
  obtain ⟨x, hx⟩ := l_cell (fu := fu) (A := A) (I := I) hl (k := 3) (by omega)
  have hx : U_L_cell fu [.ref 0, .int 3] (enc A I) = some (some (.int x), enc A I) := hx
  obtain ⟨a, ha, a2⟩ := l_some (fu := fu) x (show 1 ≤ 7 by omega) (by omega) (enc A I)
  have a2 : U_L_some fu [.int x, .int ((6 : Int32) + 1)] (enc A I) = some (some (.int (nI a)), enc A I) := a2
  obtain ⟨σ1, B, J, c1, c2⟩ := stones1 (fu := fu) h0 h40 hl (show a ≤ 6 by omega) a 0 fu σ0 A I ⟨r, h3, l37, fun i hi => absurd hi (Nat.not_lt_zero _), fun _ _ _ _ _ _ => rfl, rfl, rfl, rfl, fun _ => rfl, fun _ => rfl, fun i hi => absurd hi (Nat.not_lt_zero _)⟩ (by omega) (by omega)
  refine ⟨a, σ1, B, J, by omega, c1, ?_⟩
  rw [u_L_stones, M_L_stones, hx, cI_some, a2, cI_some]
  exact c2
end SN
