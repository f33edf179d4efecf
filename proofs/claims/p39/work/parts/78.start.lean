/-! ===== the law from its new object on ===== -/
section SA
variable {σ : SG} {A : Nat → List Int32} {I : Nat → Nat → Int32} {fu : Nat}
/-- so many walkers told -/
def WK (σ0 σ : SG) (A0 A : Nat → List Int32) (I : Nat → Nat → Int32) (k : Nat) : Prop :=
  RR σ A I ∧ σ 0 4 = k ∧ (A 38).length = 3 ∧ (∀ i, i < k → rd (A 38) i = nI (σ 10 i)) ∧ (∀ j, j ≠ 10 → j ≠ 38 → A j = A0 j) ∧
  σ 0 0 = σ0 0 0 ∧ σ 0 2 = σ0 0 2 ∧ σ 0 3 = σ0 0 3 ∧ (∀ c, σ 1 c = σ0 1 c) ∧ (∀ c, σ 3 c = σ0 3 c) ∧ (∀ c, σ 4 c = σ0 4 c) ∧ (∀ c, σ 7 c = σ0 7 c) ∧ (∀ c, σ 8 c = σ0 8 c)
theorem walk2 {σ0 : SG} {A0 : Nat → List Int32} (h0 : σ0 0 0 ≠ 0) (h40 : A0 40 = [0, 0, 0]) {k b : Nat} (hk : k < 3) (s : WK σ0 σ A0 A I k) (hb1 : 1 ≤ b) (hb : b ≤ 9) (a5 s1 : Int32) (n : Nat) :
    ∃ σ1 B J, WK σ0 σ1 A0 B J (k + 1) ∧ (F_L_law fu (n + 1)).2.1 0 1 36 37 a5 38 (nI k) (nI b) s1 1 (nI k) 38 (enc A I) = (F_L_law fu (n)).1 0 1 36 37 a5 38 (nI (k + 1)) (enc B J) := by
  obtain ⟨r, h4, l38, hr, ho, g1, g2, g3, g4, g5, g6, g7, g8⟩ := s
  have m40 : 3 ≤ (A 40).length := by rw [ho 40 (by decide) (by decide), h40]; decide
  obtain ⟨e, he, e2⟩ := l_some (fu := fu) s1 hb1 (show b < 2147483648 by omega) (enc A I)
  have t1 : sI (enc A I) 38 (nI k) ((1 : Int32) + nI e) = some (enc (uA A 38 ((A 38).set k (nI (1 + e)))) I) := by
    rw [show (1 : Int32) + nI e = nI (1 + e) by rw [show (1 : Int32) = nI 1 from rfl, nI_add]]
    exact si_38 m40 _ (by omega) (by omega)
  obtain ⟨A1, hA1⟩ : ∃ X, X = uA A 38 ((A 38).set k (nI (1 + e))) := ⟨_, rfl⟩
  rw [← hA1] at t1
  have o1 : ∀ j, j ≠ 38 → A1 j = A j := fun j hj => by rw [hA1, uA_n _ _ _ hj]
  have v1 : A1 38 = (A 38).set k (nI (1 + e)) := by rw [hA1, uA_s]
  have r1 : RR σ A1 I := r.tl fun j hj => o1 j (by omega)
  have q1 : ∀ B J, (B : Nat → List Int32) 40 = A 40 → B 38 = A1 38 → aI (enc B J) 38 (nI k) = some (nI (1 + e)) := fun B J b1 b2 => by
    rw [ai_38 (by rw [b1]; exact m40) (by rw [b2, v1, List.length_set]; omega) (by omega), b2, v1, rd_set _ _ (by omega), if_pos rfl]
  obtain ⟨c1, c2⟩ := k_walker (fu := fu) r1 (by rw [g1]; exact h0) (show 1 ≤ 1 + e by omega) (show 1 + e ≤ 9 by omega) (by omega)
  rw [h4] at c1 c2
  have e10 : ∀ i, uN (uN σ 0 4 (k + 1)) 10 k (1 + e) 10 i = if i = k then 1 + e else σ 10 i := fun i => by simp [uN]
  have c3 := k_stride (fu := fu) c2 (j := k) (by show k < k + 1; omega)
  rw [e10, if_pos rfl] at c3
  refine ⟨_, _, _, ⟨c2, ?_, ?_, fun i hi => ?_, fun j j1 j2 => ?_, ?_, ?_, ?_, fun c => ?_, fun c => ?_, fun c => ?_, fun c => ?_, fun c => ?_⟩, ?_⟩
  · simp [uN]
  · rw [uA_n _ _ _ (by decide), v1, List.length_set]; exact l38
  · rw [uA_n _ _ _ (by decide), v1, rd_set _ _ (by omega), e10]
    by_cases z : i = k
    · rw [if_pos z, if_pos z]
    · rw [if_neg z, if_neg z]; exact hr i (by omega)
  · rw [uA_n _ _ _ j1, o1 j j2]; exact ho j j1 j2
  · rw [← g1]; simp [uN]
  · rw [← g2]; simp [uN]
  · rw [← g3]; simp [uN]
  · rw [← g4 c]; simp [uN]
  · rw [← g5 c]; simp [uN]
  · rw [← g6 c]; simp [uN]
  · rw [← g7 c]; simp [uN]
  · rw [← g8 c]; simp [uN]
  · rw [L_1, e2, cI_some, t1, Option.bind_some, q1 A1 I (o1 40 (by decide)) rfl, Option.bind_some, c1, cI_some, if_pos rfl, c3, cI_some, q1 _ _ (by rw [uA_n _ _ _ (by decide)]; exact o1 40 (by decide)) (by rw [uA_n _ _ _ (by decide)]), Option.bind_some, if_pos rfl, nI_1]
theorem walk1 {σ0 : SG} {A0 : Nat → List Int32} (h0 : σ0 0 0 ≠ 0) (h40 : A0 40 = [0, 0, 0]) (hl : (A0 0).length < 2147483648) (a5 : Int32) : ∀ m k n (σ : SG) (A : Nat → List Int32) (I : Nat → Nat → Int32), WK σ0 σ A0 A I k → k + m = 3 →
    ∃ σ1 B J, WK σ0 σ1 A0 B J 3 ∧ (F_L_law fu (n + 2 * m)).1 0 1 36 37 a5 38 (nI k) (enc A I) = (F_L_law fu (n)).1 0 1 36 37 a5 38 (nI 3) (enc B J) := by
  intro m
  induction m with
  | zero =>
    intro k n σ A I s hk
    obtain rfl : k = 3 := by omega
    exact ⟨σ, A, I, s, rfl⟩
  | succ m ih =>
    intro k n σ A I s hk
    have hl0 : (A 0).length < 2147483648 := by rw [s.2.2.2.2.1 0 (by decide) (by decide)]; exact hl
    obtain ⟨x, hx⟩ := l_cell (fu := fu) (A := A) (I := I) hl0 (k := 7) (by omega)
    have hx : U_L_cell fu [.ref 0, .int 7] (enc A I) = some (some (.int x), enc A I) := hx
    obtain ⟨b, hb, b2⟩ := l_some (fu := fu) (x >>> ((13 : Int32) &&& 31)) (show 1 ≤ 2 by omega) (by omega) (enc A I)
    have b2 : U_L_some fu [.int (x >>> ((13 : Int32) &&& 31)), .int 2] (enc A I) = some (some (.int (nI b)), enc A I) := b2
    have key : ∀ b, 1 ≤ b → b ≤ 9 → ∀ sx, ∃ σ1 B J, WK σ0 σ1 A0 B J 3 ∧ (F_L_law fu (n + 2 * m + 1)).2.1 0 1 36 37 a5 38 (nI k) (nI b) sx 1 (nI k) 38 (enc A I) = (F_L_law fu (n)).1 0 1 36 37 a5 38 (nI 3) (enc B J) := fun b hb1 hb sx => by
      obtain ⟨σ1, B, J, c1, c2⟩ := walk2 (fu := fu) h0 h40 (show k < 3 by omega) s hb1 hb a5 sx (n + 2 * m)
      obtain ⟨σ2, C, K, d1, d2⟩ := ih (k + 1) n σ1 B J c1 (by omega)
      exact ⟨σ2, C, K, d1, c2.trans d2⟩
    rw [show n + 2 * (m + 1) = n + 2 * m + 1 + 1 from rfl, L_0, if_pos (by rw [show (3 : Int32) = nI 3 from rfl, n_lt (by omega) (by omega)]; omega), hx, cI_some, hx, cI_some, b2, cI_some]
    by_cases z : nI b = 0
    · rw [if_pos z]; exact key 9 (by omega) (by omega) _
    · rw [if_neg z]; exact key 4 (by omega) (by omega) _
/-- nothing laid -/
theorem laid (hf : 1000 ≤ fu) (a5 : Int32) : ∀ m c n (A : Nat → List Int32), c + m = 7 → (A 40).length = 4 → (A 39).length = 7 → (∀ i, i < c → rd (A 39) i = -1) →
    ∃ B, (∀ j, j ≠ 39 → B j = A j) ∧ (B 39).length = 7 ∧ (∀ i, i < 7 → rd (B 39) i = -1) ∧ (F_L_law fu (n + m + 1)).2.2.1 0 1 36 37 a5 38 39 (nI c) (enc A I) = (F_L_law fu (n)).2.2.2.1 0 1 36 37 a5 38 39 0 0 (enc B I) := by
  intro m
  induction m with
  | zero =>
    intro c n A hc h40 h39 h
    obtain rfl : c = 7 := by omega
    refine ⟨A, fun _ _ => rfl, h39, h, ?_⟩
    rw [show n + 0 + 1 = n + 1 from rfl, L_2, if_neg (by decide)]
  | succ m ih =>
    intro c n A hc h40 h39 h
    obtain ⟨B, b1, b2, b3, b4⟩ := ih (c + 1) n (uA A 39 ((A 39).set c (-1))) (by omega) (by rw [uA_n _ _ _ (by decide)]; exact h40) (by rw [uA_s, List.length_set]; exact h39) (fun i hi => by
      rw [uA_s, rd_set _ _ (by omega)]
      by_cases z : i = c
      · rw [if_pos z]
      · rw [if_neg z]; exact h i (by omega))
    refine ⟨B, fun j hj => by rw [b1 j hj, uA_n _ _ _ hj], b2, b3, ?_⟩
    rw [show n + (m + 1) + 1 = n + m + 1 + 1 from rfl, L_2, if_pos (by rw [show (7 : Int32) = nI 7 from rfl, n_lt (by omega) (by omega)]; omega), si_39 (by omega) _ (by omega) (by omega), Option.bind_some, nI_1]
    exact b4
/-- walkers, what is laid, all turns, what is refused -/
theorem law_1 (hf : 6000 ≤ fu) {σ0 : SG} {A0 : Nat → List Int32} {I0 : Nat → Nat → Int32} (r : RR σ0 A0 I0) (h40 : A0 40 = [0, 0, 0]) (hl : (A0 0).length ≤ 260) (h38 : (A0 38).length = 3) (h3 : 3 ≤ σ0 0 0) (h4 : σ0 0 4 = 0) (h2 : σ0 0 2 = 0)
    (h36 : (A0 36).length = 16) (h37 : (A0 37).length = 24) (b0 : rd (A0 36) 0 = nI (σ0 0 0)) (b1 : ∀ c, c < σ0 0 0 → rd (A0 36) (2 + c) = nI (σ0 1 c)) (t0 : ∀ k, k < σ0 0 3 → rd (A0 37) k = nI (σ0 3 k) ∧ rd (A0 37) (6 + k) = nI (σ0 4 k)) (c7 : ∀ c, σ0 7 c = 0) (c8 : ∀ s, s < σ0 0 3 → σ0 8 s = 0) (hs : SHo A0 2 none) :
    ∃ σ B J, TI True σ B J ∧ (F_L_law fu fu).1 0 1 36 37 (nI (σ0 0 3)) 38 0 (enc A0 I0) = some (some (.int 1), enc B J) := by
  obtain ⟨n, hn⟩ : ∃ n, fu = n + 7 + 1 + 1 + 2 * 3 := ⟨fu - 15, by omega⟩
  obtain ⟨σ1, A1, I1, ⟨w1, w2, w3, w4, w5, g1, g2, g3, g4, g5, g6, g7, g8⟩, e1⟩ := walk1 (fu := fu) (show σ0 0 0 ≠ 0 by omega) h40 (by omega) (nI (σ0 0 3)) 3 0 (n + 7 + 1 + 1) σ0 A0 I0 ⟨r, h4, h38, fun i hi => absurd hi (Nat.not_lt_zero _), fun _ _ _ => rfl, rfl, rfl, rfl, fun _ => rfl, fun _ => rfl, fun _ => rfl, fun _ => rfl, fun _ => rfl⟩ (by omega)
  have h40' : A1 40 = [0, 0, 0] := by rw [w5 40 (by decide) (by decide)]; exact h40
  have enew := new_39 (I := I1) h40' (List.replicate 7 0)
  have elen := len_3 (I := I1) h40'
  obtain ⟨A2, hA2⟩ : ∃ X, X = uA (uA A1 39 (List.replicate 7 0)) 40 [0, 0, 0, 0] := ⟨_, rfl⟩
  rw [← hA2] at enew
  have o2 : ∀ j, j ≠ 39 → j ≠ 40 → A2 j = A1 j := fun j a b => by rw [hA2, uA_n _ _ _ b, uA_n _ _ _ a]
  have v39 : A2 39 = List.replicate 7 0 := by rw [hA2, uA_n _ _ _ (by decide), uA_s]
  have v40 : A2 40 = [0, 0, 0, 0] := by rw [hA2, uA_s]
  obtain ⟨A3, o3, l39, z39, e3⟩ := laid (fu := fu) (I := I1) (by omega) (nI (σ0 0 3)) 7 0 n A2 (by omega) (by rw [v40]; rfl) (by rw [v39, List.length_replicate]) (fun i hi => absurd hi (Nat.not_lt_zero _))
  have o : ∀ j, j ≠ 10 → j ≠ 38 → j ≠ 39 → j ≠ 40 → A3 j = A0 j := fun j j1 j2 j3 j4 => by rw [o3 j j3, o2 j j3 j4, w5 j j1 j2]
  have r3 : RR σ1 A3 I1 := w1.tl fun j hj => by rw [o3 j (by omega), o2 j (by omega) (by omega)]
  have hN := r3.n7
  have hT : TI (0 < 0) σ1 A3 I1 := by
    refine ⟨⟨r3.1, by rw [o3 40 (by decide), v40]; rfl, by rw [o 36 (by decide) (by decide) (by decide) (by decide)]; exact h36, by rw [o 37 (by decide) (by decide) (by decide) (by decide)]; exact h37, by rw [o3 38 (by decide), o2 38 (by decide) (by decide)]; exact w3, l39, ?_, fun c hc => ?_, fun k hk => ?_, fun x hx => ?_, fun c hc => ?_⟩, r3, by rw [o 0 (by decide) (by decide) (by decide) (by decide)]; exact hl, by omega, w2, fun s hs => ?_, hs.to (o 12 (by decide) (by decide) (by decide) (by decide)) (o 13 (by decide) (by decide) (by decide) (by decide)), fun w => absurd w (Nat.lt_irrefl 0)⟩
    · rw [o 36 (by decide) (by decide) (by decide) (by decide), g1]; exact b0
    · rw [o 36 (by decide) (by decide) (by decide) (by decide), g4]; exact b1 c (by omega)
    · rw [o 37 (by decide) (by decide) (by decide) (by decide), g5, g6]; exact t0 k (by omega)
    · rw [o3 38 (by decide), o2 38 (by decide) (by decide)]; exact w4 x hx
    · rw [z39 c (by omega), g7, c7]; rfl
    · rw [g8, c8 s (by omega)]; decide
  obtain ⟨j, σ', B, J, l1, t1, m1, e4⟩ := t_turns (fu := fu) (by omega) 14 0 n σ1 A3 I1 (by omega) (by omega) hT
  obtain ⟨i, hi⟩ : ∃ i, j = i + 2 := ⟨j - 2, by omega⟩
  obtain ⟨C, K, f1, f2⟩ := t_end (fu := fu) (by omega) t1 (nI (σ' 0 2)) i
  refine ⟨σ', C, K, f1, ?_⟩
  rw [g2, h2, g3, show nI 0 = (0 : Int32) from rfl, hi, ← g3, ← m1, f2] at e4
  rw [show nI 0 = (0 : Int32) from rfl] at e1 e3
  rw [show F_L_law fu fu = F_L_law fu (n + 7 + 1 + 1 + 2 * 3) by rw [← hn], e1, L_0, if_neg (by decide), elen, if_pos (by decide), show Int32.toNatClampNeg (7 : Int32) = 7 by decide, enew, e3]
  rw [← g3, ← m1]
  exact e4
end SA
