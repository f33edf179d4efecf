/-! ===== the law's come: bits of the places reached in so many strides at most ===== -/
theorem bits_orq {B : Nat → Bool} {n q : Nat} (hq : q < n) : bits B n ||| 2 ^ q = bits (fun j => B j || decide (j = q)) n := by
  refine bits_ext (n := n) (Nat.or_lt_two_pow (bits_lt B n) (Nat.pow_lt_pow_right (by omega) hq)) (bits_lt _ n) fun i hi => ?_
  rw [Nat.testBit_or, bits_test, bits_test, Nat.testBit_two_pow, decide_eq_true hi]
  by_cases z : i = q
  · rw [decide_eq_true z, decide_eq_true z.symm]; rfl
  · rw [decide_eq_false z, decide_eq_false (fun w => z w.symm)]; rfl
theorem bits_has {B : Nat → Bool} {n q : Nat} (hn : n ≤ 30) (hq : q < n) : ((nI (bits B n) >>> (nI q &&& 31)) &&& 1 = 1) = (B q = true) := by
  have h := bits_lt B n
  have h2 : 2 ^ n ≤ 2 ^ 30 := Nat.pow_le_pow_right (by omega) hn
  have h2 : 2 ^ n ≤ 1073741824 := h2
  rw [bit_n (show bits B n < 2147483648 by omega) (by omega), bits_test, decide_eq_true hq]
  cases B q
  · exact propext ⟨fun w => absurd w (by decide), fun w => absurd w (by decide)⟩
  · exact propext ⟨fun _ => rfl, fun _ => rfl⟩
section CO
variable {σ : SG} {A : Nat → List Int32} {I : Nat → Nat → Int32} {fu : Nat}
/-- what has been found midway a round: all that lie before p are looked at, of p itself so many -/
def mid (N : Nat) (S : Nat → Bool) (e : Nat → Nat) (d a n p q j : Nat) : Bool :=
  (cs N S e d a n j || (List.range p).any (fun t => cs N S e d a n t && (S j && nearB e d t j))) || (decide (j < q) && (cs N S e d a n p && (S j && nearB e d p j)))
section M0
variable {N : Nat} {S : Nat → Bool} {e : Nat → Nat} {d a n p : Nat}
theorem mid_next {j q : Nat} (h : j < q ∨ (cs N S e d a n p && (S j && nearB e d p j)) = false) : mid N S e d a n p q j = mid N S e d a n (p + 1) 0 j := by
  unfold mid
  rw [List.range_succ, List.any_append, decide_eq_false (Nat.not_lt_zero j), Bool.false_and, Bool.or_false]
  simp only [List.any_cons, List.any_nil, Bool.or_false]
  rcases h with h | h
  · rw [decide_eq_true h, Bool.true_and, Bool.or_assoc]
  · rw [h, Bool.and_false, Bool.or_false, Bool.or_false]
theorem mid_up {q j : Nat} : mid N S e d a n p (q + 1) j = (mid N S e d a n p q j || (decide (j = q) && (cs N S e d a n p && (S q && nearB e d p q)))) := by
  unfold mid
  generalize (cs N S e d a n j || (List.range p).any (fun t => cs N S e d a n t && (S j && nearB e d t j))) = u
  rw [Bool.or_assoc]
  congr 1
  by_cases z : j = q
  · subst z
    rw [decide_eq_true (Nat.lt_succ_self j), decide_eq_false (Nat.lt_irrefl j), decide_eq_true (rfl : j = j)]; rfl
  · rw [decide_eq_false z, Bool.false_and, Bool.or_false]
    congr 1
    exact decide_eq_decide.mpr (by omega)
theorem mid_0 {j : Nat} : mid N S e d a n 0 0 j = cs N S e d a n j := by
  unfold mid
  rw [decide_eq_false (Nat.not_lt_zero j), Bool.false_and, Bool.or_false]
  exact Bool.or_false _
theorem mid_N {j : Nat} : mid N S e d a n (N + 2) 0 j = cs N S e d a (n + 1) j := by
  unfold mid
  rw [decide_eq_false (Nat.not_lt_zero j), Bool.false_and, Bool.or_false]
  rfl
end M0
theorem nI_two (k : Nat) : nI k + 2 = nI (k + 2) := by rw [show (2 : Int32) = nI 2 from rfl, nI_add]
theorem come_q (hf : 1000 ≤ fu) (h : LB σ A) {v d a n p : Nat} (hv : v ≤ 9) (hd : d ≤ 9) (hp : p < σ 0 0 + 2) (a6 a8 : Int32) : ∀ m q k, q + m = σ 0 0 + 2 → m < k → ∃ k', k ≤ k' + m + 1 ∧
    (F_L_come fu k).2.2 36 37 39 (nI v) (nI d) a6 (nI (bits (cs (σ 0 0) (Sd σ (σ 7) v) (ez σ (σ 7)) d a n) (σ 0 0 + 2))) a8 (nI (bits (mid (σ 0 0) (Sd σ (σ 7) v) (ez σ (σ 7)) d a n p q) (σ 0 0 + 2))) (nI p) (nI q) (enc A I) =
    (F_L_come fu k').2.1 36 37 39 (nI v) (nI d) a6 (nI (bits (cs (σ 0 0) (Sd σ (σ 7) v) (ez σ (σ 7)) d a n) (σ 0 0 + 2))) a8 (nI (bits (mid (σ 0 0) (Sd σ (σ 7) v) (ez σ (σ 7)) d a n (p + 1) 0) (σ 0 0 + 2))) (nI (p + 1)) (enc A I) := by
  have hn : σ 0 0 ≤ 7 := h.1.2.1
  intro m
  induction m with
  | zero =>
    intro q k hq hk
    obtain ⟨k, rfl⟩ : ∃ j, k = j + 1 := ⟨k - 1, by omega⟩
    refine ⟨k, by omega, ?_⟩
    rw [F_L_come]
    dsimp only
    simp only [h.b0, Option.bind_some, nI_two, n_lt (show q < 2147483648 by omega) (show σ 0 0 + 2 < 2147483648 by omega), nI_1]
    rw [if_neg (by omega)]
    rw [bits_congr (σ 0 0 + 2) (fun i hi => mid_next (q := q) (Or.inl (by omega)))]
  | succ m ih =>
    intro q k hq hk
    obtain ⟨k, rfl⟩ : ∃ j, k = j + 1 := ⟨k - 1, by omega⟩
    rw [F_L_come]
    dsimp only
    simp only [h.b0, Option.bind_some, nI_two, n_lt (show q < 2147483648 by omega) (show σ 0 0 + 2 < 2147483648 by omega), nI_1, bits_has (show σ 0 0 + 2 ≤ 30 by omega) hp]
    rw [if_pos (show q < σ 0 0 + 2 by omega)]
    obtain ⟨k', k1, k2⟩ := ih (q + 1) k (by omega) (by omega)
    by_cases z : cs (σ 0 0) (Sd σ (σ 7) v) (ez σ (σ 7)) d a n p = true
    · rw [if_pos z]
      simp only [l_stands h hv (show q ≤ σ 0 0 + 1 by omega), cI_some, bI_0]
      by_cases s : Sd σ (σ 7) v q = true
      · rw [if_neg (fun w => w s)]
        simp only [l_goes hf h hd (show p ≤ σ 0 0 + 1 by omega) (show q ≤ σ 0 0 + 1 by omega), cI_some, bI_0]
        by_cases g : near (ez σ (σ 7)) d p q
        · rw [if_neg (fun w => w g), sh_1 (show q < 31 by omega), n_or, bits_orq (show q < σ 0 0 + 2 by omega)]
          refine ⟨k', by omega, ?_⟩
          rw [← k2]
          refine (congrArg (fun z => (F_L_come fu k).2.2 36 37 39 (nI v) (nI d) a6 (nI (bits (cs (σ 0 0) (Sd σ (σ 7) v) (ez σ (σ 7)) d a n) (σ 0 0 + 2))) a8 (nI z) (nI p) (nI (q + 1)) (enc A I)) (bits_congr (σ 0 0 + 2) fun i _ => ?_))
          have g' : nearB (ez σ (σ 7)) d p q = true := decide_eq_true g
          rw [mid_up, z, s, g']
          simp only [Bool.and_true]
        · rw [if_pos g]
          refine ⟨k', by omega, ?_⟩
          rw [← k2]
          refine (congrArg (fun z => (F_L_come fu k).2.2 36 37 39 (nI v) (nI d) a6 (nI (bits (cs (σ 0 0) (Sd σ (σ 7) v) (ez σ (σ 7)) d a n) (σ 0 0 + 2))) a8 (nI z) (nI p) (nI (q + 1)) (enc A I)) (bits_congr (σ 0 0 + 2) fun i _ => ?_))
          have g' : nearB (ez σ (σ 7)) d p q = false := decide_eq_false g
          rw [mid_up, g', Bool.and_false, Bool.and_false, Bool.and_false, Bool.or_false]
      · rw [if_pos s]
        refine ⟨k', by omega, ?_⟩
        rw [← k2]
        refine (congrArg (fun z => (F_L_come fu k).2.2 36 37 39 (nI v) (nI d) a6 (nI (bits (cs (σ 0 0) (Sd σ (σ 7) v) (ez σ (σ 7)) d a n) (σ 0 0 + 2))) a8 (nI z) (nI p) (nI (q + 1)) (enc A I)) (bits_congr (σ 0 0 + 2) fun i _ => ?_))
        rw [mid_up, Bool.eq_false_iff.mpr s, Bool.false_and, Bool.and_false, Bool.and_false, Bool.or_false]
    · rw [if_neg z]
      refine ⟨k, by omega, ?_⟩
      rw [bits_congr (σ 0 0 + 2) (fun i hi => mid_next (q := q) (Or.inr (by rw [Bool.eq_false_iff.mpr z, Bool.false_and])))]
theorem come_p (hf : 1000 ≤ fu) (h : LB σ A) {v d a n : Nat} (hv : v ≤ 9) (hd : d ≤ 9) (a6 a8 : Int32) : ∀ m p k, p + m = σ 0 0 + 2 → 11 * m < k → ∃ k', k ≤ k' + 11 * m + 1 ∧
    (F_L_come fu k).2.1 36 37 39 (nI v) (nI d) a6 (nI (bits (cs (σ 0 0) (Sd σ (σ 7) v) (ez σ (σ 7)) d a n) (σ 0 0 + 2))) a8 (nI (bits (mid (σ 0 0) (Sd σ (σ 7) v) (ez σ (σ 7)) d a n p 0) (σ 0 0 + 2))) (nI p) (enc A I) =
    (F_L_come fu k').1 36 37 39 (nI v) (nI d) a6 (nI (bits (cs (σ 0 0) (Sd σ (σ 7) v) (ez σ (σ 7)) d a (n + 1)) (σ 0 0 + 2))) (a8 + 1) (enc A I) := by
  have hn : σ 0 0 ≤ 7 := h.1.2.1
  intro m
  induction m with
  | zero =>
    intro p k hp hk
    obtain ⟨k, rfl⟩ : ∃ j, k = j + 1 := ⟨k - 1, by omega⟩
    refine ⟨k, by omega, ?_⟩
    rw [F_L_come]
    dsimp only
    simp only [h.b0, Option.bind_some, nI_two, n_lt (show p < 2147483648 by omega) (show σ 0 0 + 2 < 2147483648 by omega)]
    rw [if_neg (by omega), show p = σ 0 0 + 2 by omega]
    rw [bits_congr (σ 0 0 + 2) (fun i _ => mid_N (j := i))]
  | succ m ih =>
    intro p k hp hk
    obtain ⟨k, rfl⟩ : ∃ j, k = j + 1 := ⟨k - 1, by omega⟩
    rw [F_L_come]
    dsimp only
    simp only [h.b0, Option.bind_some, nI_two, n_lt (show p < 2147483648 by omega) (show σ 0 0 + 2 < 2147483648 by omega)]
    rw [if_pos (show p < σ 0 0 + 2 by omega)]
    obtain ⟨k1, x1, x2⟩ := come_q (I := I) hf h (a := a) (n := n) hv hd (show p < σ 0 0 + 2 by omega) a6 a8 (σ 0 0 + 2) 0 k (by omega) (by omega)
    obtain ⟨k2, y1, y2⟩ := ih (p + 1) k1 (by omega) (by omega)
    exact ⟨k2, by omega, x2.trans y2⟩
theorem come_n (hf : 1000 ≤ fu) (h : LB σ A) {v d a n : Nat} (hv : v ≤ 9) (hd : d ≤ 9) (hn9 : n ≤ 9) : ∀ m i k, i + m = n → 101 * m < k →
    (F_L_come fu k).1 36 37 39 (nI v) (nI d) (nI n) (nI (bits (cs (σ 0 0) (Sd σ (σ 7) v) (ez σ (σ 7)) d a i) (σ 0 0 + 2))) (nI i) (enc A I) =
    some (some (.int (nI (bits (cs (σ 0 0) (Sd σ (σ 7) v) (ez σ (σ 7)) d a n) (σ 0 0 + 2)))), enc A I) := by
  have hn : σ 0 0 ≤ 7 := h.1.2.1
  intro m
  induction m with
  | zero =>
    intro i k hi hk
    obtain ⟨k, rfl⟩ : ∃ j, k = j + 1 := ⟨k - 1, by omega⟩
    rw [F_L_come]
    dsimp only
    simp only [n_lt (show i < 2147483648 by omega) (show n < 2147483648 by omega)]
    rw [if_neg (by omega), show i = n by omega]
  | succ m ih =>
    intro i k hi hk
    obtain ⟨k, rfl⟩ : ∃ j, k = j + 1 := ⟨k - 1, by omega⟩
    rw [F_L_come]
    dsimp only
    simp only [n_lt (show i < 2147483648 by omega) (show n < 2147483648 by omega)]
    rw [if_pos (show i < n by omega)]
    obtain ⟨k1, x1, x2⟩ := come_p (I := I) hf h (a := a) (n := i) hv hd (nI n) (nI i) (σ 0 0 + 2) 0 k (by omega) (by omega)
    rw [bits_congr (σ 0 0 + 2) (fun j _ => mid_0 (j := j)), nI_1] at x2
    exact x2.trans (ih (i + 1) k1 (by omega) (by omega))
theorem l_come (hf : 1000 ≤ fu) (h : LB σ A) {v d a n : Nat} (hv : v ≤ 9) (hd : d ≤ 9) (ha : a ≤ σ 0 0 + 1) (hn9 : n ≤ 9) :
    U_L_come fu [.ref 36, .ref 37, .ref 39, .int (nI v), .int (nI d), .int (nI a), .int (nI n)] (enc A I) = some (some (.int (nI (bits (cs (σ 0 0) (Sd σ (σ 7) v) (ez σ (σ 7)) d a n) (σ 0 0 + 2)))), enc A I) := by
  have hn : σ 0 0 ≤ 7 := h.1.2.1
  have e : (1 : Int32) <<< (nI a &&& 31) = nI (bits (cs (σ 0 0) (Sd σ (σ 7) v) (ez σ (σ 7)) d a 0) (σ 0 0 + 2)) := by
    rw [sh_1 (show a < 31 by omega)]
    congr 1
    have := bits_orq (B := fun _ => false) (show a < σ 0 0 + 2 by omega)
    rw [bits_z (p := fun _ => false) _ (fun _ _ => rfl), Nat.zero_or] at this
    rw [this]
    exact bits_congr _ fun i _ => rfl
  rw [u_L_come, M_L_come, e]
  exact come_n hf h hv hd hn9 n 0 fu (by omega) (by omega)
/-- whether one has come so far -/
theorem come_bit (hN : σ 0 0 ≤ 7) {S : Nat → Bool} {e : Nat → Nat} {d a n q : Nat} (hq : q ≤ σ 0 0 + 1) : ((nI (bits (cs (σ 0 0) S e d a n) (σ 0 0 + 2)) >>> (nI q &&& 31)) &&& 1 = 1) = (cs (σ 0 0) S e d a n q = true) :=
  bits_has (by omega) (by omega)
theorem cs_X (hN : σ 0 0 ≤ 7) {v d : Nat} : cs (σ 0 0) (Sd σ (σ 7) v) (ez σ (σ 7)) d 0 9 (σ 0 0 + 1) = true ↔ X σ (σ 7) v d := by
  rw [cs_9 hN (by omega) (by omega), X_rea]
  exact Iff.rfl
theorem l_can (hf : 1000 ≤ fu) (h : LB σ A) {v d : Nat} (hv : v ≤ 9) (hd : d ≤ 9) :
    U_L_can fu [.ref 36, .ref 37, .ref 39, .int (nI v), .int (nI d)] (enc A I) = some (some (.int (bI (X σ (σ 7) v d))), enc A I) := by
  have hn : σ 0 0 ≤ 7 := h.1.2.1
  rw [u_L_can, M_L_can]
  have c := l_come (I := I) hf h (a := 0) (n := 9) hv hd (by omega) (by omega)
  rw [show nI 0 = (0 : Int32) from rfl, show nI 9 = (9 : Int32) from rfl] at c
  simp only [c, cI_some, h.b0, Option.bind_some, nI_1, come_bit hn (show σ 0 0 + 1 ≤ σ 0 0 + 1 by omega), cs_X hn]
  by_cases z : X σ (σ 7) v d
  · rw [if_pos z, bI_t z]; rfl
  · rw [if_neg z, bI_f z]; rfl
end CO
