/-! ===== way: the mathematics ===== -/
section WM
variable {N : Nat} {S : Nat → Bool} {e : Nat → Nat} {d : Nat}
theorem wk_ahead (r : Rw N S e) : ∀ L p, p ≤ N → Wk N S e d (N + 1) L p → ∃ q M, p < q ∧ q ≤ N + 1 ∧ S q = true ∧ near e d p q ∧ M + 1 ≤ L ∧ Wk N S e d (N + 1) M q := by
  intro L
  induction L using Nat.strongRecOn with
  | _ L ih =>
    intro p hp w
    cases L with
    | zero => have w' : p = N + 1 := w; omega
    | succ L =>
      obtain ⟨q, w1, k⟩ := w
      by_cases h : q < p
      · obtain ⟨M, hM, w2⟩ := w1.mono r p (by omega) k.2.1 k.2.2.1
        obtain ⟨t, M2, a, b, c, g, h2, w3⟩ := ih M (by omega) p hp w2
        exact ⟨t, M2, a, b, c, g, by omega, w3⟩
      · have hq := w1.st r.2.1 (Nat.le_refl _)
        have := k.1
        exact ⟨q, L, by omega, hq.2, hq.1, near_sym k.2.2.2, Nat.le_refl _, w1⟩
variable (N S e d)
/-- in how few strides one comes to a place from the far bank -/
def Mn (p l : Nat) : Prop := Wk N S e d (N + 1) l p ∧ ∀ L, Wk N S e d (N + 1) L p → l ≤ L
def LF (f : Nat → Nat) (p : Nat) : Prop := (f p = 99 ∧ ∀ L, ¬ Wk N S e d (N + 1) L p) ∨ (f p ≤ 8 ∧ Mn N S e d p (f p))
/-- the first place ahead that is one nearer -/
def NX (l a q : Nat) : Prop := a < q ∧ q ≤ N + 1 ∧ near e d a q ∧ Mn N S e d q l ∧ ∀ t, a < t → t < q → ¬ (near e d a t ∧ Mn N S e d t l)
def Pth (L : Nat) : Nat → Nat → Prop
  | 0, a => a = 0
  | k + 1, a => ∃ b, Pth L k b ∧ NX N S e d (L - (k + 1)) b a
variable {N S e d}
theorem Mn.uniq {p l m : Nat} (h : Mn N S e d p l) (g : Mn N S e d p m) : l = m := Nat.le_antisymm (h.2 _ g.1) (g.2 _ h.1)
theorem NX.uniq {l a q t : Nat} (h : NX N S e d l a q) (g : NX N S e d l a t) : q = t := by
  rcases Nat.lt_trichotomy q t with z | z | z
  · exact absurd ⟨h.2.2.1, h.2.2.2.1⟩ (g.2.2.2.2 q h.1 z)
  · exact z
  · exact absurd ⟨g.2.2.1, g.2.2.2.1⟩ (h.2.2.2.2 t g.1 z)
theorem Pth.uniq {L : Nat} : ∀ k {a b : Nat}, Pth N S e d L k a → Pth N S e d L k b → a = b := by
  intro k
  induction k with
  | zero => intro a b h g; have h : a = 0 := h; have g : b = 0 := g; omega
  | succ k ih =>
    rintro a b ⟨c, h1, h2⟩ ⟨c', g1, g2⟩
    have := ih h1 g1
    subst this
    exact h2.uniq g2
theorem Mn.st (r : Rw N S e) {p l : Nat} (h : Mn N S e d p l) : S p = true ∧ p ≤ N + 1 := h.1.st r.2.1 (Nat.le_refl _)
theorem Mn.end0 : Mn N S e d (N + 1) 0 := ⟨rfl, fun _ _ => Nat.zero_le _⟩
theorem Mn.lt (r : Rw N S e) {p l : Nat} (h : Mn N S e d p (l + 1)) : p ≤ N := by
  have hp := (h.st r).2
  apply Nat.le_of_not_lt
  intro z
  have e : p = N + 1 := by omega
  rw [e] at h
  have := h.2 0 rfl
  omega
theorem Mn.le (r : Rw N S e) {p l : Nat} (h : Mn N S e d p l) : l + p ≤ N + 1 := by
  obtain ⟨M, hM, w⟩ := shortN r l p h.1
  have := h.2 M w
  omega
/-- the next place is there -/
theorem NX.ex (r : Rw N S e) {a l : Nat} (h : Mn N S e d a (l + 1)) : ∃ q, NX N S e d l a q := by
  have ha := h.lt r
  obtain ⟨q, M, h1, h2, h3, h4, h5, w⟩ := wk_ahead r (l + 1) a ha h.1
  have key : ∀ t, a < t → t ≤ N + 1 → near e d a t → ∀ K, Wk N S e d (N + 1) K t → l ≤ K := fun t z1 z2 z3 K wk => by
    have := h.2 (K + 1) (wk.s ⟨by omega, by omega, (h.st r).1, near_sym z3⟩)
    omega
  have hq : Mn N S e d q l := by
    have e : M = l := by have := key q h1 h2 h4 M w; omega
    rw [e] at w
    exact ⟨w, fun L wk => key q h1 h2 h4 L wk⟩
  -- the least such
  have least : ∀ n, ∀ q, q ≤ n → a < q → q ≤ N + 1 → near e d a q → Mn N S e d q l → ∃ q, NX N S e d l a q := by
    intro n
    induction n with
    | zero => intro q h0 h1; omega
    | succ n ih =>
      intro q h0 h1 h2 h4 hq
      by_cases z : ∃ t, a < t ∧ t < q ∧ near e d a t ∧ Mn N S e d t l
      · obtain ⟨t, z1, z2, z3, z4⟩ := z
        exact ih t (by omega) z1 (by omega) z3 z4
      · exact ⟨q, h1, h2, h4, hq, fun t z1 z2 z3 => z ⟨t, z1, z2, z3.1, z3.2⟩⟩
  exact least q q (Nat.le_refl _) h1 h2 h4 hq
/-- no place behind is one nearer -/
theorem Mn.back (r : Rw N S e) {a t l : Nat} (h : Mn N S e d a (l + 1)) (ht : t ≤ a) (g : Mn N S e d t l) : False := by
  obtain ⟨M, hM, w⟩ := g.1.mono r a ht (h.st r).2 (h.st r).1
  have := h.2 M w
  omega
theorem LF.mn (f : Nat → Nat) {p l : Nat} (h : LF N S e d f p) (hl : l ≤ 8) : f p = l ↔ Mn N S e d p l := by
  rcases h with ⟨h1, h2⟩ | ⟨h1, h2⟩
  · exact ⟨fun z => by omega, fun z => absurd z.1 (h2 l)⟩
  · exact ⟨fun z => by rw [← z]; exact h2, fun z => h2.uniq z⟩
theorem LF.le {f : Nat → Nat} {p : Nat} (h : LF N S e d f p) : f p ≤ 99 := by
  rcases h with h | h <;> omega
theorem Dst.mn {f : Nat → Nat} (D : Dst N S e d (N + 1) f) {p l : Nat} (hp : p ≤ N + 1) (hl : l < 1000000) : f p = l ↔ Mn N S e d p l := by
  constructor
  · intro z
    rcases D.1 p hp with h | h
    · omega
    · rw [z] at h
      exact ⟨h.2, fun L w => by rw [← z]; exact D.2 L p w⟩
  · intro z
    have h1 := D.2 l p z.1
    rcases D.1 p hp with h | h
    · omega
    · have := z.2 _ h.2; omega
/-- by strides ahead alone -/
theorem LF.step (r : Rw N S e) (hN : N ≤ 7) {f : Nat → Nat} {p x : Nat} (hp : p ≤ N) (hf : ∀ t, p < t → t ≤ N + 1 → LF N S e d f t)
    (h1 : x = 99 ∨ ∃ t, p < t ∧ t ≤ N + 1 ∧ S p = true ∧ S t = true ∧ near e d p t ∧ f t ≤ 8 ∧ x = f t + 1)
    (h2 : ∀ t, p < t → t ≤ N + 1 → S p = true → S t = true → near e d p t → x ≤ f t + 1) : (x = 99 ∧ ∀ L, ¬ Wk N S e d (N + 1) L p) ∨ (x ≤ 8 ∧ Mn N S e d p x) := by
  have low : ∀ L, Wk N S e d (N + 1) L p → x ≤ L ∧ x ≤ 10 := fun L w => by
    obtain ⟨q, M, a1, a2, a3, a4, a5, w2⟩ := wk_ahead r L p hp w
    have := h2 q a1 a2 (w.st r.2.1 (Nat.le_refl _)).1 a3 a4
    rcases hf q a1 a2 with ⟨b1, b2⟩ | ⟨b1, b2⟩
    · exact absurd w2 (b2 M)
    · have := b2.2 M w2; omega
  rcases h1 with h1 | ⟨t, a1, a2, a3, a4, a5, a6, a7⟩
  · exact Or.inl ⟨h1, fun L w => by have := low L w; omega⟩
  · rcases hf t a1 a2 with ⟨b1, b2⟩ | ⟨b1, b2⟩
    · omega
    · have w : Wk N S e d (N + 1) x p := by
        rw [a7]
        exact b2.1.s ⟨by omega, by omega, a3, near_sym a5⟩
      have hm : Mn N S e d p x := ⟨w, fun L w => (low L w).1⟩
      have := hm.le r
      exact Or.inr ⟨by omega, hm⟩
end WM
/-! the class -/
theorem n_m1 (k : Nat) : nI k + (-1) = nI k - 1 := (Int32.sub_eq_add_neg (a := nI k) (b := 1)).symm
theorem sh_l1 {a : Nat} (h : a < 1024) : nI a <<< ((1 : Int32) &&& 31) = nI (a * 2) := sh_l (a := a) (k := 1) (by decide) (by omega)
section WC
variable {σ : SG} {A : Nat → List Int32} {I : Nat → Nat → Int32} {fu : Nat} {d : Nat}
abbrev S0 (σ : SG) : Nat → Bool := Sd σ (σ 7) (σ 0 2)
abbrev E0 (σ : SG) : Nat → Nat := ez σ (σ 7)
theorem stops_eq (r : RR σ A I) : (1 ||| nI (bits (dryB σ (σ 0 2)) (σ 0 0)) <<< ((1 : Int32) &&& 31)) ||| ((1 : Int32) <<< (nI (σ 0 0 + 1) &&& 31)) = nI (bits (S0 σ) (σ 0 0 + 2)) := by
  have hn := r.n7
  have h128 := bits_ge (p := dryB σ (σ 0 2)) hn
  rw [sh_l1 (by omega), sh_1 (by omega), show (1 : Int32) = nI 1 from rfl, n_or, n_or]
  congr 1
  refine bits_ext (n := 9) ?_ ?_ fun i hi => ?_
  · refine Nat.or_lt_two_pow (Nat.or_lt_two_pow (by decide) (by omega)) (Nat.pow_lt_pow_right (by decide) (by omega))
  · exact Nat.lt_of_lt_of_le (bits_lt _ _) (Nat.pow_le_pow_right (by omega) (by omega))
  · rw [Nat.testBit_or, Nat.testBit_or, bits_test, Nat.testBit_two_pow, show (1 : Nat) = 2 ^ 0 from rfl, Nat.testBit_two_pow, show bits (dryB σ (σ 0 2)) (σ 0 0) * 2 = bits (dryB σ (σ 0 2)) (σ 0 0) <<< 1 by rw [Nat.shiftLeft_eq], Nat.testBit_shiftLeft, bits_test]
    unfold S0 Sd dryB
    rw [Bool.eq_iff_iff]
    simp only [Bool.or_eq_true, Bool.and_eq_true, decide_eq_true_eq]
    omega
theorem ease_eq (r : RR σ A I) {p : Nat} (hp : p ≤ σ 0 0 + 1) : ((nI (bits (kndB σ 2) (σ 0 0)) <<< ((1 : Int32) &&& 31)) >>> (nI p &&& 31)) &&& 1 = nI (E0 σ p) := by
  have hn := r.n7
  have h128 := bits_ge (p := kndB σ 2) hn
  rw [sh_l1 (by omega), bit_n (by omega) (by omega)]
  congr 1
  rw [show bits (kndB σ 2) (σ 0 0) * 2 = bits (kndB σ 2) (σ 0 0) <<< 1 by rw [Nat.shiftLeft_eq], Nat.testBit_shiftLeft, bits_test]
  unfold E0 ez kndB
  by_cases h0 : p = 0 ∨ p = σ 0 0 + 1
  · rw [if_pos h0, if_neg]
    simp only [Bool.and_eq_true, decide_eq_true_eq]
    omega
  · rw [if_neg h0]
    have h2 := fun z => r.k2 (p - 1) (by omega) z
    by_cases z : σ 7 (p - 1) ≠ 0 ∧ σ 3 (σ 7 (p - 1) - 1) = 2
    · rw [if_pos z, if_pos]
      simp only [Bool.and_eq_true, decide_eq_true_eq]
      omega
    · rw [if_neg z, if_neg]
      simp only [Bool.and_eq_true, decide_eq_true_eq]
      intro w
      have := h2 w.2.2.1
      exact z ⟨w.2.2.1, by omega⟩
/-- what the way's object holds while it looks -/
def WI (σ : SG) (d : Nat) (I : Nat → Nat → Int32) : Prop := I 15 2 = nI (bits (S0 σ) (σ 0 0 + 2)) ∧ I 15 3 = nI (bits (kndB σ 2) (σ 0 0)) <<< ((1 : Int32) &&& 31) ∧ I 15 4 = nI (σ 0 0 + 1) ∧ I 15 5 = nI d
theorem c_strideW (r : RR σ A I) (w : WI σ d I) (hd : d ≤ 9) {p t : Nat} (hpt : p < t) (ht : t ≤ σ 0 0 + 1) : U_X6_isStride fu [.ref 15, .int (nI p), .int (nI t)] (enc A I) = some (some (.int (bI (S0 σ p = true ∧ S0 σ t = true ∧ near (E0 σ) d p t))), enc A I) := by
  have hn := r.n7
  obtain ⟨w1, w2, w3, w4⟩ := w
  have hb : bits (S0 σ) (σ 0 0 + 2) < 2147483648 := Nat.lt_trans (bits_lt _ _) (Nat.lt_of_le_of_lt (Nat.pow_le_pow_right (by omega) (show σ 0 0 + 2 ≤ 9 by omega)) (by decide))
  have t1 : (bits (S0 σ) (σ 0 0 + 2)).testBit p = S0 σ p := by rw [bits_test, decide_eq_true (show p < σ 0 0 + 2 by omega), Bool.true_and]
  have t2 : (bits (S0 σ) (σ 0 0 + 2)).testBit t = S0 σ t := by rw [bits_test, decide_eq_true (show t < σ 0 0 + 2 by omega), Bool.true_and]
  have e1 : E0 σ p ≤ 1 := ez1 σ (σ 7) p
  have e2 : E0 σ t ≤ 1 := ez1 σ (σ 7) t
  have z := str_pos (t - p) (by omega) (E0 σ p) (by omega) (E0 σ t) (by omega) d (by omega)
  simp only [u_X6_isStride, M_X6_isStride, io_1, gr_1_0, gr_1_1, gr_1_2, gr_1_3, gr_1_4, gr_1_5, gi_1_6, pf_1_6, gi_1_7, pf_1_7, io_2, gr_2_0, gr_2_1, gr_2_2, gr_2_3, gr_2_4, gr_2_5, gr_2_6, gr_2_7, gi_2_8, pf_2_8, gi_2_9, pf_2_9, gi_2_10, pf_2_10, gi_2_11, pf_2_11, gi_2_12, pf_2_12, gi_2_13, pf_2_13, gi_2_14, pf_2_14, io_11, gr_11_0, gr_11_1, gr_11_2, io_15, gr_15_0, gr_15_1, gi_15_2, pf_15_2, gi_15_3, pf_15_3, gi_15_4, pf_15_4, gi_15_5, pf_15_5, io_18, gr_18_0, gr_18_1, gi_18_2, pf_18_2, io_21, gr_21_0, gr_21_1, gr_21_2, gr_21_3, gi_21_4, pf_21_4, gi_21_5, pf_21_5, gi_21_6, pf_21_6, gi_21_7, pf_21_7, io_34, gr_34_0, gi_34_1, pf_34_1, al_3, al_4, al_5, al_6, al_7, al_8, al_9, al_10, al_12, al_13, al_14, al_16, al_17, al_19, al_20, al_22, al_23, al_24, al_26, al_27, al_28, al_29, al_30, al_31, al_32, al_33, al_35, ↓reduceIte, Option.bind_some, cI_some, cL_some, cV_some, rz_0, rz_1, w1, w2, w4, ease_eq r (show p ≤ σ 0 0 + 1 by omega), ease_eq r ht, c_hasn _ hb (show p < 31 by omega), c_hasn _ hb (show t < 31 by omega), t1, t2, bI_0, n_subS t (by omega) p (by omega) (by omega)]
  by_cases h1 : S0 σ p = true
  · rw [if_neg (fun y => y h1)]
    by_cases h2 : S0 σ t = true
    · rw [if_neg (fun y => y h2)]
      by_cases h3 : near (E0 σ) d p t
      · rw [if_neg (fun y => by have := z.mp y; have := h3.1 hpt; omega), bI_t ⟨h1, h2, h3⟩]
      · rw [if_pos (z.mpr (by
          apply Nat.lt_of_not_le
          intro y
          exact h3 ⟨fun _ => by omega, fun _ => by omega⟩)), bI_f (fun y => h3 y.2.2)]
    · rw [if_pos h2, bI_f (fun y => h2 y.2.1)]
  · rw [if_pos h1, bI_f (fun y => h1 y.1)]
theorem c_fewest (hf : 1000 ≤ fu) (r : RR σ A I) (w : WI σ d I) (hd : d ≤ 9) {f : Nat → Nat} {p : Nat} (hp : p ≤ σ 0 0) (h17 : ∀ t, p < t → t ≤ σ 0 0 + 1 → rd (A 17) t = nI (f t) ∧ f t ≤ 99) :
    ∃ x, x ≤ 99 ∧ (x = 99 ∨ ∃ t, p < t ∧ t ≤ σ 0 0 + 1 ∧ S0 σ p = true ∧ S0 σ t = true ∧ near (E0 σ) d p t ∧ f t < 98 ∧ x = f t + 1) ∧ (∀ t, p < t → t ≤ σ 0 0 + 1 → S0 σ p = true → S0 σ t = true → near (E0 σ) d p t → x ≤ f t + 1) ∧
      U_X6_fewestFrom fu [.ref 15, .int (nI p)] (enc A I) = some (some (.int (nI x)), enc A I) := by
  have hn := r.n7
  have l17 : (A 17).length = 9 := r.len rfl
  have loop : ∀ m t n y, t + m = σ 0 0 + 2 → m < n → p < t → y ≤ 99 → (y = 99 ∨ ∃ t, p < t ∧ t ≤ σ 0 0 + 1 ∧ S0 σ p = true ∧ S0 σ t = true ∧ near (E0 σ) d p t ∧ f t < 98 ∧ y = f t + 1) → (∀ s, p < s → s < t → S0 σ p = true → S0 σ s = true → near (E0 σ) d p s → y ≤ f s + 1) →
      ∃ x, x ≤ 99 ∧ (x = 99 ∨ ∃ t, p < t ∧ t ≤ σ 0 0 + 1 ∧ S0 σ p = true ∧ S0 σ t = true ∧ near (E0 σ) d p t ∧ f t < 98 ∧ x = f t + 1) ∧ (∀ t, p < t → t ≤ σ 0 0 + 1 → S0 σ p = true → S0 σ t = true → near (E0 σ) d p t → x ≤ f t + 1) ∧
      F_X6_fewestFrom fu n 15 (nI p) (nI y) (nI t) (enc A I) = some (some (.int (nI x)), enc A I) := by
    intro m
    induction m with
    | zero =>
      intro t n y ht hn2 hpt hy h1 h2
      obtain ⟨n, rfl⟩ : ∃ k, n = k + 1 := ⟨n - 1, by omega⟩
      refine ⟨y, hy, h1, fun s a b => h2 s a (by omega), ?_⟩
      simp only [F_X6_fewestFrom, io_1, gr_1_0, gr_1_1, gr_1_2, gr_1_3, gr_1_4, gr_1_5, gi_1_6, pf_1_6, gi_1_7, pf_1_7, io_2, gr_2_0, gr_2_1, gr_2_2, gr_2_3, gr_2_4, gr_2_5, gr_2_6, gr_2_7, gi_2_8, pf_2_8, gi_2_9, pf_2_9, gi_2_10, pf_2_10, gi_2_11, pf_2_11, gi_2_12, pf_2_12, gi_2_13, pf_2_13, gi_2_14, pf_2_14, io_11, gr_11_0, gr_11_1, gr_11_2, io_15, gr_15_0, gr_15_1, gi_15_2, pf_15_2, gi_15_3, pf_15_3, gi_15_4, pf_15_4, gi_15_5, pf_15_5, io_18, gr_18_0, gr_18_1, gi_18_2, pf_18_2, io_21, gr_21_0, gr_21_1, gr_21_2, gr_21_3, gi_21_4, pf_21_4, gi_21_5, pf_21_5, gi_21_6, pf_21_6, gi_21_7, pf_21_7, io_34, gr_34_0, gi_34_1, pf_34_1, al_3, al_4, al_5, al_6, al_7, al_8, al_9, al_10, al_12, al_13, al_14, al_16, al_17, al_19, al_20, al_22, al_23, al_24, al_26, al_27, al_28, al_29, al_30, al_31, al_32, al_33, al_35, ↓reduceIte, Option.bind_some, cI_some, cL_some, cV_some, rz_0, rz_1, w.2.2.1, n_lt (show σ 0 0 + 1 < 2147483648 by omega) (show t < 2147483648 by omega)]
      rw [if_pos (by omega)]
    | succ m ih =>
      intro t n y ht hn2 hpt hy h1 h2
      obtain ⟨n, rfl⟩ : ∃ k, n = k + 1 := ⟨n - 1, by omega⟩
      obtain ⟨v1, v2⟩ := h17 t hpt (by omega)
      have e17 : aI (enc A I) 17 (nI t) = some (nI (f t)) := by rw [ai_17 A I (by omega) (by omega), v1]
      simp only [F_X6_fewestFrom, io_1, gr_1_0, gr_1_1, gr_1_2, gr_1_3, gr_1_4, gr_1_5, gi_1_6, pf_1_6, gi_1_7, pf_1_7, io_2, gr_2_0, gr_2_1, gr_2_2, gr_2_3, gr_2_4, gr_2_5, gr_2_6, gr_2_7, gi_2_8, pf_2_8, gi_2_9, pf_2_9, gi_2_10, pf_2_10, gi_2_11, pf_2_11, gi_2_12, pf_2_12, gi_2_13, pf_2_13, gi_2_14, pf_2_14, io_11, gr_11_0, gr_11_1, gr_11_2, io_15, gr_15_0, gr_15_1, gi_15_2, pf_15_2, gi_15_3, pf_15_3, gi_15_4, pf_15_4, gi_15_5, pf_15_5, io_18, gr_18_0, gr_18_1, gi_18_2, pf_18_2, io_21, gr_21_0, gr_21_1, gr_21_2, gr_21_3, gi_21_4, pf_21_4, gi_21_5, pf_21_5, gi_21_6, pf_21_6, gi_21_7, pf_21_7, io_34, gr_34_0, gi_34_1, pf_34_1, al_3, al_4, al_5, al_6, al_7, al_8, al_9, al_10, al_12, al_13, al_14, al_16, al_17, al_19, al_20, al_22, al_23, al_24, al_26, al_27, al_28, al_29, al_30, al_31, al_32, al_33, al_35, ↓reduceIte, Option.bind_some, cI_some, cL_some, cV_some, rz_0, rz_1, w.2.2.1, n_lt (show σ 0 0 + 1 < 2147483648 by omega) (show t < 2147483648 by omega), c_strideW r w hd hpt (show t ≤ σ 0 0 + 1 by omega), bI_0, nI_1, e17]
      rw [if_neg (by omega)]
      by_cases z : S0 σ p = true ∧ S0 σ t = true ∧ near (E0 σ) d p t
      · have em : oMin [.int (nI y), .int (nI (f t + 1))] (enc A I) = some (some (.int (nI (if f t + 1 < y then f t + 1 else y))), enc A I) := by
          unfold oMin
          simp only [n_lt (show f t + 1 < 2147483648 by omega) (show y < 2147483648 by omega)]
          by_cases q : f t + 1 < y
          · rw [if_pos q, if_pos q]
          · rw [if_neg q, if_neg q]
        rw [if_neg (fun q => q z), em, cI_some]
        refine ih (t + 1) n _ (by omega) (by omega) (by omega) (by split <;> omega) ?_ (fun s a b c g h => ?_)
        · by_cases q : f t + 1 < y
          · rw [if_pos q]; exact Or.inr ⟨t, hpt, by omega, z.1, z.2.1, z.2.2, by omega, rfl⟩
          · rw [if_neg q]; exact h1
        · by_cases q2 : s = t
          · rw [q2]; split <;> omega
          · have := h2 s a (by omega) c g h
            split <;> omega
      · rw [if_pos z]
        refine ih (t + 1) n y (by omega) (by omega) (by omega) hy h1 (fun s a b c g h => ?_)
        by_cases q2 : s = t
        · rw [q2] at g h; exact absurd ⟨c, g, h⟩ z
        · exact h2 s a (by omega) c g h
  obtain ⟨x, a, b, c, g⟩ := loop (σ 0 0 + 1 - p) (p + 1) fu 99 (by omega) (by omega) (by omega) (by omega) (Or.inl rfl) (fun s a b => by omega)
  refine ⟨x, a, b, c, ?_⟩
  simp only [u_X6_fewestFrom, M_X6_fewestFrom, io_1, gr_1_0, gr_1_1, gr_1_2, gr_1_3, gr_1_4, gr_1_5, gi_1_6, pf_1_6, gi_1_7, pf_1_7, io_2, gr_2_0, gr_2_1, gr_2_2, gr_2_3, gr_2_4, gr_2_5, gr_2_6, gr_2_7, gi_2_8, pf_2_8, gi_2_9, pf_2_9, gi_2_10, pf_2_10, gi_2_11, pf_2_11, gi_2_12, pf_2_12, gi_2_13, pf_2_13, gi_2_14, pf_2_14, io_11, gr_11_0, gr_11_1, gr_11_2, io_15, gr_15_0, gr_15_1, gi_15_2, pf_15_2, gi_15_3, pf_15_3, gi_15_4, pf_15_4, gi_15_5, pf_15_5, io_18, gr_18_0, gr_18_1, gi_18_2, pf_18_2, io_21, gr_21_0, gr_21_1, gr_21_2, gr_21_3, gi_21_4, pf_21_4, gi_21_5, pf_21_5, gi_21_6, pf_21_6, gi_21_7, pf_21_7, io_34, gr_34_0, gi_34_1, pf_34_1, al_3, al_4, al_5, al_6, al_7, al_8, al_9, al_10, al_12, al_13, al_14, al_16, al_17, al_19, al_20, al_22, al_23, al_24, al_26, al_27, al_28, al_29, al_30, al_31, al_32, al_33, al_35, ↓reduceIte, Option.bind_some, cI_some, cL_some, cV_some, rz_0, rz_1, nI_1]
  exact g
end WC

