section P7
variable {σ : SG} {A : Nat → List Int32} {I : Nat → Nat → Int32} {fu : Nat}
/-- a stretch of noughts -/
def zed (xs : List Int32) (a : Nat) : Nat → List Int32
  | 0 => xs
  | k + 1 => (zed xs a k).set (a + k) 0
theorem zed_l (xs : List Int32) (a : Nat) : ∀ k, (zed xs a k).length = xs.length := by
  intro k
  induction k with
  | zero => rfl
  | succ k ih => unfold zed; rw [List.length_set]; exact ih
theorem zed_in (xs : List Int32) (a : Nat) : ∀ k, a + k ≤ xs.length → ∀ i, a ≤ i → i < a + k → rd (zed xs a k) i = 0 := by
  intro k
  induction k with
  | zero => intro _ i h1 h2; omega
  | succ k ih =>
    intro hl i h1 h2
    unfold zed
    rw [rd_set _ _ (by rw [zed_l]; omega)]
    by_cases y : i = a + k
    · rw [if_pos y]
    · rw [if_neg y]; exact ih (by omega) i h1 (by omega)
theorem zed_out (xs : List Int32) (a : Nat) : ∀ k, ∀ i, (i < a ∨ a + k ≤ i) → rd (zed xs a k) i = rd xs i := by
  intro k
  induction k with
  | zero => intro i _; rfl
  | succ k ih =>
    intro i h
    unfold zed
    rw [rd_oob i _ (by omega)]
    exact ih i (by omega)
theorem c_fill14 (hf : 1000 ≤ fu) (h14 : (A 14).length = 240) {a m : Nat} (hm : a + m ≤ 240) : U_J7_fill_fda19 fu [.ref 14, .int (nI a), .int (nI (a + m)), .int 0] (enc A I) = some (none, enc (uA A 14 (zed (A 14) a m)) I) := by
  have loop : ∀ d k n, k + d = m → d < n → F_J7_fill_fda19 fu n 14 (nI (a + m)) 0 (nI (a + k)) (enc (uA A 14 (zed (A 14) a k)) I) = some (none, enc (uA A 14 (zed (A 14) a m)) I) := by
    intro d
    induction d with
    | zero =>
      intro k n hk hn
      obtain ⟨n, rfl⟩ : ∃ j, n = j + 1 := ⟨n - 1, by omega⟩
      simp only [F_J7_fill_fda19, n_lt (show a + k < 2147483648 by omega) (show a + m < 2147483648 by omega)]
      rw [if_neg (by omega), show k = m by omega]
    | succ d ih =>
      intro k n hk hn
      obtain ⟨n, rfl⟩ : ∃ j, n = j + 1 := ⟨n - 1, by omega⟩
      have e := si_14 (uA A 14 (zed (A 14) a k)) I 0 (show a + k < _ by rw [uA_s, zed_l]; omega) (show a + k < 2147483648 by omega)
      rw [uA_s, uA_uA] at e
      simp only [F_J7_fill_fda19, n_lt (show a + k < 2147483648 by omega) (show a + m < 2147483648 by omega), nI_1]
      rw [if_pos (by omega), e]
      exact ih (k + 1) n (by omega) (by omega)
  have hal : aL (enc A I) 14 = some (nI 240) := by rw [al_14, h14]; rfl
  simp only [u_J7_fill_fda19, M_J7_fill_fda19, hal, Option.bind_some, u_J7_rangeCheck_23922, M_J7_rangeCheck_23922, n_lt (show a + m < 2147483648 by omega) (show a < 2147483648 by omega), n_neg (show a < 2147483648 by omega), if_false, n_lt (show 240 < 2147483648 by omega) (show a + m < 2147483648 by omega)]
  rw [if_neg (by omega), if_neg (by omega), cV_some]
  have := loop m 0 fu (by omega) (by omega)
  have e0 : uA A 14 (zed (A 14) a 0) = A := uA_self A 14
  rw [e0] at this
  exact this
end P7

