/-! ===== texts ===== -/
def dgt (x : Int32) : Prop := 48 ≤ x ∧ x ≤ 57
/-- whether a text of m cells goes on with a code at a place -/
def gon (m p : Nat) (x : Int32) : Bool :=
  if p = 0 then decide (x = 100) else if p = m + 1 then decide (x = 59) else if p = 2 * m + 3 then decide (x = 59) else if p = m + 2 then decide (x = 98) else if p = 2 * m + 4 then decide (x = 112) else decide (48 ≤ x ∧ x ≤ 57)
def tol (v : Nat → Int32) (n : Nat) : Nat → Nat → Nat
  | 0, k => k
  | d + 1, k => if k + 1 < n ∧ (48 ≤ v (1 + k) ∧ v (1 + k) ≤ 57) then tol v n d (k + 1) else k
theorem tol_spec (v : Nat → Int32) (n : Nat) : ∀ d k, k + d = 7 → (∀ j, j < k → j + 1 < n ∧ (48 ≤ v (1 + j) ∧ v (1 + j) ≤ 57)) →
    k ≤ tol v n d k ∧ tol v n d k ≤ 7 ∧ (∀ j, j < tol v n d k → j + 1 < n ∧ (48 ≤ v (1 + j) ∧ v (1 + j) ≤ 57)) ∧ (tol v n d k = 7 ∨ ¬ (tol v n d k + 1 < n ∧ (48 ≤ v (1 + tol v n d k) ∧ v (1 + tol v n d k) ≤ 57))) := by
  intro d
  induction d with
  | zero => intro k hk h; exact ⟨Nat.le_refl _, by rw [tol]; omega, h, Or.inl (by rw [tol]; omega)⟩
  | succ d ih =>
    intro k hk h
    rw [tol]
    by_cases z : k + 1 < n ∧ (48 ≤ v (1 + k) ∧ v (1 + k) ≤ 57)
    · rw [if_pos z]
      obtain ⟨a, b, c⟩ := ih (k + 1) (by omega) (fun j hj => by
        by_cases y : j = k
        · rw [y]; exact z
        · exact h j (by omega))
      exact ⟨by omega, b, c⟩
    · rw [if_neg z]
      exact ⟨Nat.le_refl _, by omega, h, Or.inr z⟩
def mtl (v : Nat → Int32) (n : Nat) : Nat := if tol v n 7 0 < 3 then 3 else tol v n 7 0
theorem mtl_le (v : Nat → Int32) (n : Nat) : 3 ≤ mtl v n ∧ mtl v n ≤ 7 := by
  have := (tol_spec v n 7 0 (by omega) (fun j hj => by omega)).2.1
  unfold mtl
  split <;> omega
def OkT (v : Nat → Int32) (n m p : Nat) : Prop := ∀ k, k < p → k < n ∧ k < 2 * m + 6 ∧ gon m k (v k) = true
def StT (v : Nat → Int32) (n m p : Nat) : Prop := OkT v n m p ∧ (p = n ∨ p = 2 * m + 6 ∨ gon m p (v p) = false)
theorem StT.uniq {v : Nat → Int32} {n m p k : Nat} (h : StT v n m p) (g : StT v n m k) : p = k := by
  have key : ∀ {p k : Nat}, StT v n m p → StT v n m k → ¬ p < k := fun {p k} h g z => by
    obtain ⟨a, b, c⟩ := g.1 p z
    rcases h.2 with e | e | e
    · omega
    · omega
    · rw [c] at e; cases e
  have := key h g
  have := key g h
  omega
theorem OkT.s {v : Nat → Int32} {n m p : Nat} (h : OkT v n m p) (h1 : p < n) (h2 : p < 2 * m + 6) (h3 : gon m p (v p) = true) : OkT v n m (p + 1) := fun k hk => by
  by_cases y : k = p
  · rw [y]; exact ⟨h1, h2, h3⟩
  · exact h k (by omega)
theorem OkT.n {v : Nat → Int32} {n m p : Nat} (h : OkT v n m p) : p ≤ n ∧ p ≤ 2 * m + 6 := by
  cases p with
  | zero => exact ⟨Nat.zero_le _, Nat.zero_le _⟩
  | succ p => have := h p (by omega); omega
theorem gon_0 {m : Nat} {x : Int32} : gon m 0 x = decide (x = 100) := rfl
theorem gon_a {m : Nat} {x : Int32} : gon m (m + 1) x = decide (x = 59) := by unfold gon; rw [if_neg (by omega), if_pos rfl]
theorem gon_b {m : Nat} {x : Int32} (hm : 3 ≤ m) : gon m (m + 2) x = decide (x = 98) := by unfold gon; rw [if_neg (by omega), if_neg (by omega), if_neg (by omega), if_pos rfl]
theorem gon_c {m : Nat} {x : Int32} (hm : 3 ≤ m) : gon m (2 * m + 3) x = decide (x = 59) := by unfold gon; rw [if_neg (by omega), if_neg (by omega), if_pos rfl]
theorem gon_d {m : Nat} {x : Int32} (hm : 3 ≤ m) : gon m (2 * m + 4) x = decide (x = 112) := by unfold gon; rw [if_neg (by omega), if_neg (by omega), if_neg (by omega), if_neg (by omega), if_pos rfl]
theorem gon_g {m p : Nat} {x : Int32} (h0 : p ≠ 0) (h1 : p ≠ m + 1) (h2 : p ≠ m + 2) (h3 : p ≠ 2 * m + 3) (h4 : p ≠ 2 * m + 4) : gon m p x = decide (48 ≤ x ∧ x ≤ 57) := by unfold gon; rw [if_neg h0, if_neg h1, if_neg h3, if_neg h2, if_neg h4]
/-- all that is told, as numbers -/
def dig (x : Int32) : Nat := (x - 48).toNatClampNeg
theorem dig_n {x : Int32} (h : 48 ≤ x ∧ x ≤ 57) : x - 48 = nI (dig x) ∧ dig x ≤ 9 := by
  rcases n_rng x (a := 48) (b := 57) (by omega) (by omega) with ⟨j, h1, h2, rfl⟩ | z
  · have e : nI j - 48 = nI (j - 48) := by rw [show (48 : Int32) = nI 48 from rfl, pk_sub h1]
    unfold dig
    rw [e, nI_clamp (by omega)]
    exact ⟨rfl, by omega⟩
  · exact absurd h z
section Q5
variable {σ : SG} {A : Nat → List Int32} {I : Nat → Nat → Int32} {fu : Nat}
theorem c_isDigit (x : Int32) (w : XW) : U_X5_isDigit fu [.int x] w = some (some (.int (bI (48 ≤ x ∧ x ≤ 57))), w) := by
  simp only [u_X5_isDigit, M_X5_isDigit, c_within, cI_some, rz_b]
theorem n_2m (m k : Nat) : 2 * nI m + nI k = nI (2 * m + k) := by
  rw [show (2 : Int32) = nI 2 from rfl, pk_mul, nI_add]
theorem c_goesOn {m p : Nat} (hm : m ≤ 7) (hp : p ≤ 300) (x : Int32) (w : XW) : U_X5_goesOn fu [.int x, .int (nI p), .int (nI m)] w = some (some (.int (bI (gon m p x = true))), w) := by
  have e3 : 2 * nI m + 3 = nI (2 * m + 3) := n_2m m 3
  have e4 : 2 * nI m + 4 = nI (2 * m + 4) := n_2m m 4
  have e2 : nI m + 2 = nI (m + 2) := nI_add m 2
  simp only [u_X5_goesOn, M_X5_goesOn, nI_pe0 (show p < 2147483648 by omega), nI_1, e2, e3, e4, n_eq (show p < 2147483648 by omega) (show m + 1 < 2147483648 by omega), n_eq (show p < 2147483648 by omega) (show m + 2 < 2147483648 by omega), n_eq (show p < 2147483648 by omega) (show 2 * m + 3 < 2147483648 by omega), n_eq (show p < 2147483648 by omega) (show 2 * m + 4 < 2147483648 by omega), c_isDigit, cI_some, rz_b, rz_0, rz_1]
  have key : ∀ (c : Prop) [Decidable c], (if c then (some (some (.int 1), w) : Option XO) else some (some (.int 0), w)) = some (some (.int (bI (decide c = true))), w) := fun c _ => by
    by_cases z : c
    · rw [if_pos z, bI_t (decide_eq_true z)]
    · rw [if_neg z, bI_f (by rw [decide_eq_true_iff]; exact z)]
  unfold gon
  by_cases h0 : p = 0
  · rw [if_pos h0, if_pos h0]; exact key _
  · rw [if_neg h0, if_neg h0]
    by_cases h1 : p = m + 1
    · rw [if_pos h1, if_pos h1]; exact key _
    · rw [if_neg h1, if_neg h1]
      by_cases h2 : p = 2 * m + 3
      · rw [if_pos h2, if_pos h2]; exact key _
      · rw [if_neg h2, if_neg h2]
        by_cases h3 : p = m + 2
        · rw [if_pos h3, if_pos h3]; exact key _
        · rw [if_neg h3, if_neg h3]
          by_cases h4 : p = 2 * m + 4
          · rw [if_pos h4, if_pos h4]; exact key _
          · rw [if_neg h4, if_neg h4]
            by_cases z : 48 ≤ x ∧ x ≤ 57
            · rw [bI_t z, bI_t (decide_eq_true z)]
            · rw [bI_f z, bI_f (by rw [decide_eq_true_iff]; exact z)]
theorem c_atV (hL : LEN A) {q i p : Nat} {x : Int32} (h : 60 * q + i + p < 240) (hx : rd (A 14) (60 * q + i + p) = x) : U_X4_at fu [.ref 11, .int (nI q), .int (nI (i + p))] (enc A I) = some (some (.int x), enc A I) := by
  have := c_at (fu := fu) (I := I) hL (q := q) (j := i + p) (by omega)
  rw [this, ← hx, Nat.add_assoc]
theorem c_told (hf : 1000 ≤ fu) (hL : LEN A) {q i n : Nat} (hb : 60 * q + i + n ≤ 240) {v : Nat → Int32} (hv : ∀ p, p < n → rd (A 14) (60 * q + i + p) = v p) : U_X5_cellsTold fu [.ref 11, .int (nI q), .int (nI i), .int (nI n)] (enc A I) = some (some (.int (nI (mtl v n))), enc A I) := by
  have mx : ∀ k, k ≤ 7 → oMax [.int (nI k), .int 3] (enc A I) = some (some (.int (nI (if k < 3 then 3 else k))), enc A I) := fun k hk => by
    unfold oMax
    simp only [show (3 : Int32) = nI 3 from rfl, n_lt (show k < 2147483648 by omega) (show 3 < 2147483648 by decide)]
    by_cases z : k < 3
    · rw [if_pos z, if_pos z]
    · rw [if_neg z, if_neg z]
  have loop : ∀ d k N, k + d = 7 → d < N → F_X5_cellsTold fu N 11 (nI q) (nI i) (nI n) (nI k) (enc A I) = some (some (.int (nI (if tol v n d k < 3 then 3 else tol v n d k))), enc A I) := by
    intro d
    induction d with
    | zero =>
      intro k N hk hN
      obtain ⟨N, rfl⟩ : ∃ j, N = j + 1 := ⟨N - 1, by omega⟩
      have e7 : (nI k < 7) = (k < 7) := n_lt (by omega) (by decide)
      simp only [F_X5_cellsTold, e7, mx k (by omega), cI_some, tol]
      rw [if_neg (by omega)]
      rfl
    | succ d ih =>
      intro k N hk hN
      obtain ⟨N, rfl⟩ : ∃ j, N = j + 1 := ⟨N - 1, by omega⟩
      have e7 : (nI k < 7) = (k < 7) := n_lt (by omega) (by decide)
      simp only [F_X5_cellsTold, e7, nI_1, n_lt (show k + 1 < 2147483648 by omega) (show n < 2147483648 by omega)]
      rw [if_pos (by omega), tol]
      by_cases h1 : k + 1 < n
      · have ca := c_atV (fu := fu) (I := I) hL (show 60 * q + i + (1 + k) < 240 by omega) (hv (1 + k) (by omega))
        rw [if_pos h1, show nI (i + 1) + nI k = nI (i + (1 + k)) by rw [nI_add, Nat.add_assoc], ca, cI_some, c_isDigit, cI_some]
        simp only [bI_0]
        by_cases h2 : 48 ≤ v (1 + k) ∧ v (1 + k) ≤ 57
        · have hz : k + 1 < n ∧ (48 ≤ v (1 + k) ∧ v (1 + k) ≤ 57) := ⟨h1, h2⟩
          rw [if_neg (fun z => z h2), if_pos hz]
          exact ih (k + 1) N (by omega) (by omega)
        · have hz : ¬ (k + 1 < n ∧ (48 ≤ v (1 + k) ∧ v (1 + k) ≤ 57)) := fun z => h2 z.2
          rw [if_pos h2, if_neg hz, mx k (by omega)]
          rfl
      · have hz : ¬ (k + 1 < n ∧ (48 ≤ v (1 + k) ∧ v (1 + k) ≤ 57)) := fun z => h1 z.1
        rw [if_neg h1, if_neg hz, mx k (by omega)]
        rfl
  simp only [u_X5_cellsTold, M_X5_cellsTold, io_1, gr_1_0, gr_1_1, gr_1_2, gr_1_3, gr_1_4, gr_1_5, gi_1_6, pf_1_6, gi_1_7, pf_1_7, io_2, gr_2_0, gr_2_1, gr_2_2, gr_2_3, gr_2_4, gr_2_5, gr_2_6, gr_2_7, gi_2_8, pf_2_8, gi_2_9, pf_2_9, gi_2_10, pf_2_10, gi_2_11, pf_2_11, gi_2_12, pf_2_12, gi_2_13, pf_2_13, gi_2_14, pf_2_14, io_11, gr_11_0, gr_11_1, gr_11_2, io_15, gr_15_0, gr_15_1, gi_15_2, pf_15_2, gi_15_3, pf_15_3, gi_15_4, pf_15_4, gi_15_5, pf_15_5, io_18, gr_18_0, gr_18_1, gi_18_2, pf_18_2, io_21, gr_21_0, gr_21_1, gr_21_2, gr_21_3, gi_21_4, pf_21_4, gi_21_5, pf_21_5, gi_21_6, pf_21_6, gi_21_7, pf_21_7, io_34, gr_34_0, gi_34_1, pf_34_1, al_3, al_4, al_5, al_6, al_7, al_8, al_9, al_10, al_12, al_13, al_14, al_16, al_17, al_19, al_20, al_22, al_23, al_24, al_26, al_27, al_28, al_29, al_30, al_31, al_32, al_33, al_35, ↓reduceIte, Option.bind_some, cI_some, cL_some, cV_some, rz_0, rz_1]
  exact loop 7 0 fu (by omega) (by omega)
theorem c_first (hf : 1000 ≤ fu) (hL : LEN A) {q i n : Nat} (hb : 60 * q + i + n ≤ 240) {v : Nat → Int32} (hv : ∀ p, p < n → rd (A 14) (60 * q + i + p) = v p) : ∃ p, StT v n (mtl v n) p ∧ p ≤ 240 ∧ U_X5_firstFault fu [.ref 11, .int (nI q), .int (nI i), .int (nI n)] (enc A I) = some (some (.int (if p = n ∧ p = 2 * mtl v n + 6 then -1 else nI p)), enc A I) := by
  have hm := mtl_le v n
  have mn : ∀ a b, a < 300 → b < 300 → oMin [.int (nI a), .int (nI b)] (enc A I) = some (some (.int (nI (if b < a then b else a))), enc A I) := fun a b ha hb => by
    unfold oMin
    simp only [n_lt (show b < 2147483648 by omega) (show a < 2147483648 by omega)]
    by_cases z : b < a
    · rw [if_pos z, if_pos z]
    · rw [if_neg z, if_neg z]
  have loop : ∀ d p N, p + d = n → d < N → OkT v n (mtl v n) p → ∃ p', StT v n (mtl v n) p' ∧ p' ≤ 240 ∧ F_X5_firstFault fu N 11 (nI q) (nI i) (nI n) (nI (mtl v n)) (nI (2 * mtl v n + 6)) (nI p) (enc A I) = some (some (.int (if p' = n ∧ p' = 2 * mtl v n + 6 then -1 else nI p')), enc A I) := by
    intro d
    induction d with
    | zero =>
      intro p N hp hN ho
      obtain ⟨N, rfl⟩ : ∃ j, N = j + 1 := ⟨N - 1, by omega⟩
      have := ho.n
      refine ⟨p, ⟨ho, Or.inl (by omega)⟩, by omega, ?_⟩
      simp only [F_X5_firstFault, n_lt (show p < 2147483648 by omega) (show n < 2147483648 by omega), n_eq (show n < 2147483648 by omega) (show 2 * mtl v n + 6 < 2147483648 by omega)]
      rw [if_neg (by omega)]
      by_cases z : n = 2 * mtl v n + 6
      · rw [if_pos z, if_pos ⟨by omega, by omega⟩]
      · rw [if_neg z, if_neg (by omega), mn n _ (by omega) (by omega), if_neg (by omega), cI_some, show p = n by omega]
    | succ d ih =>
      intro p N hp hN ho
      obtain ⟨N, rfl⟩ : ∃ j, N = j + 1 := ⟨N - 1, by omega⟩
      have hpn := ho.n
      simp only [F_X5_firstFault, n_lt (show p < 2147483648 by omega) (show n < 2147483648 by omega), n_lt (show p < 2147483648 by omega) (show 2 * mtl v n + 6 < 2147483648 by omega), n_eq (show n < 2147483648 by omega) (show 2 * mtl v n + 6 < 2147483648 by omega)]
      rw [if_pos (by omega)]
      by_cases h1 : p < 2 * mtl v n + 6
      · have ca := c_atV (fu := fu) (I := I) hL (show 60 * q + i + p < 240 by omega) (hv p (by omega))
        rw [if_pos h1, nI_add, ca, cI_some, c_goesOn hm.2 (by omega), cI_some]
        simp only [bI_0]
        by_cases h2 : gon (mtl v n) p (v p) = true
        · rw [if_neg (fun z => z h2), nI_1]
          exact ih (p + 1) N (by omega) (by omega) (ho.s (by omega) h1 h2)
        · rw [if_pos h2]
          exact ⟨p, ⟨ho, Or.inr (Or.inr (Bool.eq_false_iff.mpr h2))⟩, by omega, by rw [if_neg (by omega)]⟩
      · refine ⟨p, ⟨ho, Or.inr (Or.inl (by omega))⟩, by omega, ?_⟩
        rw [if_neg h1, if_neg (by omega), if_neg (by omega), mn n _ (by omega) (by omega), if_pos (by omega), cI_some, show p = 2 * mtl v n + 6 by omega]
  obtain ⟨p, h1, h2, h3⟩ := loop n 0 fu (by omega) (by omega) (fun k hk => by omega)
  refine ⟨p, h1, h2, ?_⟩
  have e6 : 2 * nI (mtl v n) + 6 = nI (2 * mtl v n + 6) := n_2m _ 6
  simp only [u_X5_firstFault, M_X5_firstFault, io_1, gr_1_0, gr_1_1, gr_1_2, gr_1_3, gr_1_4, gr_1_5, gi_1_6, pf_1_6, gi_1_7, pf_1_7, io_2, gr_2_0, gr_2_1, gr_2_2, gr_2_3, gr_2_4, gr_2_5, gr_2_6, gr_2_7, gi_2_8, pf_2_8, gi_2_9, pf_2_9, gi_2_10, pf_2_10, gi_2_11, pf_2_11, gi_2_12, pf_2_12, gi_2_13, pf_2_13, gi_2_14, pf_2_14, io_11, gr_11_0, gr_11_1, gr_11_2, io_15, gr_15_0, gr_15_1, gi_15_2, pf_15_2, gi_15_3, pf_15_3, gi_15_4, pf_15_4, gi_15_5, pf_15_5, io_18, gr_18_0, gr_18_1, gi_18_2, pf_18_2, io_21, gr_21_0, gr_21_1, gr_21_2, gr_21_3, gi_21_4, pf_21_4, gi_21_5, pf_21_5, gi_21_6, pf_21_6, gi_21_7, pf_21_7, io_34, gr_34_0, gi_34_1, pf_34_1, al_3, al_4, al_5, al_6, al_7, al_8, al_9, al_10, al_12, al_13, al_14, al_16, al_17, al_19, al_20, al_22, al_23, al_24, al_26, al_27, al_28, al_29, al_30, al_31, al_32, al_33, al_35, ↓reduceIte, Option.bind_some, cI_some, cL_some, cV_some, rz_0, rz_1, c_told hf hL hb hv, u_X5_length, M_X5_length, e6]
  exact h3
/-! the model -/
end Q5

