/-! ===== the law's own helpers over b, t, laid ===== -/
def lo (k : Nat) : Int32 := if k = 0 then -1 else nI (k - 1)
theorem lo_neg {k : Nat} (hk : k ≤ 100) : (lo k < 0) = (k = 0) := by
  unfold lo
  by_cases h : k = 0
  · rw [if_pos h]; exact propext ⟨fun _ => h, fun _ => by decide⟩
  · rw [if_neg h, n_neg (by omega)]; exact propext ⟨fun w => w.elim, fun w => h w⟩
theorem lo_s (s : Nat) : lo (s + 1) = nI s := rfl
section LH
variable {σ : SG} {A : Nat → List Int32} {I : Nat → Nat → Int32} {fu : Nat}
/-- what the law's arrays tell -/
def LB (σ : SG) (A : Nat → List Int32) : Prop :=
  WF σ ∧ (A 40).length = 4 ∧ (A 36).length = 16 ∧ (A 37).length = 24 ∧ (A 38).length = 3 ∧ (A 39).length = 7 ∧
  rd (A 36) 0 = nI (σ 0 0) ∧ (∀ c, c < σ 0 0 → rd (A 36) (2 + c) = nI (σ 1 c)) ∧ (∀ k, k < σ 0 3 → rd (A 37) k = nI (σ 3 k) ∧ rd (A 37) (6 + k) = nI (σ 4 k)) ∧
  (∀ x, x < 3 → rd (A 38) x = nI (σ 10 x)) ∧ ∀ c, c < σ 0 0 → rd (A 39) c = lo (σ 7 c)
theorem LB.b0 (h : LB σ A) : aI (enc A I) 36 0 = some (nI (σ 0 0)) := by
  obtain ⟨h0, h1, h2, h3, h4, h5, h6, -⟩ := h
  exact (ai_36 (j := 0) (by omega) (by omega) (by omega)).trans (by rw [h6])
theorem LB.b2 (h : LB σ A) {c : Nat} (hc : c < σ 0 0) : aI (enc A I) 36 (nI (2 + c)) = some (nI (σ 1 c)) := by
  obtain ⟨h0, h1, h2, h3, h4, h5, h6, h7, -⟩ := h
  have hn : σ 0 0 ≤ 7 := h0.2.1
  exact (ai_36 (by omega) (by omega) (by omega)).trans (by rw [h7 c hc])
theorem LB.t0 (h : LB σ A) {k : Nat} (hk : k < σ 0 3) : aI (enc A I) 37 (nI k) = some (nI (σ 3 k)) ∧ aI (enc A I) 37 (nI (6 + k)) = some (nI (σ 4 k)) := by
  obtain ⟨h0, h1, h2, h3, h4, h5, h6, h7, h8, -⟩ := h
  have hm : σ 0 3 ≤ 6 := h0.2.2.2.2.1
  exact ⟨(ai_37 (by omega) (by omega) (by omega)).trans (by rw [(h8 k hk).1]), (ai_37 (by omega) (by omega) (by omega)).trans (by rw [(h8 k hk).2])⟩
theorem LB.s0 (h : LB σ A) {x : Nat} (hx : x < 3) : aI (enc A I) 38 (nI x) = some (nI (σ 10 x)) := by
  obtain ⟨h0, h1, h2, h3, h4, h5, h6, h7, h8, h9, -⟩ := h
  exact (ai_38 (by omega) (by omega) (by omega)).trans (by rw [h9 x hx])
theorem LB.l0 (h : LB σ A) {c : Nat} (hc : c < σ 0 0) : aI (enc A I) 39 (nI c) = some (lo (σ 7 c)) := by
  obtain ⟨h0, h1, h2, h3, h4, h5, h6, h7, h8, h9, h10⟩ := h
  have hn : σ 0 0 ≤ 7 := h0.2.1
  exact (ai_39 (by omega) (by omega) (by omega)).trans (by rw [h10 c hc])
theorem LB.row (h : LB σ A) {c s : Nat} (hc : c < σ 0 0) (hs : σ 7 c = s + 1) : s < σ 0 3 := (h.1.2.2.2.2.2.2.2.2.2.2.1 c hc s hs).1
theorem LB.le (h : LB σ A) {c : Nat} (hc : c < σ 0 0) : σ 7 c ≤ 6 := by
  have hm : σ 0 3 ≤ 6 := h.1.2.2.2.2.1
  cases hk : σ 7 c with
  | zero => omega
  | succ s => have := h.row hc hk; omega
theorem lt_n (a b : Nat) : (1 : Int32) + nI a = nI (1 + a) ∧ (6 : Int32) + nI b = nI (6 + b) := ⟨by rw [show (1 : Int32) = nI 1 from rfl, nI_add], by rw [show (6 : Int32) = nI 6 from rfl, nI_add]⟩
theorem l_stands (h : LB σ A) {v p : Nat} (hv : v ≤ 9) (hp : p ≤ σ 0 0 + 1) : U_L_stands fu [.ref 36, .ref 37, .ref 39, .int (nI v), .int (nI p)] (enc A I) = some (some (.int (bI (Sd σ (σ 7) v p = true))), enc A I) := by
  have hn : σ 0 0 ≤ 7 := h.1.2.1
  rw [u_L_stands, M_L_stands]
  simp only [nI_pe0 (show p < 2147483648 by omega), h.b0, Option.bind_some, nI_1, n_eq (show p < 2147483648 by omega) (show σ 0 0 + 1 < 2147483648 by omega)]
  unfold Sd
  by_cases z : p = 0
  · rw [if_pos z, bI_t (decide_eq_true (Or.inl z))]; rfl
  · rw [if_neg z]
    by_cases y : p = σ 0 0 + 1
    · rw [if_pos y, bI_t (decide_eq_true (Or.inr (Or.inl y)))]; rfl
    · obtain ⟨c, rfl⟩ : ∃ c, p = c + 1 := ⟨p - 1, by omega⟩
      have hc : c < σ 0 0 := by omega
      rw [if_neg y]
      simp only [n_sub1, h.l0 hc, Option.bind_some, lo_neg (show σ 7 c ≤ 100 by have := h.le hc; omega), Nat.add_sub_cancel]
      by_cases w : σ 7 c = 0
      · rw [if_pos w, bI_f (by rw [decide_eq_true_iff]; omega)]; rfl
      · obtain ⟨s, hs⟩ : ∃ s, σ 7 c = s + 1 := ⟨σ 7 c - 1, by omega⟩
        have hsM := h.row hc hs
        have hst := h.1.2.2.2.2.2.2.2.2.1 s hsM
        have hcl := h.1.2.2.2.2.2.2.2.1 c hc
        rw [if_neg w]
        simp only [hs, lo_s, (lt_n 0 s).2, (h.t0 hsM).2, Option.bind_some, (lt_n (c + 1) 0).1, show 1 + (c + 1) = 2 + c by omega, h.b2 hc, nI_add, n_lt (show σ 1 c + v < 2147483648 by omega) (show σ 4 s < 2147483648 by omega), Nat.add_sub_cancel]
        by_cases q : σ 1 c + v < σ 4 s
        · rw [if_pos q, bI_t (decide_eq_true (Or.inr (Or.inr ⟨by omega, q⟩)))]; rfl
        · rw [if_neg q, bI_f (by rw [decide_eq_true_iff]; omega)]; rfl
/-- what a table takes off -/
theorem l_goes1 (h : LB σ A) {p q d : Nat} (hp : p ≤ σ 0 0 + 1) (x : Int32) (n : Nat) : (F_L_goes fu (n + 1)).1 36 37 39 (nI d) (nI p) (nI q) x (enc A I) = (F_L_goes fu n).2.1 36 37 39 (nI d) (nI q) (if ez σ (σ 7) p = 1 then x + (-1) else x) (enc A I) := by
  have hn : σ 0 0 ≤ 7 := h.1.2.1
  rw [F_L_goes]
  dsimp only
  simp only [nI_0lt (show p < 2147483648 by omega), h.b0, Option.bind_some, n_lt (show σ 0 0 < 2147483648 by omega) (show p < 2147483648 by omega)]
  unfold ez
  by_cases z : p = 0
  · rw [if_neg (by omega), if_pos (Or.inl z), if_neg (by decide)]
  · rw [if_pos (by omega)]
    by_cases y : p = σ 0 0 + 1
    · rw [if_pos (by omega), if_pos (Or.inr y), if_neg (by decide)]
    · obtain ⟨c, rfl⟩ : ∃ c, p = c + 1 := ⟨p - 1, by omega⟩
      have hc : c < σ 0 0 := by omega
      rw [if_neg (by omega), if_neg (show ¬ (c + 1 = 0 ∨ c + 1 = σ 0 0 + 1) by omega)]
      simp only [n_sub1, h.l0 hc, Option.bind_some, lo_neg (show σ 7 c ≤ 100 by have := h.le hc; omega), Nat.add_sub_cancel]
      by_cases w : σ 7 c = 0
      · rw [if_pos w, if_neg (show ¬ (σ 7 c ≠ 0 ∧ σ 3 (σ 7 c - 1) = 2) by omega), if_neg (by decide)]
      · obtain ⟨s, hs⟩ : ∃ s, σ 7 c = s + 1 := ⟨σ 7 c - 1, by omega⟩
        have hsM := h.row hc hs
        have hst := h.1.2.2.2.2.2.2.2.2.1 s hsM
        have e2 : (nI (σ 3 s) = 2) = (σ 3 s = 2) := n_eq (by omega) (by decide)
        rw [if_neg w]
        simp only [hs, lo_s, (h.t0 hsM).1, Option.bind_some, e2, Nat.add_sub_cancel]
        by_cases g : σ 3 s = 2
        · rw [if_pos g, if_pos (show s + 1 ≠ 0 ∧ σ 3 s = 2 from ⟨by omega, g⟩), if_pos rfl]
        · have e4 : (if s + 1 ≠ 0 ∧ σ 3 s = 2 then 1 else 0) = 0 := if_neg (fun z => g z.2)
          rw [if_neg g, e4, if_neg (by decide)]
theorem l_goes2 (h : LB σ A) {q d : Nat} (hq : q ≤ σ 0 0 + 1) (x : Int32) (n : Nat) : (F_L_goes fu (n + 1)).2.1 36 37 39 (nI d) (nI q) x (enc A I) = (F_L_goes fu n).2.2 (nI d) (if ez σ (σ 7) q = 1 then x + (-1) else x) (enc A I) := by
  have hn : σ 0 0 ≤ 7 := h.1.2.1
  rw [F_L_goes]
  dsimp only
  simp only [nI_0lt (show q < 2147483648 by omega), h.b0, Option.bind_some, n_lt (show σ 0 0 < 2147483648 by omega) (show q < 2147483648 by omega)]
  unfold ez
  by_cases z : q = 0
  · rw [if_neg (by omega), if_pos (Or.inl z), if_neg (by decide)]
  · rw [if_pos (by omega)]
    by_cases y : q = σ 0 0 + 1
    · rw [if_pos (by omega), if_pos (Or.inr y), if_neg (by decide)]
    · obtain ⟨c, rfl⟩ : ∃ c, q = c + 1 := ⟨q - 1, by omega⟩
      have hc : c < σ 0 0 := by omega
      rw [if_neg (by omega), if_neg (show ¬ (c + 1 = 0 ∨ c + 1 = σ 0 0 + 1) by omega)]
      simp only [n_sub1, h.l0 hc, Option.bind_some, lo_neg (show σ 7 c ≤ 100 by have := h.le hc; omega), Nat.add_sub_cancel]
      by_cases w : σ 7 c = 0
      · rw [if_pos w, if_neg (show ¬ (σ 7 c ≠ 0 ∧ σ 3 (σ 7 c - 1) = 2) by omega), if_neg (by decide)]
      · obtain ⟨s, hs⟩ : ∃ s, σ 7 c = s + 1 := ⟨σ 7 c - 1, by omega⟩
        have hsM := h.row hc hs
        have hst := h.1.2.2.2.2.2.2.2.2.1 s hsM
        have e2 : (nI (σ 3 s) = 2) = (σ 3 s = 2) := n_eq (by omega) (by decide)
        rw [if_neg w]
        simp only [hs, lo_s, (h.t0 hsM).1, Option.bind_some, e2, Nat.add_sub_cancel]
        by_cases g : σ 3 s = 2
        · rw [if_pos g, if_pos (show s + 1 ≠ 0 ∧ σ 3 s = 2 from ⟨by omega, g⟩), if_pos rfl]
        · have e4 : (if s + 1 ≠ 0 ∧ σ 3 s = 2 then 1 else 0) = 0 := if_neg (fun z => g z.2)
          rw [if_neg g, e4, if_neg (by decide)]
theorem go_num : ∀ k, k < 9 → ∀ e, e < 3 → ∀ d, d < 10 → (nI d < nI k + (if e = 0 then 0 else if e = 1 then -1 else -2) ↔ d + e < k) := by decide +kernel
theorem l_goes (hf : 1000 ≤ fu) (h : LB σ A) {p q d : Nat} (hd : d ≤ 9) (hp : p ≤ σ 0 0 + 1) (hq : q ≤ σ 0 0 + 1) : U_L_goes fu [.ref 36, .ref 37, .ref 39, .int (nI d), .int (nI p), .int (nI q)] (enc A I) = some (some (.int (bI (near (ez σ (σ 7)) d p q))), enc A I) := by
  have hn : σ 0 0 ≤ 7 := h.1.2.1
  have e1 := (rw_of σ (σ 7) 0).2.2.2.2
  have ep := e1 p
  have eq := e1 q
  obtain ⟨n, hfu⟩ : ∃ n, fu = n + 3 := ⟨fu - 3, by omega⟩
  have key : ∀ k, k < 9 → (k = q - p ∨ k = p - q) → (p < q → k = q - p) → (q < p → k = p - q) → (F_L_goes fu fu).1 36 37 39 (nI d) (nI p) (nI q) (nI k) (enc A I) = some (some (.int (bI (near (ez σ (σ 7)) d p q))), enc A I) := fun k hk _ h1 h2 => by
    rw [show F_L_goes fu fu = F_L_goes fu (n + 2 + 1) by rw [← hfu], l_goes1 h hp, l_goes2 h hq, F_L_goes]
    dsimp only
    have e3 : (if ez σ (σ 7) q = 1 then (if ez σ (σ 7) p = 1 then nI k + (-1) else nI k) + (-1) else (if ez σ (σ 7) p = 1 then nI k + (-1) else nI k)) = nI k + (if ez σ (σ 7) p + ez σ (σ 7) q = 0 then 0 else if ez σ (σ 7) p + ez σ (σ 7) q = 1 then -1 else -2) := by
      have a1 : ez σ (σ 7) p = 0 ∨ ez σ (σ 7) p = 1 := by omega
      have a2 : ez σ (σ 7) q = 0 ∨ ez σ (σ 7) q = 1 := by omega
      rcases a1 with a1 | a1 <;> rcases a2 with a2 | a2 <;> rw [a1, a2]
      · rw [if_neg (by decide), if_neg (by decide), if_pos (by decide), Int32.add_zero]
      · rw [if_pos rfl, if_neg (by decide), if_neg (by decide), if_pos (by decide)]
      · rw [if_neg (by decide), if_pos rfl, if_neg (by decide), if_pos (by decide)]
      · rw [if_pos rfl, if_pos rfl, if_neg (by decide), if_neg (by decide), Int32.add_assoc]; rfl
    rw [e3]
    have gn := go_num k hk (ez σ (σ 7) p + ez σ (σ 7) q) (by omega) d (by omega)
    by_cases z : d + (ez σ (σ 7) p + ez σ (σ 7) q) < k
    · rw [if_pos (gn.mpr z), bI_f (fun w => by
        rcases Nat.lt_or_ge p q with y | y
        · have := w.1 y; have := h1 y; omega
        · rcases Nat.lt_or_ge q p with y2 | y2
          · have := w.2 y2; have := h2 y2; omega
          · omega)]
      rfl
    · rw [if_neg (fun w => z (gn.mp w)), bI_t ⟨fun y => by have := h1 y; omega, fun y => by have := h2 y; omega⟩]
      rfl
  rw [u_L_goes, M_L_goes]
  simp only [n_lt (show p < 2147483648 by omega) (show q < 2147483648 by omega)]
  by_cases z : p < q
  · rw [if_pos z, pk_sub (show p ≤ q by omega)]
    exact key (q - p) (by omega) (Or.inl rfl) (fun _ => rfl) (fun w => by omega)
  · rw [if_neg z, pk_sub (show q ≤ p by omega)]
    exact key (p - q) (by omega) (Or.inr rfl) (fun w => by omega) (fun _ => rfl)
end LH
