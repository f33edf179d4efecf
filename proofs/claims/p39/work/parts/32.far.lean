/-! ===== the model's crossing by machine numbers ===== -/
theorem uA_uA (A : Nat → List Int32) (k : Nat) (x y : List Int32) : uA (uA A k x) k y = uA A k y := by
  funext j
  unfold uA
  by_cases h : j = k
  · rw [if_pos h, if_pos h]
  · rw [if_neg h, if_neg h, if_neg h]
theorem uA_self (A : Nat → List Int32) (k : Nat) : uA A k (A k) = A := by
  funext j
  unfold uA
  by_cases h : j = k
  · rw [if_pos h, h]
  · rw [if_neg h]
theorem top_pos : ∀ h, h < 21 → ∀ d, d < 10 → ∀ v, v < 10 → (0 < nI h - nI d - nI v ↔ d + v < h) := by decide +kernel
theorem str_pos : ∀ a, a < 9 → ∀ x, x < 2 → ∀ y, y < 2 → ∀ d, d < 10 → (nI d < nI a - nI x - nI y ↔ d + x + y < a) := by decide +kernel
theorem n_subS : ∀ a, a < 9 → ∀ b, b < 9 → b ≤ a → nI a - nI b = nI (a - b) := by decide +kernel
theorem n_sub1 (c : Nat) : nI (c + 1) - 1 = nI c := by
  rw [← nI_1]
  exact Int32.add_sub_cancel _ _
def Sd (σ : SG) (L : Nat → Nat) (v p : Nat) : Bool := decide (p = 0 ∨ p = σ 0 0 + 1 ∨ (L (p - 1) ≠ 0 ∧ σ 1 (p - 1) + v < σ 4 (L (p - 1) - 1)))
def ez (σ : SG) (L : Nat → Nat) (p : Nat) : Nat := if p = 0 ∨ p = σ 0 0 + 1 then 0 else if L (p - 1) ≠ 0 ∧ σ 3 (L (p - 1) - 1) = 2 then 1 else 0
theorem ez1 (σ : SG) (L : Nat → Nat) (p : Nat) : ez σ L p ≤ 1 := by unfold ez; split <;> (try split) <;> omega
theorem rw_of (σ : SG) (L : Nat → Nat) (v : Nat) : Rw (σ 0 0) (Sd σ L v) (ez σ L) := by
  refine ⟨by simp [Sd], by simp [Sd], by simp [ez], by simp [ez], ez1 σ L⟩
section FR
variable {σ : SG} {A : Nat → List Int32} {I : Nat → Nat → Int32} {fu : Nat} {L : Nat → Nat} {v : Nat}
/-! the rounds -/
def sm (f : Nat → Nat) : Nat → Nat
  | 0 => 0
  | n + 1 => sm f n + f n
theorem sm_le {f g : Nat → Nat} : ∀ n, (∀ i, i < n → g i ≤ f i) → sm g n ≤ sm f n := by
  intro n
  induction n with
  | zero => intro _; exact Nat.le_refl _
  | succ n ih => intro h; have := ih (fun i hi => h i (by omega)); have := h n (by omega); unfold sm; omega
theorem sm_lt {f g : Nat → Nat} {j : Nat} : ∀ n, j < n → (∀ i, i < n → g i ≤ f i) → g j < f j → sm g n < sm f n := by
  intro n
  induction n with
  | zero => intro h; omega
  | succ n ih =>
    intro hj h hl
    unfold sm
    by_cases q : j = n
    · subst q
      have := sm_le j (fun i hi => h i (by omega))
      omega
    · have := ih (by omega) (fun i hi => h i (by omega)) hl
      have := h n (by omega)
      omega
theorem sm_cap {f : Nat → Nat} : ∀ n, (∀ i, i < n → f i ≤ 1000000) → sm f n ≤ n * 1000000 := by
  intro n
  induction n with
  | zero => intro _; exact Nat.zero_le _
  | succ n ih => intro h; have := ih (fun i hi => h i (by omega)); have := h n (by omega); unfold sm; omega
/-- the row of numbers, and that each is a walk's length -/
def FW (σ : SG) (S : Nat → Bool) (e : Nat → Nat) (d a : Nat) (xs : List Int32) (f : Nat → Nat) : Prop :=
  xs.length = 9 ∧ (∀ i, i ≤ σ 0 0 + 1 → rd xs i = nI (f i)) ∧ (∀ i, i ≤ σ 0 0 + 1 → f i = 1000000 ∨ (f i < 1000000 ∧ Wk (σ 0 0) S e d a (f i) i)) ∧ f a = 0
theorem FW.le {S : Nat → Bool} {e : Nat → Nat} {d a : Nat} {xs : List Int32} {f : Nat → Nat} (h : FW σ S e d a xs f) {i : Nat} (hi : i ≤ σ 0 0 + 1) : f i ≤ 1000000 := by
  rcases h.2.2.1 i hi with q | q <;> omega
theorem RR.sc (r : RR σ A I) {k : Nat} {xs : List Int32} (h : scrA k = true) (hl : xs.length = (A k).length) : RR σ (uA A k xs) I := (Fr.arr (Fr.rf A I) h hl).R r
def updN (f : Nat → Nat) (q x : Nat) : Nat → Nat := fun i => if i = q then x else f i
end FR

