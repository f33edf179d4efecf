section P2
theorem cnt_flip {p q : Nat → Bool} {c : Nat} (hp : p c = false) (hq : q c = true) (h : ∀ i, i ≠ c → q i = p i) : ∀ n, c < n → cnt q n = cnt p n + 1 := by
  intro n
  induction n with
  | zero => intro h; omega
  | succ n ih =>
    intro hc
    unfold cnt
    by_cases y : c = n
    · subst y
      rw [cnt_congr c (fun i hi => h i (by omega)), hp, hq]
      rfl
    · rw [ih (by omega), h n (fun z => y z.symm)]
      omega
variable {σ : SG} {A : Nat → List Int32} {I : Nat → Nat → Int32} {fu : Nat}
def plcB (σ : SG) (s : Nat) : Bool := decide (σ 8 s ≠ 0 ∧ σ 8 s ≠ 100)
theorem cnt_laid (r : RR σ A I) : ∀ k, k ≤ σ 0 3 → cnt (fun c => decide (σ 7 c ≠ 0 ∧ σ 7 c ≤ k)) (σ 0 0) = cnt (plcB σ) k := by
  have hn := r.n7
  intro k
  induction k with
  | zero =>
    intro _
    have : ∀ n, cnt (fun c => decide (σ 7 c ≠ 0 ∧ σ 7 c ≤ 0)) n = 0 := by
      intro n
      induction n with
      | zero => rfl
      | succ n ih =>
        unfold cnt
        rw [ih, if_neg (by rw [decide_eq_true_iff]; omega)]
    exact this _
  | succ k ih =>
    intro hk
    have ih := ih (by omega)
    rw [show cnt (plcB σ) (k + 1) = cnt (plcB σ) k + (if plcB σ k = true then 1 else 0) from rfl, ← ih]
    rcases r.plc (s := k) (by omega) with h | h | ⟨c, h1, h2, h3⟩
    · rw [if_neg (by unfold plcB; rw [decide_eq_true_iff]; omega), Nat.add_zero]
      refine cnt_congr _ fun i hi => decide_eq_decide.mpr ⟨fun z => ⟨z.1, ?_⟩, fun z => ⟨z.1, by omega⟩⟩
      apply Nat.le_of_not_lt
      intro q
      have := (r.row hi (show σ 7 i = k + 1 by omega)).2
      omega
    · rw [if_neg (by unfold plcB; rw [decide_eq_true_iff]; omega), Nat.add_zero]
      refine cnt_congr _ fun i hi => decide_eq_decide.mpr ⟨fun z => ⟨z.1, ?_⟩, fun z => ⟨z.1, by omega⟩⟩
      apply Nat.le_of_not_lt
      intro q
      have := (r.row hi (show σ 7 i = k + 1 by omega)).2
      omega
    · rw [if_pos (by unfold plcB; rw [decide_eq_true_iff]; omega)]
      have e : ∀ n, c < n → n ≤ σ 0 0 → cnt (fun c => decide (σ 7 c ≠ 0 ∧ σ 7 c ≤ k + 1)) n = cnt (fun c => decide (σ 7 c ≠ 0 ∧ σ 7 c ≤ k)) n + 1 := by
        intro n hcn hnn
        rw [cnt_congr n (p := fun c => decide (σ 7 c ≠ 0 ∧ σ 7 c ≤ k + 1)) (q := fun i => if i = c then true else decide (σ 7 i ≠ 0 ∧ σ 7 i ≤ k)) (fun i hi => ?_)]
        · refine cnt_flip (c := c) ?_ (if_pos rfl) (fun i hi => if_neg hi) n hcn
          rw [decide_eq_false_iff_not, h3]
          omega
        · by_cases y : i = c
          · rw [if_pos y, y, h3]
            exact decide_eq_true (by omega)
          · rw [if_neg y]
            refine decide_eq_decide.mpr ⟨fun z => ⟨z.1, ?_⟩, fun z => ⟨z.1, by omega⟩⟩
            apply Nat.le_of_not_lt
            intro q
            exact y (r.uniq (show i < σ 0 0 by omega) h1 (show σ 7 i = k + 1 by omega) h3)
      exact e _ h1 (Nat.le_refl _)
theorem pl_neg (r : RR σ A I) {s : Nat} (hs : s < σ 0 3) : (pl (σ 8 s) < 0) = (σ 8 s = 0 ∨ σ 8 s = 100) := by
  have hn := r.n7
  rcases r.plc hs with h | h | ⟨c, h1, h2, h3⟩
  · rw [h]; exact propext ⟨fun _ => Or.inl rfl, fun _ => by decide⟩
  · rw [h]; exact propext ⟨fun _ => Or.inr rfl, fun _ => by decide⟩
  · rw [h2, pl, if_neg (by omega), if_neg (by omega), Nat.add_sub_cancel, n_neg (by omega)]
    exact propext ⟨False.elim, fun z => by omega⟩
theorem pl_m5 (r : RR σ A I) {s : Nat} (hs : s < σ 0 3) : (pl (σ 8 s) = -5) = (σ 8 s = 100) := by
  have hn := r.n7
  rcases r.plc hs with h | h | ⟨c, h1, h2, h3⟩
  · rw [h]; exact propext ⟨fun z => absurd z (by decide), fun z => by omega⟩
  · rw [h]; exact propext ⟨fun _ => rfl, fun _ => rfl⟩
  · rw [h2, pl, if_neg (by omega), if_neg (by omega), Nat.add_sub_cancel]
    refine propext ⟨fun z => ?_, fun z => by omega⟩
    have := n_neg (show c < 2147483648 by omega)
    rw [z] at this
    exact absurd (show (-5 : Int32) < 0 by decide) (by rw [this]; exact id)
end P2

