section P2
theorem cnt_flip {p q : Nat → Bool} {c : Nat} (hp : p c = false) (hq : q c = true) (h : ∀ i, i ≠ c → q i = p i) : ∀ n, c < n → cnt q n = cnt p n + 1 := by
  intro n
  induction n with
  | zero => intro h; omega
  | succ n ih =>
    intro hc
    unfold cnt
    by_cases y : c = n
    · subst y
      rw [cnt_congr c (fun i hi => h i (by omega)), hp, hq]
      rfl
    · rw [ih (by omega), h n (fun z => y z.symm)]
      omega
variable {σ : SG} {A : Nat → List Int32} {I : Nat → Nat → Int32} {fu : Nat}
theorem pl_neg (r : RR σ A I) {s : Nat} (hs : s < σ 0 3) : (pl (σ 8 s) < 0) = (σ 8 s = 0 ∨ σ 8 s = 100) := by
  have hn := r.n7
  rcases r.plc hs with h | h | ⟨c, h1, h2, h3⟩
  · rw [h]; exact propext ⟨fun _ => Or.inl rfl, fun _ => by decide⟩
  · rw [h]; exact propext ⟨fun _ => Or.inr rfl, fun _ => by decide⟩
  · rw [h2, pl, if_neg (by omega), if_neg (by omega), Nat.add_sub_cancel, n_neg (by omega)]
    exact propext ⟨False.elim, fun z => by omega⟩
theorem pl_m5 (r : RR σ A I) {s : Nat} (hs : s < σ 0 3) : (pl (σ 8 s) = -5) = (σ 8 s = 100) := by
  have hn := r.n7
  rcases r.plc hs with h | h | ⟨c, h1, h2, h3⟩
  · rw [h]; exact propext ⟨fun z => absurd z (by decide), fun z => by omega⟩
  · rw [h]; exact propext ⟨fun _ => rfl, fun _ => rfl⟩
  · rw [h2, pl, if_neg (by omega), if_neg (by omega), Nat.add_sub_cancel]
    refine propext ⟨fun z => ?_, fun z => by omega⟩
    have := n_neg (show c < 2147483648 by omega)
    rw [z] at this
    exact absurd (show (-5 : Int32) < 0 by decide) (by rw [this]; exact id)
end P2

