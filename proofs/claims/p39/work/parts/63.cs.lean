/-! ===== who comes where in so many strides at most ===== -/
section CS
variable (N : Nat) (S : Nat → Bool) (e : Nat → Nat) (d a : Nat)
def nearB (p q : Nat) : Bool := decide (near e d p q)
def cs : Nat → Nat → Bool
  | 0, q => decide (q = a)
  | n + 1, q => cs n q || (List.range (N + 2)).any (fun p => cs n p && (S q && nearB e d p q))
variable {N S e d a}
theorem cs_up {n q : Nat} (h : cs N S e d a n q = true) : cs N S e d a (n + 1) q = true := by
  rw [cs, h]; rfl
theorem cs_up2 {q : Nat} : ∀ m n, cs N S e d a n q = true → cs N S e d a (n + m) q = true := by
  intro m
  induction m with
  | zero => intro n h; exact h
  | succ m ih => intro n h; exact cs_up (ih n h)
theorem cs_wk : ∀ n q, q ≤ N + 1 → (cs N S e d a n q = true → ∃ L, L ≤ n ∧ Wk N S e d a L q) := by
  intro n
  induction n with
  | zero =>
    intro q _ h
    unfold cs at h
    rw [decide_eq_true_iff] at h
    exact ⟨0, Nat.le_refl _, h⟩
  | succ n ih =>
    intro q hq h
    rw [cs, Bool.or_eq_true, List.any_eq_true] at h
    rcases h with h | ⟨p, hp, h⟩
    · obtain ⟨L, h1, h2⟩ := ih q hq h
      exact ⟨L, by omega, h2⟩
    · rw [List.mem_range] at hp
      rw [Bool.and_eq_true, Bool.and_eq_true] at h
      obtain ⟨h1, h2, h3⟩ := h
      unfold nearB at h3
      rw [decide_eq_true_iff] at h3
      obtain ⟨L, w1, w2⟩ := ih p (by omega) h1
      by_cases z : p = q
      · rw [← z]; exact ⟨L, by omega, w2⟩
      · exact ⟨L + 1, by omega, w2.s ⟨z, hq, h2, h3⟩⟩
theorem wk_cs (ha : a ≤ N + 1) : ∀ n q L, L ≤ n → Wk N S e d a L q → cs N S e d a n q = true := by
  intro n
  induction n with
  | zero =>
    intro q L hL w
    have : L = 0 := by omega
    subst this
    have w : q = a := w
    unfold cs
    exact decide_eq_true w
  | succ n ih =>
    intro q L hL w
    by_cases z : L ≤ n
    · exact cs_up (ih q L z w)
    · have e1 : L = n + 1 := by omega
      subst e1
      obtain ⟨p, w1, k⟩ := w
      have hp : p ≤ N + 1 := by
        cases n with
        | zero => have w1 : p = a := w1; omega
        | succ n => obtain ⟨_, _, g⟩ := w1; exact g.2.1
      have h1 := ih p n (Nat.le_refl _) w1
      rw [cs, Bool.or_eq_true, List.any_eq_true]
      refine Or.inr ⟨p, List.mem_range.mpr (by omega), ?_⟩
      unfold nearB
      rw [h1, k.2.2.1, decide_eq_true k.2.2.2]
      rfl
theorem cs_iff (ha : a ≤ N + 1) {n q : Nat} (hq : q ≤ N + 1) : cs N S e d a n q = true ↔ ∃ L, L ≤ n ∧ Wk N S e d a L q :=
  ⟨cs_wk n q hq, fun ⟨L, h1, h2⟩ => wk_cs ha n q L h1 h2⟩
theorem cnt_mono {p q : Nat → Bool} : ∀ n, (∀ i, i < n → p i = true → q i = true) → cnt p n ≤ cnt q n ∧ (cnt q n ≤ cnt p n → ∀ i, i < n → p i = q i) := by
  intro n
  induction n with
  | zero => intro _; exact ⟨Nat.le_refl _, fun _ i hi => by omega⟩
  | succ n ih =>
    intro h
    obtain ⟨h1, h2⟩ := ih (fun i hi => h i (by omega))
    rw [cnt, cnt]
    by_cases z : p n = true
    · rw [if_pos z, if_pos (h n (by omega) z)]
      refine ⟨by omega, fun hc i hi => ?_⟩
      by_cases y : i = n
      · rw [y, z, h n (by omega) z]
      · exact h2 (by omega) i (by omega)
    · rw [if_neg z]
      by_cases w : q n = true
      · rw [if_pos w]
        exact ⟨by omega, fun hc => by omega⟩
      · rw [if_neg w]
        refine ⟨by omega, fun hc i hi => ?_⟩
        by_cases y : i = n
        · rw [y, Bool.eq_false_iff.mpr z, Bool.eq_false_iff.mpr w]
        · exact h2 (by omega) i (by omega)
/-- at some step nothing new is reached, and then never more -/
theorem cs_next {n : Nat} (h : ∀ q, q < N + 2 → cs N S e d a n q = cs N S e d a (n + 1) q) {q : Nat} (hq : q < N + 2) : cs N S e d a (n + 1) q = cs N S e d a (n + 2) q := by
  rw [show cs N S e d a (n + 2) q = (cs N S e d a (n + 1) q || (List.range (N + 2)).any (fun p => cs N S e d a (n + 1) p && (S q && nearB e d p q))) from rfl]
  have e1 : (List.range (N + 2)).any (fun p => cs N S e d a (n + 1) p && (S q && nearB e d p q)) = (List.range (N + 2)).any (fun p => cs N S e d a n p && (S q && nearB e d p q)) := by
    rw [Bool.eq_iff_iff, List.any_eq_true, List.any_eq_true]
    constructor
    · rintro ⟨p, hp, h1⟩; exact ⟨p, hp, by rw [h p (List.mem_range.mp hp)]; exact h1⟩
    · rintro ⟨p, hp, h1⟩; exact ⟨p, hp, by rw [← h p (List.mem_range.mp hp)]; exact h1⟩
  rw [e1, show cs N S e d a (n + 1) q = (cs N S e d a n q || (List.range (N + 2)).any (fun p => cs N S e d a n p && (S q && nearB e d p q))) from rfl, Bool.or_assoc, Bool.or_self]
theorem cs_still {n : Nat} (h : ∀ q, q < N + 2 → cs N S e d a n q = cs N S e d a (n + 1) q) : ∀ m q, q < N + 2 → cs N S e d a (n + m) q = cs N S e d a n q := by
  have key : ∀ m, ∀ q, q < N + 2 → cs N S e d a (n + m) q = cs N S e d a (n + m + 1) q := by
    intro m
    induction m with
    | zero => exact h
    | succ m ih => intro q hq; exact cs_next ih hq
  intro m
  induction m with
  | zero => intro q _; rfl
  | succ m ih => intro q hq; rw [← ih q hq]; exact (key m q hq).symm
theorem cs_grow (ha : a ≤ N + 1) : ∀ n, (∃ m, m ≤ n ∧ ∀ q, q < N + 2 → cs N S e d a m q = cs N S e d a (m + 1) q) ∨ n + 1 ≤ cnt (cs N S e d a n) (N + 2) := by
  intro n
  induction n with
  | zero =>
    refine Or.inr ?_
    apply Nat.lt_of_not_le
    intro h
    have h0 := (cnt_mono (p := fun _ => false) (q := cs N S e d a 0) (N + 2) (fun i _ h => (by cases h))).2 (by omega) a (by omega)
    unfold cs at h0
    rw [decide_eq_true rfl] at h0
    cases h0
  | succ n ih =>
    rcases ih with ⟨m, h1, h2⟩ | h
    · exact Or.inl ⟨m, by omega, h2⟩
    · obtain ⟨h1, h2⟩ := cnt_mono (p := cs N S e d a n) (q := cs N S e d a (n + 1)) (N + 2) (fun i _ h => cs_up h)
      by_cases z : cnt (cs N S e d a (n + 1)) (N + 2) ≤ cnt (cs N S e d a n) (N + 2)
      · exact Or.inl ⟨n, by omega, h2 z⟩
      · exact Or.inr (by omega)
/-- in nine strides one has come wherever one comes -/
theorem cs_9 (hN : N ≤ 7) (ha : a ≤ N + 1) {q : Nat} (hq : q ≤ N + 1) : cs N S e d a 9 q = true ↔ ∃ L, Wk N S e d a L q := by
  refine ⟨fun h => (cs_wk 9 q hq h).imp fun L h => h.2, fun ⟨L, w⟩ => ?_⟩
  rcases cs_grow (S := S) (e := e) (d := d) ha 9 with ⟨m, h1, h2⟩ | h
  · have st := cs_still h2
    have h3 := wk_cs ha (m + L) q L (by omega) w
    rw [st L q (by omega)] at h3
    rw [show 9 = m + (9 - m) by omega, st (9 - m) q (by omega)]
    exact h3
  · have := cnt_le (cs N S e d a 9) (N + 2)
    omega
end CS
