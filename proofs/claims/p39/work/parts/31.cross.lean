/-! ===== crossing: the mathematics of strides over a row ===== -/
section CM
variable (N : Nat) (S : Nat → Bool) (e : Nat → Nat) (d : Nat)
/-- near enough for one stride; places: 0 the near bank, c + 1 a cell, N + 1 the far bank -/
abbrev near (p q : Nat) : Prop := (p < q → q ≤ p + e p + e q + d) ∧ (q < p → p ≤ q + e p + e q + d)
def edge (p q : Nat) : Prop := p ≠ q ∧ q ≤ N + 1 ∧ S q = true ∧ near e d p q
def Wk (a : Nat) : Nat → Nat → Prop
  | 0, p => p = a
  | L + 1, q => ∃ p, Wk a L p ∧ edge N S e d p q
/-- what always holds of a row's stands and eases -/
def Rw : Prop := S 0 = true ∧ S (N + 1) = true ∧ e 0 = 0 ∧ e (N + 1) = 0 ∧ ∀ p, e p ≤ 1
def rea (p : Nat) : Prop := ∃ L, Wk N S e d 0 L p
variable {N S e d}
theorem Wk.z {a : Nat} : Wk N S e d a 0 a := rfl
theorem Wk.s {a L p q : Nat} (h : Wk N S e d a L p) (k : edge N S e d p q) : Wk N S e d a (L + 1) q := ⟨p, h, k⟩
theorem Wk.ind {a : Nat} {P : Nat → Nat → Prop} (hz : P 0 a) (hs : ∀ L p q, Wk N S e d a L p → edge N S e d p q → P L p → P (L + 1) q) : ∀ {L p : Nat}, Wk N S e d a L p → P L p := by
  intro L
  induction L with
  | zero => intro p h; have h : p = a := h; subst h; exact hz
  | succ L ih => rintro q ⟨p, g, k⟩; exact hs L p q g k (ih g)
theorem near_sym {p q : Nat} (h : near e d p q) : near e d q p := ⟨fun k => by have := h.2 k; omega, fun k => by have := h.1 k; omega⟩
theorem Wk.st {a L p : Nat} (ha : S a = true) (hn : a ≤ N + 1) (h : Wk N S e d a L p) : S p = true ∧ p ≤ N + 1 := by
  cases L with
  | zero => have h : p = a := h; subst h; exact ⟨ha, hn⟩
  | succ L => obtain ⟨_, _, g⟩ := h; exact ⟨g.2.2.1, g.2.1⟩
theorem Wk.rev {a L p : Nat} (ha : S a = true) (hn : a ≤ N + 1) (h : Wk N S e d a L p) : ∀ b M, Wk N S e d b M p → Wk N S e d b (M + L) a := by
  refine Wk.ind (P := fun L p => ∀ b M, Wk N S e d b M p → Wk N S e d b (M + L) a) ?_ ?_ h
  · intro b M g; exact g
  · intro L p q g k ih b M j
    have hp := g.st ha hn
    have := ih b (M + 1) (Wk.s j ⟨fun q => k.1 q.symm, hp.2, hp.1, near_sym k.2.2.2⟩)
    rw [show M + (L + 1) = M + 1 + L by omega]
    exact this
/-- who goes over a place could stop there -/
theorem Wk.over (r : Rw N S e) {L p : Nat} (h : Wk N S e d 0 L p) : ∀ q, 1 ≤ q → q ≤ p → ∃ t, t < q ∧ rea N S e d t ∧ q ≤ t + e t + e q + d := by
  refine Wk.ind (P := fun L p => ∀ q, 1 ≤ q → q ≤ p → ∃ t, t < q ∧ rea N S e d t ∧ q ≤ t + e t + e q + d) ?_ ?_ h
  · intro q h1 h2; omega
  · intro L p q g k ih b h1 h2
    by_cases hb : b ≤ p
    · exact ih b h1 hb
    · refine ⟨p, by omega, ⟨L, g⟩, ?_⟩
      have h := k.2.2.2.1 (by omega)
      have hb1 := r.2.2.2.2 b
      have hq1 := r.2.2.2.2 q
      by_cases hq : b = q
      · subst hq; exact h
      · omega
/-- from farther on it is never more strides to the far bank -/
theorem Wk.mono (r : Rw N S e) {L p : Nat} (h : Wk N S e d (N + 1) L p) : ∀ q, p ≤ q → q ≤ N + 1 → S q = true → ∃ M, M ≤ L ∧ Wk N S e d (N + 1) M q := by
  refine Wk.ind (P := fun L p => ∀ q, p ≤ q → q ≤ N + 1 → S q = true → ∃ M, M ≤ L ∧ Wk N S e d (N + 1) M q) ?_ ?_ h
  · intro q h1 h2 _; exact ⟨0, Nat.le_refl _, by rw [show q = N + 1 by omega]; exact .z⟩
  · intro L p q g k ih b h1 h2 hs
    by_cases hb : p ≤ b
    · obtain ⟨M, hM, w⟩ := ih b hb h2 hs
      exact ⟨M, by omega, w⟩
    · by_cases hq : q = b
      · subst hq; exact ⟨L + 1, Nat.le_refl _, .s g k⟩
      · have h := k.2.2.2.2 (by omega)
        have hq1 := r.2.2.2.2 q
        refine ⟨L + 1, Nat.le_refl _, .s g ⟨by omega, h2, hs, fun z => by omega, fun _ => ?_⟩⟩
        omega
variable (S e d)
/-- the class's way: how far one comes, counted from the near bank -/
def gr : Nat → Nat → Nat → Nat
  | 0, _, G => G
  | m + 1, c, G => if S (c + 1) = true then (if G + e (c + 1) < c + 1 then G else gr m (c + 1) (c + 1 + e (c + 1) + d)) else gr m (c + 1) G
variable {S e d}
theorem Rw.wlt (r : Rw N S e) {b G : Nat} (hS : ∀ q, q < b → S q = true → q ≤ N → q + e q + d ≤ G) (hb : G + e b < b) (hbN : b ≤ N) {L p : Nat} (h : Wk N S e d 0 L p) : p < b := by
  refine Wk.ind (P := fun L p => p < b) ?_ ?_ h
  · omega
  · intro L p q g k ih
    apply Nat.lt_of_not_le
    intro hq
    have hp := g.st r.1 (by omega)
    have h1 := hS p ih hp.1 (by omega)
    have h2 := k.2.2.2.1 (by omega)
    have hq1 := r.2.2.2.2 q
    by_cases z : q = b
    · subst z; omega
    · omega
theorem gr_spec (r : Rw N S e) : ∀ m c G, m + c = N → (∃ p, p ≤ c ∧ rea N S e d p ∧ G = p + e p + d) → (∀ q, q ≤ c → S q = true → rea N S e d q) → (∀ q, q ≤ c → S q = true → q + e q + d ≤ G) →
    (∃ p, p ≤ N ∧ rea N S e d p ∧ gr S e d m c G = p + e p + d) ∧ (∀ q, q ≤ N → rea N S e d q → q + e q + d ≤ gr S e d m c G) ∧ (∀ q, q ≤ N → S q = true → q ≤ gr S e d m c G + e q → rea N S e d q) := by
  intro m
  induction m with
  | zero =>
    intro c G hm h1 h2 h3
    have : c = N := by omega
    subst this
    exact ⟨h1, fun q hq ⟨L, hr⟩ => h3 q hq (hr.st r.1 (by omega)).1, fun q hq hs _ => h2 q hq hs⟩
  | succ m ih =>
    intro c G hm h1 h2 h3
    unfold gr
    by_cases hs : S (c + 1) = true
    · rw [if_pos hs]
      by_cases hg : G + e (c + 1) < c + 1
      · rw [if_pos hg]
        have hlt : ∀ q, rea N S e d q → q < c + 1 := fun q ⟨L, w⟩ => r.wlt (G := G) (fun t ht hst _ => h3 t (by omega) hst) hg (by omega) w
        refine ⟨?_, fun q hq hr => h3 q (by have := hlt q hr; omega) ?_, fun q hq hst hle => ?_⟩
        · obtain ⟨p, a, b, z⟩ := h1; exact ⟨p, by omega, b, z⟩
        · obtain ⟨L, w⟩ := hr; exact (w.st r.1 (by omega)).1
        · by_cases hc : q ≤ c
          · exact h2 q hc hst
          · have hq1 := r.2.2.2.2 q
            by_cases z : q = c + 1
            · subst z; omega
            · omega
      · rw [if_neg hg]
        have hreach : rea N S e d (c + 1) := by
          obtain ⟨p, a, ⟨L, w⟩, z⟩ := h1
          exact ⟨L + 1, .s w ⟨by omega, by omega, hs, fun _ => by omega, fun _ => by omega⟩⟩
        refine ih (c + 1) _ (by omega) ⟨c + 1, Nat.le_refl _, hreach, rfl⟩ (fun q hq hst => ?_) (fun q hq hst => ?_)
        · by_cases z : q = c + 1
          · subst z; exact hreach
          · exact h2 q (by omega) hst
        · by_cases z : q = c + 1
          · subst z; exact Nat.le_refl _
          · have hq1 := r.2.2.2.2 q
            omega
    · rw [if_neg hs]
      refine ih (c + 1) G (by omega) ?_ (fun q hq hst => ?_) (fun q hq hst => ?_)
      · obtain ⟨p, a, b, z⟩ := h1; exact ⟨p, by omega, b, z⟩
      · by_cases z : q = c + 1
        · subst z; exact absurd hst hs
        · exact h2 q (by omega) hst
      · by_cases z : q = c + 1
        · subst z; exact absurd hst hs
        · exact h3 q (by omega) hst
variable (N S e d)
def grN : Nat := gr S e d N 0 d
variable {N S e d}
theorem grN_spec (r : Rw N S e) : (∃ p, p ≤ N ∧ rea N S e d p ∧ grN N S e d = p + e p + d) ∧ (∀ q, q ≤ N → rea N S e d q → q + e q + d ≤ grN N S e d) ∧ (∀ q, q ≤ N → S q = true → q ≤ grN N S e d + e q → rea N S e d q) := by
  have h0 : rea N S e d 0 := ⟨0, .z⟩
  refine gr_spec r N 0 d (by omega) ⟨0, Nat.le_refl _, h0, by rw [r.2.2.1]; omega⟩ (fun q hq _ => ?_) (fun q hq _ => ?_)
  · rw [show q = 0 by omega]; exact h0
  · rw [show q = 0 by omega, r.2.2.1]; omega
/-- one comes across just where the class's number says so -/
theorem grN_cross (r : Rw N S e) : N + 1 ≤ grN N S e d ↔ rea N S e d (N + 1) := by
  obtain ⟨⟨p, hp, ⟨L, w⟩, hg⟩, h2, h3⟩ := grN_spec (d := d) r
  constructor
  · intro h
    exact ⟨L + 1, .s w ⟨by omega, by omega, r.2.1, fun _ => by rw [r.2.2.2.1]; omega, fun _ => by omega⟩⟩
  · rintro ⟨L, w⟩
    cases L with
    | zero => have w : N + 1 = 0 := w; omega
    | succ L =>
      obtain ⟨p, g, k⟩ := w
      have hp := g.st r.1 (by omega)
      have hp2 : p ≤ N := by have := k.1; omega
      have := h2 p hp2 ⟨_, g⟩
      have k2 := k.2.2.2.1 (by omega)
      rw [r.2.2.2.1] at k2
      omega
/-- a place where nobody stands is near by the class's number just where it is near to a place that one comes to -/
theorem grN_near (r : Rw N S e) {q : Nat} (h1 : 1 ≤ q) (hq : q ≤ N) (hs : S q = false) : q ≤ grN N S e d + e q ↔ ∃ p, p ≤ N ∧ p ≠ q ∧ rea N S e d p ∧ near e d p q := by
  obtain ⟨⟨p, hp, ⟨L, w⟩, hg⟩, h2, h3⟩ := grN_spec (d := d) r
  constructor
  · intro h
    by_cases hpq : p < q
    · exact ⟨p, hp, by omega, ⟨L, w⟩, fun _ => by omega, fun _ => by omega⟩
    · obtain ⟨t, ht, hr, hn⟩ := w.over r q h1 (by omega)
      exact ⟨t, by omega, by omega, hr, fun _ => hn, fun _ => by omega⟩
  · rintro ⟨p, hp, hpq, hr, hn⟩
    by_cases hlt : p < q
    · have := h2 p hp hr
      have := hn.1 hlt
      omega
    · obtain ⟨L, w⟩ := hr
      obtain ⟨t, ht, hr, hn⟩ := w.over r q h1 (by omega)
      have := h2 t (by omega) hr
      omega
/-- one who comes across comes to every stand, from both banks -/
theorem cross_all (r : Rw N S e) (h : rea N S e d (N + 1)) {q : Nat} (hq : q ≤ N + 1) (hs : S q = true) : rea N S e d q ∧ ∃ M, Wk N S e d (N + 1) M q := by
  have h' := h
  obtain ⟨L, w⟩ := h
  refine ⟨?_, ?_⟩
  · by_cases z : q = N + 1
    · rw [z]; exact h'
    · have g := (grN_cross r).mpr h'
      exact (grN_spec r).2.2 q (by omega) hs (by omega)
  · have w2 := w.rev r.1 (by omega) (N + 1) 0 .z
    obtain ⟨M, _, w3⟩ := w2.mono r q (by omega) hq hs
    exact ⟨M, w3⟩
theorem cross_of (r : Rw N S e) {q L M : Nat} (h : Wk N S e d 0 L q) (g : Wk N S e d (N + 1) M q) : rea N S e d (N + 1) :=
  ⟨_, g.rev r.2.1 (by omega) 0 L h⟩
/-- who goes farther comes wherever the other does -/
theorem Wk.more {d2 : Nat} (hd : d ≤ d2) {a L p : Nat} (h : Wk N S e d a L p) : Wk N S e d2 a L p := by
  refine Wk.ind (P := fun L p => Wk N S e d2 a L p) ?_ ?_ h
  · exact .z
  · intro L p q g k ih
    exact .s ih ⟨k.1, k.2.1, k.2.2.1, fun z => by have := k.2.2.2.1 z; omega, fun z => by have := k.2.2.2.2 z; omega⟩
theorem rea.more {d2 : Nat} (hd : d ≤ d2) {p : Nat} (h : rea N S e d p) : rea N S e d2 p := by
  obtain ⟨L, w⟩ := h; exact ⟨L, w.more hd⟩
/-- the numbers at the end of the model's rounds -/
def Dst (N : Nat) (S : Nat → Bool) (e : Nat → Nat) (d a : Nat) (f : Nat → Nat) : Prop :=
  (∀ p, p ≤ N + 1 → f p = 1000000 ∨ (f p < 1000000 ∧ Wk N S e d a (f p) p)) ∧ ∀ L p, Wk N S e d a L p → f p ≤ L
theorem Dst.iff {a : Nat} {f : Nat → Nat} (D : Dst N S e d a f) {p : Nat} (hp : p ≤ N + 1) (hb : ∀ L, Wk N S e d a L p → ∃ M, M < 1000000 ∧ Wk N S e d a M p) : f p < 1000000 ↔ ∃ L, Wk N S e d a L p := by
  constructor
  · intro h
    rcases D.1 p hp with q | q
    · omega
    · exact ⟨_, q.2⟩
  · rintro ⟨L, w⟩
    obtain ⟨M, hM, w2⟩ := hb L w
    have := D.2 M p w2
    omega
end CM

