/-! ===== the class's search ===== -/
section PD
variable {σ : SG} {fu d f rds : Nat} {nd : Nat → Nat}
theorem agree_S {R R' : Nat → Nat} {i : Nat} (h : R i = R' i) : Ss σ f rds R (i + 1) = Ss σ f rds R' (i + 1) ∧ ez σ R (i + 1) = ez σ R' (i + 1) := by
  unfold Ss ez
  rw [Nat.add_sub_cancel, h]
  exact ⟨rfl, rfl⟩
def GsR (σ : SG) (d f rds : Nat) (R : Nat → Nat) (c : Nat) : Nat := gp (Ss σ f rds R) (ez σ R) d c
theorem Gs_congr {R R' : Nat → Nat} (c : Nat) (h : ∀ i, i < c → R i = R' i) : GsR σ d f rds R c = GsR σ d f rds R' c := gp_congr c fun i hi => agree_S (h i hi)
theorem Gs_lt (R : Nat → Nat) (c : Nat) : GsR σ d f rds R c ≤ c + 1 + d := gp_lt (ez1 σ R) c
/-- where the search stands -/
def Pt (σ : SG) (d f rds : Nat) (R : Nat → Nat) (c : Nat) (u : Nat → Bool) : Prop :=
  okR σ R c ∧ (∀ s, u s = true ↔ ∃ i, i < c ∧ R i = s + 1) ∧ cnt u (σ 0 3) = mr R c ∧
  (∀ i, i < c → Ss σ f rds R (i + 1) = true → i + 1 ≤ GsR σ d f rds R i + ez σ R (i + 1)) ∧ (∀ i, i < c → R i ≠ 0 → syB σ f rds (R i - 1) i = true)
theorem Pt.u100 {R : Nat → Nat} {c : Nat} {u : Nat → Bool} (h : Pt σ d f rds R c u) : ∀ s, s < σ 0 3 → u s = true → σ 8 s ≠ 100 := fun s _ hu => by
  obtain ⟨i, hi, hr⟩ := (h.2.1 s).mp hu
  have := (h.1.1 i hi (by omega)).2
  rw [hr, Nat.add_sub_cancel] at this
  exact this
theorem updN_c (R : Nat → Nat) (c x : Nat) : updN R c x c = x := if_pos rfl
theorem updN_o (R : Nat → Nat) {c i : Nat} (x : Nat) (h : i ≠ c) : updN R c x i = R i := if_neg h
theorem Pt.none {R : Nat → Nat} {c : Nat} {u : Nat → Bool} (hc : c < σ 0 0) (h : Pt σ d f rds R c u) : Pt σ d f rds (updN R c 0) (c + 1) u := by
  obtain ⟨h1, h2, h3, h4, h5⟩ := h
  have ag : ∀ i, i < c → updN R c 0 i = R i := fun i hi => updN_o R 0 (by omega)
  refine ⟨⟨fun i hi hr => ?_, fun i j a b hr => ?_⟩, fun s => ?_, ?_, fun i hi hs => ?_, fun i hi hr => ?_⟩
  · by_cases y : i = c
    · rw [y, updN_c] at hr; exact absurd rfl hr
    · rw [ag i (by omega)] at hr ⊢; exact h1.1 i (by omega) hr
  · rw [ag i (by omega)] at hr ⊢
    by_cases y : j = c
    · rw [y, updN_c]; exact hr
    · rw [ag j (by omega)]; exact h1.2 i j a (by omega) hr
  · rw [h2]
    constructor
    · rintro ⟨i, a, b⟩
      exact ⟨i, by omega, by rw [ag i a]; exact b⟩
    · rintro ⟨i, a, b⟩
      by_cases y : i = c
      · rw [y, updN_c] at b; omega
      · rw [ag i (by omega)] at b; exact ⟨i, by omega, b⟩
  · rw [h3, mr, updN_c, if_pos rfl, mr_congr c ag]; rfl
  · by_cases y : i = c
    · rw [y, Ss_c hc, updN_c] at hs
      simp at hs
    · have e := agree_S (σ := σ) (f := f) (rds := rds) (ag i (by omega))
      rw [e.1] at hs
      rw [e.2, Gs_congr i (fun j hj => ag j (by omega))]
      exact h4 i (by omega) hs
  · by_cases y : i = c
    · rw [y, updN_c] at hr; exact absurd rfl hr
    · rw [ag i (by omega)] at hr ⊢; exact h5 i (by omega) hr
theorem Ss_x {R : Nat → Nat} {c s : Nat} (hc : c < σ 0 0) (h : R c = s + 1) : Ss σ f rds R (c + 1) = syB σ f rds s c ∧ ez σ R (c + 1) = esN σ s := by
  refine ⟨?_, ?_⟩
  · rw [Ss_c hc, h, Nat.add_sub_cancel, decide_eq_true (Nat.succ_ne_zero s), Bool.true_and]
  · rw [ez_c hc (by omega), h, Nat.add_sub_cancel]; rfl
theorem Pt.stone {R : Nat → Nat} {c s : Nat} {u : Nat → Bool} (hc : c < σ 0 0) (h : Pt σ d f rds R c u) (hs : s < σ 0 3) (h100 : σ 8 s ≠ 100) (hu : u s = false) (hy : syB σ f rds s c = true) (hn1 : c + 1 ≤ GsR σ d f rds R c + esN σ s) :
    Pt σ d f rds (updN R c (s + 1)) (c + 1) (fun t => u t || decide (t = s)) := by
  obtain ⟨h1, h2, h3, h4, h5⟩ := h
  have ag : ∀ i, i < c → updN R c (s + 1) i = R i := fun i hi => updN_o R _ (by omega)
  have eC := Ss_x (σ := σ) (f := f) (rds := rds) hc (updN_c R c (s + 1))
  have nou : ∀ i, i < c → R i ≠ s + 1 := fun i hi z => by
    have := (h2 s).mpr ⟨i, hi, z⟩
    rw [hu] at this; cases this
  refine ⟨⟨fun i hi hr => ?_, fun i j a b hr => ?_⟩, fun t => ?_, ?_, fun i hi hs2 => ?_, fun i hi hr => ?_⟩
  · by_cases y : i = c
    · rw [y, updN_c, Nat.add_sub_cancel]; exact ⟨hs, h100⟩
    · rw [ag i (by omega)] at hr ⊢; exact h1.1 i (by omega) hr
  · rw [ag i (by omega)] at hr ⊢
    by_cases y : j = c
    · rw [y, updN_c]; exact nou i (by omega)
    · rw [ag j (by omega)]; exact h1.2 i j a (by omega) hr
  · rw [Bool.or_eq_true, decide_eq_true_iff, h2]
    constructor
    · rintro (⟨i, a, b⟩ | y)
      · exact ⟨i, by omega, by rw [ag i a]; exact b⟩
      · exact ⟨c, by omega, by rw [updN_c, y]⟩
    · rintro ⟨i, a, b⟩
      by_cases y : i = c
      · rw [y, updN_c] at b; exact Or.inr (by omega)
      · rw [ag i (by omega)] at b; exact Or.inl ⟨i, by omega, b⟩
  · rw [mr, updN_c, if_neg (Nat.succ_ne_zero s), mr_congr c ag, ← h3]
    exact cnt_flip (c := s) hu (by simp) (fun i hi => by simp [hi]) _ hs
  · by_cases y : i = c
    · rw [y, eC.2, Gs_congr c ag]
      exact hn1
    · have e := agree_S (σ := σ) (f := f) (rds := rds) (ag i (by omega))
      rw [e.1] at hs2
      rw [e.2, Gs_congr i (fun j hj => ag j (by omega))]
      exact h4 i (by omega) hs2
  · by_cases y : i = c
    · rw [y, updN_c, Nat.add_sub_cancel]; exact hy
    · rw [ag i (by omega)] at hr ⊢; exact h5 i (by omega) hr
/-- rows that go on so -/
def Cm (R : Nat → Nat) (c : Nat) (R' : Nat → Nat) : Prop := ∀ i, i < c → R' i = R i
/-- what a row that does for a plan tells of each of its cells -/
theorem Vd.near (hw : WF σ) {R : Nat → Nat} (h : Vd σ d f rds R) : (∀ i, i < σ 0 0 → Ss σ f rds R (i + 1) = true → i + 1 ≤ GsR σ d f rds R i + ez σ R (i + 1)) ∧ σ 0 0 + 1 ≤ GsR σ d f rds R (σ 0 0) := by
  have h1 := h.stay hw
  rw [grN_gp] at h1
  exact h1
theorem cd_better {b R : Nat → Nat} (h : ¬ (wr σ b (σ 0 0) < wr σ R (σ 0 0) ∨ (wr σ R (σ 0 0) = wr σ b (σ 0 0) ∧ mr b (σ 0 0) < mr R (σ 0 0)))) (hn : σ 0 0 ≤ 7) (hl : lx R (σ 0 0) < lx b (σ 0 0)) : cdR σ R ≤ cdR σ b := by
  have h5 := mr_le b (σ 0 0)
  have h6 := mr_le R (σ 0 0)
  unfold cdR ky
  generalize lx b (σ 0 0) = x at *
  generalize lx R (σ 0 0) = y at *
  generalize wr σ b (σ 0 0) = w1 at *
  generalize wr σ R (σ 0 0) = w2 at *
  generalize mr b (σ 0 0) = m1 at *
  generalize mr R (σ 0 0) = m2 at *
  omega
end PD
