/-! ===== plans: the mathematics ===== -/
section PM
variable {N : Nat} {S S' : Nat → Bool} {e e' : Nat → Nat} {d : Nat}
/-- with more stands one comes at least as far -/
theorem Wk.sub (h0 : S 0 = true) (h : ∀ p, p ≤ N + 1 → S p = true → S' p = true ∧ e p = e' p) {L p : Nat} (w : Wk N S e d 0 L p) : Wk N S' e' d 0 L p := by
  refine (Wk.ind (P := fun L p => Wk N S' e' d 0 L p ∧ S p = true ∧ p ≤ N + 1) ⟨.z, h0, Nat.zero_le _⟩ (fun L p q w g ih => ?_) w).1
  refine ⟨ih.1.s ⟨g.1, g.2.1, (h q g.2.1 g.2.2.1).1, ?_⟩, g.2.2.1, g.2.1⟩
  unfold near
  rw [← (h p ih.2.2 ih.2.1).2, ← (h q g.2.1 g.2.2.1).2]
  exact g.2.2.2
variable (S e d)
/-- how far one comes by the first cells, if each stand is near -/
def gp : Nat → Nat
  | 0 => d
  | c + 1 => if S (c + 1) = true then c + 1 + e (c + 1) + d else gp c
variable {S e d}
theorem gr_gp : ∀ m c, m + c = N → (N + 1 ≤ gr S e d m c (gp S e d c) ↔ (∀ i, c ≤ i → i < N → S (i + 1) = true → i + 1 ≤ gp S e d i + e (i + 1)) ∧ N + 1 ≤ gp S e d N) := by
  intro m
  induction m with
  | zero => intro c hc; rw [gr, show c = N by omega]; exact ⟨fun h => ⟨fun i a b => by omega, h⟩, fun h => h.2⟩
  | succ m ih =>
    intro c hc
    have nx := ih (c + 1) (by omega)
    rw [gr]
    by_cases z : S (c + 1) = true
    · have eg : gp S e d (c + 1) = c + 1 + e (c + 1) + d := if_pos z
      rw [if_pos z]
      rw [eg] at nx
      by_cases y : gp S e d c + e (c + 1) < c + 1
      · rw [if_pos y]
        constructor
        · intro h; omega
        · intro h
          have := h.1 c (Nat.le_refl _) (by omega) z
          omega
      · rw [if_neg y]
        refine nx.trans ⟨fun h => ⟨fun i a b g => ?_, h.2⟩, fun h => ⟨fun i a b g => h.1 i (by omega) b g, h.2⟩⟩
        by_cases w : i = c
        · subst w; omega
        · exact h.1 i (by omega) b g
    · have eg : gp S e d (c + 1) = gp S e d c := if_neg z
      rw [if_neg z]
      rw [eg] at nx
      refine nx.trans ⟨fun h => ⟨fun i a b g => ?_, h.2⟩, fun h => ⟨fun i a b g => h.1 i (by omega) b g, h.2⟩⟩
      by_cases w : i = c
      · rw [w] at g; exact absurd g z
      · exact h.1 i (by omega) b g
theorem grN_gp : N + 1 ≤ grN N S e d ↔ (∀ i, i < N → S (i + 1) = true → i + 1 ≤ gp S e d i + e (i + 1)) ∧ N + 1 ≤ gp S e d N := by
  refine (gr_gp (S := S) (e := e) (d := d) N 0 (by omega)).trans ⟨fun h => ⟨fun i b g => h.1 i (Nat.zero_le _) b g, h.2⟩, fun h => ⟨fun i _ b g => h.1 i b g, h.2⟩⟩
theorem gp_congr : ∀ c, (∀ i, i < c → S (i + 1) = S' (i + 1) ∧ e (i + 1) = e' (i + 1)) → gp S e d c = gp S' e' d c := by
  intro c
  induction c with
  | zero => intro _; rfl
  | succ c ih =>
    intro h
    rw [gp, gp, ih (fun i hi => h i (by omega)), (h c (by omega)).1, (h c (by omega)).2]
theorem gp_lt (he : ∀ p, e p ≤ 1) : ∀ c, gp S e d c ≤ c + 1 + d := by
  intro c
  induction c with
  | zero => rw [gp]; omega
  | succ c ih =>
    rw [gp]
    have := he (c + 1)
    split <;> omega
end PM
section PN
variable (σ : SG) (d f rds : Nat)
abbrev gG (c : Nat) : Bool := σ 9 c == 1
def dg (x : Nat) : Nat := if x = 0 then 6 else x - 1
def wr (R : Nat → Nat) : Nat → Nat
  | 0 => 0
  | c + 1 => wr R c + (if R c = 0 then 0 else wk σ (R c - 1) c)
def mr (R : Nat → Nat) : Nat → Nat
  | 0 => 0
  | c + 1 => mr R c + (if R c = 0 then 0 else 1)
def lx (R : Nat → Nat) : Nat → Nat
  | 0 => 0
  | c + 1 => lx R c * 7 + dg (R c)
def ky (R : Nat → Nat) (c : Nat) : Nat := wr σ R c * 100 + mr R c
def cdR (R : Nat → Nat) : Nat := ky σ R (σ 0 0) * 1000000 + lx R (σ 0 0)
/-- what lies of a row behind the flood -/
def Lb (R : Nat → Nat) (c : Nat) : Nat := if (fl σ R (gG σ) f rds).1 c = true then R c else 0
/-- a stone dry in a cell that may stand there behind the flood -/
def syB (s c : Nat) : Bool := decide (σ 1 c + σ 0 2 < σ 4 s) && decide (rds * mor σ (gG σ) f (fun _ => false) c < hold σ s)
def Ss (R : Nat → Nat) (p : Nat) : Bool := decide (p = 0 ∨ p = σ 0 0 + 1) || (decide (R (p - 1) ≠ 0) && syB σ f rds (R (p - 1) - 1) (p - 1))
def okR (R : Nat → Nat) (c : Nat) : Prop := (∀ i, i < c → R i ≠ 0 → R i - 1 < σ 0 3 ∧ σ 8 (R i - 1) ≠ 100) ∧ ∀ i j, i < j → j < c → R i ≠ 0 → R i ≠ R j
def Vd (R : Nat → Nat) : Prop := okR σ R (σ 0 0) ∧ X σ R (σ 0 2) d ∧ (rds = 0 ∨ X σ (Lb σ f rds R) (σ 0 2) d)
variable {σ d f rds}
theorem mor_alone {gB : Nat → Bool} (st : Nat → Bool) (c : Nat) : mor σ gB f (fun _ => false) c ≤ mor σ gB f st c := by
  have h : frc σ f (fun _ => false) c ≤ frc σ f st c := by
    unfold frc
    have e1 : (if 0 < c ∧ false = true then 1 else 0) = 0 := if_neg (fun z => Bool.false_ne_true z.2)
    have e2 : (if c + 1 < σ 0 0 ∧ false = true then 1 else 0) = 0 := if_neg (fun z => Bool.false_ne_true z.2)
    rw [e1, e2]
    exact Nat.add_le_add_left (Nat.zero_le _) _
  unfold mor
  have h2 : frc σ f (fun _ => false) c / 2 ≤ frc σ f st c / 2 := Nat.div_le_div_right h
  split <;> omega
theorem fl_alone {R : Nat → Nat} {gB : Nat → Bool} : ∀ k c, (fl σ R gB f k).1 c = true → k * mor σ gB f (fun _ => false) c ≤ (fl σ R gB f k).2.1 c := by
  intro k
  induction k with
  | zero => intro c _; rw [Nat.zero_mul]; exact Nat.zero_le _
  | succ k ih =>
    intro c h
    have h1 : (fl σ R gB f k).1 c = true := by
      have h : ((fl σ R gB f k).1 c && _) = true := h
      rw [Bool.and_eq_true] at h
      exact h.1
    show _ ≤ (fl σ R gB f k).2.1 c + (if (fl σ R gB f k).1 c = true then mor σ gB f (fl σ R gB f k).1 c else 0)
    rw [if_pos h1, Nat.succ_mul]
    exact Nat.add_le_add (ih c h1) (mor_alone _ c)
theorem Ss_rw (R : Nat → Nat) : Rw (σ 0 0) (Ss σ f rds R) (ez σ R) := by
  have h := rw_of σ R 0
  exact ⟨by unfold Ss; simp, by unfold Ss; simp, h.2.2.1, h.2.2.2.1, h.2.2.2.2⟩
theorem Ss_dry {R : Nat → Nat} {p : Nat} (h : Ss σ f rds R p = true) : Sd σ R (σ 0 2) p = true := by
  unfold Ss syB at h
  unfold Sd
  rw [Bool.or_eq_true, Bool.and_eq_true, Bool.and_eq_true, decide_eq_true_iff, decide_eq_true_iff, decide_eq_true_iff] at h
  rw [decide_eq_true_iff]
  rcases h with h | h
  · rcases h with h | h
    · exact Or.inl h
    · exact Or.inr (Or.inl h)
  · exact Or.inr (Or.inr ⟨h.1, h.2.1⟩)
/-- who comes across by what may stand comes across by all -/
theorem stay_dry {R : Nat → Nat} (h : σ 0 0 + 1 ≤ grN (σ 0 0) (Ss σ f rds R) (ez σ R) d) : X σ R (σ 0 2) d := by
  rw [X_rea]
  rw [grN_cross (Ss_rw R)] at h
  obtain ⟨L, w⟩ := h
  exact ⟨L, w.sub (Ss_rw R).1 fun p _ hp => ⟨Ss_dry hp, rfl⟩⟩
/-- who does for a plan comes across by what may stand -/
theorem Vd.stay (hw : WF σ) {R : Nat → Nat} (h : Vd σ d f rds R) : σ 0 0 + 1 ≤ grN (σ 0 0) (Ss σ f rds R) (ez σ R) d := by
  obtain ⟨h1, h2, h3⟩ := h
  have hp : ∀ c, c < σ 0 0 → R c ≠ 0 → 0 < hold σ (R c - 1) := fun c hc hr => (hold_lt hw (h1.1 c hc hr).1).1
  rw [grN_cross (Ss_rw R)]
  rcases h3 with h3 | h3
  · rw [X_rea] at h2
    obtain ⟨L, w⟩ := h2
    refine ⟨L, w.sub (rw_of σ R _).1 fun p hpN hp2 => ⟨?_, rfl⟩⟩
    unfold Sd at hp2
    rw [decide_eq_true_iff] at hp2
    unfold Ss syB
    rw [h3, Nat.zero_mul]
    by_cases z : p = 0 ∨ p = σ 0 0 + 1
    · rw [decide_eq_true z]; rfl
    · have y : R (p - 1) ≠ 0 ∧ σ 1 (p - 1) + σ 0 2 < σ 4 (R (p - 1) - 1) := by omega
      rw [decide_eq_true y.1, decide_eq_true y.2, decide_eq_true (hp (p - 1) (by omega) y.1)]
      simp
  · rw [X_rea] at h3
    obtain ⟨L, w⟩ := h3
    have ok := fl_ok (σ := σ) (R := R) (gB := gG σ) (f := f) hp rds
    refine ⟨L, w.sub (rw_of σ (Lb σ f rds R) _).1 fun p hpN hp2 => ?_⟩
    unfold Sd at hp2
    rw [decide_eq_true_iff] at hp2
    by_cases z : p = 0 ∨ p = σ 0 0 + 1
    · refine ⟨?_, ?_⟩
      · unfold Ss; rw [decide_eq_true z]; rfl
      · unfold ez; rw [if_pos z, if_pos z]
    · have y : Lb σ f rds R (p - 1) ≠ 0 ∧ σ 1 (p - 1) + σ 0 2 < σ 4 (Lb σ f rds R (p - 1) - 1) := by omega
      have hs : (fl σ R (gG σ) f rds).1 (p - 1) = true := by
        apply Classical.byContradiction
        intro q
        exact y.1 (if_neg q)
      have eL : Lb σ f rds R (p - 1) = R (p - 1) := if_pos hs
      rw [eL] at y
      have a1 := (ok (p - 1) (by omega) hs).2
      have a2 := fl_alone rds (p - 1) hs
      refine ⟨?_, ?_⟩
      · unfold Ss syB
        rw [decide_eq_true y.1, decide_eq_true y.2, decide_eq_true (Nat.lt_of_le_of_lt a2 a1)]
        simp
      · unfold ez; rw [if_neg z, if_neg z, eL]
/-- what has to be come to, at least -/
def NDP (σ : SG) (d f rds : Nat) (nd : Nat → Nat) : Prop := nd (σ 0 0) = σ 0 0 + 1 ∧ ∀ c, c < σ 0 0 → nd c ≤ nd (c + 1) ∧ ∀ s, s < σ 0 3 → σ 8 s ≠ 100 → syB σ f rds s c = true → nd (c + 1) ≤ c + 1 + (if σ 3 s = 2 then 1 else 0) + d → nd c + (if σ 3 s = 2 then 1 else 0) ≤ c + 1
theorem ez_c {R : Nat → Nat} {c : Nat} (hc : c < σ 0 0) (h : R c ≠ 0) : ez σ R (c + 1) = if σ 3 (R c - 1) = 2 then 1 else 0 := by
  unfold ez
  rw [if_neg (by omega), Nat.add_sub_cancel]
  by_cases z : σ 3 (R c - 1) = 2
  · rw [if_pos ⟨h, z⟩, if_pos z]
  · rw [if_neg (fun y => z y.2), if_neg z]
theorem Ss_c {R : Nat → Nat} {c : Nat} (hc : c < σ 0 0) : Ss σ f rds R (c + 1) = (decide (R c ≠ 0) && syB σ f rds (R c - 1) c) := by
  unfold Ss
  rw [decide_eq_false (by omega), Nat.add_sub_cancel, Bool.false_or]
theorem Sd_c {R : Nat → Nat} {c : Nat} (hc : c < σ 0 0) : Sd σ R (σ 0 2) (c + 1) = decide (R c ≠ 0 ∧ σ 1 c + σ 0 2 < σ 4 (R c - 1)) := by
  unfold Sd
  rw [Nat.add_sub_cancel]
  exact decide_eq_decide.mpr (by omega)
theorem nd_le {nd : Nat → Nat} (hN : NDP σ d f rds nd) {R : Nat → Nat} (ho : okR σ R (σ 0 0)) (hnear : ∀ i, i < σ 0 0 → Ss σ f rds R (i + 1) = true → i + 1 ≤ gp (Ss σ f rds R) (ez σ R) d i + ez σ R (i + 1)) (hend : σ 0 0 + 1 ≤ gp (Ss σ f rds R) (ez σ R) d (σ 0 0)) : ∀ m c, m + c = σ 0 0 → nd c ≤ gp (Ss σ f rds R) (ez σ R) d c := by
  intro m
  induction m with
  | zero => intro c hc; rw [show c = σ 0 0 by omega, hN.1]; exact hend
  | succ m ih =>
    intro c hc
    have nx := ih (c + 1) (by omega)
    obtain ⟨h1, h2⟩ := hN.2 c (by omega)
    rw [gp] at nx
    by_cases z : Ss σ f rds R (c + 1) = true
    · rw [if_pos z] at nx
      have hn := hnear c (by omega) z
      rw [Ss_c (by omega), Bool.and_eq_true, decide_eq_true_iff] at z
      have hr := ho.1 c (by omega) z.1
      rw [ez_c (by omega) z.1] at nx hn
      have := h2 (R c - 1) hr.1 hr.2 z.2 nx
      omega
    · rw [if_neg z] at nx
      omega
/-! work, many, and which row is first -/
theorem dg_lt {x : Nat} (h : x ≤ 6) : dg x < 7 := by unfold dg; split <;> omega
theorem dg_inj {x y : Nat} (hx : x ≤ 6) (hy : y ≤ 6) (h : dg x = dg y) : x = y := by
  unfold dg at h
  split at h <;> split at h <;> omega
theorem okR.le (hm : σ 0 3 ≤ 6) {R : Nat → Nat} {c i : Nat} (h : okR σ R c) (hi : i < c) : R i ≤ 6 := by
  by_cases z : R i = 0
  · omega
  · have := (h.1 i hi z).1; omega
theorem lx_bd {R : Nat → Nat} : ∀ c, (∀ i, i < c → R i ≤ 6) → lx R c < 7 ^ c := by
  intro c
  induction c with
  | zero => intro _; exact Nat.one_pos
  | succ c ih =>
    intro h
    have h1 := ih (fun i hi => h i (by omega))
    have h2 := dg_lt (h c (by omega))
    rw [lx, Nat.pow_succ]
    omega
theorem lx_lt {R b : Nat → Nat} {c : Nat} (h : lx R c < lx b c) : ∀ m, (∀ i, i < c + m → R i ≤ 6) → lx R (c + m) < lx b (c + m) := by
  intro m
  induction m with
  | zero => intro _; exact h
  | succ m ih =>
    intro hd
    have h1 := ih (fun i hi => hd i (by omega))
    have h2 := dg_lt (hd (c + m) (by omega))
    rw [← Nat.add_assoc, lx, lx]
    omega
theorem lx_congr {R b : Nat → Nat} : ∀ c, (∀ i, i < c → R i = b i) → lx R c = lx b c := by
  intro c
  induction c with
  | zero => intro _; rfl
  | succ c ih => intro h; rw [lx, lx, ih (fun i hi => h i (by omega)), h c (by omega)]
theorem lx_inj {R b : Nat → Nat} : ∀ c, (∀ i, i < c → R i ≤ 6 ∧ b i ≤ 6) → lx R c = lx b c → ∀ i, i < c → R i = b i := by
  intro c
  induction c with
  | zero => intro _ _ i hi; omega
  | succ c ih =>
    intro hd h i hi
    have h1 := dg_lt (hd c (by omega)).1
    have h2 := dg_lt (hd c (by omega)).2
    rw [lx, lx] at h
    by_cases y : i = c
    · subst y
      exact dg_inj (hd i hi).1 (hd i hi).2 (by omega)
    · exact ih (fun j hj => hd j (by omega)) (by omega) i (by omega)
theorem wr_congr {R b : Nat → Nat} : ∀ c, (∀ i, i < c → R i = b i) → wr σ R c = wr σ b c := by
  intro c
  induction c with
  | zero => intro _; rfl
  | succ c ih => intro h; rw [wr, wr, ih (fun i hi => h i (by omega)), h c (by omega)]
theorem mr_congr {R b : Nat → Nat} : ∀ c, (∀ i, i < c → R i = b i) → mr R c = mr b c := by
  intro c
  induction c with
  | zero => intro _; rfl
  | succ c ih => intro h; rw [mr, mr, ih (fun i hi => h i (by omega)), h c (by omega)]
theorem wr_mono (R : Nat → Nat) (c : Nat) : ∀ m, wr σ R c ≤ wr σ R (c + m) ∧ mr R c ≤ mr R (c + m) := by
  intro m
  induction m with
  | zero => exact ⟨Nat.le_refl _, Nat.le_refl _⟩
  | succ m ih => rw [← Nat.add_assoc, wr, mr]; omega
theorem mr_le (R : Nat → Nat) : ∀ c, mr R c ≤ c := by
  intro c
  induction c with
  | zero => exact Nat.le_refl _
  | succ c ih => rw [mr]; split <;> omega
theorem wk_le (hw : WF σ) {s c : Nat} (hs : s < σ 0 3) (hc : c < 7) : wk σ s c ≤ 432 := by
  have h := hw.2.2.2.2.2.2.2.2.1 s hs
  unfold wk
  have h1 : σ 5 s * (σ 6 s + c + 1) ≤ 9 * 16 := Nat.mul_le_mul h.2.2.2.2.1 (by omega)
  have h2 : (if σ 3 s = 2 then 3 else 1) ≤ 3 := by split <;> omega
  have := Nat.mul_le_mul h2 h1
  omega
theorem wr_le (hw : WF σ) {R : Nat → Nat} : ∀ c, c ≤ σ 0 0 → okR σ R c → wr σ R c ≤ c * 432 := by
  intro c
  induction c with
  | zero => intro _ _; exact Nat.zero_le _
  | succ c ih =>
    intro hc h
    have hn : σ 0 0 ≤ 7 := hw.2.1
    have h1 := ih (by omega) ⟨fun i hi => h.1 i (by omega), fun i j a b => h.2 i j a (by omega)⟩
    rw [wr, Nat.succ_mul]
    by_cases z : R c = 0
    · rw [if_pos z]; exact Nat.add_le_add h1 (Nat.zero_le _)
    · have := wk_le hw (h.1 c (by omega) z).1 (show c < 7 by omega)
      rw [if_neg z]; exact Nat.add_le_add h1 this
theorem wr_lt (hw : WF σ) {R : Nat → Nat} {c : Nat} (hc : c ≤ σ 0 0) (h : okR σ R c) : wr σ R c ≤ 3024 := by
  have h1 := wr_le hw c hc h
  have hn : σ 0 0 ≤ 7 := hw.2.1
  exact Nat.le_trans h1 (Nat.mul_le_mul_right 432 (show c ≤ 7 by omega))
/-! what a search has found -/
def UpB (σ : SG) (V : (Nat → Nat) → Prop) (o o' : Option (Nat → Nat)) (C : (Nat → Nat) → Prop) : Prop :=
  (o' = o ∨ ∃ b, o' = some b ∧ C b ∧ V b) ∧ (∀ b, o = some b → ∃ b', o' = some b' ∧ cdR σ b' ≤ cdR σ b) ∧ ∀ R, C R → V R → ∃ b', o' = some b' ∧ cdR σ b' ≤ cdR σ R
theorem UpB.rf {V : (Nat → Nat) → Prop} {o : Option (Nat → Nat)} {C : (Nat → Nat) → Prop} (h : ∀ R, C R → V R → ∃ b', o = some b' ∧ cdR σ b' ≤ cdR σ R) : UpB σ V o o C :=
  ⟨Or.inl rfl, fun b hb => ⟨b, hb, Nat.le_refl _⟩, h⟩
theorem UpB.tr {V : (Nat → Nat) → Prop} {o p q : Option (Nat → Nat)} {C D E : (Nat → Nat) → Prop} (h : UpB σ V o p C) (g : UpB σ V p q D) (hC : ∀ R, C R → E R) (hD : ∀ R, D R → E R) (hE : ∀ R, E R → V R → C R ∨ D R) : UpB σ V o q E := by
  obtain ⟨h1, h2, h3⟩ := h
  obtain ⟨g1, g2, g3⟩ := g
  refine ⟨?_, fun b hb => ?_, fun R hR hV => ?_⟩
  · rcases g1 with g1 | ⟨b, a, c, e⟩
    · rcases h1 with h1 | ⟨b, a, c, e⟩
      · exact Or.inl (g1.trans h1)
      · exact Or.inr ⟨b, g1.trans a, hC b c, e⟩
    · exact Or.inr ⟨b, a, hD b c, e⟩
  · obtain ⟨b1, a1, c1⟩ := h2 b hb
    obtain ⟨b2, a2, c2⟩ := g2 b1 a1
    exact ⟨b2, a2, Nat.le_trans c2 c1⟩
  · rcases hE R hR hV with y | y
    · obtain ⟨b1, a1, c1⟩ := h3 R y hV
      obtain ⟨b2, a2, c2⟩ := g2 b1 a1
      exact ⟨b2, a2, Nat.le_trans c2 c1⟩
    · exact g3 R y hV
/-- two searches over all rows have found the same -/
theorem UpB.same (hw : WF σ) {o p : Option (Nat → Nat)} (h : UpB σ (Vd σ d f rds) none o (fun _ => True)) (g : UpB σ (Vd σ d f rds) none p (fun _ => True)) :
    (o = none ∧ p = none) ∨ ∃ b b', o = some b ∧ p = some b' ∧ okR σ b (σ 0 0) ∧ ∀ i, i < σ 0 0 → b i = b' i := by
  have hm : σ 0 3 ≤ 6 := hw.2.2.2.2.1
  have hn : σ 0 0 ≤ 7 := hw.2.1
  rcases h.1 with ho | ⟨b, hb, _, vb⟩
  · rcases g.1 with hp | ⟨b', hb', _, vb'⟩
    · exact Or.inl ⟨ho, hp⟩
    · obtain ⟨c, hc, _⟩ := h.2.2 b' trivial vb'
      rw [ho] at hc; cases hc
  · obtain ⟨b', hb', le1⟩ := g.2.2 b trivial vb
    have vb' : Vd σ d f rds b' := by
      rcases g.1 with hp | ⟨c, hc, _, vc⟩
      · rw [hp] at hb'; cases hb'
      · rw [hc] at hb'; cases hb'; exact vc
    obtain ⟨b2, hb2, le2⟩ := h.2.2 b' trivial vb'
    rw [hb] at hb2
    cases hb2
    refine Or.inr ⟨b, b', hb, hb', vb.1, ?_⟩
    have d1 : ∀ i, i < σ 0 0 → b i ≤ 6 ∧ b' i ≤ 6 := fun i hi => ⟨vb.1.le hm hi, vb'.1.le hm hi⟩
    have h1 := lx_bd (R := b) (σ 0 0) (fun i hi => (d1 i hi).1)
    have h2 := lx_bd (R := b') (σ 0 0) (fun i hi => (d1 i hi).2)
    have h3 : 7 ^ σ 0 0 ≤ 7 ^ 7 := Nat.pow_le_pow_right (by decide) hn
    have h4 : (7 : Nat) ^ 7 = 823543 := by decide
    refine lx_inj _ d1 ?_
    unfold cdR at le1 le2
    generalize lx b (σ 0 0) = x at *
    generalize lx b' (σ 0 0) = y at *
    generalize ky σ b (σ 0 0) = u at *
    generalize ky σ b' (σ 0 0) = v at *
    omega
end PN
