/-! ===== plans: rows in which each stone is of use ===== -/
section PQ
variable {σ : SG} {d f rds : Nat}
theorem fl_cg {R R' : Nat → Nat} {gB : Nat → Bool} (h : ∀ i, i < σ 0 0 → R i = R' i) : ∀ k, eqS σ (fl σ R gB f k) (fl σ R' gB f k) := by
  intro k
  induction k with
  | zero => intro i hi; exact ⟨by show (R i != 0) = (R' i != 0); rw [h i hi], rfl, rfl⟩
  | succ k ih =>
    refine (stp_congr (σ := σ) (R := R) (gB := gB) (f := f) (k := k + 1) ih).tr (fun i hi => ⟨?_, rfl, ?_⟩)
    · show (_ && decide (_ < hold σ (R i - 1))) = (_ && decide (_ < hold σ (R' i - 1)))
      rw [h i hi]
    · show (if _ ∧ hold σ (R i - 1) ≤ _ then _ else _) = (if _ ∧ hold σ (R' i - 1) ≤ _ then _ else _)
      rw [h i hi]
theorem X_cg {L L' : Nat → Nat} {v d : Nat} (h : ∀ i, i < σ 0 0 → L i = L' i) (x : X σ L v d) : X σ L' v d := by
  unfold X at x ⊢
  have e : grN (σ 0 0) (Sd σ L v) (ez σ L) d = grN (σ 0 0) (Sd σ L' v) (ez σ L') d := by
    unfold grN
    refine gr_congr _ _ _ fun i hi => ?_
    unfold Sd ez
    rw [Nat.zero_add, Nat.add_sub_cancel, h i hi]
    exact ⟨rfl, fun _ => rfl⟩
  rw [← e]; exact x
theorem Lb_cg {R R' : Nat → Nat} (h : ∀ i, i < σ 0 0 → R i = R' i) : ∀ i, i < σ 0 0 → Lb σ f rds R i = Lb σ f rds R' i := fun i hi => by
  unfold Lb
  rw [(fl_cg h rds i hi).1, h i hi]
theorem cd_cg {R R' : Nat → Nat} (h : ∀ i, i < σ 0 0 → R i = R' i) : cdR σ R = cdR σ R' := by
  unfold cdR ky
  rw [wr_congr _ h, mr_congr _ h, lx_congr _ h]
theorem cd_worse (hw : WF σ) {b R : Nat → Nat} (hb : okR σ b (σ 0 0)) (h : wr σ b (σ 0 0) < wr σ R (σ 0 0) ∨ (wr σ b (σ 0 0) = wr σ R (σ 0 0) ∧ mr b (σ 0 0) < mr R (σ 0 0))) : cdR σ b ≤ cdR σ R := by
  have hm : σ 0 3 ≤ 6 := hw.2.2.2.2.1
  have hn : σ 0 0 ≤ 7 := hw.2.1
  have h1 := lx_bd (R := b) (σ 0 0) (fun i hi => hb.le hm hi)
  have h3 : 7 ^ σ 0 0 ≤ 7 ^ 7 := Nat.pow_le_pow_right (by decide) hn
  have h4 : (7 : Nat) ^ 7 = 823543 := by decide
  have h5 := mr_le b (σ 0 0)
  unfold cdR ky
  generalize lx b (σ 0 0) = x at *
  generalize lx R (σ 0 0) = y at *
  generalize wr σ b (σ 0 0) = w1 at *
  generalize wr σ R (σ 0 0) = w2 at *
  generalize mr b (σ 0 0) = m1 at *
  generalize mr R (σ 0 0) = m2 at *
  generalize 7 ^ σ 0 0 = p at *
  omega
/-- a row that does for a plan, and in which each stone may stand behind the flood, dry -/
def VU (σ : SG) (d f rds : Nat) (R : Nat → Nat) : Prop := Vd σ d f rds R ∧ ∀ i, i < σ 0 0 → R i ≠ 0 → syB σ f rds (R i - 1) i = true
theorem mor_mono {gB st st' : Nat → Bool} (h : ∀ c, st c = true → st' c = true) (c : Nat) : mor σ gB f st c ≤ mor σ gB f st' c := by
  have h : frc σ f st c ≤ frc σ f st' c := by
    unfold frc
    have a : (if 0 < c ∧ st (c - 1) = true then 1 else 0) ≤ (if 0 < c ∧ st' (c - 1) = true then 1 else 0) := by
      by_cases z : 0 < c ∧ st (c - 1) = true
      · rw [if_pos z, if_pos ⟨z.1, h _ z.2⟩]; exact Nat.le_refl _
      · rw [if_neg z]; exact Nat.zero_le _
    have b : (if c + 1 < σ 0 0 ∧ st (c + 1) = true then 1 else 0) ≤ (if c + 1 < σ 0 0 ∧ st' (c + 1) = true then 1 else 0) := by
      by_cases z : c + 1 < σ 0 0 ∧ st (c + 1) = true
      · rw [if_pos z, if_pos ⟨z.1, h _ z.2⟩]; exact Nat.le_refl _
      · rw [if_neg z]; exact Nat.zero_le _
    exact Nat.add_le_add_left (Nat.add_le_add a b) _
  unfold mor
  have h2 : frc σ f st c / 2 ≤ frc σ f st' c / 2 := Nat.div_le_div_right h
  split <;> omega
theorem fl_down {R : Nat → Nat} {gB : Nat → Bool} {c : Nat} : ∀ m k, (fl σ R gB f (k + m)).1 c = true → (fl σ R gB f k).1 c = true := by
  intro m
  induction m with
  | zero => intro k h; exact h
  | succ m ih =>
    intro k h
    refine ih k ?_
    have h : ((fl σ R gB f (k + m)).1 c && _) = true := h
    rw [Bool.and_eq_true] at h
    exact h.1
/-- what stands behind the flood stands there too if only that is laid -/
theorem fl_keep {R R' : Nat → Nat} {gB : Nat → Bool} (ok : ∀ k, okS σ R (fl σ R gB f k)) (hR : ∀ c, R' c ≠ 0 → c < σ 0 0 ∧ R' c = R c ∧ (fl σ R gB f rds).1 c = true) : ∀ k, k ≤ rds → (∀ c, (fl σ R' gB f k).1 c = true → R' c ≠ 0) ∧ ∀ c, R' c ≠ 0 → (fl σ R' gB f k).1 c = true ∧ (fl σ R' gB f k).2.1 c ≤ (fl σ R gB f k).2.1 c := by
  have st : ∀ k, k ≤ rds → ∀ c, R' c ≠ 0 → (fl σ R gB f k).1 c = true := fun k hk c hc => by
    have h := (hR c hc).2.2
    rw [show rds = k + (rds - k) by omega] at h
    exact fl_down _ k h
  intro k
  induction k with
  | zero =>
    intro _
    refine ⟨fun c h => ?_, fun c h => ⟨?_, Nat.zero_le _⟩⟩
    · have h : (R' c != 0) = true := h
      simpa using h
    · show (R' c != 0) = true
      simpa using h
  | succ k ih =>
    intro hk
    obtain ⟨i1, i2⟩ := ih (by omega)
    have key : ∀ c, R' c ≠ 0 → (fl σ R' gB f (k + 1)).2.1 c ≤ (fl σ R gB f (k + 1)).2.1 c := fun c hc => by
      show (fl σ R' gB f k).2.1 c + (if (fl σ R' gB f k).1 c = true then mor σ gB f (fl σ R' gB f k).1 c else 0) ≤ (fl σ R gB f k).2.1 c + (if (fl σ R gB f k).1 c = true then mor σ gB f (fl σ R gB f k).1 c else 0)
      rw [if_pos (i2 c hc).1, if_pos (st k (by omega) c hc)]
      exact Nat.add_le_add (i2 c hc).2 (mor_mono (fun i hi => st k (by omega) i (i1 i hi)) c)
    refine ⟨fun c h => ?_, fun c hc => ⟨?_, key c hc⟩⟩
    · exact i1 c (fl_down 1 k h)
    · have hk2 := key c hc
      have h3 := (ok (k + 1) c (hR c hc).1 (st (k + 1) hk c hc)).2
      have h4 : (fl σ R' gB f (k + 1)).2.1 c = (fl σ R' gB f k).2.1 c + mor σ gB f (fl σ R' gB f k).1 c := by
        show (fl σ R' gB f k).2.1 c + (if (fl σ R' gB f k).1 c = true then mor σ gB f (fl σ R' gB f k).1 c else 0) = _
        rw [if_pos (i2 c hc).1]
      show ((fl σ R' gB f k).1 c && decide ((fl σ R' gB f k).2.1 c + mor σ gB f (fl σ R' gB f k).1 c < hold σ (R' c - 1))) = true
      rw [(i2 c hc).1, ← h4, (hR c hc).2.1, decide_eq_true (Nat.lt_of_le_of_lt hk2 h3)]
      rfl
/-- what of a row stands behind the flood, dry -/
def tri (σ : SG) (f rds : Nat) (R : Nat → Nat) (c : Nat) : Nat := if c < σ 0 0 ∧ Lb σ f rds R c ≠ 0 ∧ σ 1 c + σ 0 2 < σ 4 (R c - 1) then R c else 0
theorem Lb_p {R : Nat → Nat} {c : Nat} (h : Lb σ f rds R c ≠ 0) : (fl σ R (gG σ) f rds).1 c = true ∧ Lb σ f rds R c = R c := by
  have hs : (fl σ R (gG σ) f rds).1 c = true := by
    apply Classical.byContradiction
    intro q
    exact h (if_neg q)
  exact ⟨hs, if_pos hs⟩
theorem tri_p {R : Nat → Nat} {c : Nat} (h : tri σ f rds R c ≠ 0) : c < σ 0 0 ∧ tri σ f rds R c = R c ∧ (fl σ R (gG σ) f rds).1 c = true ∧ Lb σ f rds R c = R c ∧ σ 1 c + σ 0 2 < σ 4 (R c - 1) := by
  by_cases z : c < σ 0 0 ∧ Lb σ f rds R c ≠ 0 ∧ σ 1 c + σ 0 2 < σ 4 (R c - 1)
  · have e : tri σ f rds R c = R c := if_pos z
    exact ⟨z.1, e, (Lb_p z.2.1).1, (Lb_p z.2.1).2, z.2.2⟩
  · exact absurd (if_neg z) h
theorem wm_sub {R R' : Nat → Nat} : ∀ c, (∀ i, i < c → R' i ≠ 0 → R' i = R i) → wr σ R' c ≤ wr σ R c ∧ mr R' c ≤ mr R c ∧ (mr R' c = mr R c → ∀ i, i < c → R' i = R i) := by
  intro c
  induction c with
  | zero => intro _; exact ⟨Nat.le_refl _, Nat.le_refl _, fun _ i hi => by omega⟩
  | succ c ih =>
    intro h
    obtain ⟨a, b, e⟩ := ih (fun i hi => h i (by omega))
    have h1 : wr σ R' (c + 1) = wr σ R' c + (if R' c = 0 then 0 else wk σ (R' c - 1) c) := rfl
    have h2 : wr σ R (c + 1) = wr σ R c + (if R c = 0 then 0 else wk σ (R c - 1) c) := rfl
    have h3 : mr R' (c + 1) = mr R' c + (if R' c = 0 then 0 else 1) := rfl
    have h4 : mr R (c + 1) = mr R c + (if R c = 0 then 0 else 1) := rfl
    by_cases z : R' c = 0
    · rw [if_pos z] at h1 h3
      by_cases y : R c = 0
      · rw [if_pos y] at h2 h4
        refine ⟨by omega, by omega, fun q i hi => ?_⟩
        by_cases x : i = c
        · rw [x, z, y]
        · exact e (by omega) i (by omega)
      · rw [if_neg y] at h2 h4
        refine ⟨?_, by omega, fun q => by omega⟩
        rw [h1, h2]
        exact Nat.le_trans a (Nat.le_add_right _ _)
    · have w := h c (by omega) z
      rw [← w] at h2 h4
      rw [if_neg z] at h1 h2 h3 h4
      refine ⟨?_, by omega, fun q i hi => ?_⟩
      · rw [h1, h2]; exact Nat.add_le_add_right a _
      · by_cases x : i = c
        · rw [x, w]
        · exact e (by omega) i (by omega)
/-- no row that does is better than what of it stands -/
theorem Vd.trimmed (hw : WF σ) {R : Nat → Nat} (h : Vd σ d f rds R) : VU σ d f rds (tri σ f rds R) ∧ cdR σ (tri σ f rds R) ≤ cdR σ R ∧ ∀ i, tri σ f rds R i ≠ 0 → (fl σ (tri σ f rds R) (gG σ) f rds).1 i = true := by
  obtain ⟨h1, h2, h3⟩ := h
  have hp : ∀ c, c < σ 0 0 → R c ≠ 0 → 0 < hold σ (R c - 1) := fun c hc hr => (hold_lt hw (h1.1 c hc hr).1).1
  have ok := fl_ok (σ := σ) (R := R) (gB := gG σ) (f := f) hp
  have hX : X σ (Lb σ f rds R) (σ 0 2) d := by
    rcases h3 with h3 | h3
    · refine X_cg (fun i hi => ?_) h2
      rw [h3]
      by_cases z : R i = 0
      · rw [show Lb σ f 0 R i = 0 from if_neg (by show ¬ (R i != 0) = true; simp [z]), z]
      · exact (if_pos (show (R i != 0) = true by simpa using z)).symm
    · exact h3
  have hT : X σ (tri σ f rds R) (σ 0 2) d := by
    rw [X_rea] at hX ⊢
    obtain ⟨L, w⟩ := hX
    refine ⟨L, w.sub (rw_of σ (Lb σ f rds R) _).1 fun p hpN hp2 => ?_⟩
    unfold Sd at hp2 ⊢
    rw [decide_eq_true_iff] at hp2 ⊢
    by_cases z : p = 0 ∨ p = σ 0 0 + 1
    · refine ⟨by omega, ?_⟩
      unfold ez; rw [if_pos z, if_pos z]
    · have y : Lb σ f rds R (p - 1) ≠ 0 ∧ σ 1 (p - 1) + σ 0 2 < σ 4 (Lb σ f rds R (p - 1) - 1) := by omega
      obtain ⟨hs, eL⟩ := Lb_p y.1
      have y2 := y
      rw [eL] at y2
      have et : tri σ f rds R (p - 1) = R (p - 1) := if_pos ⟨by omega, y.1, y2.2⟩
      refine ⟨?_, ?_⟩
      · rw [et]; omega
      · unfold ez; rw [if_neg z, if_neg z, eL, et]
  have keep := fl_keep (rds := rds) (R := R) (R' := tri σ f rds R) ok (fun c hc => ⟨(tri_p hc).1, (tri_p hc).2.1, (tri_p hc).2.2.1⟩) rds (Nat.le_refl _)
  have hB : X σ (Lb σ f rds (tri σ f rds R)) (σ 0 2) d := by
    refine X_cg (fun i hi => ?_) hT
    by_cases z : tri σ f rds R i = 0
    · rw [show Lb σ f rds (tri σ f rds R) i = 0 from if_neg (fun w => keep.1 i w z), z]
    · exact (if_pos (keep.2 i z).1).symm
  have sub : ∀ i, i < σ 0 0 → tri σ f rds R i ≠ 0 → tri σ f rds R i = R i := fun i _ hi => (tri_p hi).2.1
  have hO : okR σ (tri σ f rds R) (σ 0 0) := by
    refine ⟨fun i hi hr => ?_, fun i j a b hr => ?_⟩
    · have e := (tri_p hr).2.1
      rw [e] at hr ⊢; exact h1.1 i hi hr
    · have e := (tri_p hr).2.1
      rw [e] at hr ⊢
      by_cases z : tri σ f rds R j = 0
      · rw [z]; exact hr
      · rw [(tri_p z).2.1]; exact h1.2 i j a b hr
  refine ⟨⟨⟨hO, hT, Or.inr hB⟩, fun i hi hr => ?_⟩, ?_, fun i hi => (keep.2 i hi).1⟩
  · obtain ⟨a1, a2, a3, a4, a5⟩ := tri_p hr
    rw [a2]
    unfold syB
    rw [decide_eq_true a5, decide_eq_true (Nat.lt_of_le_of_lt (fl_alone rds i a3) (ok rds i hi a3).2)]
    rfl
  · obtain ⟨a, b, e⟩ := wm_sub (σ := σ) (σ 0 0) sub
    by_cases z : mr (tri σ f rds R) (σ 0 0) = mr R (σ 0 0)
    · rw [cd_cg (e z)]; exact Nat.le_refl _
    · exact cd_worse hw hO (by omega)
/-- while all stand, each digs the same in each round -/
theorem fl_stand {T : Nat → Nat} {gB : Nat → Bool} (hs : ∀ i, i < σ 0 0 → T i ≠ 0 → (fl σ T gB f rds).1 i = true) : ∀ k, k ≤ rds → ∀ c, c < σ 0 0 → (fl σ T gB f k).1 c = (T c != 0) ∧ (T c ≠ 0 → (fl σ T gB f k).2.1 c = k * mor σ gB f (fun j => T j != 0) c) := by
  intro k
  induction k with
  | zero => intro _ c _; exact ⟨rfl, fun _ => by rw [Nat.zero_mul]; rfl⟩
  | succ k ih =>
    intro hk c hc
    have i1 := ih (by omega)
    refine ⟨?_, fun hr => ?_⟩
    · by_cases z : T c = 0
      · have e0 : (fl σ T gB f (k + 1)).1 c = false := Bool.eq_false_iff.mpr fun w => by
          have h0 := fl_down (σ := σ) (R := T) (gB := gB) (f := f) (c := c) (k + 1) 0 (by rw [Nat.zero_add]; exact w)
          have h0 : (T c != 0) = true := h0
          rw [z] at h0; cases h0
        rw [e0, z]
        rfl
      · have h1 := hs c hc z
        rw [show rds = k + 1 + (rds - (k + 1)) by omega] at h1
        rw [fl_down _ _ h1]
        simp [z]
    · show (fl σ T gB f k).2.1 c + (if (fl σ T gB f k).1 c = true then mor σ gB f (fl σ T gB f k).1 c else 0) = _
      rw [if_pos (by rw [(i1 c hc).1]; simpa using hr), (i1 c hc).2 hr, mor_congr (fun i hi => (i1 i hi).1) hc, Nat.succ_mul]
/-- a row that stands whole behind the flood, and is of use -/
def VS (σ : SG) (d f rds : Nat) (R : Nat → Nat) : Prop := VU σ d f rds R ∧ ∀ i, i < σ 0 0 → R i ≠ 0 → rds * mor σ (gG σ) f (fun j => R j != 0) i < hold σ (R i - 1)
theorem Vd.whole (hw : WF σ) {R : Nat → Nat} (h : Vd σ d f rds R) : VS σ d f rds (tri σ f rds R) ∧ cdR σ (tri σ f rds R) ≤ cdR σ R := by
  obtain ⟨h1, h2, h3⟩ := h.trimmed hw
  refine ⟨⟨h1, fun i hi hr => ?_⟩, h2⟩
  have st := fl_stand (σ := σ) (gB := gG σ) (f := f) (rds := rds) (fun i _ z => h3 i z) rds (Nat.le_refl _) i hi
  have hp : ∀ c, c < σ 0 0 → tri σ f rds R c ≠ 0 → 0 < hold σ (tri σ f rds R c - 1) := fun c hc z => (hold_lt hw (h1.1.1.1 c hc z).1).1
  have ok := fl_ok (σ := σ) (R := tri σ f rds R) (gB := gG σ) (f := f) hp rds i hi (h3 i hr)
  rw [st.2 hr] at ok
  exact ok.2
/-- and what outlasts the flood while all stand, stands -/
theorem fl_whole {R : Nat → Nat} {gB : Nat → Bool} (h : ∀ i, i < σ 0 0 → R i ≠ 0 → rds * mor σ gB f (fun j => R j != 0) i < hold σ (R i - 1)) : ∀ k, k ≤ rds → ∀ c, c < σ 0 0 → (fl σ R gB f k).1 c = (R c != 0) ∧ (R c ≠ 0 → (fl σ R gB f k).2.1 c = k * mor σ gB f (fun j => R j != 0) c) := by
  intro k
  induction k with
  | zero => intro _ c _; exact ⟨rfl, fun _ => by rw [Nat.zero_mul]; rfl⟩
  | succ k ih =>
    intro hk c hc
    have i1 := ih (by omega)
    have em := mor_congr (σ := σ) (gB := gB) (f := f) (fun i hi => (i1 i hi).1) hc
    refine ⟨?_, fun hr => ?_⟩
    · show ((fl σ R gB f k).1 c && decide ((fl σ R gB f k).2.1 c + mor σ gB f (fl σ R gB f k).1 c < hold σ (R c - 1))) = (R c != 0)
      by_cases z : R c = 0
      · rw [(i1 c hc).1, z]; rfl
      · have h1 := h c hc z
        have h2 : (k + 1) * mor σ gB f (fun j => R j != 0) c ≤ rds * mor σ gB f (fun j => R j != 0) c := Nat.mul_le_mul_right _ hk
        rw [(i1 c hc).1, (i1 c hc).2 z, em, ← Nat.succ_mul, decide_eq_true (Nat.lt_of_le_of_lt h2 h1), Bool.and_true]
    · show (fl σ R gB f k).2.1 c + (if (fl σ R gB f k).1 c = true then mor σ gB f (fl σ R gB f k).1 c else 0) = _
      rw [if_pos (by rw [(i1 c hc).1]; simpa using hr), (i1 c hc).2 hr, em, Nat.succ_mul]
theorem UpB.vs (hw : WF σ) {o : Option (Nat → Nat)} (h : UpB σ (VS σ d f rds) none o (fun _ => True)) : UpB σ (Vd σ d f rds) none o (fun _ => True) :=
  ⟨h.1.imp id (fun ⟨b, x, y, z⟩ => ⟨b, x, y, z.1.1⟩), h.2.1, fun R _ hV => by
    obtain ⟨t1, t2⟩ := Vd.whole hw hV
    obtain ⟨b', hb, hl⟩ := h.2.2 _ trivial t1
    exact ⟨b', hb, Nat.le_trans hl t2⟩⟩
end PQ
