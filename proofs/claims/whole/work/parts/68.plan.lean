/-! ===== the class's search: what it goes by ===== -/
section PD
variable {σ : SG} {fu d f rds : Nat}
theorem agree_S {R R' : Nat → Nat} {i : Nat} (h : R i = R' i) : Ss σ f rds R (i + 1) = Ss σ f rds R' (i + 1) ∧ ez σ R (i + 1) = ez σ R' (i + 1) := by
  unfold Ss ez
  rw [Nat.add_sub_cancel, h]
  exact ⟨rfl, rfl⟩
def GsR (σ : SG) (d f rds : Nat) (R : Nat → Nat) (c : Nat) : Nat := gp (Ss σ f rds R) (ez σ R) d c
theorem Gs_congr {R R' : Nat → Nat} (c : Nat) (h : ∀ i, i < c → R i = R' i) : GsR σ d f rds R c = GsR σ d f rds R' c := gp_congr c fun i hi => agree_S (h i hi)
theorem Gs_lt (R : Nat → Nat) (c : Nat) : GsR σ d f rds R c ≤ c + 1 + d := gp_lt (ez1 σ R) c
theorem Gs_ge (R : Nat → Nat) : ∀ c, d ≤ GsR σ d f rds R c := by
  intro c
  induction c with
  | zero => exact Nat.le_refl _
  | succ c ih =>
    unfold GsR at ih ⊢
    rw [gp]
    split <;> omega
/-- how far, the far bank at most -/
def FaR (σ : SG) (d f rds : Nat) (R : Nat → Nat) (c : Nat) : Nat := if σ 0 0 < GsR σ d f rds R c - 1 then σ 0 0 else GsR σ d f rds R c - 1
theorem FaR_le (R : Nat → Nat) (c : Nat) : FaR σ d f rds R c ≤ σ 0 0 := by unfold FaR; split <;> omega
theorem Fa_congr {R R' : Nat → Nat} (c : Nat) (h : ∀ i, i < c → R i = R' i) : FaR σ d f rds R c = FaR σ d f rds R' c := by
  unfold FaR
  rw [Gs_congr c h]
/-- work, and behind it how many -/
def ct (σ : SG) (R : Nat → Nat) (c : Nat) : Nat := 7 * wr σ R c + mr R c
theorem ct_congr {R R' : Nat → Nat} (c : Nat) (h : ∀ i, i < c → R i = R' i) : ct σ R c = ct σ R' c := by
  unfold ct
  rw [wr_congr c h, mr_congr c h]
/-- what is filled of a row's first cells -/
def pre (R : Nat → Nat) (c : Nat) (j : Nat) : Bool := decide (j < c) && (R j != 0)
theorem pre_congr {R R' : Nat → Nat} {c : Nat} (h : ∀ i, i < c → R i = R' i) (j : Nat) : pre R c j = pre R' c j := by
  unfold pre
  by_cases z : j < c
  · rw [h j z]
  · rw [decide_eq_false z]; rfl
/-- where the search stands -/
def Pt (σ : SG) (d f rds : Nat) (R : Nat → Nat) (c : Nat) (u : Nat → Bool) : Prop :=
  okR σ R c ∧ (∀ s, u s = true ↔ ∃ i, i < c ∧ R i = s + 1) ∧ cnt u (σ 0 3) = mr R c ∧
  (∀ i, i < c → Ss σ f rds R (i + 1) = true → i + 1 ≤ GsR σ d f rds R i + ez σ R (i + 1)) ∧ (∀ i, i < c → R i ≠ 0 → syB σ f rds (R i - 1) i = true) ∧
  ∀ i, i + 2 < c → R i ≠ 0 → rds * mor σ (gG σ) f (pre R (i + 2)) i < hold σ (R i - 1)
theorem updN_c (R : Nat → Nat) (c x : Nat) : updN R c x c = x := if_pos rfl
theorem updN_o (R : Nat → Nat) {c i : Nat} (x : Nat) (h : i ≠ c) : updN R c x i = R i := if_neg h
/-- the cells that a node looks at keep their stones -/
def LO (σ : SG) (f rds : Nat) (R : Nat → Nat) (c : Nat) : Prop := ∀ i, c - 2 ≤ i → i < c → R i ≠ 0 → rds * mor σ (gG σ) f (pre R c) i < hold σ (R i - 1)
theorem Pt.ob {R R' : Nat → Nat} {c : Nat} {u : Nat → Bool} (h : Pt σ d f rds R c u) (hl : LO σ f rds R c) (ag : ∀ i, i < c → R' i = R i) : ∀ i, i + 2 < c + 1 → R' i ≠ 0 → rds * mor σ (gG σ) f (pre R' (i + 2)) i < hold σ (R' i - 1) := fun i hi hr => by
  have e : pre R' (i + 2) = pre R (i + 2) := funext fun j => pre_congr (fun k hk => ag k (by omega)) j
  rw [e]
  rw [ag i (by omega)] at hr ⊢
  by_cases y : i + 2 = c
  · have := hl i (by omega) (by omega) hr
    rw [y]
    exact this
  · exact h.2.2.2.2.2 i (by omega) hr
theorem Pt.none {R : Nat → Nat} {c : Nat} {u : Nat → Bool} (hc : c < σ 0 0) (h : Pt σ d f rds R c u) (hl : LO σ f rds R c) : Pt σ d f rds (updN R c 0) (c + 1) u := by
  have ob := h.ob hl (R' := updN R c 0) (fun i hi => updN_o R 0 (by omega))
  obtain ⟨h1, h2, h3, h4, h5, -⟩ := h
  have ag : ∀ i, i < c → updN R c 0 i = R i := fun i hi => updN_o R 0 (by omega)
  refine ⟨⟨fun i hi hr => ?_, fun i j a b hr => ?_⟩, fun s => ?_, ?_, fun i hi hs => ?_, fun i hi hr => ?_, ob⟩
  · by_cases y : i = c
    · rw [y, updN_c] at hr; exact absurd rfl hr
    · rw [ag i (by omega)] at hr ⊢; exact h1.1 i (by omega) hr
  · rw [ag i (by omega)] at hr ⊢
    by_cases y : j = c
    · rw [y, updN_c]; exact hr
    · rw [ag j (by omega)]; exact h1.2 i j a (by omega) hr
  · rw [h2]
    constructor
    · rintro ⟨i, a, b⟩
      exact ⟨i, by omega, by rw [ag i a]; exact b⟩
    · rintro ⟨i, a, b⟩
      by_cases y : i = c
      · rw [y, updN_c] at b; omega
      · rw [ag i (by omega)] at b; exact ⟨i, by omega, b⟩
  · rw [h3, mr, updN_c, if_pos rfl, mr_congr c ag]; rfl
  · by_cases y : i = c
    · rw [y, Ss_c hc, updN_c] at hs
      simp at hs
    · have e := agree_S (σ := σ) (f := f) (rds := rds) (ag i (by omega))
      rw [e.1] at hs
      rw [e.2, Gs_congr i (fun j hj => ag j (by omega))]
      exact h4 i (by omega) hs
  · by_cases y : i = c
    · rw [y, updN_c] at hr; exact absurd rfl hr
    · rw [ag i (by omega)] at hr ⊢; exact h5 i (by omega) hr
theorem Ss_x {R : Nat → Nat} {c s : Nat} (hc : c < σ 0 0) (h : R c = s + 1) : Ss σ f rds R (c + 1) = syB σ f rds s c ∧ ez σ R (c + 1) = esN σ s := by
  refine ⟨?_, ?_⟩
  · rw [Ss_c hc, h, Nat.add_sub_cancel, decide_eq_true (Nat.succ_ne_zero s), Bool.true_and]
  · rw [ez_c hc (by omega), h, Nat.add_sub_cancel]; rfl
theorem Pt.stone {R : Nat → Nat} {c s : Nat} {u : Nat → Bool} (hc : c < σ 0 0) (h : Pt σ d f rds R c u) (hl : LO σ f rds R c) (hs : s < σ 0 3) (h100 : σ 8 s ≠ 100) (hu : u s = false) (hy : syB σ f rds s c = true) (hn1 : c + 1 ≤ GsR σ d f rds R c + esN σ s) :
    Pt σ d f rds (updN R c (s + 1)) (c + 1) (fun t => u t || decide (t = s)) := by
  have ob := h.ob hl (R' := updN R c (s + 1)) (fun i hi => updN_o R _ (by omega))
  obtain ⟨h1, h2, h3, h4, h5, -⟩ := h
  have ag : ∀ i, i < c → updN R c (s + 1) i = R i := fun i hi => updN_o R _ (by omega)
  have eC := Ss_x (σ := σ) (f := f) (rds := rds) hc (updN_c R c (s + 1))
  have nou : ∀ i, i < c → R i ≠ s + 1 := fun i hi z => by
    have := (h2 s).mpr ⟨i, hi, z⟩
    rw [hu] at this; cases this
  refine ⟨⟨fun i hi hr => ?_, fun i j a b hr => ?_⟩, fun t => ?_, ?_, fun i hi hs2 => ?_, fun i hi hr => ?_, ob⟩
  · by_cases y : i = c
    · rw [y, updN_c, Nat.add_sub_cancel]; exact ⟨hs, h100⟩
    · rw [ag i (by omega)] at hr ⊢; exact h1.1 i (by omega) hr
  · rw [ag i (by omega)] at hr ⊢
    by_cases y : j = c
    · rw [y, updN_c]; exact nou i (by omega)
    · rw [ag j (by omega)]; exact h1.2 i j a (by omega) hr
  · rw [Bool.or_eq_true, decide_eq_true_iff, h2]
    constructor
    · rintro (⟨i, a, b⟩ | y)
      · exact ⟨i, by omega, by rw [ag i a]; exact b⟩
      · exact ⟨c, by omega, by rw [updN_c, y]⟩
    · rintro ⟨i, a, b⟩
      by_cases y : i = c
      · rw [y, updN_c] at b; exact Or.inr (by omega)
      · rw [ag i (by omega)] at b; exact Or.inl ⟨i, by omega, b⟩
  · rw [mr, updN_c, if_neg (Nat.succ_ne_zero s), mr_congr c ag, ← h3]
    exact cnt_flip (c := s) hu (by simp) (fun i hi => by simp [hi]) _ hs
  · by_cases y : i = c
    · rw [y, eC.2, Gs_congr c ag]
      exact hn1
    · have e := agree_S (σ := σ) (f := f) (rds := rds) (ag i (by omega))
      rw [e.1] at hs2
      rw [e.2, Gs_congr i (fun j hj => ag j (by omega))]
      exact h4 i (by omega) hs2
  · by_cases y : i = c
    · rw [y, updN_c, Nat.add_sub_cancel]; exact hy
    · rw [ag i (by omega)] at hr ⊢; exact h5 i (by omega) hr
/-- rows that go on so -/
def Cm (R : Nat → Nat) (c : Nat) (R' : Nat → Nat) : Prop := ∀ i, i < c → R' i = R i
/-- what a row that does for a plan tells of each of its cells -/
theorem Vd.near (hw : WF σ) {R : Nat → Nat} (h : Vd σ d f rds R) : (∀ i, i < σ 0 0 → Ss σ f rds R (i + 1) = true → i + 1 ≤ GsR σ d f rds R i + ez σ R (i + 1)) ∧ σ 0 0 + 1 ≤ GsR σ d f rds R (σ 0 0) := by
  have h1 := h.stay hw
  rw [grN_gp] at h1
  exact h1
/-- a row has no more stones than there are -/
theorem mr_used {R : Nat → Nat} : ∀ c, okR σ R c → ∃ u : Nat → Bool, (∀ s, u s = true ↔ ∃ i, i < c ∧ R i = s + 1) ∧ cnt u (σ 0 3) = mr R c := by
  intro c
  induction c with
  | zero => intro _; exact ⟨fun _ => false, fun s => ⟨fun h => (by cases h), fun ⟨i, hi, _⟩ => by omega⟩, cnt_z _ fun _ _ => rfl⟩
  | succ c ih =>
    intro h
    obtain ⟨u, h2, h3⟩ := ih ⟨fun i hi => h.1 i (by omega), fun i j a b => h.2 i j a (by omega)⟩
    by_cases z : R c = 0
    · refine ⟨u, fun s => (h2 s).trans ⟨fun ⟨i, a, b⟩ => ⟨i, by omega, b⟩, fun ⟨i, a, b⟩ => ?_⟩, ?_⟩
      · by_cases y : i = c
        · rw [y] at b; omega
        · exact ⟨i, by omega, b⟩
      · rw [mr, if_pos z, h3]; rfl
    · have hs := (h.1 c (by omega) z).1
      have hu : u (R c - 1) = false := Bool.eq_false_iff.mpr fun w => by
        obtain ⟨i, a, b⟩ := (h2 _).mp w
        have := h.2 i c a (by omega) (by omega)
        omega
      refine ⟨fun t => u t || decide (t = R c - 1), fun t => ?_, ?_⟩
      · rw [Bool.or_eq_true, decide_eq_true_iff, h2]
        constructor
        · rintro (⟨i, a, b⟩ | y)
          · exact ⟨i, by omega, b⟩
          · exact ⟨c, by omega, by omega⟩
        · rintro ⟨i, a, b⟩
          by_cases y : i = c
          · rw [y] at b; exact Or.inr (by omega)
          · exact Or.inl ⟨i, by omega, b⟩
      · rw [mr, if_neg z, ← h3]
        exact cnt_flip (c := R c - 1) hu (by simp) (fun i hi => by simp [hi]) _ hs
theorem mr_6 (hw : WF σ) {R : Nat → Nat} {c : Nat} (h : okR σ R c) : mr R c ≤ 6 := by
  have hm : σ 0 3 ≤ 6 := hw.2.2.2.2.1
  obtain ⟨u, -, h3⟩ := mr_used c h
  have := cnt_le u (σ 0 3)
  omega
theorem ct_worse (hw : WF σ) {b R : Nat → Nat} (hb : okR σ b (σ 0 0)) (hR : okR σ R (σ 0 0)) (h : ct σ b (σ 0 0) < ct σ R (σ 0 0)) : cdR σ b ≤ cdR σ R := by
  have h1 := mr_6 hw hR
  have h2 := mr_6 hw hb
  unfold ct at h
  exact cd_worse hw hb (by omega)
theorem cd_betterC (hw : WF σ) {b R : Nat → Nat} (hb : okR σ b (σ 0 0)) (hR : okR σ R (σ 0 0)) (h : ct σ R (σ 0 0) ≤ ct σ b (σ 0 0)) (hl : lx R (σ 0 0) < lx b (σ 0 0)) : cdR σ R ≤ cdR σ b := by
  have h5 := mr_6 hw hb
  have h6 := mr_6 hw hR
  unfold ct at h
  unfold cdR ky
  generalize lx b (σ 0 0) = x at *
  generalize lx R (σ 0 0) = y at *
  generalize wr σ b (σ 0 0) = w1 at *
  generalize wr σ R (σ 0 0) = w2 at *
  generalize mr b (σ 0 0) = m1 at *
  generalize mr R (σ 0 0) = m2 at *
  omega
theorem cd_better {b R : Nat → Nat} (h : ¬ (wr σ b (σ 0 0) < wr σ R (σ 0 0) ∨ (wr σ R (σ 0 0) = wr σ b (σ 0 0) ∧ mr b (σ 0 0) < mr R (σ 0 0)))) (hn : σ 0 0 ≤ 7) (hl : lx R (σ 0 0) < lx b (σ 0 0)) : cdR σ R ≤ cdR σ b := by
  have h5 := mr_le b (σ 0 0)
  have h6 := mr_le R (σ 0 0)
  unfold cdR ky
  generalize lx b (σ 0 0) = x at *
  generalize lx R (σ 0 0) = y at *
  generalize wr σ b (σ 0 0) = w1 at *
  generalize wr σ R (σ 0 0) = w2 at *
  generalize mr b (σ 0 0) = m1 at *
  generalize mr R (σ 0 0) = m2 at *
  omega
theorem Fa_none {R : Nat → Nat} {c : Nat} (hc : c < σ 0 0) (h : R c = 0) : FaR σ d f rds R (c + 1) = FaR σ d f rds R c := by
  have g2 : GsR σ d f rds R (c + 1) = GsR σ d f rds R c := by
    unfold GsR
    rw [gp, if_neg]
    rw [Ss_c hc, Bool.and_eq_true, decide_eq_true_iff]
    exact fun w => w.1 h
  unfold FaR
  rw [g2]
theorem Fa_stone {R : Nat → Nat} {c s : Nat} (hc : c < σ 0 0) (h : R c = s + 1) (hy : syB σ f rds s c = true) : FaR σ d f rds R (c + 1) = fbN σ d s c := by
  have eC := Ss_x (σ := σ) (f := f) (rds := rds) hc h
  have g2 : GsR σ d f rds R (c + 1) = c + 1 + esN σ s + d := by
    unfold GsR
    rw [gp, eC.1, eC.2, if_pos hy]
  unfold FaR fbN
  rw [g2, show c + 1 + esN σ s + d - 1 = c + esN σ s + d by omega]
theorem near_fa (h1 : 1 ≤ d) {R : Nat → Nat} {c s : Nat} (hc : c < σ 0 0) : (c + 1 ≤ GsR σ d f rds R c + esN σ s ↔ c ≤ FaR σ d f rds R c + esN σ s) := by
  have := Gs_ge (σ := σ) (d := d) (f := f) (rds := rds) R c
  unfold FaR
  split <;> omega
/-- no row that does costs less than what is looked for ahead -/
theorem ls_low (hw : WF σ) (h1 : 1 ≤ d) {R : Nat → Nat} (hV : VS σ d f rds R) : ∀ m c, c + m = σ 0 0 → ct σ R c + lsF σ d f rds m (FaR σ d f rds R c) ≤ ct σ R (σ 0 0) := by
  obtain ⟨q1, q2⟩ := hV.1.1.near hw
  intro m
  induction m with
  | zero =>
    intro c hc
    have e : c = σ 0 0 := by omega
    subst e
    have e2 : FaR σ d f rds R (σ 0 0) = σ 0 0 := by unfold FaR; split <;> omega
    rw [lsF_0, if_pos e2]
    exact Nat.le_refl _
  | succ m ih =>
    intro c hc
    have hcN : c < σ 0 0 := by omega
    have nx := ih (c + 1) (by omega)
    have eF : lsF σ d f rds (m + 1) (FaR σ d f rds R c) = lsS σ d f rds (lsF σ d f rds m) c (FaR σ d f rds R c) (σ 0 3) := by
      rw [lsF_s, show σ 0 0 - (m + 1) = c by omega]
    rw [eF]
    by_cases z : R c = 0
    · have e1 : ct σ R (c + 1) = ct σ R c := by unfold ct; rw [wr, mr, if_pos z, if_pos z]; rfl
      rw [e1, Fa_none hcN z] at nx
      have h2 := lsS_le (σ := σ) (d := d) (f := f) (rds := rds) (lsF σ d f rds m) c (FaR σ d f rds R c) (σ 0 3) 0
      rw [Nat.zero_add] at h2
      have h2 : _ ≤ lsF σ d f rds m (FaR σ d f rds R c) := h2
      omega
    · obtain ⟨s, hs⟩ : ∃ s, R c = s + 1 := ⟨R c - 1, by omega⟩
      have ho := hV.1.1.1.1 c hcN z
      rw [hs, Nat.add_sub_cancel] at ho
      have hy := hV.1.2 c hcN z
      rw [hs, Nat.add_sub_cancel] at hy
      have eC := Ss_x (σ := σ) (f := f) (rds := rds) hcN hs
      have q1c := q1 c hcN (by rw [eC.1]; exact hy)
      rw [eC.2, near_fa h1 hcN] at q1c
      have e1 : ct σ R (c + 1) = ct σ R c + csN σ s c := by
        unfold ct csN; rw [wr, mr, if_neg z, if_neg z, hs, Nat.add_sub_cancel]; omega
      rw [e1, Fa_stone hcN hs hy] at nx
      have h2 := lsS_one (σ := σ) (d := d) (f := f) (rds := rds) (lsF σ d f rds m) (c := c) (F := FaR σ d f rds R c) (s := s) ⟨by unfold uyB; rw [hy, decide_eq_true ho.2]; rfl, q1c⟩ ho.1
      omega
/-- nor is there one where a cell that is looked at loses its stone -/
theorem LO_of {R R' : Nat → Nat} {c : Nat} (hc : c ≤ σ 0 0) (hC : Cm R c R') (hV : VS σ d f rds R') : LO σ f rds R c := fun i _ hi hr => by
  have e := hC i hi
  have h1 := hV.2 i (by omega) (by rw [e]; exact hr)
  rw [e] at h1
  refine Nat.lt_of_le_of_lt (Nat.mul_le_mul_left _ (mor_mono (fun j hj => ?_) i)) h1
  unfold pre at hj
  rw [Bool.and_eq_true, decide_eq_true_iff] at hj
  rw [hC j hj.1]
  exact hj.2
/-- a row that has come through does for a plan -/
theorem Pt.whole {R : Nat → Nat} {u : Nat → Bool} (hp : Pt σ d f rds R (σ 0 0) u) (hl : LO σ f rds R (σ 0 0)) (hF : FaR σ d f rds R (σ 0 0) = σ 0 0) (h1 : 1 ≤ d) : VS σ d f rds R := by
  have hG : σ 0 0 + 1 ≤ GsR σ d f rds R (σ 0 0) := by
    have := Gs_ge (σ := σ) (d := d) (f := f) (rds := rds) R (σ 0 0)
    unfold FaR at hF
    split at hF <;> omega
  have hst : σ 0 0 + 1 ≤ grN (σ 0 0) (Ss σ f rds R) (ez σ R) d := grN_gp.mpr ⟨hp.2.2.2.1, hG⟩
  have hX : X σ R (σ 0 2) d := stay_dry hst
  have all : ∀ i, i < σ 0 0 → R i ≠ 0 → rds * mor σ (gG σ) f (fun j => R j != 0) i < hold σ (R i - 1) := fun i hi hr => by
    have key : ∀ c, (i + 2 ≤ c ∨ c = σ 0 0) → mor σ (gG σ) f (fun j => R j != 0) i = mor σ (gG σ) f (pre R c) i := fun c hc => by
      have e : frc σ f (fun j => R j != 0) i = frc σ f (pre R c) i := by
        unfold frc pre
        by_cases h0 : 0 < i
        · by_cases h2 : i + 1 < σ 0 0
          · rw [decide_eq_true (show i - 1 < c by omega), decide_eq_true (show i + 1 < c by omega)]; simp
          · rw [decide_eq_true (show i - 1 < c by omega)]; simp [h2]
        · by_cases h2 : i + 1 < σ 0 0
          · rw [decide_eq_true (show i + 1 < c by omega)]; simp [h0]
          · simp [h0, h2]
      unfold mor
      rw [e]
    by_cases y : i + 2 < σ 0 0
    · rw [key (i + 2) (Or.inl (Nat.le_refl _))]
      exact hp.2.2.2.2.2 i y hr
    · rw [key (σ 0 0) (Or.inr rfl)]
      exact hl i (by omega) hi hr
  refine ⟨⟨⟨hp.1, hX, Or.inr (X_cg (fun i hi => ?_) hX)⟩, hp.2.2.2.2.1⟩, all⟩
  have st := (fl_whole (σ := σ) (gB := gG σ) all rds (Nat.le_refl _) i hi).1
  unfold Lb
  by_cases z : R i = 0
  · rw [z]; split <;> rfl
  · rw [if_pos (by rw [st]; simpa using z)]
end PD
