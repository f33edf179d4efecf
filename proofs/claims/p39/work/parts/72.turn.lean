/-! ===== the law's turns: what always holds, and a stone set ===== -/
section TN
variable {σ : SG} {A : Nat → List Int32} {I : Nat → Nat → Int32} {fu : Nat} {P : Prop}
def TI (P : Prop) (σ : SG) (A : Nat → List Int32) (I : Nat → Nat → Int32) : Prop :=
  LB σ A ∧ RR σ A I ∧ (A 0).length ≤ 260 ∧ 3 ≤ σ 0 0 ∧ σ 0 4 = 3 ∧ (∀ s, s < σ 0 3 → σ 8 s ≠ 100) ∧ SHo A 2 none ∧ (P → SHo A 1 (some (8, 1)))
theorem LB.to (h : LB σ A) {B : Nat → List Int32} (h36 : B 36 = A 36) (h37 : B 37 = A 37) (h38 : B 38 = A 38) (h39 : B 39 = A 39) (h40 : B 40 = A 40) : LB σ B := by
  unfold LB at *
  rw [h36, h37, h38, h39, h40]
  exact h
theorem SHo.to {B : Nat → List Int32} {q : Nat} {o : Option (Nat × Nat)} (h : SHo A q o) (h12 : B 12 = A 12) (h13 : B 13 = A 13) : SHo B q o := by
  cases o with
  | none => show rd (B 13) q = -1; rw [h13]; exact h
  | some p =>
    obtain ⟨n, t⟩ := p
    obtain ⟨a, b, c, d⟩ := h
    exact ⟨a, b, by rw [h13]; exact c, by rw [h12]; exact d⟩
theorem TI.fr (h : TI P σ A I) {B : Nat → List Int32} {J : Nat → Nat → Int32} (f : Fr A I B J) : TI P σ B J := by
  obtain ⟨h1, h2, h3, h4, h5, h6, h7, h8⟩ := h
  have e := f.1
  exact ⟨h1.to (e 36 rfl) (e 37 rfl) (e 38 rfl) (e 39 rfl) (e 40 rfl), f.R h2, by rw [e 0 rfl]; exact h3, h4, h5, h6, h7.to (e 12 rfl) (e 13 rfl), fun p => (h8 p).to (e 12 rfl) (e 13 rfl)⟩
theorem TI.f17 (h : TI P σ A I) (x : Int32) : TI P σ A (uI I 1 7 x) := ⟨h.1, h.2.1.f17 x, h.2.2⟩
theorem TI.lb (h : TI P σ A I) : LB σ A := h.1
theorem TI.r (h : TI P σ A I) : RR σ A I := h.2.1
theorem TI.n7 (h : TI P σ A I) : σ 0 0 ≤ 7 := h.2.1.n7
theorem TI.m6 (h : TI P σ A I) : σ 0 3 ≤ 6 := h.2.1.m6
theorem TI.n3 (h : TI P σ A I) : 3 ≤ σ 0 0 := h.2.2.2.1
theorem TI.w3 (h : TI P σ A I) : σ 0 4 = 3 := h.2.2.2.2.1
theorem TI.v9 (h : TI P σ A I) : σ 0 2 ≤ 9 := h.2.1.1.2.2.2.1
def fl (z : Int32) (p q : Nat) : Int32 := if 0 < p ∧ p ≤ q then nI (p - 1) else z
theorem lo_is (r : RR σ A I) {q k : Nat} (hq : q < σ 0 0) (hk : k < σ 0 3) : (lo (σ 7 q) = nI k) = (σ 8 k = q + 1) := by
  have hn := r.n7
  have hm := r.m6
  cases hs : σ 7 q with
  | zero =>
    refine propext ⟨fun w => ?_, fun w => ?_⟩
    · have := n_neg (show k < 2147483648 by omega)
      rw [← w] at this
      exact absurd (show lo 0 < 0 by decide) (by rw [this]; exact id)
    · rcases r.plc hk with y | y | ⟨c, y1, y2, y3⟩
      · omega
      · omega
      · rw [show c = q by omega, hs] at y3; omega
  | succ s =>
    have h1 := r.row hq hs
    rw [lo_s, n_eq (show s < 2147483648 by omega) (show k < 2147483648 by omega)]
    refine propext ⟨fun w => by rw [← w]; exact h1.2, fun w => ?_⟩
    rcases r.plc hk with y | y | ⟨c, y1, y2, y3⟩
    · omega
    · omega
    · rw [show c = q by omega, hs] at y3; omega
theorem fl_step (z : Int32) (p q : Nat) : fl z p (q + 1) = if p = q + 1 then nI q else fl z p q := by
  unfold fl
  by_cases h : p = q + 1
  · rw [if_pos h, if_pos (by omega), h]; rfl
  · rw [if_neg h]
    by_cases g : 0 < p ∧ p ≤ q
    · rw [if_pos (by omega), if_pos g]
    · rw [if_neg (by omega), if_neg g]
theorem t_is (h : TI P σ A I) {k : Nat} (hk : k < σ 0 3) (a5 a8 a9 a10 a12 : Int32) : ∀ m q n, q + m = σ 0 0 →
    (F_L_law fu (n + m)).2.2.2.2.1 0 1 36 37 a5 38 39 a8 a9 a10 (nI k) a12 (fl (-1) (σ 8 k) q) (nI q) (enc A I) = (F_L_law fu (n)).2.2.2.2.1 0 1 36 37 a5 38 39 a8 a9 a10 (nI k) a12 (fl (-1) (σ 8 k) (σ 0 0)) (nI (σ 0 0)) (enc A I) := by
  have hn := h.n7
  intro m
  induction m with
  | zero => intro q n hq; rw [show q = σ 0 0 by omega]; rfl
  | succ m ih =>
    intro q n hq
    have hc : q < σ 0 0 := by omega
    rw [show n + (m + 1) = n + m + 1 from rfl, L_4, h.lb.b0, Option.bind_some, if_pos (by rw [n_lt (by omega) (by omega)]; exact hc), h.lb.l0 hc, Option.bind_some, ← ih (q + 1) n (by omega), fl_step, nI_1]
    simp only [lo_is h.r hc hk]
    by_cases z : σ 8 k = q + 1
    · rw [if_pos z, if_pos z]
    · rw [if_neg z, if_neg z]
theorem t_now (h : TI P σ A I) {k : Nat} (hk : k < σ 0 3) (a5 a8 a9 a10 : Int32) : ∀ m q n, q + m = σ 0 0 →
    (F_L_law fu (n + m)).2.2.2.2.2.2.2.2.1 0 1 36 37 a5 38 39 a8 a9 a10 (nI k) (fl (-9) (σ 8 k) q) (nI q) (enc A I) = (F_L_law fu (n)).2.2.2.2.2.2.2.2.1 0 1 36 37 a5 38 39 a8 a9 a10 (nI k) (fl (-9) (σ 8 k) (σ 0 0)) (nI (σ 0 0)) (enc A I) := by
  have hn := h.n7
  intro m
  induction m with
  | zero => intro q n hq; rw [show q = σ 0 0 by omega]; rfl
  | succ m ih =>
    intro q n hq
    have hc : q < σ 0 0 := by omega
    rw [show n + (m + 1) = n + m + 1 from rfl, L_8, h.lb.b0, Option.bind_some, if_pos (by rw [n_lt (by omega) (by omega)]; exact hc), h.lb.l0 hc, Option.bind_some, ← ih (q + 1) n (by omega), fl_step, nI_1]
    simp only [lo_is h.r hc hk]
    by_cases z : σ 8 k = q + 1
    · rw [if_pos z, if_pos z]
    · rw [if_neg z, if_neg z]
theorem fl_pl (h : TI P σ A I) {k : Nat} (hk : k < σ 0 3) : fl (-9) (σ 8 k) (σ 0 0) = pl (σ 8 k) := by
  have hg := h.2.2.2.2.2.1 k hk
  unfold fl pl
  rcases h.r.plc hk with y | y | ⟨c, y1, y2, y3⟩
  · rw [if_neg (by omega), if_pos y]
  · exact absurd y hg
  · rw [if_pos (by omega), if_neg (by omega), if_neg hg]
theorem t_end8 (hf : 1000 ≤ fu) (h : TI P σ A I) {k : Nat} (hk : k < σ 0 3) (a5 a8 a9 a10 : Int32) (n : Nat) :
    (F_L_law fu (n + 1)).2.2.2.2.2.2.2.2.1 0 1 36 37 a5 38 39 a8 a9 a10 (nI k) (fl (-9) (σ 8 k) (σ 0 0)) (nI (σ 0 0)) (enc A I) = (F_L_law fu (n)).2.2.2.2.2.2.2.2.2.1 0 1 36 37 a5 38 39 a8 a9 a10 0 0 (enc A I) := by
  have hn := h.n7
  rw [L_8, h.lb.b0, Option.bind_some, if_neg (by rw [n_lt (by omega) (by omega)]; omega), k_ofStone5 hf h.r hk, cI_some, fl_pl h hk, if_pos rfl]
/-- where a stone goes, as the law names it -/
def tgt (N c : Nat) : Nat := if c = N then 0 else c + 1
theorem ro_tgt {N c : Nat} : ro (tgt N c) = if c = N then -9 else nI c := by
  unfold tgt
  by_cases z : c = N
  · rw [if_pos z, if_pos z]; rfl
  · rw [if_neg z, if_neg z]; rfl
theorem t_may (h : TI P σ A I) {k c : Nat} (hk : k < σ 0 3) (hc : c ≤ σ 0 0) (may : c = σ 0 0 ∨ σ 7 c = 0) (a5 a8 a9 a10 a13 : Int32) (n : Nat) :
    (F_L_law fu (n + 2)).2.2.2.2.1 0 1 36 37 a5 38 39 a8 a9 a10 (nI k) (nI c) a13 (nI (σ 0 0)) (enc A I) = (F_L_law fu (n)).2.2.2.2.2.2.1 0 1 36 37 a5 38 39 a8 a9 a10 (nI k) (nI c) a13 1 (ro (tgt (σ 0 0) c)) (nI k) 1 (enc A I) := by
  have hn := h.n7
  have e5 : (F_L_law fu (n + 1)).2.2.2.2.2.1 0 1 36 37 a5 38 39 a8 a9 a10 (nI k) (nI c) a13 (enc A I) = (F_L_law fu (n)).2.2.2.2.2.2.1 0 1 36 37 a5 38 39 a8 a9 a10 (nI k) (nI c) a13 1 (ro (tgt (σ 0 0) c)) (nI k) 1 (enc A I) := by
    rw [L_5, h.lb.b0, Option.bind_some, ro_tgt]
    simp only [n_eq (show c < 2147483648 by omega) (show σ 0 0 < 2147483648 by omega)]
    by_cases z : c = σ 0 0
    · rw [if_pos z, if_pos z]
    · rw [if_neg z, if_neg z]
  rw [L_4, h.lb.b0, Option.bind_some, if_neg (by rw [n_lt (by omega) (by omega)]; omega), Option.bind_some]
  simp only [n_eq (show c < 2147483648 by omega) (show σ 0 0 < 2147483648 by omega)]
  by_cases z : c = σ 0 0
  · rw [if_pos z]; exact e5
  · have hcl : c < σ 0 0 := by omega
    rw [if_neg z, h.lb.l0 hcl, Option.bind_some, if_pos (by rw [lo_neg (by have := h.lb.le hcl; omega)]; rcases may with y | y; exact absurd y z; exact y)]
    exact e5
theorem t_mayN (h : TI P σ A I) {k c : Nat} (hk : k < σ 0 3) (hc : c < σ 0 0) (may : σ 7 c ≠ 0) (a5 a8 a9 a10 a13 : Int32) (n : Nat) :
    (F_L_law fu (n + 1)).2.2.2.2.1 0 1 36 37 a5 38 39 a8 a9 a10 (nI k) (nI c) a13 (nI (σ 0 0)) (enc A I) = (F_L_law fu (n)).2.2.2.2.2.2.1 0 1 36 37 a5 38 39 a8 a9 a10 (nI k) (nI c) a13 0 (ro (tgt (σ 0 0) c)) (nI k) 1 (enc A I) := by
  have hn := h.n7
  have ne : ¬ nI c = nI (σ 0 0) := by rw [n_eq (by omega) (by omega)]; omega
  rw [L_4, h.lb.b0, Option.bind_some, if_neg (by rw [n_lt (by omega) (by omega)]; omega), Option.bind_some, if_neg ne, h.lb.l0 hc, Option.bind_some, if_neg (by rw [lo_neg (by have := h.lb.le hc; omega)]; exact may), Option.bind_some, if_neg ne, ro_tgt, if_neg (by omega)]
theorem TI.a5 (h : TI P σ A I) {s k : Nat} (hk : k ≤ σ 0 0) {A1 : Nat → List Int32} (r : RR (setS σ s k) A1 I) (o : ∀ j, j ≠ 5 → A1 j = A j) {L : List Int32} (hl : L.length = 7) (hL : ∀ c, c < σ 0 0 → rd L c = lo (setS σ s k 7 c)) :
    TI P (setS σ s k) (uA A1 39 L) I := by
  obtain ⟨⟨b1, b2, b3, b4, b5, b6, b7, b8, b9, b10, b11⟩, h2, h3, h4, h5, h6, h7, h8⟩ := h
  have hn := h2.n7
  have o' : ∀ j, j ≠ 5 → j ≠ 39 → uA A1 39 L j = A j := fun j j1 j2 => by rw [uA_n _ _ _ j2, o j j1]
  refine ⟨⟨r.1, by rw [o' 40 (by decide) (by decide)]; exact b2, by rw [o' 36 (by decide) (by decide)]; exact b3, by rw [o' 37 (by decide) (by decide)]; exact b4, by rw [o' 38 (by decide) (by decide)]; exact b5, by rw [uA_s]; exact hl, by rw [o' 36 (by decide) (by decide)]; exact b7, by rw [o' 36 (by decide) (by decide)]; exact b8, by rw [o' 37 (by decide) (by decide)]; exact b9, by rw [o' 38 (by decide) (by decide)]; exact b10, fun c hc => by rw [uA_s]; exact hL c hc⟩, r.tl fun j hj => uA_n _ _ _ (by omega), by rw [o' 0 (by decide) (by decide)]; exact h3, h4, h5, fun s' hs' => ?_, h7.to (o' 12 (by decide) (by decide)) (o' 13 (by decide) (by decide)), fun p => (h8 p).to (o' 12 (by decide) (by decide)) (o' 13 (by decide) (by decide))⟩
  have e8 : setS σ s k 8 s' = if s' = s then k else σ 8 s' := by simp [setS]
  rw [e8]
  by_cases z : s' = s
  · rw [if_pos z]; omega
  · rw [if_neg z]; exact h6 s' hs'
theorem t_setY (hf : 1000 ≤ fu) (h : TI P σ A I) {k c : Nat} (hk : k < σ 0 3) (hc : c ≤ σ 0 0) (may : c = σ 0 0 ∨ σ 7 c = 0) (a5 a8 a9 a10 : Int32) (n : Nat) :
    ∃ B, TI P (setS σ k (tgt (σ 0 0) c)) B I ∧ (F_L_law fu (n + 2)).2.2.2.2.2.2.1 0 1 36 37 a5 38 39 a8 a9 a10 (nI k) (nI c) (fl (-1) (σ 8 k) (σ 0 0)) 1 (ro (tgt (σ 0 0) c)) (nI k) 1 (enc A I) = (F_L_law fu (n)).2.2.2.2.2.2.2.2.1 0 1 36 37 a5 38 39 a8 a9 a10 (nI k) (-9) 0 (enc B I) := by
  have hn := h.n7
  have hg := h.2.2.2.2.2.1 k hk
  have ht : tgt (σ 0 0) c ≤ σ 0 0 := by unfold tgt; split <;> omega
  have hfree : ∀ c', tgt (σ 0 0) c = c' + 1 → σ 7 c' = 0 := fun c' e => by
    unfold tgt at e
    by_cases z : c = σ 0 0
    · rw [if_pos z] at e; omega
    · rw [if_neg z] at e
      rw [show c' = c by omega]
      rcases may with y | y
      · exact absurd y z
      · exact y
  obtain ⟨A1, e1, r1, o1⟩ := (k_set (fu := fu) hf h.r hk hg ht).1 hfree
  have b0 : ∀ J, aI (enc A1 J) 36 0 = some (nI (σ 0 0)) := fun J => (h.lb.to (o1 36 (by decide)) (o1 37 (by decide)) (o1 38 (by decide)) (o1 39 (by decide)) (o1 40 (by decide))).b0
  have l40 : 4 ≤ (A1 40).length := by rw [o1 40 (by decide), h.lb.2.1]; decide
  have l39 : (A1 39).length = 7 := by rw [o1 39 (by decide)]; exact h.lb.2.2.2.2.2.1
  have e39 : ∀ c, c < σ 0 0 → rd (A1 39) c = lo (σ 7 c) := fun c hc => by rw [o1 39 (by decide)]; exact h.lb.2.2.2.2.2.2.2.2.2.2 c hc
  have es : ∀ i, setS σ k (tgt (σ 0 0) c) 7 i = if i + 1 = tgt (σ 0 0) c then k + 1 else if σ 7 i = k + 1 then 0 else σ 7 i := fun i => by simp [setS]
  -- what was in a cell leaves it
  have key : ∀ L : List Int32, L.length = 7 → (∀ i, i < σ 0 0 → rd L i = if σ 7 i = k + 1 then -1 else lo (σ 7 i)) →
      ∃ B, TI P (setS σ k (tgt (σ 0 0) c)) B I ∧ (F_L_law fu (n + 1)).2.2.2.2.2.2.2.1 0 1 36 37 a5 38 39 a8 a9 a10 (nI k) (nI c) 1 (enc (uA A1 39 L) I) = (F_L_law fu (n)).2.2.2.2.2.2.2.2.1 0 1 36 37 a5 38 39 a8 a9 a10 (nI k) (-9) 0 (enc B I) := fun L hl hL => by
    have b0' : aI (enc (uA A1 39 L) I) 36 0 = some (nI (σ 0 0)) := by
      refine (ai_36 (j := 0) (by rw [uA_n _ _ _ (by decide)]; omega) (by rw [uA_n _ _ _ (by decide), o1 36 (by decide), h.lb.2.2.1]; decide) (by omega)).trans ?_
      rw [uA_n _ _ _ (by decide), o1 36 (by decide), h.lb.2.2.2.2.2.2.1]
    by_cases z : c = σ 0 0
    · refine ⟨uA A1 39 L, h.a5 ht r1 o1 hl fun i hi => ?_, ?_⟩
      · rw [hL i hi, es]
        have : tgt (σ 0 0) c = 0 := if_pos z
        rw [if_neg (show ¬ i + 1 = tgt (σ 0 0) c by omega)]
        by_cases y : σ 7 i = k + 1
        · rw [if_pos y, if_pos y]; rfl
        · rw [if_neg y, if_neg y]
      · rw [L_7, if_neg (by decide), b0', Option.bind_some, if_neg (by rw [n_lt (by omega) (by omega)]; omega)]
    · have hcl : c < σ 0 0 := by omega
      have ht : tgt (σ 0 0) c = c + 1 := if_neg z
      have s39 : sI (enc (uA A1 39 L) I) 39 (nI c) (nI k) = some (enc (uA A1 39 (L.set c (nI k))) I) := by
        rw [si_39 (by rw [uA_n _ _ _ (by decide)]; omega) _ (by rw [uA_s, hl]; omega) (by omega), uA_s, uA_uA]
      refine ⟨uA A1 39 (L.set c (nI k)), h.a5 (by omega) r1 o1 (by rw [List.length_set]; exact hl) fun i hi => ?_, ?_⟩
      · rw [rd_set _ _ (by omega), hL i hi, es]
        by_cases y : i = c
        · rw [if_pos y, if_pos (by omega)]; rfl
        · rw [if_neg y, if_neg (show ¬ i + 1 = tgt (σ 0 0) c by omega)]
          by_cases x : σ 7 i = k + 1
          · rw [if_pos x, if_pos x]; rfl
          · rw [if_neg x, if_neg x]
      · rw [L_7, if_neg (by decide), b0', Option.bind_some, if_pos (by rw [n_lt (by omega) (by omega)]; exact hcl), s39, Option.bind_some]
  rw [L_6, e1, cI_some, if_neg (by decide), if_pos rfl, if_neg (by decide)]
  unfold fl
  rcases h.r.plc hk with y | y | ⟨d, y1, y2, y3⟩
  · rw [if_neg (show ¬ (0 < σ 8 k ∧ σ 8 k ≤ σ 0 0) by omega), if_pos (by decide)]
    obtain ⟨B, b1, b2⟩ := key (A1 39) l39 fun i hi => by
      rw [e39 i hi, if_neg (fun w => by have := (h.r.row hi w).2; omega)]
    rw [uA_self] at b2
    exact ⟨B, b1, b2⟩
  · exact absurd y hg
  · rw [if_pos (show 0 < σ 8 k ∧ σ 8 k ≤ σ 0 0 by omega), if_neg (by rw [n_neg (by omega)]; exact id), show σ 8 k - 1 = d by omega, si_39 l40 _ (by rw [l39]; omega) (by omega), Option.bind_some]
    exact key _ (by rw [List.length_set]; exact l39) fun i hi => by
      rw [rd_set _ _ (by rw [l39]; omega), e39 i hi]
      by_cases z : i = d
      · rw [if_pos z, z, if_pos y3]
      · rw [if_neg z, if_neg (fun w => z (by have := (h.r.row hi w).2; omega))]
theorem t_setN (hf : 1000 ≤ fu) (h : TI P σ A I) {k c : Nat} (hk : k < σ 0 3) (hc : c < σ 0 0) (may : σ 7 c ≠ 0) (a5 a8 a9 a10 a13 : Int32) (n : Nat) :
    (F_L_law fu (n + 2)).2.2.2.2.2.2.1 0 1 36 37 a5 38 39 a8 a9 a10 (nI k) (nI c) a13 0 (ro (tgt (σ 0 0) c)) (nI k) 1 (enc A I) = (F_L_law fu (n)).2.2.2.2.2.2.2.2.1 0 1 36 37 a5 38 39 a8 a9 a10 (nI k) (-9) 0 (enc A I) := by
  have hn := h.n7
  have hg := h.2.2.2.2.2.1 k hk
  have ht : tgt (σ 0 0) c = c + 1 := if_neg (by omega)
  have e1 := (k_set (fu := fu) hf h.r hk hg (show tgt (σ 0 0) c ≤ σ 0 0 by omega)).2 (fun w => may (w c ht))
  rw [L_6, e1, cI_some, if_pos rfl, if_pos rfl, if_pos rfl, L_7, if_pos rfl]
/-- a stone's turn -/
theorem t_stone (hf : 1000 ≤ fu) (h : TI P σ A I) {k c : Nat} (hk : k < σ 0 3) (hc : c ≤ σ 0 0) (a8 a9 a10 : Int32) {n : Nat} (hn : 40 ≤ n) :
    ∃ j σ' B, n ≤ j + 40 ∧ TI P σ' B I ∧ σ' 0 3 = σ 0 3 ∧ σ' 0 2 = σ 0 2 ∧ (F_L_law fu (n)).2.2.2.2.1 0 1 36 37 (nI (σ 0 3)) 38 39 a8 a9 a10 (nI k) (nI c) (-1) 0 (enc A I) = (F_L_law fu (j)).2.2.2.2.2.2.2.2.2.1 0 1 36 37 (nI (σ 0 3)) 38 39 a8 a9 a10 0 0 (enc B I) := by
  have hn7 := h.n7
  have hg := h.2.2.2.2.2.1 k hk
  have f0 : ∀ z p, fl z p 0 = z := fun z p => if_neg (by omega)
  by_cases may : c = σ 0 0 ∨ σ 7 c = 0
  · obtain ⟨m, rfl⟩ : ∃ m, n = m + 1 + σ 0 0 + 2 + 2 + σ 0 0 := ⟨n - (1 + σ 0 0 + 2 + 2 + σ 0 0), by omega⟩
    have e1 := t_is (fu := fu) h hk (nI (σ 0 3)) a8 a9 a10 (nI c) (σ 0 0) 0 (m + 1 + σ 0 0 + 2 + 2) (by omega)
    rw [f0] at e1
    obtain ⟨B, b1, b2⟩ := t_setY (fu := fu) hf h hk hc may (nI (σ 0 3)) a8 a9 a10 (m + 1 + σ 0 0)
    have e2 := t_now (fu := fu) b1 hk (nI (σ 0 3)) a8 a9 a10 (σ 0 0) 0 (m + 1) (Nat.zero_add _)
    rw [f0] at e2
    exact ⟨m, _, B, by omega, b1, rfl, rfl, e1.trans ((t_may h hk hc may _ _ _ _ _ _).trans (b2.trans (e2.trans (t_end8 hf b1 hk _ _ _ _ m))))⟩
  · obtain ⟨m, rfl⟩ : ∃ m, n = m + 1 + σ 0 0 + 2 + 1 + σ 0 0 := ⟨n - (1 + σ 0 0 + 2 + 1 + σ 0 0), by omega⟩
    have e1 := t_is (fu := fu) h hk (nI (σ 0 3)) a8 a9 a10 (nI c) (σ 0 0) 0 (m + 1 + σ 0 0 + 2 + 1) (by omega)
    rw [f0] at e1
    have e2 := t_now (fu := fu) h hk (nI (σ 0 3)) a8 a9 a10 (σ 0 0) 0 (m + 1) (by omega)
    rw [f0] at e2
    have hcl : c < σ 0 0 := by omega
    have h7 : σ 7 c ≠ 0 := fun w => may (Or.inr w)
    exact ⟨m, σ, A, by omega, h, rfl, rfl, e1.trans ((t_mayN h hk hcl h7 _ _ _ _ _ _).trans ((t_setN hf h hk hcl h7 _ _ _ _ _ _).trans (e2.trans (t_end8 hf h hk _ _ _ _ m))))⟩
end TN
