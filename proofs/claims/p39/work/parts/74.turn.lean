/-! ===== the law's turns: the way ===== -/
section TW
variable {σ : SG} {A : Nat → List Int32} {I : Nat → Nat → Int32} {fu : Nat} {P : Prop}
/-- nobody comes across at all -/
def Non (σ : SG) (d : Nat) : Prop := ∀ L, ¬ Wk (σ 0 0) (S0 σ) (E0 σ) d (σ 0 0 + 1) L 0
theorem rw0 (σ : SG) : Rw (σ 0 0) (S0 σ) (E0 σ) := rw_of σ (σ 7) (σ 0 2)
theorem far_iff {d p n : Nat} (hp : p ≤ σ 0 0 + 1) (hS : S0 σ p = true) : cs (σ 0 0) (S0 σ) (E0 σ) d p n (σ 0 0 + 1) = true ↔ ∃ K, K ≤ n ∧ Wk (σ 0 0) (S0 σ) (E0 σ) d (σ 0 0 + 1) K p := by
  rw [cs_iff hp (Nat.le_refl _)]
  constructor
  · rintro ⟨L, h1, h2⟩
    have := h2.rev hS hp (σ 0 0 + 1) 0 .z
    rw [Nat.zero_add] at this
    exact ⟨L, h1, this⟩
  · rintro ⟨L, h1, h2⟩
    have := h2.rev (rw0 σ).2.1 (Nat.le_refl _) p 0 .z
    rw [Nat.zero_add] at this
    exact ⟨L, h1, this⟩
theorem far_non {d n : Nat} (h : Non σ d) : ¬ cs (σ 0 0) (S0 σ) (E0 σ) d 0 n (σ 0 0 + 1) = true := by
  rw [far_iff (Nat.zero_le _) (rw0 σ).1]
  rintro ⟨K, _, w⟩
  exact h K w
theorem far_mn {d n L : Nat} (h : Mn0 σ d 0 L) : cs (σ 0 0) (S0 σ) (E0 σ) d 0 n (σ 0 0 + 1) = true ↔ L ≤ n := by
  rw [far_iff (Nat.zero_le _) (rw0 σ).1]
  exact ⟨fun ⟨K, h1, h2⟩ => Nat.le_trans (h.2 K h2) h1, fun g => ⟨L, g, h.1⟩⟩
theorem few_non (hf : 1000 ≤ fu) (h : TI P σ A I) {x : Nat} (hx : x < 3) (hN : Non σ (σ 10 x)) (a9 a10 : Int32) : ∀ m n, m ≤ 9 →
    (F_L_law fu (n + m)).2.2.2.2.2.2.2.2.2.2.2.2.2.2.2.1 0 1 36 37 (nI (σ 0 3)) 38 39 (nI (σ 0 2)) a9 a10 (nI x) (nI (σ 0 0 + 1)) (-9) (nI m) (enc A I) = (F_L_law fu (n)).2.2.2.2.2.2.2.2.2.2.2.2.2.2.2.1 0 1 36 37 (nI (σ 0 3)) 38 39 (nI (σ 0 2)) a9 a10 (nI x) (nI (σ 0 0 + 1)) (-9) (nI 0) (enc A I) := by
  have hx4 : x < σ 0 4 := by rw [h.w3]; exact hx
  have hw := h.r.wal hx4
  intro m
  induction m with
  | zero => intro n _; rfl
  | succ m ih =>
    intro n hm
    have lc := l_come (fu := fu) (I := I) hf h.lb (v := σ 0 2) (d := σ 10 x) (a := 0) (n := m + 1) h.v9 hw.2 (Nat.zero_le _) hm
    rw [show nI 0 = (0 : Int32) from rfl] at lc
    rw [show n + (m + 1) = n + m + 1 from rfl, L_15, if_pos (by rw [nI_0lt (by omega)]; omega), h.lb.s0 hx, Option.bind_some, lc, cI_some]
    simp only [come_bit h.n7 (Nat.le_refl (σ 0 0 + 1))]
    rw [if_neg (far_non hN), n_m1, n_sub1]
    exact ih n (by omega)
theorem few_mn (hf : 1000 ≤ fu) (h : TI P σ A I) {x L : Nat} (hx : x < 3) (hL8 : L ≤ 8) (hL : Mn0 σ (σ 10 x) 0 L) (a9 a10 : Int32) : ∀ m n, m ≤ 9 →
    (F_L_law fu (n + m)).2.2.2.2.2.2.2.2.2.2.2.2.2.2.2.1 0 1 36 37 (nI (σ 0 3)) 38 39 (nI (σ 0 2)) a9 a10 (nI x) (nI (σ 0 0 + 1)) (if m = 9 then -9 else nI (max L (m + 1))) (nI m) (enc A I) = (F_L_law fu (n)).2.2.2.2.2.2.2.2.2.2.2.2.2.2.2.1 0 1 36 37 (nI (σ 0 3)) 38 39 (nI (σ 0 2)) a9 a10 (nI x) (nI (σ 0 0 + 1)) (nI (max L 1)) (nI 0) (enc A I) := by
  have hx4 : x < σ 0 4 := by rw [h.w3]; exact hx
  have hw := h.r.wal hx4
  intro m
  induction m with
  | zero => intro n _; rfl
  | succ m ih =>
    intro n hm
    have lc := l_come (fu := fu) (I := I) hf h.lb (v := σ 0 2) (d := σ 10 x) (a := 0) (n := m + 1) h.v9 hw.2 (Nat.zero_le _) hm
    rw [show nI 0 = (0 : Int32) from rfl] at lc
    have e := ih n (by omega)
    rw [if_neg (by omega)] at e
    rw [show n + (m + 1) = n + m + 1 from rfl, L_15, if_pos (by rw [nI_0lt (by omega)]; omega), h.lb.s0 hx, Option.bind_some, lc, cI_some]
    simp only [come_bit h.n7 (Nat.le_refl (σ 0 0 + 1)), far_mn hL]
    rw [n_m1, n_sub1, ← e]
    by_cases z : L ≤ m + 1
    · rw [if_pos z, show max L (m + 1) = m + 1 by omega]
    · rw [if_neg z, if_neg (by omega), show max L (m + 1 + 1) = max L (m + 1) by omega]
theorem non_mn {d L : Nat} (h : Non σ d) (g : Mn0 σ d 0 L) : False := h L g.1
/-- each stop of no way -/
theorem way_non (hf : 1000 ≤ fu) {x : Nat} (hx : x < 3) (hN : Non σ (σ 10 x)) (a9 a10 a15 : Int32) : ∀ m q n (A : Nat → List Int32) (I : Nat → Nat → Int32), TI P σ A I → q + m = 9 →
    ∃ B J, TI P σ B J ∧ (F_L_law fu (n + m + 1)).2.2.2.2.2.2.2.2.2.2.2.2.2.2.2.2.1 0 1 36 37 (nI (σ 0 3)) 38 39 (nI (σ 0 2)) a9 a10 (nI x) a15 (-9) 0 (nI q) (enc A I) = (F_L_law fu (n)).2.2.2.2.2.2.2.2.2.2.2.2.2.2.2.2.2.2.2.1 0 1 36 37 (nI (σ 0 3)) 38 39 (nI (σ 0 2)) a9 a10 (nI x) a15 (enc B J) := by
  intro m
  induction m with
  | zero =>
    intro q n A I h hq
    refine ⟨A, I, h, ?_⟩
    rw [show n + 0 + 1 = n + 1 from rfl, L_16, show q = 9 by omega, if_neg (by decide), if_neg (by decide)]
  | succ m ih =>
    intro q n A I h hq
    have hx4 : x < σ 0 4 := by rw [h.w3]; exact hx
    obtain ⟨A1, I1, v, f, e1, e2⟩ := k_wayq (fu := fu) hf h.r hx4 (qn := q) (by omega)
    have hv : v = -9 := by
      rcases e2 with ⟨_, y⟩ | ⟨L, _, g, _⟩
      · exact y
      · exact (non_mn hN g).elim
    obtain ⟨B, J, b1, b2⟩ := ih (q + 1) n A1 I1 (h.fr f) (by omega)
    refine ⟨B, J, b1, ?_⟩
    rw [show n + (m + 1) + 1 = n + m + 1 + 1 from rfl, L_16, if_pos (by rw [show (9 : Int32) = nI 9 from rfl, n_lt (by omega) (by omega)]; omega), if_pos (by decide), e1, cI_some, if_pos hv, nI_1]
    exact b2
/-- the first place ahead that is near and from which so many strides are left -/
def cond (σ : SG) (d l a p : Nat) : Prop := p ≠ a ∧ S0 σ p = true ∧ near (E0 σ) d a p ∧ cs (σ 0 0) (S0 σ) (E0 σ) d p l (σ 0 0 + 1) = true
theorem cond_b {d l a b : Nat} (hb : NX0 σ d l a b) : cond σ d l a b := by
  obtain ⟨h1, h2, h3, h4, h5⟩ := hb
  have hS := (h4.st (rw0 σ)).1
  exact ⟨by omega, hS, h3, (far_iff h2 hS).mpr ⟨l, Nat.le_refl _, h4.1⟩⟩
theorem cond_n {d l a b p : Nat} (ha : Mn0 σ d a (l + 1)) (hb : NX0 σ d l a b) (hp : p < b) : ¬ cond σ d l a p := by
  rintro ⟨c1, c2, c3, c4⟩
  obtain ⟨h1, h2, h3, h4, h5⟩ := hb
  have hst := ha.st (rw0 σ)
  obtain ⟨K, k1, k2⟩ := (far_iff (show p ≤ σ 0 0 + 1 by omega) c2).mp c4
  by_cases z : p < a
  · obtain ⟨M, m1, m2⟩ := k2.mono (rw0 σ) a (by omega) hst.2 hst.1
    have := ha.2 M m2
    omega
  · have low : ∀ K, Wk (σ 0 0) (S0 σ) (E0 σ) d (σ 0 0 + 1) K p → l ≤ K := fun K w => by
      have := ha.2 (K + 1) (w.s ⟨by omega, by omega, hst.1, near_sym c3⟩)
      omega
    refine h5 p (by omega) hp ⟨c3, ?_⟩
    have e : K = l := by have := low K k2; omega
    rw [e] at k2
    exact ⟨k2, low⟩
theorem way_p (hf : 1000 ≤ fu) (h : TI P σ A I) {x l a b q L : Nat} (hx : x < 3) (ha : Mn0 σ (σ 10 x) a (l + 1)) (hb : NX0 σ (σ 10 x) l a b) (hL8 : L ≤ 8) (hlq : L = l + 1 + q) (a9 a10 : Int32) : ∀ p z n, p ≤ σ 0 0 + 1 → (p < b → z = nI b) →
    (F_L_law fu (n + 2 * p)).2.2.2.2.2.2.2.2.2.2.2.2.2.2.2.2.2.1 0 1 36 37 (nI (σ 0 3)) 38 39 (nI (σ 0 2)) a9 a10 (nI x) (nI (σ 0 0 + 1)) (nI L) (nI a) (nI q) z (nI p) (enc A I) = (F_L_law fu (n)).2.2.2.2.2.2.2.2.2.2.2.2.2.2.2.2.2.1 0 1 36 37 (nI (σ 0 3)) 38 39 (nI (σ 0 2)) a9 a10 (nI x) (nI (σ 0 0 + 1)) (nI L) (nI a) (nI q) (nI b) (nI 0) (enc A I) := by
  have hx4 : x < σ 0 4 := by rw [h.w3]; exact hx
  have hw := h.r.wal hx4
  have hn := h.n7
  have haN := (ha.st (rw0 σ)).2
  intro p
  induction p with
  | zero =>
    intro z n _ hz
    rw [hz (by have := hb.1; omega)]; rfl
  | succ p ih =>
    intro z n hp hz
    have s18 : ∀ c : Prop, [Decidable c] → (c ↔ (p + 1 ≠ a ∧ S0 σ (p + 1) = true ∧ near (E0 σ) (σ 10 x) a (p + 1))) →
        (F_L_law fu (n + 2 * p + 1)).2.2.2.2.2.2.2.2.2.2.2.2.2.2.2.2.2.2.1 0 1 36 37 (nI (σ 0 3)) 38 39 (nI (σ 0 2)) a9 a10 (nI x) (nI (σ 0 0 + 1)) (nI L) (nI a) (nI q) z (nI (p + 1)) (bI c) (enc A I) = (F_L_law fu (n)).2.2.2.2.2.2.2.2.2.2.2.2.2.2.2.2.2.1 0 1 36 37 (nI (σ 0 3)) 38 39 (nI (σ 0 2)) a9 a10 (nI x) (nI (σ 0 0 + 1)) (nI L) (nI a) (nI q) (nI b) (nI 0) (enc A I) := fun c _ hc => by
      have lc := l_come (fu := fu) (I := I) hf h.lb (v := σ 0 2) (d := σ 10 x) (a := p + 1) (n := l) h.v9 hw.2 hp (by omega)
      rw [L_18, n_m1, n_sub1]
      by_cases y : c
      · have el : nI L - 1 - nI q = nI l := by rw [hlq, show l + 1 + q = l + q + 1 by omega, n_sub1, pk_sub (by omega), Nat.add_sub_cancel]
        rw [bI_t y, if_neg (by decide), h.lb.s0 hx, Option.bind_some, el, lc, cI_some]
        simp only [come_bit h.n7 (Nat.le_refl (σ 0 0 + 1))]
        have hy := hc.mp y
        by_cases w : cs (σ 0 0) (S0 σ) (E0 σ) (σ 10 x) (p + 1) l (σ 0 0 + 1) = true
        · rw [if_pos w]
          have hle : ¬ p + 1 < b := fun k => cond_n ha hb k ⟨hy.1, hy.2.1, hy.2.2, w⟩
          exact ih (nI (p + 1)) n (by omega) (fun k => by rw [show p + 1 = b by omega])
        · rw [if_neg w]
          refine ih z n (by omega) (fun k => hz ?_)
          have : p + 1 ≠ b := fun e => w (by rw [e]; exact (cond_b hb).2.2.2)
          omega
      · rw [bI_f y, if_pos rfl]
        refine ih z n (by omega) (fun k => hz ?_)
        have : p + 1 ≠ b := fun e => y (hc.mpr (by rw [e]; exact ⟨(cond_b hb).1, (cond_b hb).2.1, (cond_b hb).2.2.1⟩))
        omega
    rw [show n + 2 * (p + 1) = n + 2 * p + 1 + 1 from rfl, L_17, if_pos (by rw [nI_0lt (by omega)]; omega)]
    simp only [n_eq (show p + 1 < 2147483648 by omega) (show a < 2147483648 by omega)]
    by_cases z1 : p + 1 = a
    · rw [if_pos z1]
      have := s18 False ⟨False.elim, fun w => w.1 z1⟩
      exact this
    · rw [if_neg z1, l_stands h.lb h.v9 hp, cI_some]
      by_cases z2 : S0 σ (p + 1) = true
      · rw [bI_t (p := Sd σ (σ 7) (σ 0 2) (p + 1) = true) z2, if_neg (by decide), h.lb.s0 hx, Option.bind_some, l_goes hf h.lb hw.2 haN hp, cI_some]
        by_cases z3 : near (E0 σ) (σ 10 x) a (p + 1)
        · rw [bI_t (p := near (ez σ (σ 7)) (σ 10 x) a (p + 1)) z3, if_neg (by decide)]
          have := s18 True ⟨fun _ => ⟨z1, z2, z3⟩, fun _ => trivial⟩
          exact this
        · rw [bI_f (p := near (ez σ (σ 7)) (σ 10 x) a (p + 1)) z3, if_pos rfl]
          have := s18 False ⟨False.elim, fun w => z3 w.2.2⟩
          exact this
      · rw [bI_f (p := Sd σ (σ 7) (σ 0 2) (p + 1) = true) z2, if_pos rfl]
        have := s18 False ⟨False.elim, fun w => z2 w.2.1⟩
        exact this
end TW
