/-! ===== the law's turns: each stop of a way ===== -/
section TV
variable {σ : SG} {A : Nat → List Int32} {I : Nat → Nat → Int32} {fu : Nat} {P : Prop}
theorem way_mn (hf : 1000 ≤ fu) {x L : Nat} (hx : x < 3) (hL8 : L ≤ 8) (hL1 : 1 ≤ L) (hL : Mn0 σ (σ 10 x) 0 L) (a9 a10 : Int32) : ∀ m q a n (A : Nat → List Int32) (I : Nat → Nat → Int32), TI P σ A I → q + m = 9 → 20 * m + 1 ≤ n → Pth0 σ (σ 10 x) L (min q L) a → Mn0 σ (σ 10 x) a (L - q) →
    ∃ j B J, n ≤ j + (20 * m + 1) ∧ TI P σ B J ∧ (F_L_law fu (n)).2.2.2.2.2.2.2.2.2.2.2.2.2.2.2.2.1 0 1 36 37 (nI (σ 0 3)) 38 39 (nI (σ 0 2)) a9 a10 (nI x) (nI (σ 0 0 + 1)) (nI L) (nI a) (nI q) (enc A I) = (F_L_law fu (j)).2.2.2.2.2.2.2.2.2.2.2.2.2.2.2.2.2.2.2.1 0 1 36 37 (nI (σ 0 3)) 38 39 (nI (σ 0 2)) a9 a10 (nI x) (nI (σ 0 0 + 1)) (enc B J) := by
  intro m
  induction m with
  | zero =>
    intro q a n A I h hq hn hP hM
    obtain ⟨n, rfl⟩ : ∃ k, n = k + 1 := ⟨n - 1, by omega⟩
    refine ⟨n, A, I, by omega, h, ?_⟩
    rw [show L - q = 0 by omega] at hM
    have ea : a = σ 0 0 + 1 := hM.1
    rw [L_16, show q = 9 by omega, if_neg (by decide), if_pos (by rw [nI_0lt (by omega)]; omega), ea, if_pos rfl]
  | succ m ih =>
    intro q a n A I h hq hn hP hM
    have hx4 : x < σ 0 4 := by rw [h.w3]; exact hx
    have hN := h.n7
    obtain ⟨A1, I1, v, f, e1, e2⟩ := k_wayq (fu := fu) hf h.r hx4 (qn := q) (by omega)
    have q9 : nI q < 9 := by rw [show (9 : Int32) = nI 9 from rfl, n_lt (by omega) (by omega)]; omega
    have nL : ¬ nI L < 0 := by rw [n_neg (by omega)]; exact id
    rcases e2 with ⟨y, _⟩ | ⟨L2, _, g, e3⟩
    · exact (non_mn (σ := σ) y hL).elim
    · have eL : L2 = L := g.uniq hL
      subst eL
      rcases e3 with ⟨hqL, b, hb, ev⟩ | ⟨hqL, ev⟩
      · rw [show min q L2 = q by omega] at hP
        obtain ⟨a', p1, p2⟩ := hb
        have ea : a' = a := Pth.uniq q p1 hP
        subst ea
        have hM' : Mn0 σ (σ 10 x) a' (L2 - (q + 1) + 1) := by rw [show L2 - (q + 1) + 1 = L2 - q by omega]; exact hM
        obtain ⟨n, rfl⟩ : ∃ k, n = k + 1 + 2 * (σ 0 0 + 1) + 1 := ⟨n - (1 + 2 * (σ 0 0 + 1) + 1), by omega⟩
        have wp := way_p (fu := fu) hf h hx (q := q) hM' p2 hL8 (by omega) a9 a10 (σ 0 0 + 1) (-1) (n + 1) (Nat.le_refl _) (fun k => by have := p2.2.1; omega)
        have hb9 := p2.2.1
        obtain ⟨j, B, J, j1, j2, j3⟩ := ih (q + 1) b n A1 I1 (h.fr f) (by omega) (by omega) (by rw [show min (q + 1) L2 = q + 1 by omega]; exact ⟨a', p1, p2⟩) p2.2.2.2.1
        refine ⟨j, B, J, by omega, j2, ?_⟩
        rw [L_16, if_pos q9, if_neg nL, if_pos (by rw [n_lt (by omega) (by omega)]; exact hqL), wp, L_17, if_neg (by decide), if_neg (by rw [n_neg (by omega)]; exact id), e1, cI_some, if_pos ev, nI_1]
        exact j3
      · obtain ⟨n, rfl⟩ : ∃ k, n = k + 1 := ⟨n - 1, by omega⟩
        obtain ⟨j, B, J, j1, j2, j3⟩ := ih (q + 1) a n A1 I1 (h.fr f) (by omega) (by omega) (by rw [show min (q + 1) L2 = min q L2 by omega]; exact hP) (by rw [show L2 - (q + 1) = L2 - q by omega]; exact hM)
        refine ⟨j, B, J, by omega, j2, ?_⟩
        rw [L_16, if_pos q9, if_neg nL, if_neg (by rw [n_lt (by omega) (by omega)]; omega), e1, cI_some, if_pos ev, nI_1]
        exact j3
theorem t_way (hf : 1000 ≤ fu) (h : TI P σ A I) {x : Nat} (hx : x < 3) (a9 a10 : Int32) {n : Nat} (hn : 250 ≤ n) :
    ∃ j B J, n ≤ j + 250 ∧ TI P σ B J ∧ (F_L_law fu (n)).2.2.2.2.2.2.2.2.2.2.2.2.2.2.2.1 0 1 36 37 (nI (σ 0 3)) 38 39 (nI (σ 0 2)) a9 a10 (nI x) (nI (σ 0 0 + 1)) (-9) 9 (enc A I) = (F_L_law fu (j)).2.2.2.2.2.2.2.2.2.2.2.2.2.2.2.2.2.2.2.1 0 1 36 37 (nI (σ 0 3)) 38 39 (nI (σ 0 2)) a9 a10 (nI x) (nI (σ 0 0 + 1)) (enc B J) := by
  have hx4 : x < σ 0 4 := by rw [h.w3]; exact hx
  have hN := h.n7
  obtain ⟨A1, I1, v, f, e1, e2⟩ := k_way1 (fu := fu) hf h.r hx4
  rcases e2 with ⟨y, ev⟩ | ⟨L, hL8, hL, ev⟩
  · obtain ⟨n, rfl⟩ : ∃ k, n = k + 9 + 1 + 1 + 9 := ⟨n - 20, by omega⟩
    obtain ⟨B, J, b1, b2⟩ := way_non (fu := fu) hf hx y a9 a10 (nI (σ 0 0 + 1)) 9 0 n A1 I1 (h.fr f) (by omega)
    have ef := few_non (fu := fu) hf h hx y a9 a10 9 (n + 9 + 1 + 1) (by omega)
    rw [show nI 9 = (9 : Int32) from rfl] at ef
    rw [show nI 0 = (0 : Int32) from rfl] at b2
    refine ⟨n, B, J, by omega, b1, ?_⟩
    rw [ef, L_15, if_neg (by decide), e1, cI_some, if_pos ev, b2]
  · have hL1 : 1 ≤ L := by
      cases L with
      | zero => have w : (0 : Nat) = σ 0 0 + 1 := hL.1; omega
      | succ L => omega
    obtain ⟨n, rfl⟩ : ∃ k, n = k + 1 + 9 := ⟨n - 10, by omega⟩
    obtain ⟨j, B, J, j1, j2, j3⟩ := way_mn (fu := fu) hf hx hL8 hL1 hL a9 a10 9 0 0 n A1 I1 (h.fr f) (by omega) (by omega) (by rw [show min 0 L = 0 by omega]; rfl) (by rw [Nat.sub_zero]; exact hL)
    have ef := few_mn (fu := fu) hf h hx hL8 hL a9 a10 9 (n + 1) (by omega)
    rw [if_pos rfl, show nI 9 = (9 : Int32) from rfl, show max L 1 = L by omega] at ef
    rw [show nI 0 = (0 : Int32) from rfl] at j3
    refine ⟨j, B, J, by omega, j2, ?_⟩
    rw [ef, L_15, if_neg (by decide), e1, cI_some, if_pos ev, j3]
end TV
