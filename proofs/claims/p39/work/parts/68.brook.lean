/-! ===== the law's brook, laid ===== -/
theorem dig_e {e : Nat} (h : e ≤ 9) : dig (nI (48 + e)) = e := by
  unfold dig
  rw [show (48 : Int32) = nI 48 from rfl, pk_sub (show 48 ≤ 48 + e by omega), nI_clamp (by omega)]
  omega
section BK
variable {σ : SG} {A : Nat → List Int32} {I : Nat → Nat → Int32} {fu : Nat}
theorem tx_gon {m : Nat} {A : Nat → List Int32} (hm3 : 3 ≤ m) (t : TX m A) : ∀ p, p < 2 * m + 6 → gon m p (rd (A 14) p) = true := by
  obtain ⟨⟨⟨t1, t2, t3, t4⟩, t5, t6, t7⟩, t8, t9, ⟨e, he, t10⟩⟩ := t
  have dg : ∀ e, e ≤ 9 → (48 : Int32) ≤ nI (48 + e) ∧ nI (48 + e) ≤ 57 := fun e he => n_rin (a := 48) (b := 57) (by omega) (by omega) (by decide)
  intro p hp
  by_cases h0 : p = 0
  · rw [h0, gon_0, t3]; rfl
  by_cases h1 : p = m + 1
  · rw [h1, gon_a, t5]; rfl
  by_cases h2 : p = m + 2
  · rw [h2, gon_b hm3, t6]; rfl
  by_cases h3 : p = 2 * m + 3
  · rw [h3, gon_c hm3, t8]; rfl
  by_cases h4 : p = 2 * m + 4
  · rw [h4, gon_d hm3, t9]; rfl
  rw [gon_g h0 h1 h2 h3 h4, decide_eq_true_iff]
  by_cases h5 : p ≤ m
  · obtain ⟨i, rfl⟩ : ∃ i, p = 1 + i := ⟨p - 1, by omega⟩
    obtain ⟨e, he, x, -⟩ := t4 i (by omega)
    rw [x]; exact dg e he
  · by_cases h6 : p < 2 * m + 3
    · obtain ⟨i, rfl⟩ : ∃ i, p = m + 3 + i := ⟨p - (m + 3), by omega⟩
      obtain ⟨e, he, x⟩ := t7 i (by omega)
      rw [x]; exact dg e he
    · rw [show p = 2 * m + 5 by omega, t10]; exact dg e he
theorem tx_mtl {m : Nat} {A : Nat → List Int32} (hm3 : 3 ≤ m) (hm : m ≤ 7) (t : TX m A) : mtl (fun p => rd (A 14) p) (2 * m + 6) = m := by
  refine mtl_of hm3 hm (by omega) (fun j hj => ?_) ?_
  · obtain ⟨e, he, x, -⟩ := t.1.1.2.2.2 j hj
    show (48 : Int32) ≤ rd (A 14) (1 + j) ∧ rd (A 14) (1 + j) ≤ 57
    rw [x]
    exact n_rin (a := 48) (b := 57) (by omega) (by omega) (by decide)
  · show ¬ ((48 : Int32) ≤ rd (A 14) (1 + m) ∧ rd (A 14) (1 + m) ≤ 57)
    rw [show 1 + m = m + 1 by omega, t.1.2.1]
    decide
theorem l_put (hf : 1000 ≤ fu) (r : RR σ A I) (h40 : A 40 = [0]) (h36 : (A 36).length = 16) (h0 : (A 0).length < 2147483648) :
    ∃ m B J, 3 ≤ m ∧ m ≤ 7 ∧ PF σ B J ∧ TX m B ∧ (∀ k, k ≠ 12 → k ≠ 13 → k ≠ 14 → k ≠ 36 → B k = A k) ∧ B 13 = (A 13).set 0 30 ∧ U_L_put fu [.ref 1, .ref 0, .int 0, .int 7, .ref 36] (enc A I) = some (some (.int (nI (2 * m + 6))), enc B J) := by
  obtain ⟨x, hx⟩ := l_cell (fu := fu) (A := A) (I := I) h0 (k := 0) (by omega)
  have hx : U_L_cell fu [.ref 0, .int 0] (enc A I) = some (some (.int x), enc A I) := hx
  obtain ⟨e, he, hs⟩ := l_some (fu := fu) x (show 1 ≤ 5 by omega) (by omega) (enc A I)
  have hs : U_L_some fu [.int x, .int ((7 : Int32) - 2)] (enc A I) = some (some (.int (nI e)), enc A I) := hs
  have m36 : 1 ≤ (A 40).length := by rw [h40]; decide
  have s1 : sI (enc A I) 36 0 ((3 : Int32) + nI e) = some (enc (uA A 36 ((A 36).set 0 (nI (3 + e)))) I) := by
    rw [show (3 : Int32) + nI e = nI (3 + e) by rw [show (3 : Int32) = nI 3 from rfl, nI_add]]
    exact si_36 (j := 0) m36 _ (by omega) (by omega)
  obtain ⟨A1, hA1⟩ : ∃ X, X = uA A 36 ((A 36).set 0 (nI (3 + e))) := ⟨_, rfl⟩
  rw [← hA1] at s1
  have o1 : ∀ k, k ≠ 36 → A1 k = A k := fun k hk => by rw [hA1, uA_n _ _ _ hk]
  have v1 : A1 36 = (A 36).set 0 (nI (3 + e)) := by rw [hA1, uA_s]
  have l1 : (A1 36).length = 16 := by rw [v1, List.length_set]; exact h36
  have r1 : RR σ A1 I := r.tl fun k hk => o1 k (by omega)
  obtain ⟨y, hy, hy2⟩ := l_some (fu := fu) (x >>> ((8 : Int32) &&& 31)) (show 1 ≤ 2 by omega) (by omega) (enc A1 I)
  have hy2 : U_L_some fu [.int (x >>> ((8 : Int32) &&& 31)), .int 2] (enc A1 I) = some (some (.int (nI y)), enc A1 I) := hy2
  have key : ∀ b, 1 ≤ b → b ≤ 10 → ∀ sx, ∃ m B J, 3 ≤ m ∧ m ≤ 7 ∧ PF σ B J ∧ TX m B ∧ (∀ k, k ≠ 12 → k ≠ 13 → k ≠ 14 → k ≠ 36 → B k = A k) ∧ B 13 = (A 13).set 0 30 ∧ (F_L_put fu fu).1 1 0 0 36 x (nI b) sx 1 36 (enc A1 I) = some (some (.int (nI (2 * m + 6))), enc B J) := fun b hb1 hb sx => by
    obtain ⟨q, hq, hq2⟩ := l_some (fu := fu) sx hb1 (show b < 2147483648 by omega) (enc A1 I)
    have s2 : sI (enc A1 I) 36 1 (nI q) = some (enc (uA A1 36 ((A1 36).set 1 (nI q))) I) := si_36 (j := 1) (by rw [o1 40 (by decide)]; exact m36) _ (by omega) (by omega)
    obtain ⟨A2, hA2⟩ : ∃ X, X = uA A1 36 ((A1 36).set 1 (nI q)) := ⟨_, rfl⟩
    rw [← hA2] at s2
    have o2 : ∀ k, k ≠ 36 → A2 k = A k := fun k hk => by rw [hA2, uA_n _ _ _ hk, o1 k hk]
    have v2 : A2 36 = (A1 36).set 1 (nI q) := by rw [hA2, uA_s]
    have r2 : RR σ A2 I := r.tl fun k hk => o2 k (by omega)
    obtain ⟨A3, e3, r3, c12, c13, oo, c14⟩ := k_sheet (fu := fu) hf r2 (q := 0) (t := 0) (n := 30) (by omega) (by omega) (by omega)
    have e3 : U_X7_sheet fu [.ref 1, .int 0, .int 0, .int 30] (enc A2 I) = some (some (.int 1), enc A3 (uI I 1 7 0)) := e3
    have l36 : (A3 36).length = 16 := by rw [oo 36 (by decide) (by decide) (by decide), v2, List.length_set]; exact l1
    have p3 : PF σ A3 (uI I 1 7 0) := by
      refine ⟨r3, ⟨by omega, by omega, ?_, ?_⟩, ?_, l36, uI_uI _ _ _ _ _, ?_⟩
      · rw [c13, rd_set _ _ (by rw [o2 13 (by decide), r.len rfl]; decide), if_pos rfl]
      · rw [c12, rd_set _ _ (by rw [o2 12 (by decide), r.len rfl]; decide), if_pos rfl]
      · rw [oo 40 (by decide) (by decide) (by decide), o2 40 (by decide)]; exact h40
      · rw [oo 0 (by decide) (by decide) (by decide), o2 0 (by decide)]; exact h0
    obtain ⟨e4, p4⟩ := p3.put (fu := fu) (j := 0) (z := 100) (by omega) (by omega)
    have e4 : U_X7_put fu [.ref 1, .int 0, .int 0, .int 100] (enc A3 (uI I 1 7 0)) = _ := e4
    have t4 : TD (3 + e) (uA A3 14 ((A3 14).set 0 (nI 100))) 0 := by
      have w36 : A3 36 = ((A 36).set 0 (nI (3 + e))).set 1 (nI q) := by rw [oo 36 (by decide) (by decide) (by decide), v2, v1]
      refine ⟨?_, ⟨q, by omega, ?_⟩, ?_, fun i hi => absurd hi (Nat.not_lt_zero _)⟩
      · rw [uA_n _ _ _ (by decide), w36, rd_set _ _ (by rw [List.length_set]; omega), if_neg (by decide), rd_set _ _ (by omega), if_pos rfl]
      · rw [uA_n _ _ _ (by decide), w36, rd_set _ _ (by rw [List.length_set]; omega), if_pos rfl]
      · rw [uA_s, rd_set _ _ (by rw [p3.l14]; omega), if_pos rfl]
    obtain ⟨n, hn⟩ : ∃ n, fu = n + 1 := ⟨fu - 1, by omega⟩
    obtain ⟨B, j, b1, b2, b3, b4, b5⟩ := put_d (fu := fu) hf (m := 3 + e) (by omega) (by omega) x (3 + e) 0 n _ p4 t4 (by omega) (by omega)
    obtain ⟨C, c1, c2, c3, c4⟩ := put_b (fu := fu) hf (m := 3 + e) (by omega) (by omega) x (3 + e) 0 j B b2 b4 (by omega) (by omega)
    have fo := FP.tr b3 c2
    have o4 : ∀ k, k ≠ 14 → uA A3 14 ((A3 14).set 0 (nI 100)) k = A3 k := fun k hk => uA_n _ _ _ hk
    refine ⟨3 + e, C, uI I 1 7 0, by omega, by omega, c1, c3, fun k k1 k2 k3 k4 => ?_, ?_, ?_⟩
    · rw [fo k k3 k4, o4 k k3, oo k k1 k2 k3, o2 k k4]
    · rw [fo 13 (by decide) (by decide), o4 13 (by decide), c13, o2 13 (by decide)]; rfl
    · have b5 : (F_L_put fu n).2.1 1 0 0 36 x 1 0 (enc (uA A3 14 ((A3 14).set 0 (nI 100))) (uI I 1 7 0)) = _ := b5
      have c4 : (F_L_put fu j).2.2.2.1 1 0 0 36 x (nI (3 + e + 3)) 0 (enc B (uI I 1 7 0)) = _ := c4
      rw [show F_L_put fu fu = F_L_put fu (n + 1) by rw [← hn], F_L_put]
      dsimp only
      rw [hq2, cI_some, s2, Option.bind_some, e3, cI_some, if_pos rfl, e4, cI_some, if_pos rfl, b5, c4]
  rw [u_L_put, M_L_put]
  rw [hx, cI_some, hs, cI_some, s1, Option.bind_some, hy2, cI_some]
  by_cases z : nI y = 0
  · rw [if_pos z]; exact key 10 (by omega) (by omega) _
  · rw [if_neg z]; exact key 3 (by omega) (by omega) _
/-- the text told, a new brook -/
theorem l_brook (hf : 1000 ≤ fu) {m : Nat} (hm3 : 3 ≤ m) (hm : m ≤ 7) (h : PF σ A I) (t : TX m A) :
    ∃ σ1 B J, U_X7_brook fu [.ref 1, .int 0, .int 0, .int 0, .int (nI (2 * m + 6))] (enc A I) = some (some (.int (nI m)), enc B J) ∧ RR σ1 B J ∧ (∀ k, k ≠ 3 → k ≠ 4 → k ≠ 5 → B k = A k) ∧ σ1 0 0 = m ∧ σ1 0 2 = 0 ∧ σ1 0 3 = 0 ∧ σ1 0 4 = 0 ∧ (∀ c, c < m → rd (B 36) (2 + c) = nI (σ1 1 c)) ∧ (∀ c, σ1 7 c = 0) ∧ rd (B 36) 0 = nI m := by
  obtain ⟨B, J, e, r, o⟩ := k_brook (fu := fu) hf h.1 (q := 0) (t := 0) (i0 := 0) (kk := 2 * m + 6) (n0 := 30) (by omega) (by omega) h.2.1 (by omega) (v := fun p => rd (A 14) p) (fun p _ => by rw [show 60 * 0 + 0 + p = p by omega]) hm3 hm rfl (tx_mtl hm3 hm t) (tx_gon hm3 t)
  refine ⟨_, B, J, e, r, o, rfl, rfl, rfl, rfl, fun c hc => ?_, fun c => rfl, ?_⟩
  · rw [o 36 (by decide) (by decide) (by decide)]
    obtain ⟨x, hx, x1, x2⟩ := t.1.1.2.2.2 c hc
    rw [x2]
    show nI x = nI (dig (rd (A 14) (1 + c)))
    rw [x1, dig_e hx]
  · rw [o 36 (by decide) (by decide) (by decide)]; exact t.1.1.1
end BK
