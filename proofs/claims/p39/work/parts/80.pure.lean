section PW
def s0s : SG := fun _ _ => 0
theorem LEN0 (xs : List Int32) : LEN (A0s xs) := by
  intro k hk
  have h0 : k ≠ 0 := fun z => by rw [z] at hk; cases hk
  have h40 : k ≠ 40 := fun z => by rw [z] at hk; cases hk
  unfold A0s
  rw [if_neg h0]
  by_cases h5 : k = 5
  · rw [if_pos h5, h5]; rfl
  · rw [if_neg h5]
    by_cases h13 : k = 13
    · rw [if_pos h13, h13]; rfl
    · rw [if_neg h13, if_neg h40, List.length_replicate]
theorem RR0 (xs : List Int32) : RR s0s (A0s xs) I0s := by
  refine ⟨⟨Or.inl rfl, Nat.zero_le _, Nat.zero_le _, Nat.zero_le _, Nat.zero_le _, Nat.zero_le _, fun _ => ⟨rfl, rfl⟩, fun c hc => absurd hc (Nat.not_lt_zero _), fun s hs => absurd hs (Nat.not_lt_zero _), fun x hx => absurd hx (Nat.not_lt_zero _), fun c hc => absurd hc (Nat.not_lt_zero _), fun s hs => absurd hs (Nat.not_lt_zero _)⟩, LEN0 xs,
    ⟨⟨rfl, rfl, rfl, rfl, rfl, rfl, rfl⟩, fun c hc => absurd hc (Nat.not_lt_zero _), fun s hs => absurd hs (Nat.not_lt_zero _), fun x hx => absurd hx (Nat.not_lt_zero _)⟩, fun q hq => Or.inl ?_⟩
  have : q = 0 ∨ q = 1 ∨ q = 2 ∨ q = 3 := by omega
  rcases this with h | h | h | h <;> (rw [h]; rfl)
theorem gs_enc {A : Nat → List Int32} (I : Nat → Nat → Int32) (hL : LEN A) (g40 : (A 40).length = 4) (g36 : (A 36).length = 16) (g37 : (A 37).length = 24) (g38 : (A 38).length = 3) (g39 : (A 39).length = 7) : gs (enc A I) ≤ 3000 + (A 0).length := by
  have h3 : (A 3).length = 7 := hL 3 rfl
  have h4 : (A 4).length = 7 := hL 4 rfl
  have h5 : (A 5).length = 7 := hL 5 rfl
  have h6 : (A 6).length = 6 := hL 6 rfl
  have h7 : (A 7).length = 6 := hL 7 rfl
  have h8 : (A 8).length = 6 := hL 8 rfl
  have h9 : (A 9).length = 6 := hL 9 rfl
  have h10 : (A 10).length = 6 := hL 10 rfl
  have h12 : (A 12).length = 4 := hL 12 rfl
  have h13 : (A 13).length = 4 := hL 13 rfl
  have h14 : (A 14).length = 240 := hL 14 rfl
  have h16 : (A 16).length = 8 := hL 16 rfl
  have h17 : (A 17).length = 9 := hL 17 rfl
  have h19 : (A 19).length = 7 := hL 19 rfl
  have h20 : (A 20).length = 7 := hL 20 rfl
  have h22 : (A 22).length = 7 := hL 22 rfl
  have h23 : (A 23).length = 7 := hL 23 rfl
  have h24 : (A 24).length = 6 := hL 24 rfl
  have h26 : (A 26).length = 8 := hL 26 rfl
  have h27 : (A 27).length = 8 := hL 27 rfl
  have h28 : (A 28).length = 8 := hL 28 rfl
  have h29 : (A 29).length = 8 := hL 29 rfl
  have h30 : (A 30).length = 8 := hL 30 rfl
  have h31 : (A 31).length = 8 := hL 31 rfl
  have h32 : (A 32).length = 8 := hL 32 rfl
  have h33 : (A 33).length = 8 := hL 33 rfl
  have h35 : (A 35).length = 128 := hL 35 rfl
  unfold enc
  rw [g40]
  simp only [gs, tailN, List.map_cons, List.map_nil, List.sum_cons, List.sum_nil, xsz, List.length_cons, List.length_nil, g36, g37, g38, g39, h3, h4, h5, h6, h7, h8, h9, h10, h12, h13, h14, h16, h17, h19, h20, h22, h23, h24, h26, h27, h28, h29, h30, h31, h32, h33, h35]
  omega
/-- the law behind its new object -/
def BODY (fu : Nat) (w171 : XW) : Option XO :=
  (if 0 ≤ (16 : Int32) ∧ (16 : Int32) ≤ 1000 ∧ 0 < List.length w171 then
  cI (U_L_put fu [.ref 1, .ref 0, .int (0 : Int32), .int (7 : Int32), .ref (List.length w171)] (w171 ++ [.inr (0, List.replicate (Int32.toNatClampNeg (16 : Int32)) 0)])) fun x173 w172 =>
  (if x173 < (12 : Int32) then
    retZ (0 : Int32) w172
  else
    cI (U_X7_brook fu [.ref 1, .int (0 : Int32), .int (0 : Int32), .int (0 : Int32), .int x173] w172) fun x175 w174 =>
    (aI w174 (List.length w171) (0 : Int32)).bind fun x176 =>
    (if x175 = x176 then
      (if 0 ≤ (24 : Int32) ∧ (24 : Int32) ≤ 1000 ∧ 0 < List.length w174 then
      cI (U_L_stones fu [.ref 1, .ref 0, .int (3 : Int32), .int (6 : Int32), .ref (List.length w174)] (w174 ++ [.inr (0, List.replicate (Int32.toNatClampNeg (24 : Int32)) 0)])) fun x178 w177 =>
      (if x178 < 0 then
        retZ (0 : Int32) w177
      else
        (if 0 ≤ (3 : Int32) ∧ (3 : Int32) ≤ 1000 ∧ 0 < List.length w177 then
        (F_L_law fu fu).1 0 1 (List.length w171) (List.length w174) x178 (List.length w177) (0 : Int32) (w177 ++ [.inr (0, List.replicate (Int32.toNatClampNeg (3 : Int32)) 0)])
        else none))
      else none)
    else
      retZ (0 : Int32) w174))
  else none)
theorem law_run {fu : Nat} (hf : 6000 ≤ fu) {A : Nat → List Int32} {I : Nat → Nat → Int32} {σ : SG} (r : RR σ A I) (h40 : A 40 = []) (h0 : (A 0).length ≤ 260) (h13 : rd (A 13) 2 = -1) :
    ∃ σ1 B J, TI True σ1 B J ∧ BODY fu (enc A I) = some (some (.int 1), enc B J) := by
  -- b
  have n1 := new_36 (I := I) h40 (List.replicate 16 0)
  have l1 := len_0 (I := I) h40
  obtain ⟨A1, hA1⟩ : ∃ X, X = uA (uA A 36 (List.replicate 16 0)) 40 [0] := ⟨_, rfl⟩
  rw [← hA1] at n1
  have o1 : ∀ j, j ≠ 36 → j ≠ 40 → A1 j = A j := fun j a b => by rw [hA1, uA_n _ _ _ b, uA_n _ _ _ a]
  have r1 : RR σ A1 I := r.tl fun j hj => o1 j (by omega) (by omega)
  have v40 : A1 40 = [0] := by rw [hA1, uA_s]
  have v36 : A1 36 = List.replicate 16 0 := by rw [hA1, uA_n _ _ _ (by decide), uA_s]
  obtain ⟨m, A2, I2, m3, m7, p2, t2, f2, s13, e2⟩ := l_put (fu := fu) (by omega) r1 v40 (by rw [v36]; rfl) (by rw [o1 0 (by decide) (by decide)]; omega)
  obtain ⟨σ3, A3, I3, e3, r3, f3, g0, g2, g3, g4, gb, g7, gm⟩ := l_brook (fu := fu) (by omega) m3 m7 p2 t2
  have x40 : A3 40 = [0] := by rw [f3 40 (by decide) (by decide) (by decide)]; exact p2.2.2.1
  -- t
  have n4 := new_37 (I := I3) x40 (List.replicate 24 0)
  have l4 := len_1 (I := I3) x40
  obtain ⟨A4, hA4⟩ : ∃ X, X = uA (uA A3 37 (List.replicate 24 0)) 40 [0, 0] := ⟨_, rfl⟩
  rw [← hA4] at n4
  have o4 : ∀ j, j ≠ 37 → j ≠ 40 → A4 j = A3 j := fun j a b => by rw [hA4, uA_n _ _ _ b, uA_n _ _ _ a]
  have r4 : RR σ3 A4 I3 := r3.tl fun j hj => o4 j (by omega) (by omega)
  have y40 : A4 40 = [0, 0] := by rw [hA4, uA_s]
  have y37 : A4 37 = List.replicate 24 0 := by rw [hA4, uA_n _ _ _ (by decide), uA_s]
  have z0 : A4 0 = A 0 := by rw [o4 0 (by decide) (by decide), f3 0 (by decide) (by decide) (by decide), f2 0 (by decide) (by decide) (by decide) (by decide), o1 0 (by decide) (by decide)]
  obtain ⟨many, σ5, A5, I5, hm6, ⟨r5, k3, l37, kt, f5, k0, k2, k4, k1, k7, k8⟩, e5⟩ := l_stones (fu := fu) (by omega) (show σ3 0 0 ≠ 0 by omega) r4 g3 y40 (by rw [z0]; omega) (by rw [y37]; rfl)
  have w40 : A5 40 = [0, 0] := by rw [f5 40 (by decide) (by decide) (by decide) (by decide) (by decide)]; exact y40
  -- strides
  have n6 := new_38 (I := I5) w40 (List.replicate 3 0)
  have l6 := len_2 (I := I5) w40
  obtain ⟨A6, hA6⟩ : ∃ X, X = uA (uA A5 38 (List.replicate 3 0)) 40 [0, 0, 0] := ⟨_, rfl⟩
  rw [← hA6] at n6
  have o6 : ∀ j, j ≠ 38 → j ≠ 40 → A6 j = A5 j := fun j a b => by rw [hA6, uA_n _ _ _ b, uA_n _ _ _ a]
  have r6 : RR σ5 A6 I5 := r5.tl fun j hj => o6 j (by omega) (by omega)
  have f6 : ∀ j, j ≠ 38 → j ≠ 40 → j ≠ 6 → j ≠ 7 → j ≠ 8 → j ≠ 9 → j ≠ 37 → A6 j = A3 j := fun j a b c1 c2 c3 c4 c5 => by rw [o6 j a b, f5 j c1 c2 c3 c4 c5, o4 j c5 b]
  have q36 : A6 36 = A3 36 := f6 36 (by decide) (by decide) (by decide) (by decide) (by decide) (by decide) (by decide)
  have q37 : A6 37 = A5 37 := o6 37 (by decide) (by decide)
  obtain ⟨σ7, B, J, b1, b2⟩ := law_1 (fu := fu) hf r6 (by rw [hA6, uA_s]) (by rw [o6 0 (by decide) (by decide), f5 0 (by decide) (by decide) (by decide) (by decide) (by decide), z0]; exact h0) (by rw [hA6, uA_n _ _ _ (by decide), uA_s]; rfl) (by omega) (by omega) (by omega)
    (by rw [q36, f3 36 (by decide) (by decide) (by decide)]; exact p2.2.2.2.1) (by rw [q37]; exact l37) (by rw [q36, k0, g0]; exact gm) (fun c hc => by rw [q36, k1]; exact gb c (by omega)) (fun k hk => by rw [q37]; exact kt k (by omega)) (fun c => by rw [k7, g7]) (fun s hs => k8 s (by omega))
    (by
      show rd (A6 13) 2 = -1
      rw [f6 13 (by decide) (by decide) (by decide) (by decide) (by decide) (by decide) (by decide), f3 13 (by decide) (by decide) (by decide), s13, o1 13 (by decide) (by decide), rd_set _ _ (by rw [r.len rfl]; decide), if_neg (by decide)]
      exact h13)
  refine ⟨σ7, B, J, b1, ?_⟩
  rw [k3] at b2
  have b0 : aI (enc A3 I3) 36 0 = some (nI m) := (ai_36 (j := 0) (by rw [x40]; decide) (by rw [f3 36 (by decide) (by decide) (by decide), p2.2.2.2.1]; decide) (by omega)).trans (by rw [gm])
  have c12 : ¬ nI (2 * m + 6) < 12 := by rw [show (12 : Int32) = nI 12 from rfl, n_lt (by omega) (by omega)]; omega
  have cn : ¬ nI many < 0 := by rw [n_neg (by omega)]; exact id
  have t16 : Int32.toNatClampNeg (16 : Int32) = 16 := by decide
  have t24 : Int32.toNatClampNeg (24 : Int32) = 24 := by decide
  have t3 : Int32.toNatClampNeg (3 : Int32) = 3 := by decide
  unfold BODY
  rw [l1, if_pos (by decide), t16, n1, e2, cI_some, if_neg c12, e3, cI_some, b0, Option.bind_some, if_pos rfl, l4, if_pos (by decide), t24, n4, e5, cI_some, if_neg cn, l6, if_pos (by decide), t3, n6, b2]
theorem pure_p39 (xs : List Int32) (h : xs.length ≤ 260) : ∃ (fu : Nat) (w' : XW), U_L_law fu [.ref 0] [.inr (2, xs)] = some (some (.int 1), w') ∧ w'.length ≤ 600001 ∧ gs w' ≤ 7302250 + xs.length := by
  obtain ⟨fu, hf⟩ : ∃ fu : Nat, 6000 ≤ fu := ⟨6000, Nat.le_refl _⟩
  have hf3 : 1000 ≤ fu := by omega
  obtain ⟨σ, B, J, t, g⟩ := law_run (fu := fu) hf (RR0 xs) rfl h rfl
  obtain ⟨⟨b1, b2, b3, b4, b5, b6, -⟩, h2, h3, -⟩ := t
  refine ⟨fu, enc B J, ?_, ?_, ?_⟩
  · show M_L_law fu 0 (vS_0 xs) = _
    rw [← vS_end] at g
    simp -implicitDefEqProofs only [M_L_law, vL_0, A_0, In_X7_1 hf3, cV_some]
    rw [if_pos (by decide)]
    exact g
  · rw [enc_len, b2]
    show 36 + 4 ≤ 600001
    decide
  · have := gs_enc J h2.2.1 b2 b3 b4 b5 b6
    omega
end PW
