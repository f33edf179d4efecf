section PW
def s0s : SG := fun _ _ => 0
theorem LEN0 (xs : List Int32) : LEN (A0s xs) := by
  intro k hk
  have h0 : k ≠ 0 := fun z => by rw [z] at hk; cases hk
  unfold A0s
  rw [if_neg h0]
  by_cases h5 : k = 5
  · rw [if_pos h5, h5]; rfl
  · rw [if_neg h5]
    by_cases h13 : k = 13
    · rw [if_pos h13, h13]; rfl
    · rw [if_neg h13]
      by_cases h33 : k = 37
      · rw [if_pos h33, h33]; rfl
      · rw [if_neg h33, List.length_replicate]
theorem RR0 (xs : List Int32) : RR s0s (A0s xs) I0s := by
  refine ⟨⟨Or.inl rfl, Nat.zero_le _, Nat.zero_le _, Nat.zero_le _, Nat.zero_le _, Nat.zero_le _, fun _ => ⟨rfl, rfl⟩, fun c hc => absurd hc (Nat.not_lt_zero _), fun s hs => absurd hs (Nat.not_lt_zero _), fun x hx => absurd hx (Nat.not_lt_zero _), fun c hc => absurd hc (Nat.not_lt_zero _), fun s hs => absurd hs (Nat.not_lt_zero _)⟩, LEN0 xs,
    ⟨⟨rfl, rfl, rfl, rfl, rfl, rfl, rfl⟩, fun c hc => absurd hc (Nat.not_lt_zero _), fun s hs => absurd hs (Nat.not_lt_zero _), fun x hx => absurd hx (Nat.not_lt_zero _)⟩,
    ⟨⟨rfl, rfl, rfl, rfl, rfl, rfl⟩, fun c hc => absurd hc (Nat.not_lt_zero _), fun s hs => absurd hs (Nat.not_lt_zero _), fun x hx => absurd hx (Nat.not_lt_zero _)⟩, rfl, rfl, fun q hq => Or.inl ?_⟩
  have : q = 0 ∨ q = 1 ∨ q = 2 ∨ q = 3 := by omega
  rcases this with h | h | h | h <;> (rw [h]; exact ⟨rfl, rfl⟩)
theorem gs_enc {A : Nat → List Int32} (I : Nat → Nat → Int32) (hL : LEN A) : gs (enc A I) ≤ 3000 + (A 0).length := by
  have h3 : (A 3).length = 7 := hL 3 rfl
  have h4 : (A 4).length = 7 := hL 4 rfl
  have h5 : (A 5).length = 7 := hL 5 rfl
  have h6 : (A 6).length = 6 := hL 6 rfl
  have h7 : (A 7).length = 6 := hL 7 rfl
  have h8 : (A 8).length = 6 := hL 8 rfl
  have h9 : (A 9).length = 6 := hL 9 rfl
  have h10 : (A 10).length = 6 := hL 10 rfl
  have h12 : (A 12).length = 4 := hL 12 rfl
  have h13 : (A 13).length = 4 := hL 13 rfl
  have h14 : (A 14).length = 240 := hL 14 rfl
  have h16 : (A 16).length = 8 := hL 16 rfl
  have h17 : (A 17).length = 9 := hL 17 rfl
  have h19 : (A 19).length = 7 := hL 19 rfl
  have h20 : (A 20).length = 7 := hL 20 rfl
  have h22 : (A 22).length = 7 := hL 22 rfl
  have h23 : (A 23).length = 7 := hL 23 rfl
  have h24 : (A 24).length = 6 := hL 24 rfl
  have h26 : (A 26).length = 8 := hL 26 rfl
  have h27 : (A 27).length = 8 := hL 27 rfl
  have h28 : (A 28).length = 8 := hL 28 rfl
  have h29 : (A 29).length = 8 := hL 29 rfl
  have h30 : (A 30).length = 8 := hL 30 rfl
  have h31 : (A 31).length = 8 := hL 31 rfl
  have h32 : (A 32).length = 8 := hL 32 rfl
  have h33 : (A 33).length = 8 := hL 33 rfl
  have h35 : (A 35).length = 128 := hL 35 rfl
  have h37 : (A 37).length = 4 := hL 37 rfl
  have h38 : (A 38).length = 4 := hL 38 rfl
  have h39 : (A 39).length = 240 := hL 39 rfl
  have h40 : (A 40).length = 7 := hL 40 rfl
  have h41 : (A 41).length = 7 := hL 41 rfl
  have h42 : (A 42).length = 7 := hL 42 rfl
  have h43 : (A 43).length = 7 := hL 43 rfl
  have h44 : (A 44).length = 7 := hL 44 rfl
  have h45 : (A 45).length = 7 := hL 45 rfl
  have h46 : (A 46).length = 6 := hL 46 rfl
  have h47 : (A 47).length = 6 := hL 47 rfl
  have h48 : (A 48).length = 6 := hL 48 rfl
  have h49 : (A 49).length = 6 := hL 49 rfl
  have h50 : (A 50).length = 6 := hL 50 rfl
  have h51 : (A 51).length = 6 := hL 51 rfl
  have h52 : (A 52).length = 7 := hL 52 rfl
  have h53 : (A 53).length = 9 := hL 53 rfl
  have h54 : (A 54).length = 7 := hL 54 rfl
  have h55 : (A 55).length = 7 := hL 55 rfl
  have h56 : (A 56).length = 7 := hL 56 rfl
  have h57 : (A 57).length = 7 := hL 57 rfl
  have h58 : (A 58).length = 7 := hL 58 rfl
  have h59 : (A 59).length = 128 := hL 59 rfl
  simp only [gs, enc, List.map_cons, List.map_nil, List.sum_cons, List.sum_nil, xsz, List.length_cons, List.length_nil, h3, h4, h5, h6, h7, h8, h9, h10, h12, h13, h14, h16, h17, h19, h20, h22, h23, h24, h26, h27, h28, h29, h30, h31, h32, h33, h35, h37, h38, h39, h40, h41, h42, h43, h44, h45, h46, h47, h48, h49, h50, h51, h52, h53, h54, h55, h56, h57, h58, h59]
  omega
theorem pure_whole (xs : List Int32) (h : xs.length ≤ 3584) : ∃ (fu : Nat) (w' : XW), U_L_law fu [.ref 0] [.inr (2, xs)] = some (some (.int 1), w') ∧ w'.length ≤ 600001 ∧ gs w' ≤ 7302250 + xs.length := by
  obtain ⟨fu, hf⟩ : ∃ fu : Nat, 10000000000 ≤ fu := ⟨10000000000, Nat.le_refl _⟩
  have hf3 : 1000 ≤ fu := by omega
  obtain ⟨w', ⟨A, I, σ, e, h0, r, _⟩, g⟩ := law_loop (fu := fu) hf h 513 0 fu (enc (A0s xs) I0s) (by omega) (Nat.zero_le _) (by omega) ⟨A0s xs, I0s, s0s, rfl, rfl, RR0 xs, rfl⟩
  refine ⟨fu, w', ?_, ?_, ?_⟩
  · show M_L_law fu 0 (vS_0 xs) = _
    rw [show nI 0 = (0 : Int32) from rfl, ← vS_end] at g
    simp -implicitDefEqProofs only [M_L_law, vL_0, A_0, In_X7_1 hf3, cV_some, vL_35, A_35, In_X8_36 hf3]
    rw [if_pos (by decide), if_pos (by decide)]
    exact g
  · rw [e]
    show 60 ≤ 600001
    decide
  · rw [e]
    have := gs_enc I r.2.1
    rw [h0] at this
    omega
end PW
