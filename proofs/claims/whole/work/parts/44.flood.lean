section P4
variable {σ : SG} {A : Nat → List Int32} {I : Nat → Nat → Int32} {fu : Nat}
theorem RR.gone (r : RR σ A I) (g : Nat → Bool) {B : Nat → List Int32} {J : Nat → Nat → Int32} (hL : LEN B) (h1 : ∀ k, scrA k = false → k ≠ 5 → k ≠ 43 → k ≠ 50 → B k = A k) (h2 : ∀ o j, scrI o j = false → ¬ (o = 2 ∧ j = 13) → J o j = I o j)
    (h5 : ∀ i, i < σ 0 0 → rd (B 5) i = ro (gS σ g 7 i)) (h43 : ∀ i, i < σ 0 0 → rd (B 43) i = ro (gS σ g 7 i)) (h50 : ∀ s, s < σ 0 3 → rd (B 50) s = pl (gS σ g 8 s)) (h13 : J 2 13 = nI (bits (fun s => gS σ g 8 s == 100) (σ 0 3))) : RR (gS σ g) B J := by
  obtain ⟨r1, r2, ⟨⟨c1, c2, c3, c4, c5, c6, c7⟩, c8, c9, c10⟩, ⟨m1, m7, m8, m9⟩, r5⟩ := r
  refine ⟨WF.gone r1 g, hL, ⟨⟨?_, ?_, ?_, ?_, ?_, h13, ?_⟩, fun c hc => ?_, fun t ht => ?_, fun t ht => ?_⟩, ⟨?_, fun c hc => ?_, fun t ht => ?_, fun t ht => ?_⟩, ?_⟩
  · rw [h2 2 8 rfl (by omega)]; exact c1
  · rw [h2 2 9 rfl (by omega)]; exact c2
  · rw [h2 2 10 rfl (by omega)]; exact c3
  · rw [h2 2 11 rfl (by omega)]; exact c4
  · rw [h2 2 12 rfl (by omega)]; exact c5
  · rw [h2 2 14 rfl (by omega)]; exact c7
  · rw [h1 3 rfl (by decide) (by decide) (by decide), h1 4 rfl (by decide) (by decide) (by decide)]
    exact ⟨(c8 c hc).1, (c8 c hc).2.1, h5 c hc⟩
  · rw [h1 6 rfl (by decide) (by decide) (by decide), h1 7 rfl (by decide) (by decide) (by decide), h1 8 rfl (by decide) (by decide) (by decide), h1 9 rfl (by decide) (by decide) (by decide)]
    exact c9 t ht
  · rw [h1 10 rfl (by decide) (by decide) (by decide)]
    exact c10 t ht
  · rw [h2 36 5 rfl (by omega), h2 36 6 rfl (by omega), h2 36 7 rfl (by omega), h2 36 17 rfl (by omega), h2 36 23 rfl (by omega), h2 36 31 rfl (by omega)]
    exact m1
  · rw [h1 40 rfl (by decide) (by decide) (by decide), h1 41 rfl (by decide) (by decide) (by decide), h1 42 rfl (by decide) (by decide) (by decide)]
    exact ⟨(m7 c hc).1, (m7 c hc).2.1, h43 c hc, (m7 c hc).2.2.2⟩
  · rw [h1 46 rfl (by decide) (by decide) (by decide), h1 47 rfl (by decide) (by decide) (by decide), h1 48 rfl (by decide) (by decide) (by decide), h1 49 rfl (by decide) (by decide) (by decide)]
    exact ⟨(m8 t ht).1, (m8 t ht).2.1, (m8 t ht).2.2.1, (m8 t ht).2.2.2.1, h50 t ht⟩
  · rw [h1 51 rfl (by decide) (by decide) (by decide)]
    exact m9 t ht
  · unfold RS at *
    rw [h2 1 6 rfl (by omega), h2 36 1 rfl (by omega), h2 1 7 rfl (by omega), h2 36 0 rfl (by omega), h1 12 rfl (by decide) (by decide) (by decide), h1 13 rfl (by decide) (by decide) (by decide), h1 14 rfl (by decide) (by decide) (by decide), h1 37 rfl (by decide) (by decide) (by decide), h1 38 rfl (by decide) (by decide) (by decide), h1 39 rfl (by decide) (by decide) (by decide)]
    exact r5
theorem op_flood (hf : 1000 ≤ fu) (r : RR σ A I) (x y : Int32) : OP (U_X7_flood fu) (U_X8_flood fu) [.ref 1, .int x, .int y] [.ref 36, .int x, .int y] A I := by
  have hn := r.n7
  have h10 : ¬ (1 : Int32) = 0 := by decide
  rcases n_flood x y with ⟨f, d, hf9, hd, rfl, rfl⟩ | h
  rotate_left
  · refine OP.q0 (v := -2) r ?_ ?_
    · simp only [u_X7_flood, M_X7_flood, c_isFlood, io_1, gr_1_0, gr_1_1, gr_1_2, gr_1_3, gr_1_4, gr_1_5, gi_1_6, pf_1_6, gi_1_7, pf_1_7, io_2, gr_2_0, gr_2_1, gr_2_2, gr_2_3, gr_2_4, gr_2_5, gr_2_6, gr_2_7, gi_2_8, pf_2_8, gi_2_9, pf_2_9, gi_2_10, pf_2_10, gi_2_11, pf_2_11, gi_2_12, pf_2_12, gi_2_13, pf_2_13, gi_2_14, pf_2_14, io_11, gr_11_0, gr_11_1, gr_11_2, io_15, gr_15_0, gr_15_1, gi_15_2, pf_15_2, gi_15_3, pf_15_3, gi_15_4, pf_15_4, gi_15_5, pf_15_5, io_18, gr_18_0, gr_18_1, gi_18_2, pf_18_2, io_21, gr_21_0, gr_21_1, gr_21_2, gr_21_3, gi_21_4, pf_21_4, gi_21_5, pf_21_5, gi_21_6, pf_21_6, gi_21_7, pf_21_7, io_34, gr_34_0, gi_34_1, pf_34_1, io_36, gi_36_0, pf_36_0, gi_36_1, pf_36_1, gr_36_2, gr_36_3, gr_36_4, gi_36_5, pf_36_5, gi_36_6, pf_36_6, gi_36_7, pf_36_7, gr_36_8, gr_36_9, gr_36_10, gr_36_11, gi_36_12, pf_36_12, gi_36_13, pf_36_13, gi_36_14, pf_36_14, gr_36_15, gr_36_16, gi_36_17, pf_36_17, gr_36_18, gr_36_19, gr_36_20, gr_36_21, gr_36_22, gi_36_23, pf_36_23, gr_36_24, gr_36_25, gi_36_26, pf_36_26, gr_36_27, gr_36_28, gr_36_29, gr_36_30, gi_36_31, pf_36_31, gr_36_32, gr_36_33, gi_36_34, pf_36_34, gi_36_35, pf_36_35, gr_36_36, al_3, al_4, al_5, al_6, al_7, al_8, al_9, al_10, al_12, al_13, al_14, al_16, al_17, al_19, al_20, al_22, al_23, al_24, al_26, al_27, al_28, al_29, al_30, al_31, al_32, al_33, al_35, al_37, al_38, al_39, al_40, al_41, al_42, al_43, al_44, al_45, al_46, al_47, al_48, al_49, al_50, al_51, al_52, al_53, al_54, al_55, al_56, al_57, al_58, al_59, ↓reduceIte, Option.bind_some, cI_some, cL_some, cV_some, rz_0, rz_1, bI_f h]
    · simp only [u_X8_flood, M_X8_flood, m_isFlood, io_1, gr_1_0, gr_1_1, gr_1_2, gr_1_3, gr_1_4, gr_1_5, gi_1_6, pf_1_6, gi_1_7, pf_1_7, io_2, gr_2_0, gr_2_1, gr_2_2, gr_2_3, gr_2_4, gr_2_5, gr_2_6, gr_2_7, gi_2_8, pf_2_8, gi_2_9, pf_2_9, gi_2_10, pf_2_10, gi_2_11, pf_2_11, gi_2_12, pf_2_12, gi_2_13, pf_2_13, gi_2_14, pf_2_14, io_11, gr_11_0, gr_11_1, gr_11_2, io_15, gr_15_0, gr_15_1, gi_15_2, pf_15_2, gi_15_3, pf_15_3, gi_15_4, pf_15_4, gi_15_5, pf_15_5, io_18, gr_18_0, gr_18_1, gi_18_2, pf_18_2, io_21, gr_21_0, gr_21_1, gr_21_2, gr_21_3, gi_21_4, pf_21_4, gi_21_5, pf_21_5, gi_21_6, pf_21_6, gi_21_7, pf_21_7, io_34, gr_34_0, gi_34_1, pf_34_1, io_36, gi_36_0, pf_36_0, gi_36_1, pf_36_1, gr_36_2, gr_36_3, gr_36_4, gi_36_5, pf_36_5, gi_36_6, pf_36_6, gi_36_7, pf_36_7, gr_36_8, gr_36_9, gr_36_10, gr_36_11, gi_36_12, pf_36_12, gi_36_13, pf_36_13, gi_36_14, pf_36_14, gr_36_15, gr_36_16, gi_36_17, pf_36_17, gr_36_18, gr_36_19, gr_36_20, gr_36_21, gr_36_22, gi_36_23, pf_36_23, gr_36_24, gr_36_25, gi_36_26, pf_36_26, gr_36_27, gr_36_28, gr_36_29, gr_36_30, gi_36_31, pf_36_31, gr_36_32, gr_36_33, gi_36_34, pf_36_34, gi_36_35, pf_36_35, gr_36_36, al_3, al_4, al_5, al_6, al_7, al_8, al_9, al_10, al_12, al_13, al_14, al_16, al_17, al_19, al_20, al_22, al_23, al_24, al_26, al_27, al_28, al_29, al_30, al_31, al_32, al_33, al_35, al_37, al_38, al_39, al_40, al_41, al_42, al_43, al_44, al_45, al_46, al_47, al_48, al_49, al_50, al_51, al_52, al_53, al_54, al_55, al_56, al_57, al_58, al_59, ↓reduceIte, Option.bind_some, cI_some, cL_some, cV_some, rz_0, rz_1, bI_f h]
  have ht := bI_t (n_floodT hf9 hd)
  by_cases h0 : σ 0 0 = 0
  · refine OP.q0 (v := -3) r ?_ ?_
    · simp only [u_X7_flood, M_X7_flood, c_isFlood, io_1, gr_1_0, gr_1_1, gr_1_2, gr_1_3, gr_1_4, gr_1_5, gi_1_6, pf_1_6, gi_1_7, pf_1_7, io_2, gr_2_0, gr_2_1, gr_2_2, gr_2_3, gr_2_4, gr_2_5, gr_2_6, gr_2_7, gi_2_8, pf_2_8, gi_2_9, pf_2_9, gi_2_10, pf_2_10, gi_2_11, pf_2_11, gi_2_12, pf_2_12, gi_2_13, pf_2_13, gi_2_14, pf_2_14, io_11, gr_11_0, gr_11_1, gr_11_2, io_15, gr_15_0, gr_15_1, gi_15_2, pf_15_2, gi_15_3, pf_15_3, gi_15_4, pf_15_4, gi_15_5, pf_15_5, io_18, gr_18_0, gr_18_1, gi_18_2, pf_18_2, io_21, gr_21_0, gr_21_1, gr_21_2, gr_21_3, gi_21_4, pf_21_4, gi_21_5, pf_21_5, gi_21_6, pf_21_6, gi_21_7, pf_21_7, io_34, gr_34_0, gi_34_1, pf_34_1, io_36, gi_36_0, pf_36_0, gi_36_1, pf_36_1, gr_36_2, gr_36_3, gr_36_4, gi_36_5, pf_36_5, gi_36_6, pf_36_6, gi_36_7, pf_36_7, gr_36_8, gr_36_9, gr_36_10, gr_36_11, gi_36_12, pf_36_12, gi_36_13, pf_36_13, gi_36_14, pf_36_14, gr_36_15, gr_36_16, gi_36_17, pf_36_17, gr_36_18, gr_36_19, gr_36_20, gr_36_21, gr_36_22, gi_36_23, pf_36_23, gr_36_24, gr_36_25, gi_36_26, pf_36_26, gr_36_27, gr_36_28, gr_36_29, gr_36_30, gi_36_31, pf_36_31, gr_36_32, gr_36_33, gi_36_34, pf_36_34, gi_36_35, pf_36_35, gr_36_36, al_3, al_4, al_5, al_6, al_7, al_8, al_9, al_10, al_12, al_13, al_14, al_16, al_17, al_19, al_20, al_22, al_23, al_24, al_26, al_27, al_28, al_29, al_30, al_31, al_32, al_33, al_35, al_37, al_38, al_39, al_40, al_41, al_42, al_43, al_44, al_45, al_46, al_47, al_48, al_49, al_50, al_51, al_52, al_53, al_54, al_55, al_56, al_57, al_58, al_59, ↓reduceIte, Option.bind_some, cI_some, cL_some, cV_some, rz_0, rz_1, ht, if_neg h10, c_isThere, r.i2_8, bI_0, nI_0lt (show σ 0 0 < 2147483648 by omega)]
      rw [if_pos (by omega)]
    · simp only [u_X8_flood, M_X8_flood, m_isFlood, io_1, gr_1_0, gr_1_1, gr_1_2, gr_1_3, gr_1_4, gr_1_5, gi_1_6, pf_1_6, gi_1_7, pf_1_7, io_2, gr_2_0, gr_2_1, gr_2_2, gr_2_3, gr_2_4, gr_2_5, gr_2_6, gr_2_7, gi_2_8, pf_2_8, gi_2_9, pf_2_9, gi_2_10, pf_2_10, gi_2_11, pf_2_11, gi_2_12, pf_2_12, gi_2_13, pf_2_13, gi_2_14, pf_2_14, io_11, gr_11_0, gr_11_1, gr_11_2, io_15, gr_15_0, gr_15_1, gi_15_2, pf_15_2, gi_15_3, pf_15_3, gi_15_4, pf_15_4, gi_15_5, pf_15_5, io_18, gr_18_0, gr_18_1, gi_18_2, pf_18_2, io_21, gr_21_0, gr_21_1, gr_21_2, gr_21_3, gi_21_4, pf_21_4, gi_21_5, pf_21_5, gi_21_6, pf_21_6, gi_21_7, pf_21_7, io_34, gr_34_0, gi_34_1, pf_34_1, io_36, gi_36_0, pf_36_0, gi_36_1, pf_36_1, gr_36_2, gr_36_3, gr_36_4, gi_36_5, pf_36_5, gi_36_6, pf_36_6, gi_36_7, pf_36_7, gr_36_8, gr_36_9, gr_36_10, gr_36_11, gi_36_12, pf_36_12, gi_36_13, pf_36_13, gi_36_14, pf_36_14, gr_36_15, gr_36_16, gi_36_17, pf_36_17, gr_36_18, gr_36_19, gr_36_20, gr_36_21, gr_36_22, gi_36_23, pf_36_23, gr_36_24, gr_36_25, gi_36_26, pf_36_26, gr_36_27, gr_36_28, gr_36_29, gr_36_30, gi_36_31, pf_36_31, gr_36_32, gr_36_33, gi_36_34, pf_36_34, gi_36_35, pf_36_35, gr_36_36, al_3, al_4, al_5, al_6, al_7, al_8, al_9, al_10, al_12, al_13, al_14, al_16, al_17, al_19, al_20, al_22, al_23, al_24, al_26, al_27, al_28, al_29, al_30, al_31, al_32, al_33, al_35, al_37, al_38, al_39, al_40, al_41, al_42, al_43, al_44, al_45, al_46, al_47, al_48, al_49, al_50, al_51, al_52, al_53, al_54, al_55, al_56, al_57, al_58, al_59, ↓reduceIte, Option.bind_some, cI_some, cL_some, cV_some, rz_0, rz_1, ht, if_neg h10, r.i36_5, nI_pe0 (show σ 0 0 < 2147483648 by omega)]
      rw [if_pos h0]
  obtain ⟨A1, I1, g1, g2, g3⟩ := c_fl (fu := fu) hf r hf9 hd (fun c => σ 9 c == 1)
  have r1 := g2.R r
  have hgo : nI (bits (fun c => σ 7 c != 0) (σ 0 0)) &&& (nI (bits (fl σ (σ 7) (fun c => σ 9 c == 1) f d).1 (σ 0 0)) ^^^ (-1)) = nI (bits (fun c => σ 7 c != 0 && !(fl σ (σ 7) (fun c => σ 9 c == 1) f d).1 c) (σ 0 0)) := by
    rw [n_not, n_and, bits_sub _ _ hn]
  obtain ⟨ys, l1, l2, l3⟩ := c_lose (fu := fu) r1 (fun c => σ 7 c != 0 && !(fl σ (σ 7) (fun c => σ 9 c == 1) f d).1 c) (fun c hc h => by
    rw [Bool.and_eq_true] at h
    simpa using h.1) (σ 0 0) 0 fu (A1 5) (I1 2 13) (by omega) (by omega) (r1.len rfl) (fun i hi => by rw [r1.v5 hi, gS7, gc_0]; rfl) (by
      rw [r1.i2_13]
      refine congrArg nI (bits_congr _ fun s hs => ?_)
      rw [gS8, gc_0]
      simp)
  rw [uA_self, uI_self] at l3
  generalize hgd : (fun c => σ 7 c != 0 && !(fl σ (σ 7) (fun c => σ 9 c == 1) f d).1 c) = g at *
  have rq : RQ σ (uA A1 5 ys) (uI I1 2 13 (nI (bits (fun s => gS σ g 8 s == 100) (σ 0 3)))) := ⟨r1.1, r1.2.1.set (by rw [l1]; exact (r1.len (k := 5) rfl).symm), r1.q.2.2⟩
  obtain ⟨A3, ⟨w, k1, k2⟩, k3, k4, k5, k6⟩ := q_fl (fu := fu) hf rq hf9 hd (gB := fun c => σ 9 c == 1) r1.hg
  obtain ⟨zs, us, n1, n2, n3, n4, n5⟩ := m_lose (fu := fu) k5 (st := (fl σ (σ 7) (fun c => σ 9 c == 1) f d).1) (x3 := 0) (fun c hc => (k4 c hc).1) (σ 0 0) 0 fu (A3 43) (A3 50) (by omega) (by omega) (k5.len rfl) (k5.len rfl) (fun i hi => by rw [k5.v43 hi, gS7, gc_0]; rfl) (fun s hs => by
    rw [k5.v50 hs, gS8, gc_0]
    simp)
  rw [hgd] at n3 n4 n5
  have e50 : uA (uA A3 43 (A3 43)) 50 (A3 50) = A3 := by rw [uA_self, uA_self]
  rw [e50] at n5
  refine ⟨nI (cnt g (σ 0 0)), uA A1 5 ys, uI I1 2 13 (nI (bits (fun s => gS σ g 8 s == 100) (σ 0 3))), uA (uA A3 43 zs) 50 us, uI (uI I1 2 13 (nI (bits (fun s => gS σ g 8 s == 100) (σ 0 3)))) 36 26 (nI (σ 0 2)), gS σ g, ?_, ?_, ?_, ?_, fun h => (g2.2.2 1 7 rfl).trans (h.trans (g2.2.2 36 0 rfl).symm), ?_⟩
  · have ll : U_X0_loseStonesOf fu [.ref 2, .int (nI (bits g (σ 0 0)))] (enc A1 I1) = some (none, enc (uA A1 5 ys) (uI I1 2 13 (nI (bits (fun s => gS σ g 8 s == 100) (σ 0 3))))) := by
      simp only [u_X0_loseStonesOf, M_X0_loseStonesOf, io_1, gr_1_0, gr_1_1, gr_1_2, gr_1_3, gr_1_4, gr_1_5, gi_1_6, pf_1_6, gi_1_7, pf_1_7, io_2, gr_2_0, gr_2_1, gr_2_2, gr_2_3, gr_2_4, gr_2_5, gr_2_6, gr_2_7, gi_2_8, pf_2_8, gi_2_9, pf_2_9, gi_2_10, pf_2_10, gi_2_11, pf_2_11, gi_2_12, pf_2_12, gi_2_13, pf_2_13, gi_2_14, pf_2_14, io_11, gr_11_0, gr_11_1, gr_11_2, io_15, gr_15_0, gr_15_1, gi_15_2, pf_15_2, gi_15_3, pf_15_3, gi_15_4, pf_15_4, gi_15_5, pf_15_5, io_18, gr_18_0, gr_18_1, gi_18_2, pf_18_2, io_21, gr_21_0, gr_21_1, gr_21_2, gr_21_3, gi_21_4, pf_21_4, gi_21_5, pf_21_5, gi_21_6, pf_21_6, gi_21_7, pf_21_7, io_34, gr_34_0, gi_34_1, pf_34_1, io_36, gi_36_0, pf_36_0, gi_36_1, pf_36_1, gr_36_2, gr_36_3, gr_36_4, gi_36_5, pf_36_5, gi_36_6, pf_36_6, gi_36_7, pf_36_7, gr_36_8, gr_36_9, gr_36_10, gr_36_11, gi_36_12, pf_36_12, gi_36_13, pf_36_13, gi_36_14, pf_36_14, gr_36_15, gr_36_16, gi_36_17, pf_36_17, gr_36_18, gr_36_19, gr_36_20, gr_36_21, gr_36_22, gi_36_23, pf_36_23, gr_36_24, gr_36_25, gi_36_26, pf_36_26, gr_36_27, gr_36_28, gr_36_29, gr_36_30, gi_36_31, pf_36_31, gr_36_32, gr_36_33, gi_36_34, pf_36_34, gi_36_35, pf_36_35, gr_36_36, al_3, al_4, al_5, al_6, al_7, al_8, al_9, al_10, al_12, al_13, al_14, al_16, al_17, al_19, al_20, al_22, al_23, al_24, al_26, al_27, al_28, al_29, al_30, al_31, al_32, al_33, al_35, al_37, al_38, al_39, al_40, al_41, al_42, al_43, al_44, al_45, al_46, al_47, al_48, al_49, al_50, al_51, al_52, al_53, al_54, al_55, al_56, al_57, al_58, al_59, ↓reduceIte, Option.bind_some, cI_some, cL_some, cV_some, rz_0, rz_1]
      exact l3
    simp only [u_X7_flood, M_X7_flood, c_isFlood, io_1, gr_1_0, gr_1_1, gr_1_2, gr_1_3, gr_1_4, gr_1_5, gi_1_6, pf_1_6, gi_1_7, pf_1_7, io_2, gr_2_0, gr_2_1, gr_2_2, gr_2_3, gr_2_4, gr_2_5, gr_2_6, gr_2_7, gi_2_8, pf_2_8, gi_2_9, pf_2_9, gi_2_10, pf_2_10, gi_2_11, pf_2_11, gi_2_12, pf_2_12, gi_2_13, pf_2_13, gi_2_14, pf_2_14, io_11, gr_11_0, gr_11_1, gr_11_2, io_15, gr_15_0, gr_15_1, gi_15_2, pf_15_2, gi_15_3, pf_15_3, gi_15_4, pf_15_4, gi_15_5, pf_15_5, io_18, gr_18_0, gr_18_1, gi_18_2, pf_18_2, io_21, gr_21_0, gr_21_1, gr_21_2, gr_21_3, gi_21_4, pf_21_4, gi_21_5, pf_21_5, gi_21_6, pf_21_6, gi_21_7, pf_21_7, io_34, gr_34_0, gi_34_1, pf_34_1, io_36, gi_36_0, pf_36_0, gi_36_1, pf_36_1, gr_36_2, gr_36_3, gr_36_4, gi_36_5, pf_36_5, gi_36_6, pf_36_6, gi_36_7, pf_36_7, gr_36_8, gr_36_9, gr_36_10, gr_36_11, gi_36_12, pf_36_12, gi_36_13, pf_36_13, gi_36_14, pf_36_14, gr_36_15, gr_36_16, gi_36_17, pf_36_17, gr_36_18, gr_36_19, gr_36_20, gr_36_21, gr_36_22, gi_36_23, pf_36_23, gr_36_24, gr_36_25, gi_36_26, pf_36_26, gr_36_27, gr_36_28, gr_36_29, gr_36_30, gi_36_31, pf_36_31, gr_36_32, gr_36_33, gi_36_34, pf_36_34, gi_36_35, pf_36_35, gr_36_36, al_3, al_4, al_5, al_6, al_7, al_8, al_9, al_10, al_12, al_13, al_14, al_16, al_17, al_19, al_20, al_22, al_23, al_24, al_26, al_27, al_28, al_29, al_30, al_31, al_32, al_33, al_35, al_37, al_38, al_39, al_40, al_41, al_42, al_43, al_44, al_45, al_46, al_47, al_48, al_49, al_50, al_51, al_52, al_53, al_54, al_55, al_56, al_57, al_58, al_59, ↓reduceIte, Option.bind_some, cI_some, cL_some, cV_some, rz_0, rz_1, ht, if_neg h10, c_isThere, r.i2_8, bI_0, nI_0lt (show σ 0 0 < 2147483648 by omega), r.i2_10, g1, c_filled hf r1, g3.2, hgo, ll, c_bitCount fu _ (bits_ge (p := g) hn), pc_bits _ hn]
    rw [if_neg (by omega)]
  · rw [uA_n _ _ _ (by decide)]; exact g2.zero
  · simp only [u_X8_flood, M_X8_flood, m_isFlood, io_1, gr_1_0, gr_1_1, gr_1_2, gr_1_3, gr_1_4, gr_1_5, gi_1_6, pf_1_6, gi_1_7, pf_1_7, io_2, gr_2_0, gr_2_1, gr_2_2, gr_2_3, gr_2_4, gr_2_5, gr_2_6, gr_2_7, gi_2_8, pf_2_8, gi_2_9, pf_2_9, gi_2_10, pf_2_10, gi_2_11, pf_2_11, gi_2_12, pf_2_12, gi_2_13, pf_2_13, gi_2_14, pf_2_14, io_11, gr_11_0, gr_11_1, gr_11_2, io_15, gr_15_0, gr_15_1, gi_15_2, pf_15_2, gi_15_3, pf_15_3, gi_15_4, pf_15_4, gi_15_5, pf_15_5, io_18, gr_18_0, gr_18_1, gi_18_2, pf_18_2, io_21, gr_21_0, gr_21_1, gr_21_2, gr_21_3, gi_21_4, pf_21_4, gi_21_5, pf_21_5, gi_21_6, pf_21_6, gi_21_7, pf_21_7, io_34, gr_34_0, gi_34_1, pf_34_1, io_36, gi_36_0, pf_36_0, gi_36_1, pf_36_1, gr_36_2, gr_36_3, gr_36_4, gi_36_5, pf_36_5, gi_36_6, pf_36_6, gi_36_7, pf_36_7, gr_36_8, gr_36_9, gr_36_10, gr_36_11, gi_36_12, pf_36_12, gi_36_13, pf_36_13, gi_36_14, pf_36_14, gr_36_15, gr_36_16, gi_36_17, pf_36_17, gr_36_18, gr_36_19, gr_36_20, gr_36_21, gr_36_22, gi_36_23, pf_36_23, gr_36_24, gr_36_25, gi_36_26, pf_36_26, gr_36_27, gr_36_28, gr_36_29, gr_36_30, gi_36_31, pf_36_31, gr_36_32, gr_36_33, gi_36_34, pf_36_34, gi_36_35, pf_36_35, gr_36_36, al_3, al_4, al_5, al_6, al_7, al_8, al_9, al_10, al_12, al_13, al_14, al_16, al_17, al_19, al_20, al_22, al_23, al_24, al_26, al_27, al_28, al_29, al_30, al_31, al_32, al_33, al_35, al_37, al_38, al_39, al_40, al_41, al_42, al_43, al_44, al_45, al_46, al_47, al_48, al_49, al_50, al_51, al_52, al_53, al_54, al_55, al_56, al_57, al_58, al_59, ↓reduceIte, Option.bind_some, cI_some, cL_some, cV_some, rz_0, rz_1, ht, if_neg h10, rq.i5, nI_pe0 (show σ 0 0 < 2147483648 by omega), k1, k2]
    rw [if_neg h0]
    exact n5
  · rw [uA_n _ _ _ (by decide), uA_n _ _ _ (by decide), k3.1 0 (by decide) (by decide) (by decide) (by decide), uA_n _ _ _ (by decide)]
    exact g2.zero
  · refine RR.gone r1 g ?_ (fun k hk a5 a43 a50 => ?_) (fun o j hj hne => ?_) (fun i hi => ?_) (fun i hi => ?_) (fun s hs => ?_) ?_
    · exact (k5.2.1.set (by rw [n1]; exact (k5.len (k := 43) rfl).symm)).set (by rw [n2, uA_n _ _ _ (by decide)]; exact (k5.len (k := 50) rfl).symm)
    · rw [uA_n _ _ _ a50, uA_n _ _ _ a43, k3.1 k (fun q => by rw [q] at hk; cases hk) (fun q => by rw [q] at hk; cases hk) (fun q => by rw [q] at hk; cases hk) (fun q => by rw [q] at hk; cases hk), uA_n _ _ _ a5]
    · have q1 : ¬ (o = 36 ∧ j = 26) := fun q => by rw [q.1, q.2] at hj; cases hj
      unfold uI
      rw [if_neg q1, if_neg hne]
    · rw [uA_n _ _ _ (by decide), uA_n _ _ _ (by decide), k3.1 5 (by decide) (by decide) (by decide) (by decide), uA_s]
      exact l2 i hi
    · rw [uA_n _ _ _ (by decide), uA_s]
      exact n3 i hi
    · rw [uA_s]
      exact n4 s hs
    · rfl
end P4
