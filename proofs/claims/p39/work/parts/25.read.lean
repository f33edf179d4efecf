/-! ===== reading rows under the relation ===== -/
section RD
variable {σ : SG} {A : Nat → List Int32} {I : Nat → Nat → Int32}
theorem RR.i2_8 (r : RR σ A I) : I 2 8 = nI (σ 0 0) := r.2.2.1.1.1
theorem RR.i2_9 (r : RR σ A I) : I 2 9 = nI (σ 0 1) := r.2.2.1.1.2.1
theorem RR.i2_10 (r : RR σ A I) : I 2 10 = nI (bits (fun c => σ 9 c == 1) (σ 0 0)) := r.2.2.1.1.2.2.1
theorem RR.i2_11 (r : RR σ A I) : I 2 11 = nI (σ 0 2) := r.2.2.1.1.2.2.2.1
theorem RR.i2_12 (r : RR σ A I) : I 2 12 = nI (σ 0 3) := r.2.2.1.1.2.2.2.2.1
theorem RR.i2_13 (r : RR σ A I) : I 2 13 = nI (bits (fun s => σ 8 s == 100) (σ 0 3)) := r.2.2.1.1.2.2.2.2.2.1
theorem RR.i2_14 (r : RR σ A I) : I 2 14 = nI (σ 0 4) := r.2.2.1.1.2.2.2.2.2.2
theorem RR.v3 (r : RR σ A I) {j : Nat} (h : j < σ 0 0) : rd (A 3) j = nI (σ 1 j) := (r.2.2.1.2.1 j h).1
theorem RR.l3 (r : RR σ A I) {j : Nat} (h : j < σ 0 0) : j < (A 3).length := by rw [r.len rfl]; have := r.n7; show j < 7; omega
theorem RR.a3 (r : RR σ A I) {j : Nat} (h : j < σ 0 0) : aI (enc A I) 3 (nI j) = some (nI (σ 1 j)) := by rw [ai_3 A I (r.l3 h) (by have := r.n7; omega), r.v3 h]
theorem RR.v4 (r : RR σ A I) {j : Nat} (h : j < σ 0 0) : rd (A 4) j = nI (σ 2 j) := (r.2.2.1.2.1 j h).2.1
theorem RR.l4 (r : RR σ A I) {j : Nat} (h : j < σ 0 0) : j < (A 4).length := by rw [r.len rfl]; have := r.n7; show j < 7; omega
theorem RR.a4 (r : RR σ A I) {j : Nat} (h : j < σ 0 0) : aI (enc A I) 4 (nI j) = some (nI (σ 2 j)) := by rw [ai_4 A I (r.l4 h) (by have := r.n7; omega), r.v4 h]
theorem RR.v5 (r : RR σ A I) {j : Nat} (h : j < σ 0 0) : rd (A 5) j = ro (σ 7 j) := (r.2.2.1.2.1 j h).2.2
theorem RR.l5 (r : RR σ A I) {j : Nat} (h : j < σ 0 0) : j < (A 5).length := by rw [r.len rfl]; have := r.n7; show j < 7; omega
theorem RR.a5 (r : RR σ A I) {j : Nat} (h : j < σ 0 0) : aI (enc A I) 5 (nI j) = some (ro (σ 7 j)) := by rw [ai_5 A I (r.l5 h) (by have := r.n7; omega), r.v5 h]
theorem RR.v6 (r : RR σ A I) {j : Nat} (h : j < σ 0 3) : rd (A 6) j = nI (σ 3 j) := (r.2.2.1.2.2.1 j h).1
theorem RR.l6 (r : RR σ A I) {j : Nat} (h : j < σ 0 3) : j < (A 6).length := by rw [r.len rfl]; have := r.m6; show j < 6; omega
theorem RR.a6 (r : RR σ A I) {j : Nat} (h : j < σ 0 3) : aI (enc A I) 6 (nI j) = some (nI (σ 3 j)) := by rw [ai_6 A I (r.l6 h) (by have := r.m6; omega), r.v6 h]
theorem RR.v7 (r : RR σ A I) {j : Nat} (h : j < σ 0 3) : rd (A 7) j = nI (σ 4 j) := (r.2.2.1.2.2.1 j h).2.1
theorem RR.l7 (r : RR σ A I) {j : Nat} (h : j < σ 0 3) : j < (A 7).length := by rw [r.len rfl]; have := r.m6; show j < 6; omega
theorem RR.a7 (r : RR σ A I) {j : Nat} (h : j < σ 0 3) : aI (enc A I) 7 (nI j) = some (nI (σ 4 j)) := by rw [ai_7 A I (r.l7 h) (by have := r.m6; omega), r.v7 h]
theorem RR.v8 (r : RR σ A I) {j : Nat} (h : j < σ 0 3) : rd (A 8) j = nI (σ 5 j) := (r.2.2.1.2.2.1 j h).2.2.1
theorem RR.l8 (r : RR σ A I) {j : Nat} (h : j < σ 0 3) : j < (A 8).length := by rw [r.len rfl]; have := r.m6; show j < 6; omega
theorem RR.a8 (r : RR σ A I) {j : Nat} (h : j < σ 0 3) : aI (enc A I) 8 (nI j) = some (nI (σ 5 j)) := by rw [ai_8 A I (r.l8 h) (by have := r.m6; omega), r.v8 h]
theorem RR.v9 (r : RR σ A I) {j : Nat} (h : j < σ 0 3) : rd (A 9) j = nI (σ 6 j) := (r.2.2.1.2.2.1 j h).2.2.2
theorem RR.l9 (r : RR σ A I) {j : Nat} (h : j < σ 0 3) : j < (A 9).length := by rw [r.len rfl]; have := r.m6; show j < 6; omega
theorem RR.a9 (r : RR σ A I) {j : Nat} (h : j < σ 0 3) : aI (enc A I) 9 (nI j) = some (nI (σ 6 j)) := by rw [ai_9 A I (r.l9 h) (by have := r.m6; omega), r.v9 h]
theorem RR.v10 (r : RR σ A I) {j : Nat} (h : j < σ 0 4) : rd (A 10) j = nI (σ 10 j) := (r.2.2.1.2.2.2 j h)
theorem RR.l10 (r : RR σ A I) {j : Nat} (h : j < σ 0 4) : j < (A 10).length := by rw [r.len rfl]; have := r.k6; show j < 6; omega
theorem RR.a10 (r : RR σ A I) {j : Nat} (h : j < σ 0 4) : aI (enc A I) 10 (nI j) = some (nI (σ 10 j)) := by rw [ai_10 A I (r.l10 h) (by have := r.k6; omega), r.v10 h]
theorem ro_eq {k s : Nat} (hs : s < 2147483648) (hk : k < 2147483648) : (ro k = nI s) = (k = s + 1) := by
  cases k with
  | zero => exact propext ⟨fun h => absurd (show nI s = -9 from h.symm) (by rw [n_m9 hs]; exact id), fun h => by omega⟩
  | succ k =>
    show (nI k = nI s) = _
    rw [n_eq (by omega) hs]
    exact propext ⟨fun h => by rw [h], fun h => by omega⟩
theorem ro_9 {k : Nat} (hk : k < 2147483648) : (ro k = -9) = (k = 0) := by
  cases k with
  | zero => simp [ro]
  | succ k =>
    show (nI k = -9) = _
    rw [n_m9 (by omega)]
    simp
theorem ro_s (s : Nat) : ro (s + 1) = nI s := rfl
theorem ro_0 : ro 0 = -9 := rfl
theorem RR.row (r : RR σ A I) {c s : Nat} (h : c < σ 0 0) (hs : σ 7 c = s + 1) : s < σ 0 3 ∧ σ 8 s = c + 1 := r.1.2.2.2.2.2.2.2.2.2.2.1 c h s hs
theorem RR.plc (r : RR σ A I) {s : Nat} (h : s < σ 0 3) : σ 8 s = 0 ∨ σ 8 s = 100 ∨ ∃ c, c < σ 0 0 ∧ σ 8 s = c + 1 ∧ σ 7 c = s + 1 := r.1.2.2.2.2.2.2.2.2.2.2.2 s h
theorem RR.cel (r : RR σ A I) {c : Nat} (h : c < σ 0 0) : σ 1 c ≤ 9 ∧ σ 2 c ≤ 9 ∧ σ 9 c ≤ 1 := r.1.2.2.2.2.2.2.2.1 c h
theorem RR.sto (r : RR σ A I) {s : Nat} (h : s < σ 0 3) : σ 3 s ≤ 2 ∧ 1 ≤ σ 4 s ∧ σ 4 s ≤ 20 ∧ 1 ≤ σ 5 s ∧ σ 5 s ≤ 9 ∧ σ 6 s ≤ 9 := r.1.2.2.2.2.2.2.2.2.1 s h
theorem RR.wal (r : RR σ A I) {x : Nat} (h : x < σ 0 4) : 1 ≤ σ 10 x ∧ σ 10 x ≤ 9 := r.1.2.2.2.2.2.2.2.2.2.1 x h
theorem RR.row_lt (r : RR σ A I) {c : Nat} (h : c < σ 0 0) : σ 7 c ≤ 6 := by
  cases hk : σ 7 c with
  | zero => omega
  | succ s => have := (r.row h hk).1; have := r.m6; omega
end RD

