/-! ===== the world of the two objects (laid by program wip/whole/gen/part20.py) ===== -/
def tailN (A : Nat → List Int32) : Nat → XW
  | 0 => []
  | 1 => [.inr (0, A 36)]
  | 2 => [.inr (0, A 36), .inr (0, A 37)]
  | 3 => [.inr (0, A 36), .inr (0, A 37), .inr (0, A 38)]
  | _ => [.inr (0, A 36), .inr (0, A 37), .inr (0, A 38), .inr (0, A 39)]
def enc (A : Nat → List Int32) (I : Nat → Nat → Int32) : XW := (
  .inr (2, A 0) ::
  .inl (6, [.ref 2, .ref 11, .ref 15, .ref 18, .ref 21, .ref 34, .int (I 1 6), .int (I 1 7)]) ::
  .inl (0, [.ref 3, .ref 4, .ref 5, .ref 6, .ref 7, .ref 8, .ref 9, .ref 10, .int (I 2 8), .int (I 2 9), .int (I 2 10), .int (I 2 11), .int (I 2 12), .int (I 2 13), .int (I 2 14)]) ::
  .inr (0, A 3) ::
  .inr (0, A 4) ::
  .inr (0, A 5) ::
  .inr (0, A 6) ::
  .inr (0, A 7) ::
  .inr (0, A 8) ::
  .inr (0, A 9) ::
  .inr (0, A 10) ::
  .inl (4, [.ref 12, .ref 13, .ref 14]) ::
  .inr (0, A 12) ::
  .inr (0, A 13) ::
  .inr (0, A 14) ::
  .inl (5, [.ref 16, .ref 17, .int (I 15 2), .int (I 15 3), .int (I 15 4), .int (I 15 5)]) ::
  .inr (0, A 16) ::
  .inr (0, A 17) ::
  .inl (1, [.ref 19, .ref 20, .int (I 18 2)]) ::
  .inr (0, A 19) ::
  .inr (0, A 20) ::
  .inl (3, [.ref 22, .ref 23, .ref 24, .ref 25, .int (I 21 4), .int (I 21 5), .int (I 21 6), .int (I 21 7)]) ::
  .inr (0, A 22) ::
  .inr (0, A 23) ::
  .inr (0, A 24) ::
  .inr (3, [26, 27, 28, 29, 30, 31, 32, 33]) ::
  .inr (0, A 26) ::
  .inr (0, A 27) ::
  .inr (0, A 28) ::
  .inr (0, A 29) ::
  .inr (0, A 30) ::
  .inr (0, A 31) ::
  .inr (0, A 32) ::
  .inr (0, A 33) ::
  .inl (2, [.ref 35, .int (I 34 1)]) ::
  .inr (0, A 35) ::
  tailN A (A 40).length)
def uA (A : Nat → List Int32) (k : Nat) (xs : List Int32) : Nat → List Int32 := fun j => if j = k then xs else A j
def uI (I : Nat → Nat → Int32) (a j : Nat) (x : Int32) : Nat → Nat → Int32 := fun b i => if b = a ∧ i = j then x else I b i
/-- what stands at a place of a row -/
def rd (xs : List Int32) (j : Nat) : Int32 := xs.getD j 0
def lenT : Nat → Nat
  | 3 => 7
  | 4 => 7
  | 5 => 7
  | 6 => 6
  | 7 => 6
  | 8 => 6
  | 9 => 6
  | 10 => 6
  | 12 => 4
  | 13 => 4
  | 14 => 240
  | 16 => 8
  | 17 => 9
  | 19 => 7
  | 20 => 7
  | 22 => 7
  | 23 => 7
  | 24 => 6
  | 26 => 8
  | 27 => 8
  | 28 => 8
  | 29 => 8
  | 30 => 8
  | 31 => 8
  | 32 => 8
  | 33 => 8
  | 35 => 128
  | _ => 0
def isArr (k : Nat) : Bool := ([3, 4, 5, 6, 7, 8, 9, 10, 12, 13, 14, 16, 17, 19, 20, 22, 23, 24, 26, 27, 28, 29, 30, 31, 32, 33, 35] : List Nat).elem k
theorem aI_enc {w : XW} {k : Nat} {xs : List Int32} (hw : w[k]? = some (.inr (0, xs))) {j : Nat} (hj : j < xs.length) (h : j < 2147483648) : aI w k (nI j) = some (rd xs j) := by
  unfold aI
  rw [hw]
  dsimp only
  rw [if_pos ⟨Or.inl rfl, nI_pos' h⟩, nI_clamp h, rd, List.getD_eq_getElem?_getD, List.getElem?_eq_getElem hj]
  rfl
theorem sI_enc {w : XW} {k : Nat} {xs : List Int32} {x : Int32} (hw : w[k]? = some (.inr (0, xs))) (hk : k ≠ 0) {j : Nat} (hj : j < xs.length) (h : j < 2147483648) : sI w k (nI j) x = some (w.set k (.inr (0, xs.set j x))) := by
  unfold sI
  rw [hw]
  dsimp only
  rw [if_pos ⟨rfl, hk, nI_pos' h, by rw [nI_clamp h]; exact hj⟩, nI_clamp h]
theorem cI_some (x : Int32) (w : XW) (k : Int32 → XW → Option XO) : cI (some (some (.int x), w)) k = k x w := rfl
theorem cL_some (x : Int64) (w : XW) (k : Int64 → XW → Option XO) : cL (some (some (.long x), w)) k = k x w := rfl
theorem cV_some (w : XW) (k : XW → Option XO) : cV (some (none, w)) k = k w := rfl
theorem rz_0 (w : XW) : retZ 0 w = some (some (.int 0), w) := rfl
theorem rz_1 (w : XW) : retZ 1 w = some (some (.int 1), w) := rfl
theorem io_1 (A : Nat → List Int32) (I : Nat → Nat → Int32) : isO (enc A I) 1 6 = true := rfl
theorem gr_1_0 (A : Nat → List Int32) (I : Nat → Nat → Int32) : gR (enc A I) 1 6 0 = some 2 := rfl
theorem gr_1_1 (A : Nat → List Int32) (I : Nat → Nat → Int32) : gR (enc A I) 1 6 1 = some 11 := rfl
theorem gr_1_2 (A : Nat → List Int32) (I : Nat → Nat → Int32) : gR (enc A I) 1 6 2 = some 15 := rfl
theorem gr_1_3 (A : Nat → List Int32) (I : Nat → Nat → Int32) : gR (enc A I) 1 6 3 = some 18 := rfl
theorem gr_1_4 (A : Nat → List Int32) (I : Nat → Nat → Int32) : gR (enc A I) 1 6 4 = some 21 := rfl
theorem gr_1_5 (A : Nat → List Int32) (I : Nat → Nat → Int32) : gR (enc A I) 1 6 5 = some 34 := rfl
theorem gi_1_6 (A : Nat → List Int32) (I : Nat → Nat → Int32) : gI (enc A I) 1 6 6 = some (I 1 6) := rfl
theorem pf_1_6 (A : Nat → List Int32) (I : Nat → Nat → Int32) (x : Int32) : pF (enc A I) 1 6 6 (.int x) = some (enc A (uI I 1 6 x)) := rfl
theorem gi_1_7 (A : Nat → List Int32) (I : Nat → Nat → Int32) : gI (enc A I) 1 6 7 = some (I 1 7) := rfl
theorem pf_1_7 (A : Nat → List Int32) (I : Nat → Nat → Int32) (x : Int32) : pF (enc A I) 1 6 7 (.int x) = some (enc A (uI I 1 7 x)) := rfl
theorem io_2 (A : Nat → List Int32) (I : Nat → Nat → Int32) : isO (enc A I) 2 0 = true := rfl
theorem gr_2_0 (A : Nat → List Int32) (I : Nat → Nat → Int32) : gR (enc A I) 2 0 0 = some 3 := rfl
theorem gr_2_1 (A : Nat → List Int32) (I : Nat → Nat → Int32) : gR (enc A I) 2 0 1 = some 4 := rfl
theorem gr_2_2 (A : Nat → List Int32) (I : Nat → Nat → Int32) : gR (enc A I) 2 0 2 = some 5 := rfl
theorem gr_2_3 (A : Nat → List Int32) (I : Nat → Nat → Int32) : gR (enc A I) 2 0 3 = some 6 := rfl
theorem gr_2_4 (A : Nat → List Int32) (I : Nat → Nat → Int32) : gR (enc A I) 2 0 4 = some 7 := rfl
theorem gr_2_5 (A : Nat → List Int32) (I : Nat → Nat → Int32) : gR (enc A I) 2 0 5 = some 8 := rfl
theorem gr_2_6 (A : Nat → List Int32) (I : Nat → Nat → Int32) : gR (enc A I) 2 0 6 = some 9 := rfl
theorem gr_2_7 (A : Nat → List Int32) (I : Nat → Nat → Int32) : gR (enc A I) 2 0 7 = some 10 := rfl
theorem gi_2_8 (A : Nat → List Int32) (I : Nat → Nat → Int32) : gI (enc A I) 2 0 8 = some (I 2 8) := rfl
theorem pf_2_8 (A : Nat → List Int32) (I : Nat → Nat → Int32) (x : Int32) : pF (enc A I) 2 0 8 (.int x) = some (enc A (uI I 2 8 x)) := rfl
theorem gi_2_9 (A : Nat → List Int32) (I : Nat → Nat → Int32) : gI (enc A I) 2 0 9 = some (I 2 9) := rfl
theorem pf_2_9 (A : Nat → List Int32) (I : Nat → Nat → Int32) (x : Int32) : pF (enc A I) 2 0 9 (.int x) = some (enc A (uI I 2 9 x)) := rfl
theorem gi_2_10 (A : Nat → List Int32) (I : Nat → Nat → Int32) : gI (enc A I) 2 0 10 = some (I 2 10) := rfl
theorem pf_2_10 (A : Nat → List Int32) (I : Nat → Nat → Int32) (x : Int32) : pF (enc A I) 2 0 10 (.int x) = some (enc A (uI I 2 10 x)) := rfl
theorem gi_2_11 (A : Nat → List Int32) (I : Nat → Nat → Int32) : gI (enc A I) 2 0 11 = some (I 2 11) := rfl
theorem pf_2_11 (A : Nat → List Int32) (I : Nat → Nat → Int32) (x : Int32) : pF (enc A I) 2 0 11 (.int x) = some (enc A (uI I 2 11 x)) := rfl
theorem gi_2_12 (A : Nat → List Int32) (I : Nat → Nat → Int32) : gI (enc A I) 2 0 12 = some (I 2 12) := rfl
theorem pf_2_12 (A : Nat → List Int32) (I : Nat → Nat → Int32) (x : Int32) : pF (enc A I) 2 0 12 (.int x) = some (enc A (uI I 2 12 x)) := rfl
theorem gi_2_13 (A : Nat → List Int32) (I : Nat → Nat → Int32) : gI (enc A I) 2 0 13 = some (I 2 13) := rfl
theorem pf_2_13 (A : Nat → List Int32) (I : Nat → Nat → Int32) (x : Int32) : pF (enc A I) 2 0 13 (.int x) = some (enc A (uI I 2 13 x)) := rfl
theorem gi_2_14 (A : Nat → List Int32) (I : Nat → Nat → Int32) : gI (enc A I) 2 0 14 = some (I 2 14) := rfl
theorem pf_2_14 (A : Nat → List Int32) (I : Nat → Nat → Int32) (x : Int32) : pF (enc A I) 2 0 14 (.int x) = some (enc A (uI I 2 14 x)) := rfl
theorem io_11 (A : Nat → List Int32) (I : Nat → Nat → Int32) : isO (enc A I) 11 4 = true := rfl
theorem gr_11_0 (A : Nat → List Int32) (I : Nat → Nat → Int32) : gR (enc A I) 11 4 0 = some 12 := rfl
theorem gr_11_1 (A : Nat → List Int32) (I : Nat → Nat → Int32) : gR (enc A I) 11 4 1 = some 13 := rfl
theorem gr_11_2 (A : Nat → List Int32) (I : Nat → Nat → Int32) : gR (enc A I) 11 4 2 = some 14 := rfl
theorem io_15 (A : Nat → List Int32) (I : Nat → Nat → Int32) : isO (enc A I) 15 5 = true := rfl
theorem gr_15_0 (A : Nat → List Int32) (I : Nat → Nat → Int32) : gR (enc A I) 15 5 0 = some 16 := rfl
theorem gr_15_1 (A : Nat → List Int32) (I : Nat → Nat → Int32) : gR (enc A I) 15 5 1 = some 17 := rfl
theorem gi_15_2 (A : Nat → List Int32) (I : Nat → Nat → Int32) : gI (enc A I) 15 5 2 = some (I 15 2) := rfl
theorem pf_15_2 (A : Nat → List Int32) (I : Nat → Nat → Int32) (x : Int32) : pF (enc A I) 15 5 2 (.int x) = some (enc A (uI I 15 2 x)) := rfl
theorem gi_15_3 (A : Nat → List Int32) (I : Nat → Nat → Int32) : gI (enc A I) 15 5 3 = some (I 15 3) := rfl
theorem pf_15_3 (A : Nat → List Int32) (I : Nat → Nat → Int32) (x : Int32) : pF (enc A I) 15 5 3 (.int x) = some (enc A (uI I 15 3 x)) := rfl
theorem gi_15_4 (A : Nat → List Int32) (I : Nat → Nat → Int32) : gI (enc A I) 15 5 4 = some (I 15 4) := rfl
theorem pf_15_4 (A : Nat → List Int32) (I : Nat → Nat → Int32) (x : Int32) : pF (enc A I) 15 5 4 (.int x) = some (enc A (uI I 15 4 x)) := rfl
theorem gi_15_5 (A : Nat → List Int32) (I : Nat → Nat → Int32) : gI (enc A I) 15 5 5 = some (I 15 5) := rfl
theorem pf_15_5 (A : Nat → List Int32) (I : Nat → Nat → Int32) (x : Int32) : pF (enc A I) 15 5 5 (.int x) = some (enc A (uI I 15 5 x)) := rfl
theorem io_18 (A : Nat → List Int32) (I : Nat → Nat → Int32) : isO (enc A I) 18 1 = true := rfl
theorem gr_18_0 (A : Nat → List Int32) (I : Nat → Nat → Int32) : gR (enc A I) 18 1 0 = some 19 := rfl
theorem gr_18_1 (A : Nat → List Int32) (I : Nat → Nat → Int32) : gR (enc A I) 18 1 1 = some 20 := rfl
theorem gi_18_2 (A : Nat → List Int32) (I : Nat → Nat → Int32) : gI (enc A I) 18 1 2 = some (I 18 2) := rfl
theorem pf_18_2 (A : Nat → List Int32) (I : Nat → Nat → Int32) (x : Int32) : pF (enc A I) 18 1 2 (.int x) = some (enc A (uI I 18 2 x)) := rfl
theorem io_21 (A : Nat → List Int32) (I : Nat → Nat → Int32) : isO (enc A I) 21 3 = true := rfl
theorem gr_21_0 (A : Nat → List Int32) (I : Nat → Nat → Int32) : gR (enc A I) 21 3 0 = some 22 := rfl
theorem gr_21_1 (A : Nat → List Int32) (I : Nat → Nat → Int32) : gR (enc A I) 21 3 1 = some 23 := rfl
theorem gr_21_2 (A : Nat → List Int32) (I : Nat → Nat → Int32) : gR (enc A I) 21 3 2 = some 24 := rfl
theorem gr_21_3 (A : Nat → List Int32) (I : Nat → Nat → Int32) : gR (enc A I) 21 3 3 = some 25 := rfl
theorem gi_21_4 (A : Nat → List Int32) (I : Nat → Nat → Int32) : gI (enc A I) 21 3 4 = some (I 21 4) := rfl
theorem pf_21_4 (A : Nat → List Int32) (I : Nat → Nat → Int32) (x : Int32) : pF (enc A I) 21 3 4 (.int x) = some (enc A (uI I 21 4 x)) := rfl
theorem gi_21_5 (A : Nat → List Int32) (I : Nat → Nat → Int32) : gI (enc A I) 21 3 5 = some (I 21 5) := rfl
theorem pf_21_5 (A : Nat → List Int32) (I : Nat → Nat → Int32) (x : Int32) : pF (enc A I) 21 3 5 (.int x) = some (enc A (uI I 21 5 x)) := rfl
theorem gi_21_6 (A : Nat → List Int32) (I : Nat → Nat → Int32) : gI (enc A I) 21 3 6 = some (I 21 6) := rfl
theorem pf_21_6 (A : Nat → List Int32) (I : Nat → Nat → Int32) (x : Int32) : pF (enc A I) 21 3 6 (.int x) = some (enc A (uI I 21 6 x)) := rfl
theorem gi_21_7 (A : Nat → List Int32) (I : Nat → Nat → Int32) : gI (enc A I) 21 3 7 = some (I 21 7) := rfl
theorem pf_21_7 (A : Nat → List Int32) (I : Nat → Nat → Int32) (x : Int32) : pF (enc A I) 21 3 7 (.int x) = some (enc A (uI I 21 7 x)) := rfl
theorem io_34 (A : Nat → List Int32) (I : Nat → Nat → Int32) : isO (enc A I) 34 2 = true := rfl
theorem gr_34_0 (A : Nat → List Int32) (I : Nat → Nat → Int32) : gR (enc A I) 34 2 0 = some 35 := rfl
theorem gi_34_1 (A : Nat → List Int32) (I : Nat → Nat → Int32) : gI (enc A I) 34 2 1 = some (I 34 1) := rfl
theorem pf_34_1 (A : Nat → List Int32) (I : Nat → Nat → Int32) (x : Int32) : pF (enc A I) 34 2 1 (.int x) = some (enc A (uI I 34 1 x)) := rfl
theorem ai_3 (A : Nat → List Int32) (I : Nat → Nat → Int32) {j : Nat} (hj : j < (A 3).length) (h : j < 2147483648) : aI (enc A I) 3 (nI j) = some (rd (A 3) j) := aI_enc rfl hj h
theorem si_3 (A : Nat → List Int32) (I : Nat → Nat → Int32) {j : Nat} (x : Int32) (hj : j < (A 3).length) (h : j < 2147483648) : sI (enc A I) 3 (nI j) x = some (enc (uA A 3 ((A 3).set j x)) I) := (sI_enc rfl (by decide) hj h).trans (congrArg some rfl)
theorem al_3 (A : Nat → List Int32) (I : Nat → Nat → Int32) : aL (enc A I) 3 = some (Int32.ofNat (A 3).length) := rfl
theorem ai_4 (A : Nat → List Int32) (I : Nat → Nat → Int32) {j : Nat} (hj : j < (A 4).length) (h : j < 2147483648) : aI (enc A I) 4 (nI j) = some (rd (A 4) j) := aI_enc rfl hj h
theorem si_4 (A : Nat → List Int32) (I : Nat → Nat → Int32) {j : Nat} (x : Int32) (hj : j < (A 4).length) (h : j < 2147483648) : sI (enc A I) 4 (nI j) x = some (enc (uA A 4 ((A 4).set j x)) I) := (sI_enc rfl (by decide) hj h).trans (congrArg some rfl)
theorem al_4 (A : Nat → List Int32) (I : Nat → Nat → Int32) : aL (enc A I) 4 = some (Int32.ofNat (A 4).length) := rfl
theorem ai_5 (A : Nat → List Int32) (I : Nat → Nat → Int32) {j : Nat} (hj : j < (A 5).length) (h : j < 2147483648) : aI (enc A I) 5 (nI j) = some (rd (A 5) j) := aI_enc rfl hj h
theorem si_5 (A : Nat → List Int32) (I : Nat → Nat → Int32) {j : Nat} (x : Int32) (hj : j < (A 5).length) (h : j < 2147483648) : sI (enc A I) 5 (nI j) x = some (enc (uA A 5 ((A 5).set j x)) I) := (sI_enc rfl (by decide) hj h).trans (congrArg some rfl)
theorem al_5 (A : Nat → List Int32) (I : Nat → Nat → Int32) : aL (enc A I) 5 = some (Int32.ofNat (A 5).length) := rfl
theorem ai_6 (A : Nat → List Int32) (I : Nat → Nat → Int32) {j : Nat} (hj : j < (A 6).length) (h : j < 2147483648) : aI (enc A I) 6 (nI j) = some (rd (A 6) j) := aI_enc rfl hj h
theorem si_6 (A : Nat → List Int32) (I : Nat → Nat → Int32) {j : Nat} (x : Int32) (hj : j < (A 6).length) (h : j < 2147483648) : sI (enc A I) 6 (nI j) x = some (enc (uA A 6 ((A 6).set j x)) I) := (sI_enc rfl (by decide) hj h).trans (congrArg some rfl)
theorem al_6 (A : Nat → List Int32) (I : Nat → Nat → Int32) : aL (enc A I) 6 = some (Int32.ofNat (A 6).length) := rfl
theorem ai_7 (A : Nat → List Int32) (I : Nat → Nat → Int32) {j : Nat} (hj : j < (A 7).length) (h : j < 2147483648) : aI (enc A I) 7 (nI j) = some (rd (A 7) j) := aI_enc rfl hj h
theorem si_7 (A : Nat → List Int32) (I : Nat → Nat → Int32) {j : Nat} (x : Int32) (hj : j < (A 7).length) (h : j < 2147483648) : sI (enc A I) 7 (nI j) x = some (enc (uA A 7 ((A 7).set j x)) I) := (sI_enc rfl (by decide) hj h).trans (congrArg some rfl)
theorem al_7 (A : Nat → List Int32) (I : Nat → Nat → Int32) : aL (enc A I) 7 = some (Int32.ofNat (A 7).length) := rfl
theorem ai_8 (A : Nat → List Int32) (I : Nat → Nat → Int32) {j : Nat} (hj : j < (A 8).length) (h : j < 2147483648) : aI (enc A I) 8 (nI j) = some (rd (A 8) j) := aI_enc rfl hj h
theorem si_8 (A : Nat → List Int32) (I : Nat → Nat → Int32) {j : Nat} (x : Int32) (hj : j < (A 8).length) (h : j < 2147483648) : sI (enc A I) 8 (nI j) x = some (enc (uA A 8 ((A 8).set j x)) I) := (sI_enc rfl (by decide) hj h).trans (congrArg some rfl)
theorem al_8 (A : Nat → List Int32) (I : Nat → Nat → Int32) : aL (enc A I) 8 = some (Int32.ofNat (A 8).length) := rfl
theorem ai_9 (A : Nat → List Int32) (I : Nat → Nat → Int32) {j : Nat} (hj : j < (A 9).length) (h : j < 2147483648) : aI (enc A I) 9 (nI j) = some (rd (A 9) j) := aI_enc rfl hj h
theorem si_9 (A : Nat → List Int32) (I : Nat → Nat → Int32) {j : Nat} (x : Int32) (hj : j < (A 9).length) (h : j < 2147483648) : sI (enc A I) 9 (nI j) x = some (enc (uA A 9 ((A 9).set j x)) I) := (sI_enc rfl (by decide) hj h).trans (congrArg some rfl)
theorem al_9 (A : Nat → List Int32) (I : Nat → Nat → Int32) : aL (enc A I) 9 = some (Int32.ofNat (A 9).length) := rfl
theorem ai_10 (A : Nat → List Int32) (I : Nat → Nat → Int32) {j : Nat} (hj : j < (A 10).length) (h : j < 2147483648) : aI (enc A I) 10 (nI j) = some (rd (A 10) j) := aI_enc rfl hj h
theorem si_10 (A : Nat → List Int32) (I : Nat → Nat → Int32) {j : Nat} (x : Int32) (hj : j < (A 10).length) (h : j < 2147483648) : sI (enc A I) 10 (nI j) x = some (enc (uA A 10 ((A 10).set j x)) I) := (sI_enc rfl (by decide) hj h).trans (congrArg some rfl)
theorem al_10 (A : Nat → List Int32) (I : Nat → Nat → Int32) : aL (enc A I) 10 = some (Int32.ofNat (A 10).length) := rfl
theorem ai_12 (A : Nat → List Int32) (I : Nat → Nat → Int32) {j : Nat} (hj : j < (A 12).length) (h : j < 2147483648) : aI (enc A I) 12 (nI j) = some (rd (A 12) j) := aI_enc rfl hj h
theorem si_12 (A : Nat → List Int32) (I : Nat → Nat → Int32) {j : Nat} (x : Int32) (hj : j < (A 12).length) (h : j < 2147483648) : sI (enc A I) 12 (nI j) x = some (enc (uA A 12 ((A 12).set j x)) I) := (sI_enc rfl (by decide) hj h).trans (congrArg some rfl)
theorem al_12 (A : Nat → List Int32) (I : Nat → Nat → Int32) : aL (enc A I) 12 = some (Int32.ofNat (A 12).length) := rfl
theorem ai_13 (A : Nat → List Int32) (I : Nat → Nat → Int32) {j : Nat} (hj : j < (A 13).length) (h : j < 2147483648) : aI (enc A I) 13 (nI j) = some (rd (A 13) j) := aI_enc rfl hj h
theorem si_13 (A : Nat → List Int32) (I : Nat → Nat → Int32) {j : Nat} (x : Int32) (hj : j < (A 13).length) (h : j < 2147483648) : sI (enc A I) 13 (nI j) x = some (enc (uA A 13 ((A 13).set j x)) I) := (sI_enc rfl (by decide) hj h).trans (congrArg some rfl)
theorem al_13 (A : Nat → List Int32) (I : Nat → Nat → Int32) : aL (enc A I) 13 = some (Int32.ofNat (A 13).length) := rfl
theorem ai_14 (A : Nat → List Int32) (I : Nat → Nat → Int32) {j : Nat} (hj : j < (A 14).length) (h : j < 2147483648) : aI (enc A I) 14 (nI j) = some (rd (A 14) j) := aI_enc rfl hj h
theorem si_14 (A : Nat → List Int32) (I : Nat → Nat → Int32) {j : Nat} (x : Int32) (hj : j < (A 14).length) (h : j < 2147483648) : sI (enc A I) 14 (nI j) x = some (enc (uA A 14 ((A 14).set j x)) I) := (sI_enc rfl (by decide) hj h).trans (congrArg some rfl)
theorem al_14 (A : Nat → List Int32) (I : Nat → Nat → Int32) : aL (enc A I) 14 = some (Int32.ofNat (A 14).length) := rfl
theorem ai_16 (A : Nat → List Int32) (I : Nat → Nat → Int32) {j : Nat} (hj : j < (A 16).length) (h : j < 2147483648) : aI (enc A I) 16 (nI j) = some (rd (A 16) j) := aI_enc rfl hj h
theorem si_16 (A : Nat → List Int32) (I : Nat → Nat → Int32) {j : Nat} (x : Int32) (hj : j < (A 16).length) (h : j < 2147483648) : sI (enc A I) 16 (nI j) x = some (enc (uA A 16 ((A 16).set j x)) I) := (sI_enc rfl (by decide) hj h).trans (congrArg some rfl)
theorem al_16 (A : Nat → List Int32) (I : Nat → Nat → Int32) : aL (enc A I) 16 = some (Int32.ofNat (A 16).length) := rfl
theorem ai_17 (A : Nat → List Int32) (I : Nat → Nat → Int32) {j : Nat} (hj : j < (A 17).length) (h : j < 2147483648) : aI (enc A I) 17 (nI j) = some (rd (A 17) j) := aI_enc rfl hj h
theorem si_17 (A : Nat → List Int32) (I : Nat → Nat → Int32) {j : Nat} (x : Int32) (hj : j < (A 17).length) (h : j < 2147483648) : sI (enc A I) 17 (nI j) x = some (enc (uA A 17 ((A 17).set j x)) I) := (sI_enc rfl (by decide) hj h).trans (congrArg some rfl)
theorem al_17 (A : Nat → List Int32) (I : Nat → Nat → Int32) : aL (enc A I) 17 = some (Int32.ofNat (A 17).length) := rfl
theorem ai_19 (A : Nat → List Int32) (I : Nat → Nat → Int32) {j : Nat} (hj : j < (A 19).length) (h : j < 2147483648) : aI (enc A I) 19 (nI j) = some (rd (A 19) j) := aI_enc rfl hj h
theorem si_19 (A : Nat → List Int32) (I : Nat → Nat → Int32) {j : Nat} (x : Int32) (hj : j < (A 19).length) (h : j < 2147483648) : sI (enc A I) 19 (nI j) x = some (enc (uA A 19 ((A 19).set j x)) I) := (sI_enc rfl (by decide) hj h).trans (congrArg some rfl)
theorem al_19 (A : Nat → List Int32) (I : Nat → Nat → Int32) : aL (enc A I) 19 = some (Int32.ofNat (A 19).length) := rfl
theorem ai_20 (A : Nat → List Int32) (I : Nat → Nat → Int32) {j : Nat} (hj : j < (A 20).length) (h : j < 2147483648) : aI (enc A I) 20 (nI j) = some (rd (A 20) j) := aI_enc rfl hj h
theorem si_20 (A : Nat → List Int32) (I : Nat → Nat → Int32) {j : Nat} (x : Int32) (hj : j < (A 20).length) (h : j < 2147483648) : sI (enc A I) 20 (nI j) x = some (enc (uA A 20 ((A 20).set j x)) I) := (sI_enc rfl (by decide) hj h).trans (congrArg some rfl)
theorem al_20 (A : Nat → List Int32) (I : Nat → Nat → Int32) : aL (enc A I) 20 = some (Int32.ofNat (A 20).length) := rfl
theorem ai_22 (A : Nat → List Int32) (I : Nat → Nat → Int32) {j : Nat} (hj : j < (A 22).length) (h : j < 2147483648) : aI (enc A I) 22 (nI j) = some (rd (A 22) j) := aI_enc rfl hj h
theorem si_22 (A : Nat → List Int32) (I : Nat → Nat → Int32) {j : Nat} (x : Int32) (hj : j < (A 22).length) (h : j < 2147483648) : sI (enc A I) 22 (nI j) x = some (enc (uA A 22 ((A 22).set j x)) I) := (sI_enc rfl (by decide) hj h).trans (congrArg some rfl)
theorem al_22 (A : Nat → List Int32) (I : Nat → Nat → Int32) : aL (enc A I) 22 = some (Int32.ofNat (A 22).length) := rfl
theorem ai_23 (A : Nat → List Int32) (I : Nat → Nat → Int32) {j : Nat} (hj : j < (A 23).length) (h : j < 2147483648) : aI (enc A I) 23 (nI j) = some (rd (A 23) j) := aI_enc rfl hj h
theorem si_23 (A : Nat → List Int32) (I : Nat → Nat → Int32) {j : Nat} (x : Int32) (hj : j < (A 23).length) (h : j < 2147483648) : sI (enc A I) 23 (nI j) x = some (enc (uA A 23 ((A 23).set j x)) I) := (sI_enc rfl (by decide) hj h).trans (congrArg some rfl)
theorem al_23 (A : Nat → List Int32) (I : Nat → Nat → Int32) : aL (enc A I) 23 = some (Int32.ofNat (A 23).length) := rfl
theorem ai_24 (A : Nat → List Int32) (I : Nat → Nat → Int32) {j : Nat} (hj : j < (A 24).length) (h : j < 2147483648) : aI (enc A I) 24 (nI j) = some (rd (A 24) j) := aI_enc rfl hj h
theorem si_24 (A : Nat → List Int32) (I : Nat → Nat → Int32) {j : Nat} (x : Int32) (hj : j < (A 24).length) (h : j < 2147483648) : sI (enc A I) 24 (nI j) x = some (enc (uA A 24 ((A 24).set j x)) I) := (sI_enc rfl (by decide) hj h).trans (congrArg some rfl)
theorem al_24 (A : Nat → List Int32) (I : Nat → Nat → Int32) : aL (enc A I) 24 = some (Int32.ofNat (A 24).length) := rfl
theorem ai_26 (A : Nat → List Int32) (I : Nat → Nat → Int32) {j : Nat} (hj : j < (A 26).length) (h : j < 2147483648) : aI (enc A I) 26 (nI j) = some (rd (A 26) j) := aI_enc rfl hj h
theorem si_26 (A : Nat → List Int32) (I : Nat → Nat → Int32) {j : Nat} (x : Int32) (hj : j < (A 26).length) (h : j < 2147483648) : sI (enc A I) 26 (nI j) x = some (enc (uA A 26 ((A 26).set j x)) I) := (sI_enc rfl (by decide) hj h).trans (congrArg some rfl)
theorem al_26 (A : Nat → List Int32) (I : Nat → Nat → Int32) : aL (enc A I) 26 = some (Int32.ofNat (A 26).length) := rfl
theorem ai_27 (A : Nat → List Int32) (I : Nat → Nat → Int32) {j : Nat} (hj : j < (A 27).length) (h : j < 2147483648) : aI (enc A I) 27 (nI j) = some (rd (A 27) j) := aI_enc rfl hj h
theorem si_27 (A : Nat → List Int32) (I : Nat → Nat → Int32) {j : Nat} (x : Int32) (hj : j < (A 27).length) (h : j < 2147483648) : sI (enc A I) 27 (nI j) x = some (enc (uA A 27 ((A 27).set j x)) I) := (sI_enc rfl (by decide) hj h).trans (congrArg some rfl)
theorem al_27 (A : Nat → List Int32) (I : Nat → Nat → Int32) : aL (enc A I) 27 = some (Int32.ofNat (A 27).length) := rfl
theorem ai_28 (A : Nat → List Int32) (I : Nat → Nat → Int32) {j : Nat} (hj : j < (A 28).length) (h : j < 2147483648) : aI (enc A I) 28 (nI j) = some (rd (A 28) j) := aI_enc rfl hj h
theorem si_28 (A : Nat → List Int32) (I : Nat → Nat → Int32) {j : Nat} (x : Int32) (hj : j < (A 28).length) (h : j < 2147483648) : sI (enc A I) 28 (nI j) x = some (enc (uA A 28 ((A 28).set j x)) I) := (sI_enc rfl (by decide) hj h).trans (congrArg some rfl)
theorem al_28 (A : Nat → List Int32) (I : Nat → Nat → Int32) : aL (enc A I) 28 = some (Int32.ofNat (A 28).length) := rfl
theorem ai_29 (A : Nat → List Int32) (I : Nat → Nat → Int32) {j : Nat} (hj : j < (A 29).length) (h : j < 2147483648) : aI (enc A I) 29 (nI j) = some (rd (A 29) j) := aI_enc rfl hj h
theorem si_29 (A : Nat → List Int32) (I : Nat → Nat → Int32) {j : Nat} (x : Int32) (hj : j < (A 29).length) (h : j < 2147483648) : sI (enc A I) 29 (nI j) x = some (enc (uA A 29 ((A 29).set j x)) I) := (sI_enc rfl (by decide) hj h).trans (congrArg some rfl)
theorem al_29 (A : Nat → List Int32) (I : Nat → Nat → Int32) : aL (enc A I) 29 = some (Int32.ofNat (A 29).length) := rfl
theorem ai_30 (A : Nat → List Int32) (I : Nat → Nat → Int32) {j : Nat} (hj : j < (A 30).length) (h : j < 2147483648) : aI (enc A I) 30 (nI j) = some (rd (A 30) j) := aI_enc rfl hj h
theorem si_30 (A : Nat → List Int32) (I : Nat → Nat → Int32) {j : Nat} (x : Int32) (hj : j < (A 30).length) (h : j < 2147483648) : sI (enc A I) 30 (nI j) x = some (enc (uA A 30 ((A 30).set j x)) I) := (sI_enc rfl (by decide) hj h).trans (congrArg some rfl)
theorem al_30 (A : Nat → List Int32) (I : Nat → Nat → Int32) : aL (enc A I) 30 = some (Int32.ofNat (A 30).length) := rfl
theorem ai_31 (A : Nat → List Int32) (I : Nat → Nat → Int32) {j : Nat} (hj : j < (A 31).length) (h : j < 2147483648) : aI (enc A I) 31 (nI j) = some (rd (A 31) j) := aI_enc rfl hj h
theorem si_31 (A : Nat → List Int32) (I : Nat → Nat → Int32) {j : Nat} (x : Int32) (hj : j < (A 31).length) (h : j < 2147483648) : sI (enc A I) 31 (nI j) x = some (enc (uA A 31 ((A 31).set j x)) I) := (sI_enc rfl (by decide) hj h).trans (congrArg some rfl)
theorem al_31 (A : Nat → List Int32) (I : Nat → Nat → Int32) : aL (enc A I) 31 = some (Int32.ofNat (A 31).length) := rfl
theorem ai_32 (A : Nat → List Int32) (I : Nat → Nat → Int32) {j : Nat} (hj : j < (A 32).length) (h : j < 2147483648) : aI (enc A I) 32 (nI j) = some (rd (A 32) j) := aI_enc rfl hj h
theorem si_32 (A : Nat → List Int32) (I : Nat → Nat → Int32) {j : Nat} (x : Int32) (hj : j < (A 32).length) (h : j < 2147483648) : sI (enc A I) 32 (nI j) x = some (enc (uA A 32 ((A 32).set j x)) I) := (sI_enc rfl (by decide) hj h).trans (congrArg some rfl)
theorem al_32 (A : Nat → List Int32) (I : Nat → Nat → Int32) : aL (enc A I) 32 = some (Int32.ofNat (A 32).length) := rfl
theorem ai_33 (A : Nat → List Int32) (I : Nat → Nat → Int32) {j : Nat} (hj : j < (A 33).length) (h : j < 2147483648) : aI (enc A I) 33 (nI j) = some (rd (A 33) j) := aI_enc rfl hj h
theorem si_33 (A : Nat → List Int32) (I : Nat → Nat → Int32) {j : Nat} (x : Int32) (hj : j < (A 33).length) (h : j < 2147483648) : sI (enc A I) 33 (nI j) x = some (enc (uA A 33 ((A 33).set j x)) I) := (sI_enc rfl (by decide) hj h).trans (congrArg some rfl)
theorem al_33 (A : Nat → List Int32) (I : Nat → Nat → Int32) : aL (enc A I) 33 = some (Int32.ofNat (A 33).length) := rfl
theorem ai_35 (A : Nat → List Int32) (I : Nat → Nat → Int32) {j : Nat} (hj : j < (A 35).length) (h : j < 2147483648) : aI (enc A I) 35 (nI j) = some (rd (A 35) j) := aI_enc rfl hj h
theorem si_35 (A : Nat → List Int32) (I : Nat → Nat → Int32) {j : Nat} (x : Int32) (hj : j < (A 35).length) (h : j < 2147483648) : sI (enc A I) 35 (nI j) x = some (enc (uA A 35 ((A 35).set j x)) I) := (sI_enc rfl (by decide) hj h).trans (congrArg some rfl)
theorem al_35 (A : Nat → List Int32) (I : Nat → Nat → Int32) : aL (enc A I) 35 = some (Int32.ofNat (A 35).length) := rfl
