section ST
theorem fill_gen {fu : Nat} {w : XW} {o m : Nat} (hf : 1000 ≤ fu) (hw : w[o]? = some (.inr (0, List.replicate m 0))) (ho : o ≠ 0) (hm : m ≤ 7) (v : Int32) : U_J7_fill_53178 fu [.ref o, .int v] w = some (none, w.set o (.inr (0, List.replicate m v))) := by
  have hlt : o < w.length := (List.getElem?_eq_some_iff.mp hw).1
  have loop : ∀ d c n ys, c + d = m → d < n → ys.length = m → (∀ i, i < c → rd ys i = v) → F_J7_fill_53178 fu n o v (nI c) (nI m) (w.set o (.inr (0, ys))) = some (none, w.set o (.inr (0, List.replicate m v))) := by
    intro d
    induction d with
    | zero =>
      intro c n ys hc hn hl h
      obtain ⟨n, rfl⟩ : ∃ j, n = j + 1 := ⟨n - 1, by omega⟩
      have e : ys = List.replicate m v := by
        apply List.ext_getElem (by rw [hl, List.length_replicate])
        intro i h1 h2
        have := h i (by omega)
        unfold rd at this
        rw [List.getD_eq_getElem?_getD, List.getElem?_eq_getElem h1] at this
        rw [List.getElem_replicate]
        exact this
      simp only [F_J7_fill_53178, n_lt (show c < 2147483648 by omega) (show m < 2147483648 by omega)]
      rw [if_neg (by omega), e]
    | succ d ih =>
      intro c n ys hc hn hl h
      obtain ⟨n, rfl⟩ : ∃ j, n = j + 1 := ⟨n - 1, by omega⟩
      have hlc : c < ys.length := by omega
      have hs := sI_enc (w := w.set o (.inr (0, ys))) (k := o) (xs := ys) (x := v) (List.getElem?_set_self hlt) ho hlc (show c < 2147483648 by omega)
      rw [List.set_set] at hs
      simp only [F_J7_fill_53178, n_lt (show c < 2147483648 by omega) (show m < 2147483648 by omega), nI_1]
      rw [if_pos (by omega), hs]
      exact ih (c + 1) n (ys.set c v) (by omega) (by omega) (by rw [List.length_set]; exact hl) (fun i hi => by
        rw [rd_set _ _ hlc]
        by_cases y : i = c
        · rw [if_pos y]
        · rw [if_neg y]; exact h i (by omega))
  have e0 : w.set o (.inr (0, List.replicate m 0)) = w := by
    apply List.ext_getElem?
    intro i
    by_cases y : i = o
    · rw [y, List.getElem?_set_self hlt, hw]
    · rw [List.getElem?_set_ne (fun q => y q.symm)]
  have hal : aL w o = some (nI m) := by
    unfold aL
    rw [hw]
    dsimp only
    rw [if_pos (Or.inl rfl), List.length_replicate]
    rfl
  have l := loop m 0 fu (List.replicate m 0) (by omega) (by omega) List.length_replicate (fun i hi => by omega)
  rw [e0] at l
  simp only [u_J7_fill_53178, M_J7_fill_53178, hal, Option.bind_some]
  exact l
theorem al4 {α : Type} {L : Nat} (h : 0 < L) (a b : α) : (if 0 ≤ (4 : Int32) ∧ (4 : Int32) ≤ 1000 ∧ 0 < L then a else b) = a := if_pos ⟨by decide, by decide, h⟩
theorem tn4 : Int32.toNatClampNeg (4 : Int32) = 4 := by decide
theorem al6 {α : Type} {L : Nat} (h : 0 < L) (a b : α) : (if 0 ≤ (6 : Int32) ∧ (6 : Int32) ≤ 1000 ∧ 0 < L then a else b) = a := if_pos ⟨by decide, by decide, h⟩
theorem tn6 : Int32.toNatClampNeg (6 : Int32) = 6 := by decide
theorem al7 {α : Type} {L : Nat} (h : 0 < L) (a b : α) : (if 0 ≤ (7 : Int32) ∧ (7 : Int32) ≤ 1000 ∧ 0 < L then a else b) = a := if_pos ⟨by decide, by decide, h⟩
theorem tn7 : Int32.toNatClampNeg (7 : Int32) = 7 := by decide
theorem al8 {α : Type} {L : Nat} (h : 0 < L) (a b : α) : (if 0 ≤ (8 : Int32) ∧ (8 : Int32) ≤ 1000 ∧ 0 < L then a else b) = a := if_pos ⟨by decide, by decide, h⟩
theorem tn8 : Int32.toNatClampNeg (8 : Int32) = 8 := by decide
theorem al9 {α : Type} {L : Nat} (h : 0 < L) (a b : α) : (if 0 ≤ (9 : Int32) ∧ (9 : Int32) ≤ 1000 ∧ 0 < L then a else b) = a := if_pos ⟨by decide, by decide, h⟩
theorem tn9 : Int32.toNatClampNeg (9 : Int32) = 9 := by decide
theorem al128 {α : Type} {L : Nat} (h : 0 < L) (a b : α) : (if 0 ≤ (128 : Int32) ∧ (128 : Int32) ≤ 1000 ∧ 0 < L then a else b) = a := if_pos ⟨by decide, by decide, h⟩
theorem tn128 : Int32.toNatClampNeg (128 : Int32) = 128 := by decide
theorem al240 {α : Type} {L : Nat} (h : 0 < L) (a b : α) : (if 0 ≤ (240 : Int32) ∧ (240 : Int32) ≤ 1000 ∧ 0 < L then a else b) = a := if_pos ⟨by decide, by decide, h⟩
theorem tn240 : Int32.toNatClampNeg (240 : Int32) = 240 := by decide
theorem alO {α : Type} {L : Nat} (h : 0 < L) (a b : α) : (if 0 < L then a else b) = a := if_pos h
def vS_0 (xs : List Int32) : XW := [.inr (2, xs)]
theorem vL_0 (xs : List Int32) : (vS_0 xs).length = 1 := rfl
def vS_1 (xs : List Int32) : XW := [.inr (2, xs), .inl (6, [.null, .null, .null, .null, .null, .null, .int 0, .int 0])]
theorem vL_1 (xs : List Int32) : (vS_1 xs).length = 2 := rfl
def vS_2 (xs : List Int32) : XW := [.inr (2, xs), .inl (6, [.null, .null, .null, .null, .null, .null, .int 0, .int 0]), .inl (0, [.null, .null, .null, .null, .null, .null, .null, .null, .int 0, .int 0, .int 0, .int 0, .int 0, .int 0, .int 0])]
theorem vL_2 (xs : List Int32) : (vS_2 xs).length = 3 := rfl
def vS_3 (xs : List Int32) : XW := [.inr (2, xs), .inl (6, [.null, .null, .null, .null, .null, .null, .int 0, .int 0]), .inl (0, [.ref 3, .null, .null, .null, .null, .null, .null, .null, .int 0, .int 0, .int 0, .int 0, .int 0, .int 0, .int 0]), .inr (0, List.replicate 7 0)]
theorem vL_3 (xs : List Int32) : (vS_3 xs).length = 4 := rfl
def vS_4 (xs : List Int32) : XW := [.inr (2, xs), .inl (6, [.null, .null, .null, .null, .null, .null, .int 0, .int 0]), .inl (0, [.ref 3, .ref 4, .null, .null, .null, .null, .null, .null, .int 0, .int 0, .int 0, .int 0, .int 0, .int 0, .int 0]), .inr (0, List.replicate 7 0), .inr (0, List.replicate 7 0)]
theorem vL_4 (xs : List Int32) : (vS_4 xs).length = 5 := rfl
def vS_5 (xs : List Int32) : XW := [.inr (2, xs), .inl (6, [.null, .null, .null, .null, .null, .null, .int 0, .int 0]), .inl (0, [.ref 3, .ref 4, .ref 5, .null, .null, .null, .null, .null, .int 0, .int 0, .int 0, .int 0, .int 0, .int 0, .int 0]), .inr (0, List.replicate 7 0), .inr (0, List.replicate 7 0), .inr (0, List.replicate 7 0)]
theorem vL_5 (xs : List Int32) : (vS_5 xs).length = 6 := rfl
def vS_6 (xs : List Int32) : XW := [.inr (2, xs), .inl (6, [.null, .null, .null, .null, .null, .null, .int 0, .int 0]), .inl (0, [.ref 3, .ref 4, .ref 5, .ref 6, .null, .null, .null, .null, .int 0, .int 0, .int 0, .int 0, .int 0, .int 0, .int 0]), .inr (0, List.replicate 7 0), .inr (0, List.replicate 7 0), .inr (0, List.replicate 7 0), .inr (0, List.replicate 6 0)]
theorem vL_6 (xs : List Int32) : (vS_6 xs).length = 7 := rfl
def vS_7 (xs : List Int32) : XW := [.inr (2, xs), .inl (6, [.null, .null, .null, .null, .null, .null, .int 0, .int 0]), .inl (0, [.ref 3, .ref 4, .ref 5, .ref 6, .ref 7, .null, .null, .null, .int 0, .int 0, .int 0, .int 0, .int 0, .int 0, .int 0]), .inr (0, List.replicate 7 0), .inr (0, List.replicate 7 0), .inr (0, List.replicate 7 0), .inr (0, List.replicate 6 0), .inr (0, List.replicate 6 0)]
theorem vL_7 (xs : List Int32) : (vS_7 xs).length = 8 := rfl
def vS_8 (xs : List Int32) : XW := [.inr (2, xs), .inl (6, [.null, .null, .null, .null, .null, .null, .int 0, .int 0]), .inl (0, [.ref 3, .ref 4, .ref 5, .ref 6, .ref 7, .ref 8, .null, .null, .int 0, .int 0, .int 0, .int 0, .int 0, .int 0, .int 0]), .inr (0, List.replicate 7 0), .inr (0, List.replicate 7 0), .inr (0, List.replicate 7 0), .inr (0, List.replicate 6 0), .inr (0, List.replicate 6 0), .inr (0, List.replicate 6 0)]
theorem vL_8 (xs : List Int32) : (vS_8 xs).length = 9 := rfl
def vS_9 (xs : List Int32) : XW := [.inr (2, xs), .inl (6, [.null, .null, .null, .null, .null, .null, .int 0, .int 0]), .inl (0, [.ref 3, .ref 4, .ref 5, .ref 6, .ref 7, .ref 8, .ref 9, .null, .int 0, .int 0, .int 0, .int 0, .int 0, .int 0, .int 0]), .inr (0, List.replicate 7 0), .inr (0, List.replicate 7 0), .inr (0, List.replicate 7 0), .inr (0, List.replicate 6 0), .inr (0, List.replicate 6 0), .inr (0, List.replicate 6 0), .inr (0, List.replicate 6 0)]
theorem vL_9 (xs : List Int32) : (vS_9 xs).length = 10 := rfl
def vS_10 (xs : List Int32) : XW := [.inr (2, xs), .inl (6, [.null, .null, .null, .null, .null, .null, .int 0, .int 0]), .inl (0, [.ref 3, .ref 4, .ref 5, .ref 6, .ref 7, .ref 8, .ref 9, .ref 10, .int 0, .int 0, .int 0, .int 0, .int 0, .int 0, .int 0]), .inr (0, List.replicate 7 0), .inr (0, List.replicate 7 0), .inr (0, List.replicate 7 0), .inr (0, List.replicate 6 0), .inr (0, List.replicate 6 0), .inr (0, List.replicate 6 0), .inr (0, List.replicate 6 0), .inr (0, List.replicate 6 0)]
theorem vL_10 (xs : List Int32) : (vS_10 xs).length = 11 := rfl
def vS_11 (xs : List Int32) : XW := [.inr (2, xs), .inl (6, [.null, .null, .null, .null, .null, .null, .int 0, .int 0]), .inl (0, [.ref 3, .ref 4, .ref 5, .ref 6, .ref 7, .ref 8, .ref 9, .ref 10, .int 0, .int 0, .int 0, .int 0, .int 0, .int 0, .int 0]), .inr (0, List.replicate 7 0), .inr (0, List.replicate 7 0), .inr (0, List.replicate 7 (-9)), .inr (0, List.replicate 6 0), .inr (0, List.replicate 6 0), .inr (0, List.replicate 6 0), .inr (0, List.replicate 6 0), .inr (0, List.replicate 6 0)]
theorem vL_11 (xs : List Int32) : (vS_11 xs).length = 11 := rfl
def vS_12 (xs : List Int32) : XW := [.inr (2, xs), .inl (6, [.ref 2, .null, .null, .null, .null, .null, .int 0, .int 0]), .inl (0, [.ref 3, .ref 4, .ref 5, .ref 6, .ref 7, .ref 8, .ref 9, .ref 10, .int 0, .int 0, .int 0, .int 0, .int 0, .int 0, .int 0]), .inr (0, List.replicate 7 0), .inr (0, List.replicate 7 0), .inr (0, List.replicate 7 (-9)), .inr (0, List.replicate 6 0), .inr (0, List.replicate 6 0), .inr (0, List.replicate 6 0), .inr (0, List.replicate 6 0), .inr (0, List.replicate 6 0)]
theorem vL_12 (xs : List Int32) : (vS_12 xs).length = 11 := rfl
def vS_13 (xs : List Int32) : XW := [.inr (2, xs), .inl (6, [.ref 2, .null, .null, .null, .null, .null, .int 0, .int 0]), .inl (0, [.ref 3, .ref 4, .ref 5, .ref 6, .ref 7, .ref 8, .ref 9, .ref 10, .int 0, .int 0, .int 0, .int 0, .int 0, .int 0, .int 0]), .inr (0, List.replicate 7 0), .inr (0, List.replicate 7 0), .inr (0, List.replicate 7 (-9)), .inr (0, List.replicate 6 0), .inr (0, List.replicate 6 0), .inr (0, List.replicate 6 0), .inr (0, List.replicate 6 0), .inr (0, List.replicate 6 0), .inl (4, [.null, .null, .null])]
theorem vL_13 (xs : List Int32) : (vS_13 xs).length = 12 := rfl
def vS_14 (xs : List Int32) : XW := [.inr (2, xs), .inl (6, [.ref 2, .null, .null, .null, .null, .null, .int 0, .int 0]), .inl (0, [.ref 3, .ref 4, .ref 5, .ref 6, .ref 7, .ref 8, .ref 9, .ref 10, .int 0, .int 0, .int 0, .int 0, .int 0, .int 0, .int 0]), .inr (0, List.replicate 7 0), .inr (0, List.replicate 7 0), .inr (0, List.replicate 7 (-9)), .inr (0, List.replicate 6 0), .inr (0, List.replicate 6 0), .inr (0, List.replicate 6 0), .inr (0, List.replicate 6 0), .inr (0, List.replicate 6 0), .inl (4, [.ref 12, .null, .null]), .inr (0, List.replicate 4 0)]
theorem vL_14 (xs : List Int32) : (vS_14 xs).length = 13 := rfl
def vS_15 (xs : List Int32) : XW := [.inr (2, xs), .inl (6, [.ref 2, .null, .null, .null, .null, .null, .int 0, .int 0]), .inl (0, [.ref 3, .ref 4, .ref 5, .ref 6, .ref 7, .ref 8, .ref 9, .ref 10, .int 0, .int 0, .int 0, .int 0, .int 0, .int 0, .int 0]), .inr (0, List.replicate 7 0), .inr (0, List.replicate 7 0), .inr (0, List.replicate 7 (-9)), .inr (0, List.replicate 6 0), .inr (0, List.replicate 6 0), .inr (0, List.replicate 6 0), .inr (0, List.replicate 6 0), .inr (0, List.replicate 6 0), .inl (4, [.ref 12, .ref 13, .null]), .inr (0, List.replicate 4 0), .inr (0, List.replicate 4 0)]
theorem vL_15 (xs : List Int32) : (vS_15 xs).length = 14 := rfl
def vS_16 (xs : List Int32) : XW := [.inr (2, xs), .inl (6, [.ref 2, .null, .null, .null, .null, .null, .int 0, .int 0]), .inl (0, [.ref 3, .ref 4, .ref 5, .ref 6, .ref 7, .ref 8, .ref 9, .ref 10, .int 0, .int 0, .int 0, .int 0, .int 0, .int 0, .int 0]), .inr (0, List.replicate 7 0), .inr (0, List.replicate 7 0), .inr (0, List.replicate 7 (-9)), .inr (0, List.replicate 6 0), .inr (0, List.replicate 6 0), .inr (0, List.replicate 6 0), .inr (0, List.replicate 6 0), .inr (0, List.replicate 6 0), .inl (4, [.ref 12, .ref 13, .ref 14]), .inr (0, List.replicate 4 0), .inr (0, List.replicate 4 0), .inr (0, List.replicate 240 0)]
theorem vL_16 (xs : List Int32) : (vS_16 xs).length = 15 := rfl
def vS_17 (xs : List Int32) : XW := [.inr (2, xs), .inl (6, [.ref 2, .null, .null, .null, .null, .null, .int 0, .int 0]), .inl (0, [.ref 3, .ref 4, .ref 5, .ref 6, .ref 7, .ref 8, .ref 9, .ref 10, .int 0, .int 0, .int 0, .int 0, .int 0, .int 0, .int 0]), .inr (0, List.replicate 7 0), .inr (0, List.replicate 7 0), .inr (0, List.replicate 7 (-9)), .inr (0, List.replicate 6 0), .inr (0, List.replicate 6 0), .inr (0, List.replicate 6 0), .inr (0, List.replicate 6 0), .inr (0, List.replicate 6 0), .inl (4, [.ref 12, .ref 13, .ref 14]), .inr (0, List.replicate 4 0), .inr (0, List.replicate 4 (-1)), .inr (0, List.replicate 240 0)]
theorem vL_17 (xs : List Int32) : (vS_17 xs).length = 15 := rfl
def vS_18 (xs : List Int32) : XW := [.inr (2, xs), .inl (6, [.ref 2, .ref 11, .null, .null, .null, .null, .int 0, .int 0]), .inl (0, [.ref 3, .ref 4, .ref 5, .ref 6, .ref 7, .ref 8, .ref 9, .ref 10, .int 0, .int 0, .int 0, .int 0, .int 0, .int 0, .int 0]), .inr (0, List.replicate 7 0), .inr (0, List.replicate 7 0), .inr (0, List.replicate 7 (-9)), .inr (0, List.replicate 6 0), .inr (0, List.replicate 6 0), .inr (0, List.replicate 6 0), .inr (0, List.replicate 6 0), .inr (0, List.replicate 6 0), .inl (4, [.ref 12, .ref 13, .ref 14]), .inr (0, List.replicate 4 0), .inr (0, List.replicate 4 (-1)), .inr (0, List.replicate 240 0)]
theorem vL_18 (xs : List Int32) : (vS_18 xs).length = 15 := rfl
def vS_19 (xs : List Int32) : XW := [.inr (2, xs), .inl (6, [.ref 2, .ref 11, .null, .null, .null, .null, .int 0, .int 0]), .inl (0, [.ref 3, .ref 4, .ref 5, .ref 6, .ref 7, .ref 8, .ref 9, .ref 10, .int 0, .int 0, .int 0, .int 0, .int 0, .int 0, .int 0]), .inr (0, List.replicate 7 0), .inr (0, List.replicate 7 0), .inr (0, List.replicate 7 (-9)), .inr (0, List.replicate 6 0), .inr (0, List.replicate 6 0), .inr (0, List.replicate 6 0), .inr (0, List.replicate 6 0), .inr (0, List.replicate 6 0), .inl (4, [.ref 12, .ref 13, .ref 14]), .inr (0, List.replicate 4 0), .inr (0, List.replicate 4 (-1)), .inr (0, List.replicate 240 0), .inl (5, [.null, .null, .int 0, .int 0, .int 0, .int 0])]
theorem vL_19 (xs : List Int32) : (vS_19 xs).length = 16 := rfl
def vS_20 (xs : List Int32) : XW := [.inr (2, xs), .inl (6, [.ref 2, .ref 11, .null, .null, .null, .null, .int 0, .int 0]), .inl (0, [.ref 3, .ref 4, .ref 5, .ref 6, .ref 7, .ref 8, .ref 9, .ref 10, .int 0, .int 0, .int 0, .int 0, .int 0, .int 0, .int 0]), .inr (0, List.replicate 7 0), .inr (0, List.replicate 7 0), .inr (0, List.replicate 7 (-9)), .inr (0, List.replicate 6 0), .inr (0, List.replicate 6 0), .inr (0, List.replicate 6 0), .inr (0, List.replicate 6 0), .inr (0, List.replicate 6 0), .inl (4, [.ref 12, .ref 13, .ref 14]), .inr (0, List.replicate 4 0), .inr (0, List.replicate 4 (-1)), .inr (0, List.replicate 240 0), .inl (5, [.ref 16, .null, .int 0, .int 0, .int 0, .int 0]), .inr (0, List.replicate 8 0)]
theorem vL_20 (xs : List Int32) : (vS_20 xs).length = 17 := rfl
def vS_21 (xs : List Int32) : XW := [.inr (2, xs), .inl (6, [.ref 2, .ref 11, .null, .null, .null, .null, .int 0, .int 0]), .inl (0, [.ref 3, .ref 4, .ref 5, .ref 6, .ref 7, .ref 8, .ref 9, .ref 10, .int 0, .int 0, .int 0, .int 0, .int 0, .int 0, .int 0]), .inr (0, List.replicate 7 0), .inr (0, List.replicate 7 0), .inr (0, List.replicate 7 (-9)), .inr (0, List.replicate 6 0), .inr (0, List.replicate 6 0), .inr (0, List.replicate 6 0), .inr (0, List.replicate 6 0), .inr (0, List.replicate 6 0), .inl (4, [.ref 12, .ref 13, .ref 14]), .inr (0, List.replicate 4 0), .inr (0, List.replicate 4 (-1)), .inr (0, List.replicate 240 0), .inl (5, [.ref 16, .ref 17, .int 0, .int 0, .int 0, .int 0]), .inr (0, List.replicate 8 0), .inr (0, List.replicate 9 0)]
theorem vL_21 (xs : List Int32) : (vS_21 xs).length = 18 := rfl
def vS_22 (xs : List Int32) : XW := [.inr (2, xs), .inl (6, [.ref 2, .ref 11, .ref 15, .null, .null, .null, .int 0, .int 0]), .inl (0, [.ref 3, .ref 4, .ref 5, .ref 6, .ref 7, .ref 8, .ref 9, .ref 10, .int 0, .int 0, .int 0, .int 0, .int 0, .int 0, .int 0]), .inr (0, List.replicate 7 0), .inr (0, List.replicate 7 0), .inr (0, List.replicate 7 (-9)), .inr (0, List.replicate 6 0), .inr (0, List.replicate 6 0), .inr (0, List.replicate 6 0), .inr (0, List.replicate 6 0), .inr (0, List.replicate 6 0), .inl (4, [.ref 12, .ref 13, .ref 14]), .inr (0, List.replicate 4 0), .inr (0, List.replicate 4 (-1)), .inr (0, List.replicate 240 0), .inl (5, [.ref 16, .ref 17, .int 0, .int 0, .int 0, .int 0]), .inr (0, List.replicate 8 0), .inr (0, List.replicate 9 0)]
theorem vL_22 (xs : List Int32) : (vS_22 xs).length = 18 := rfl
def vS_23 (xs : List Int32) : XW := [.inr (2, xs), .inl (6, [.ref 2, .ref 11, .ref 15, .null, .null, .null, .int 0, .int 0]), .inl (0, [.ref 3, .ref 4, .ref 5, .ref 6, .ref 7, .ref 8, .ref 9, .ref 10, .int 0, .int 0, .int 0, .int 0, .int 0, .int 0, .int 0]), .inr (0, List.replicate 7 0), .inr (0, List.replicate 7 0), .inr (0, List.replicate 7 (-9)), .inr (0, List.replicate 6 0), .inr (0, List.replicate 6 0), .inr (0, List.replicate 6 0), .inr (0, List.replicate 6 0), .inr (0, List.replicate 6 0), .inl (4, [.ref 12, .ref 13, .ref 14]), .inr (0, List.replicate 4 0), .inr (0, List.replicate 4 (-1)), .inr (0, List.replicate 240 0), .inl (5, [.ref 16, .ref 17, .int 0, .int 0, .int 0, .int 0]), .inr (0, List.replicate 8 0), .inr (0, List.replicate 9 0), .inl (1, [.null, .null, .int 0])]
theorem vL_23 (xs : List Int32) : (vS_23 xs).length = 19 := rfl
def vS_24 (xs : List Int32) : XW := [.inr (2, xs), .inl (6, [.ref 2, .ref 11, .ref 15, .null, .null, .null, .int 0, .int 0]), .inl (0, [.ref 3, .ref 4, .ref 5, .ref 6, .ref 7, .ref 8, .ref 9, .ref 10, .int 0, .int 0, .int 0, .int 0, .int 0, .int 0, .int 0]), .inr (0, List.replicate 7 0), .inr (0, List.replicate 7 0), .inr (0, List.replicate 7 (-9)), .inr (0, List.replicate 6 0), .inr (0, List.replicate 6 0), .inr (0, List.replicate 6 0), .inr (0, List.replicate 6 0), .inr (0, List.replicate 6 0), .inl (4, [.ref 12, .ref 13, .ref 14]), .inr (0, List.replicate 4 0), .inr (0, List.replicate 4 (-1)), .inr (0, List.replicate 240 0), .inl (5, [.ref 16, .ref 17, .int 0, .int 0, .int 0, .int 0]), .inr (0, List.replicate 8 0), .inr (0, List.replicate 9 0), .inl (1, [.ref 19, .null, .int 0]), .inr (0, List.replicate 7 0)]
theorem vL_24 (xs : List Int32) : (vS_24 xs).length = 20 := rfl
def vS_25 (xs : List Int32) : XW := [.inr (2, xs), .inl (6, [.ref 2, .ref 11, .ref 15, .null, .null, .null, .int 0, .int 0]), .inl (0, [.ref 3, .ref 4, .ref 5, .ref 6, .ref 7, .ref 8, .ref 9, .ref 10, .int 0, .int 0, .int 0, .int 0, .int 0, .int 0, .int 0]), .inr (0, List.replicate 7 0), .inr (0, List.replicate 7 0), .inr (0, List.replicate 7 (-9)), .inr (0, List.replicate 6 0), .inr (0, List.replicate 6 0), .inr (0, List.replicate 6 0), .inr (0, List.replicate 6 0), .inr (0, List.replicate 6 0), .inl (4, [.ref 12, .ref 13, .ref 14]), .inr (0, List.replicate 4 0), .inr (0, List.replicate 4 (-1)), .inr (0, List.replicate 240 0), .inl (5, [.ref 16, .ref 17, .int 0, .int 0, .int 0, .int 0]), .inr (0, List.replicate 8 0), .inr (0, List.replicate 9 0), .inl (1, [.ref 19, .ref 20, .int 0]), .inr (0, List.replicate 7 0), .inr (0, List.replicate 7 0)]
theorem vL_25 (xs : List Int32) : (vS_25 xs).length = 21 := rfl
def vS_26 (xs : List Int32) : XW := [.inr (2, xs), .inl (6, [.ref 2, .ref 11, .ref 15, .ref 18, .null, .null, .int 0, .int 0]), .inl (0, [.ref 3, .ref 4, .ref 5, .ref 6, .ref 7, .ref 8, .ref 9, .ref 10, .int 0, .int 0, .int 0, .int 0, .int 0, .int 0, .int 0]), .inr (0, List.replicate 7 0), .inr (0, List.replicate 7 0), .inr (0, List.replicate 7 (-9)), .inr (0, List.replicate 6 0), .inr (0, List.replicate 6 0), .inr (0, List.replicate 6 0), .inr (0, List.replicate 6 0), .inr (0, List.replicate 6 0), .inl (4, [.ref 12, .ref 13, .ref 14]), .inr (0, List.replicate 4 0), .inr (0, List.replicate 4 (-1)), .inr (0, List.replicate 240 0), .inl (5, [.ref 16, .ref 17, .int 0, .int 0, .int 0, .int 0]), .inr (0, List.replicate 8 0), .inr (0, List.replicate 9 0), .inl (1, [.ref 19, .ref 20, .int 0]), .inr (0, List.replicate 7 0), .inr (0, List.replicate 7 0)]
theorem vL_26 (xs : List Int32) : (vS_26 xs).length = 21 := rfl
def vS_27 (xs : List Int32) : XW := [.inr (2, xs), .inl (6, [.ref 2, .ref 11, .ref 15, .ref 18, .null, .null, .int 0, .int 0]), .inl (0, [.ref 3, .ref 4, .ref 5, .ref 6, .ref 7, .ref 8, .ref 9, .ref 10, .int 0, .int 0, .int 0, .int 0, .int 0, .int 0, .int 0]), .inr (0, List.replicate 7 0), .inr (0, List.replicate 7 0), .inr (0, List.replicate 7 (-9)), .inr (0, List.replicate 6 0), .inr (0, List.replicate 6 0), .inr (0, List.replicate 6 0), .inr (0, List.replicate 6 0), .inr (0, List.replicate 6 0), .inl (4, [.ref 12, .ref 13, .ref 14]), .inr (0, List.replicate 4 0), .inr (0, List.replicate 4 (-1)), .inr (0, List.replicate 240 0), .inl (5, [.ref 16, .ref 17, .int 0, .int 0, .int 0, .int 0]), .inr (0, List.replicate 8 0), .inr (0, List.replicate 9 0), .inl (1, [.ref 19, .ref 20, .int 0]), .inr (0, List.replicate 7 0), .inr (0, List.replicate 7 0), .inl (3, [.null, .null, .null, .null, .int 0, .int 0, .int 0, .int 0])]
theorem vL_27 (xs : List Int32) : (vS_27 xs).length = 22 := rfl
def vS_28 (xs : List Int32) : XW := [.inr (2, xs), .inl (6, [.ref 2, .ref 11, .ref 15, .ref 18, .null, .null, .int 0, .int 0]), .inl (0, [.ref 3, .ref 4, .ref 5, .ref 6, .ref 7, .ref 8, .ref 9, .ref 10, .int 0, .int 0, .int 0, .int 0, .int 0, .int 0, .int 0]), .inr (0, List.replicate 7 0), .inr (0, List.replicate 7 0), .inr (0, List.replicate 7 (-9)), .inr (0, List.replicate 6 0), .inr (0, List.replicate 6 0), .inr (0, List.replicate 6 0), .inr (0, List.replicate 6 0), .inr (0, List.replicate 6 0), .inl (4, [.ref 12, .ref 13, .ref 14]), .inr (0, List.replicate 4 0), .inr (0, List.replicate 4 (-1)), .inr (0, List.replicate 240 0), .inl (5, [.ref 16, .ref 17, .int 0, .int 0, .int 0, .int 0]), .inr (0, List.replicate 8 0), .inr (0, List.replicate 9 0), .inl (1, [.ref 19, .ref 20, .int 0]), .inr (0, List.replicate 7 0), .inr (0, List.replicate 7 0), .inl (3, [.ref 22, .null, .null, .null, .int 0, .int 0, .int 0, .int 0]), .inr (0, List.replicate 7 0)]
theorem vL_28 (xs : List Int32) : (vS_28 xs).length = 23 := rfl
def vS_29 (xs : List Int32) : XW := [.inr (2, xs), .inl (6, [.ref 2, .ref 11, .ref 15, .ref 18, .null, .null, .int 0, .int 0]), .inl (0, [.ref 3, .ref 4, .ref 5, .ref 6, .ref 7, .ref 8, .ref 9, .ref 10, .int 0, .int 0, .int 0, .int 0, .int 0, .int 0, .int 0]), .inr (0, List.replicate 7 0), .inr (0, List.replicate 7 0), .inr (0, List.replicate 7 (-9)), .inr (0, List.replicate 6 0), .inr (0, List.replicate 6 0), .inr (0, List.replicate 6 0), .inr (0, List.replicate 6 0), .inr (0, List.replicate 6 0), .inl (4, [.ref 12, .ref 13, .ref 14]), .inr (0, List.replicate 4 0), .inr (0, List.replicate 4 (-1)), .inr (0, List.replicate 240 0), .inl (5, [.ref 16, .ref 17, .int 0, .int 0, .int 0, .int 0]), .inr (0, List.replicate 8 0), .inr (0, List.replicate 9 0), .inl (1, [.ref 19, .ref 20, .int 0]), .inr (0, List.replicate 7 0), .inr (0, List.replicate 7 0), .inl (3, [.ref 22, .ref 23, .null, .null, .int 0, .int 0, .int 0, .int 0]), .inr (0, List.replicate 7 0), .inr (0, List.replicate 7 0)]
theorem vL_29 (xs : List Int32) : (vS_29 xs).length = 24 := rfl
def vS_30 (xs : List Int32) : XW := [.inr (2, xs), .inl (6, [.ref 2, .ref 11, .ref 15, .ref 18, .null, .null, .int 0, .int 0]), .inl (0, [.ref 3, .ref 4, .ref 5, .ref 6, .ref 7, .ref 8, .ref 9, .ref 10, .int 0, .int 0, .int 0, .int 0, .int 0, .int 0, .int 0]), .inr (0, List.replicate 7 0), .inr (0, List.replicate 7 0), .inr (0, List.replicate 7 (-9)), .inr (0, List.replicate 6 0), .inr (0, List.replicate 6 0), .inr (0, List.replicate 6 0), .inr (0, List.replicate 6 0), .inr (0, List.replicate 6 0), .inl (4, [.ref 12, .ref 13, .ref 14]), .inr (0, List.replicate 4 0), .inr (0, List.replicate 4 (-1)), .inr (0, List.replicate 240 0), .inl (5, [.ref 16, .ref 17, .int 0, .int 0, .int 0, .int 0]), .inr (0, List.replicate 8 0), .inr (0, List.replicate 9 0), .inl (1, [.ref 19, .ref 20, .int 0]), .inr (0, List.replicate 7 0), .inr (0, List.replicate 7 0), .inl (3, [.ref 22, .ref 23, .ref 24, .null, .int 0, .int 0, .int 0, .int 0]), .inr (0, List.replicate 7 0), .inr (0, List.replicate 7 0), .inr (0, List.replicate 6 0)]
theorem vL_30 (xs : List Int32) : (vS_30 xs).length = 25 := rfl
def vS_31 (xs : List Int32) : XW := [.inr (2, xs), .inl (6, [.ref 2, .ref 11, .ref 15, .ref 18, .null, .null, .int 0, .int 0]), .inl (0, [.ref 3, .ref 4, .ref 5, .ref 6, .ref 7, .ref 8, .ref 9, .ref 10, .int 0, .int 0, .int 0, .int 0, .int 0, .int 0, .int 0]), .inr (0, List.replicate 7 0), .inr (0, List.replicate 7 0), .inr (0, List.replicate 7 (-9)), .inr (0, List.replicate 6 0), .inr (0, List.replicate 6 0), .inr (0, List.replicate 6 0), .inr (0, List.replicate 6 0), .inr (0, List.replicate 6 0), .inl (4, [.ref 12, .ref 13, .ref 14]), .inr (0, List.replicate 4 0), .inr (0, List.replicate 4 (-1)), .inr (0, List.replicate 240 0), .inl (5, [.ref 16, .ref 17, .int 0, .int 0, .int 0, .int 0]), .inr (0, List.replicate 8 0), .inr (0, List.replicate 9 0), .inl (1, [.ref 19, .ref 20, .int 0]), .inr (0, List.replicate 7 0), .inr (0, List.replicate 7 0), .inl (3, [.ref 22, .ref 23, .ref 24, .ref 25, .int 0, .int 0, .int 0, .int 0]), .inr (0, List.replicate 7 0), .inr (0, List.replicate 7 0), .inr (0, List.replicate 6 0), .inr (3, [26, 27, 28, 29, 30, 31, 32, 33]), .inr (0, List.replicate 8 0), .inr (0, List.replicate 8 0), .inr (0, List.replicate 8 0), .inr (0, List.replicate 8 0), .inr (0, List.replicate 8 0), .inr (0, List.replicate 8 0), .inr (0, List.replicate 8 0), .inr (0, List.replicate 8 0)]
theorem vL_31 (xs : List Int32) : (vS_31 xs).length = 34 := rfl
def vS_32 (xs : List Int32) : XW := [.inr (2, xs), .inl (6, [.ref 2, .ref 11, .ref 15, .ref 18, .ref 21, .null, .int 0, .int 0]), .inl (0, [.ref 3, .ref 4, .ref 5, .ref 6, .ref 7, .ref 8, .ref 9, .ref 10, .int 0, .int 0, .int 0, .int 0, .int 0, .int 0, .int 0]), .inr (0, List.replicate 7 0), .inr (0, List.replicate 7 0), .inr (0, List.replicate 7 (-9)), .inr (0, List.replicate 6 0), .inr (0, List.replicate 6 0), .inr (0, List.replicate 6 0), .inr (0, List.replicate 6 0), .inr (0, List.replicate 6 0), .inl (4, [.ref 12, .ref 13, .ref 14]), .inr (0, List.replicate 4 0), .inr (0, List.replicate 4 (-1)), .inr (0, List.replicate 240 0), .inl (5, [.ref 16, .ref 17, .int 0, .int 0, .int 0, .int 0]), .inr (0, List.replicate 8 0), .inr (0, List.replicate 9 0), .inl (1, [.ref 19, .ref 20, .int 0]), .inr (0, List.replicate 7 0), .inr (0, List.replicate 7 0), .inl (3, [.ref 22, .ref 23, .ref 24, .ref 25, .int 0, .int 0, .int 0, .int 0]), .inr (0, List.replicate 7 0), .inr (0, List.replicate 7 0), .inr (0, List.replicate 6 0), .inr (3, [26, 27, 28, 29, 30, 31, 32, 33]), .inr (0, List.replicate 8 0), .inr (0, List.replicate 8 0), .inr (0, List.replicate 8 0), .inr (0, List.replicate 8 0), .inr (0, List.replicate 8 0), .inr (0, List.replicate 8 0), .inr (0, List.replicate 8 0), .inr (0, List.replicate 8 0)]
theorem vL_32 (xs : List Int32) : (vS_32 xs).length = 34 := rfl
def vS_33 (xs : List Int32) : XW := [.inr (2, xs), .inl (6, [.ref 2, .ref 11, .ref 15, .ref 18, .ref 21, .null, .int 0, .int 0]), .inl (0, [.ref 3, .ref 4, .ref 5, .ref 6, .ref 7, .ref 8, .ref 9, .ref 10, .int 0, .int 0, .int 0, .int 0, .int 0, .int 0, .int 0]), .inr (0, List.replicate 7 0), .inr (0, List.replicate 7 0), .inr (0, List.replicate 7 (-9)), .inr (0, List.replicate 6 0), .inr (0, List.replicate 6 0), .inr (0, List.replicate 6 0), .inr (0, List.replicate 6 0), .inr (0, List.replicate 6 0), .inl (4, [.ref 12, .ref 13, .ref 14]), .inr (0, List.replicate 4 0), .inr (0, List.replicate 4 (-1)), .inr (0, List.replicate 240 0), .inl (5, [.ref 16, .ref 17, .int 0, .int 0, .int 0, .int 0]), .inr (0, List.replicate 8 0), .inr (0, List.replicate 9 0), .inl (1, [.ref 19, .ref 20, .int 0]), .inr (0, List.replicate 7 0), .inr (0, List.replicate 7 0), .inl (3, [.ref 22, .ref 23, .ref 24, .ref 25, .int 0, .int 0, .int 0, .int 0]), .inr (0, List.replicate 7 0), .inr (0, List.replicate 7 0), .inr (0, List.replicate 6 0), .inr (3, [26, 27, 28, 29, 30, 31, 32, 33]), .inr (0, List.replicate 8 0), .inr (0, List.replicate 8 0), .inr (0, List.replicate 8 0), .inr (0, List.replicate 8 0), .inr (0, List.replicate 8 0), .inr (0, List.replicate 8 0), .inr (0, List.replicate 8 0), .inr (0, List.replicate 8 0), .inl (2, [.null, .int 0])]
theorem vL_33 (xs : List Int32) : (vS_33 xs).length = 35 := rfl
def vS_34 (xs : List Int32) : XW := [.inr (2, xs), .inl (6, [.ref 2, .ref 11, .ref 15, .ref 18, .ref 21, .null, .int 0, .int 0]), .inl (0, [.ref 3, .ref 4, .ref 5, .ref 6, .ref 7, .ref 8, .ref 9, .ref 10, .int 0, .int 0, .int 0, .int 0, .int 0, .int 0, .int 0]), .inr (0, List.replicate 7 0), .inr (0, List.replicate 7 0), .inr (0, List.replicate 7 (-9)), .inr (0, List.replicate 6 0), .inr (0, List.replicate 6 0), .inr (0, List.replicate 6 0), .inr (0, List.replicate 6 0), .inr (0, List.replicate 6 0), .inl (4, [.ref 12, .ref 13, .ref 14]), .inr (0, List.replicate 4 0), .inr (0, List.replicate 4 (-1)), .inr (0, List.replicate 240 0), .inl (5, [.ref 16, .ref 17, .int 0, .int 0, .int 0, .int 0]), .inr (0, List.replicate 8 0), .inr (0, List.replicate 9 0), .inl (1, [.ref 19, .ref 20, .int 0]), .inr (0, List.replicate 7 0), .inr (0, List.replicate 7 0), .inl (3, [.ref 22, .ref 23, .ref 24, .ref 25, .int 0, .int 0, .int 0, .int 0]), .inr (0, List.replicate 7 0), .inr (0, List.replicate 7 0), .inr (0, List.replicate 6 0), .inr (3, [26, 27, 28, 29, 30, 31, 32, 33]), .inr (0, List.replicate 8 0), .inr (0, List.replicate 8 0), .inr (0, List.replicate 8 0), .inr (0, List.replicate 8 0), .inr (0, List.replicate 8 0), .inr (0, List.replicate 8 0), .inr (0, List.replicate 8 0), .inr (0, List.replicate 8 0), .inl (2, [.ref 35, .int 0]), .inr (0, List.replicate 128 0)]
theorem vL_34 (xs : List Int32) : (vS_34 xs).length = 36 := rfl
def vS_35 (xs : List Int32) : XW := [.inr (2, xs), .inl (6, [.ref 2, .ref 11, .ref 15, .ref 18, .ref 21, .ref 34, .int 0, .int 0]), .inl (0, [.ref 3, .ref 4, .ref 5, .ref 6, .ref 7, .ref 8, .ref 9, .ref 10, .int 0, .int 0, .int 0, .int 0, .int 0, .int 0, .int 0]), .inr (0, List.replicate 7 0), .inr (0, List.replicate 7 0), .inr (0, List.replicate 7 (-9)), .inr (0, List.replicate 6 0), .inr (0, List.replicate 6 0), .inr (0, List.replicate 6 0), .inr (0, List.replicate 6 0), .inr (0, List.replicate 6 0), .inl (4, [.ref 12, .ref 13, .ref 14]), .inr (0, List.replicate 4 0), .inr (0, List.replicate 4 (-1)), .inr (0, List.replicate 240 0), .inl (5, [.ref 16, .ref 17, .int 0, .int 0, .int 0, .int 0]), .inr (0, List.replicate 8 0), .inr (0, List.replicate 9 0), .inl (1, [.ref 19, .ref 20, .int 0]), .inr (0, List.replicate 7 0), .inr (0, List.replicate 7 0), .inl (3, [.ref 22, .ref 23, .ref 24, .ref 25, .int 0, .int 0, .int 0, .int 0]), .inr (0, List.replicate 7 0), .inr (0, List.replicate 7 0), .inr (0, List.replicate 6 0), .inr (3, [26, 27, 28, 29, 30, 31, 32, 33]), .inr (0, List.replicate 8 0), .inr (0, List.replicate 8 0), .inr (0, List.replicate 8 0), .inr (0, List.replicate 8 0), .inr (0, List.replicate 8 0), .inr (0, List.replicate 8 0), .inr (0, List.replicate 8 0), .inr (0, List.replicate 8 0), .inl (2, [.ref 35, .int 0]), .inr (0, List.replicate 128 0)]
theorem vL_35 (xs : List Int32) : (vS_35 xs).length = 36 := rfl
theorem A_0 (xs : List Int32) : vS_0 xs ++ [.inl (6, [.null, .null, .null, .null, .null, .null, .int 0, .int 0])] = vS_1 xs := rfl
theorem A_1 (xs : List Int32) : vS_1 xs ++ [.inl (0, [.null, .null, .null, .null, .null, .null, .null, .null, .int 0, .int 0, .int 0, .int 0, .int 0, .int 0, .int 0])] = vS_2 xs := rfl
theorem P_2 (xs : List Int32) : pF (vS_2 xs ++ [.inr (0, List.replicate 7 0)]) 2 0 0 (.ref 3) = some (vS_3 xs) := rfl
theorem P_3 (xs : List Int32) : pF (vS_3 xs ++ [.inr (0, List.replicate 7 0)]) 2 0 1 (.ref 4) = some (vS_4 xs) := rfl
theorem P_4 (xs : List Int32) : pF (vS_4 xs ++ [.inr (0, List.replicate 7 0)]) 2 0 2 (.ref 5) = some (vS_5 xs) := rfl
theorem P_5 (xs : List Int32) : pF (vS_5 xs ++ [.inr (0, List.replicate 6 0)]) 2 0 3 (.ref 6) = some (vS_6 xs) := rfl
theorem P_6 (xs : List Int32) : pF (vS_6 xs ++ [.inr (0, List.replicate 6 0)]) 2 0 4 (.ref 7) = some (vS_7 xs) := rfl
theorem P_7 (xs : List Int32) : pF (vS_7 xs ++ [.inr (0, List.replicate 6 0)]) 2 0 5 (.ref 8) = some (vS_8 xs) := rfl
theorem P_8 (xs : List Int32) : pF (vS_8 xs ++ [.inr (0, List.replicate 6 0)]) 2 0 6 (.ref 9) = some (vS_9 xs) := rfl
theorem P_9 (xs : List Int32) : pF (vS_9 xs ++ [.inr (0, List.replicate 6 0)]) 2 0 7 (.ref 10) = some (vS_10 xs) := rfl
theorem G_10 (xs : List Int32) : gR (vS_10 xs) 2 0 2 = some 5 := rfl
theorem Fi_10 {fu : Nat} (hf : 1000 ≤ fu) (xs : List Int32) : U_J7_fill_53178 fu [.ref 5, .int (-9)] (vS_10 xs) = some (none, vS_11 xs) := fill_gen (m := 7) hf rfl (by decide) (by decide) (-9)
set_option maxRecDepth 100000 in
set_option maxHeartbeats 4000000 in
theorem In_X0_2 {fu : Nat} (hf : 1000 ≤ fu) (xs : List Int32) : U_X0_init fu [.ref 2] (vS_2 xs) = some (none, vS_11 xs) := by
  simp -implicitDefEqProofs only [u_X0_init, M_X0_init, oInit, cV_some, vL_0, vL_1, vL_2, vL_3, vL_4, vL_5, vL_6, vL_7, vL_8, vL_9, vL_10, vL_11, vL_12, vL_13, vL_14, vL_15, vL_16, vL_17, vL_18, vL_19, vL_20, vL_21, vL_22, vL_23, vL_24, vL_25, vL_26, vL_27, vL_28, vL_29, vL_30, vL_31, vL_32, vL_33, vL_34, vL_35, tn4, tn6, tn7, tn8, tn9, tn128, tn240, Option.bind_some, P_2, P_3, P_4, P_5, P_6, P_7, P_8, P_9, G_10, Fi_10 hf]
  repeat rw [if_pos (by decide)]
theorem P_11 (xs : List Int32) : pF (vS_11 xs) 1 6 0 (.ref 2) = some (vS_12 xs) := rfl
theorem A_12 (xs : List Int32) : vS_12 xs ++ [.inl (4, [.null, .null, .null])] = vS_13 xs := rfl
theorem P_13 (xs : List Int32) : pF (vS_13 xs ++ [.inr (0, List.replicate 4 0)]) 11 4 0 (.ref 12) = some (vS_14 xs) := rfl
theorem P_14 (xs : List Int32) : pF (vS_14 xs ++ [.inr (0, List.replicate 4 0)]) 11 4 1 (.ref 13) = some (vS_15 xs) := rfl
theorem P_15 (xs : List Int32) : pF (vS_15 xs ++ [.inr (0, List.replicate 240 0)]) 11 4 2 (.ref 14) = some (vS_16 xs) := rfl
theorem G_16 (xs : List Int32) : gR (vS_16 xs) 11 4 1 = some 13 := rfl
theorem Fi_16 {fu : Nat} (hf : 1000 ≤ fu) (xs : List Int32) : U_J7_fill_53178 fu [.ref 13, .int (-1)] (vS_16 xs) = some (none, vS_17 xs) := fill_gen (m := 4) hf rfl (by decide) (by decide) (-1)
set_option maxRecDepth 100000 in
set_option maxHeartbeats 4000000 in
theorem In_X4_13 {fu : Nat} (hf : 1000 ≤ fu) (xs : List Int32) : U_X4_init fu [.ref 11] (vS_13 xs) = some (none, vS_17 xs) := by
  simp -implicitDefEqProofs only [u_X4_init, M_X4_init, oInit, cV_some, vL_0, vL_1, vL_2, vL_3, vL_4, vL_5, vL_6, vL_7, vL_8, vL_9, vL_10, vL_11, vL_12, vL_13, vL_14, vL_15, vL_16, vL_17, vL_18, vL_19, vL_20, vL_21, vL_22, vL_23, vL_24, vL_25, vL_26, vL_27, vL_28, vL_29, vL_30, vL_31, vL_32, vL_33, vL_34, vL_35, tn4, tn6, tn7, tn8, tn9, tn128, tn240, Option.bind_some, P_13, P_14, P_15, G_16, Fi_16 hf]
  repeat rw [if_pos (by decide)]
theorem P_17 (xs : List Int32) : pF (vS_17 xs) 1 6 1 (.ref 11) = some (vS_18 xs) := rfl
theorem A_18 (xs : List Int32) : vS_18 xs ++ [.inl (5, [.null, .null, .int 0, .int 0, .int 0, .int 0])] = vS_19 xs := rfl
theorem P_19 (xs : List Int32) : pF (vS_19 xs ++ [.inr (0, List.replicate 8 0)]) 15 5 0 (.ref 16) = some (vS_20 xs) := rfl
theorem P_20 (xs : List Int32) : pF (vS_20 xs ++ [.inr (0, List.replicate 9 0)]) 15 5 1 (.ref 17) = some (vS_21 xs) := rfl
set_option maxRecDepth 100000 in
set_option maxHeartbeats 4000000 in
theorem In_X6_19 {fu : Nat} (hf : 1000 ≤ fu) (xs : List Int32) : U_X6_init fu [.ref 15] (vS_19 xs) = some (none, vS_21 xs) := by
  simp -implicitDefEqProofs only [u_X6_init, M_X6_init, oInit, cV_some, vL_0, vL_1, vL_2, vL_3, vL_4, vL_5, vL_6, vL_7, vL_8, vL_9, vL_10, vL_11, vL_12, vL_13, vL_14, vL_15, vL_16, vL_17, vL_18, vL_19, vL_20, vL_21, vL_22, vL_23, vL_24, vL_25, vL_26, vL_27, vL_28, vL_29, vL_30, vL_31, vL_32, vL_33, vL_34, vL_35, tn4, tn6, tn7, tn8, tn9, tn128, tn240, Option.bind_some, P_19, P_20]
  repeat rw [if_pos (by decide)]
theorem P_21 (xs : List Int32) : pF (vS_21 xs) 1 6 2 (.ref 15) = some (vS_22 xs) := rfl
theorem A_22 (xs : List Int32) : vS_22 xs ++ [.inl (1, [.null, .null, .int 0])] = vS_23 xs := rfl
theorem P_23 (xs : List Int32) : pF (vS_23 xs ++ [.inr (0, List.replicate 7 0)]) 18 1 0 (.ref 19) = some (vS_24 xs) := rfl
theorem P_24 (xs : List Int32) : pF (vS_24 xs ++ [.inr (0, List.replicate 7 0)]) 18 1 1 (.ref 20) = some (vS_25 xs) := rfl
set_option maxRecDepth 100000 in
set_option maxHeartbeats 4000000 in
theorem In_X1_23 {fu : Nat} (hf : 1000 ≤ fu) (xs : List Int32) : U_X1_init fu [.ref 18] (vS_23 xs) = some (none, vS_25 xs) := by
  simp -implicitDefEqProofs only [u_X1_init, M_X1_init, oInit, cV_some, vL_0, vL_1, vL_2, vL_3, vL_4, vL_5, vL_6, vL_7, vL_8, vL_9, vL_10, vL_11, vL_12, vL_13, vL_14, vL_15, vL_16, vL_17, vL_18, vL_19, vL_20, vL_21, vL_22, vL_23, vL_24, vL_25, vL_26, vL_27, vL_28, vL_29, vL_30, vL_31, vL_32, vL_33, vL_34, vL_35, tn4, tn6, tn7, tn8, tn9, tn128, tn240, Option.bind_some, P_23, P_24]
  repeat rw [if_pos (by decide)]
theorem P_25 (xs : List Int32) : pF (vS_25 xs) 1 6 3 (.ref 18) = some (vS_26 xs) := rfl
theorem A_26 (xs : List Int32) : vS_26 xs ++ [.inl (3, [.null, .null, .null, .null, .int 0, .int 0, .int 0, .int 0])] = vS_27 xs := rfl
theorem P_27 (xs : List Int32) : pF (vS_27 xs ++ [.inr (0, List.replicate 7 0)]) 21 3 0 (.ref 22) = some (vS_28 xs) := rfl
theorem P_28 (xs : List Int32) : pF (vS_28 xs ++ [.inr (0, List.replicate 7 0)]) 21 3 1 (.ref 23) = some (vS_29 xs) := rfl
theorem P_29 (xs : List Int32) : pF (vS_29 xs ++ [.inr (0, List.replicate 6 0)]) 21 3 2 (.ref 24) = some (vS_30 xs) := rfl
theorem P_30 (xs : List Int32) : pF (vS_30 xs ++ mkA 25 (8 : Int32) (8 : Int32)) 21 3 3 (.ref 25) = some (vS_31 xs) := rfl
set_option maxRecDepth 100000 in
set_option maxHeartbeats 4000000 in
theorem In_X3_27 {fu : Nat} (hf : 1000 ≤ fu) (xs : List Int32) : U_X3_init fu [.ref 21] (vS_27 xs) = some (none, vS_31 xs) := by
  simp -implicitDefEqProofs only [u_X3_init, M_X3_init, oInit, cV_some, vL_0, vL_1, vL_2, vL_3, vL_4, vL_5, vL_6, vL_7, vL_8, vL_9, vL_10, vL_11, vL_12, vL_13, vL_14, vL_15, vL_16, vL_17, vL_18, vL_19, vL_20, vL_21, vL_22, vL_23, vL_24, vL_25, vL_26, vL_27, vL_28, vL_29, vL_30, vL_31, vL_32, vL_33, vL_34, vL_35, tn4, tn6, tn7, tn8, tn9, tn128, tn240, Option.bind_some, P_27, P_28, P_29, P_30]
  repeat rw [if_pos (by decide)]
theorem P_31 (xs : List Int32) : pF (vS_31 xs) 1 6 4 (.ref 21) = some (vS_32 xs) := rfl
theorem A_32 (xs : List Int32) : vS_32 xs ++ [.inl (2, [.null, .int 0])] = vS_33 xs := rfl
theorem P_33 (xs : List Int32) : pF (vS_33 xs ++ [.inr (0, List.replicate 128 0)]) 34 2 0 (.ref 35) = some (vS_34 xs) := rfl
set_option maxRecDepth 100000 in
set_option maxHeartbeats 4000000 in
theorem In_X2_33 {fu : Nat} (hf : 1000 ≤ fu) (xs : List Int32) : U_X2_init fu [.ref 34] (vS_33 xs) = some (none, vS_34 xs) := by
  simp -implicitDefEqProofs only [u_X2_init, M_X2_init, oInit, cV_some, vL_0, vL_1, vL_2, vL_3, vL_4, vL_5, vL_6, vL_7, vL_8, vL_9, vL_10, vL_11, vL_12, vL_13, vL_14, vL_15, vL_16, vL_17, vL_18, vL_19, vL_20, vL_21, vL_22, vL_23, vL_24, vL_25, vL_26, vL_27, vL_28, vL_29, vL_30, vL_31, vL_32, vL_33, vL_34, vL_35, tn4, tn6, tn7, tn8, tn9, tn128, tn240, Option.bind_some, P_33]
  repeat rw [if_pos (by decide)]
theorem P_34 (xs : List Int32) : pF (vS_34 xs) 1 6 5 (.ref 34) = some (vS_35 xs) := rfl
set_option maxRecDepth 100000 in
set_option maxHeartbeats 4000000 in
theorem In_X7_1 {fu : Nat} (hf : 1000 ≤ fu) (xs : List Int32) : U_X7_init fu [.ref 1] (vS_1 xs) = some (none, vS_35 xs) := by
  simp -implicitDefEqProofs only [u_X7_init, M_X7_init, oInit, cV_some, vL_0, vL_1, vL_2, vL_3, vL_4, vL_5, vL_6, vL_7, vL_8, vL_9, vL_10, vL_11, vL_12, vL_13, vL_14, vL_15, vL_16, vL_17, vL_18, vL_19, vL_20, vL_21, vL_22, vL_23, vL_24, vL_25, vL_26, vL_27, vL_28, vL_29, vL_30, vL_31, vL_32, vL_33, vL_34, vL_35, tn4, tn6, tn7, tn8, tn9, tn128, tn240, Option.bind_some, A_1, In_X0_2 hf, P_11, A_12, In_X4_13 hf, P_17, A_18, In_X6_19 hf, P_21, A_22, In_X1_23 hf, P_25, A_26, In_X3_27 hf, P_31, A_32, In_X2_33 hf, P_34]
  repeat rw [if_pos (by decide)]
def A0s (xs : List Int32) : Nat → List Int32 := fun k => if k = 0 then xs else if k = 5 then List.replicate 7 (-9) else if k = 13 then List.replicate 4 (-1) else if k = 40 then [] else List.replicate (lenT k) 0
def I0s : Nat → Nat → Int32 := fun _ _ => 0
theorem vS_end (xs : List Int32) : vS_35 xs = enc (A0s xs) I0s := rfl
end ST
