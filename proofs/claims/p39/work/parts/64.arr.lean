/-! ===== the law's own arrays: 36 b, 37 t, 38 strides, 39 laid; so many as (A 40).length says ===== -/
section LA
variable {A : Nat → List Int32} {I : Nat → Nat → Int32} {fu : Nat}
theorem at_36 (h : 1 ≤ (A 40).length) : (enc A I)[36]? = some (.inr (0, A 36)) := by
  show (tailN A (A 40).length)[0]? = _
  generalize (A 40).length = n at h
  match n, h with
  | 1, _ => rfl
  | 2, _ => rfl
  | 3, _ => rfl
  | n + 4, _ => rfl
theorem at_37 (h : 2 ≤ (A 40).length) : (enc A I)[37]? = some (.inr (0, A 37)) := by
  show (tailN A (A 40).length)[1]? = _
  generalize (A 40).length = n at h
  match n, h with
  | 2, _ => rfl
  | 3, _ => rfl
  | n + 4, _ => rfl
theorem at_38 (h : 3 ≤ (A 40).length) : (enc A I)[38]? = some (.inr (0, A 38)) := by
  show (tailN A (A 40).length)[2]? = _
  generalize (A 40).length = n at h
  match n, h with
  | 3, _ => rfl
  | n + 4, _ => rfl
theorem at_39 (h : 4 ≤ (A 40).length) : (enc A I)[39]? = some (.inr (0, A 39)) := by
  show (tailN A (A 40).length)[3]? = _
  generalize (A 40).length = n at h
  match n, h with
  | n + 4, _ => rfl
theorem enc_tl (A B : Nat → List Int32) (I : Nat → Nat → Int32) (T : XW) (h : ∀ k, k < 36 → B k = A k) (hT : tailN B (B 40).length = T) : enc B I = (enc A I).take 36 ++ T := by
  unfold enc
  rw [hT, h 0 (by decide), h 3 (by decide), h 4 (by decide), h 5 (by decide), h 6 (by decide), h 7 (by decide), h 8 (by decide), h 9 (by decide), h 10 (by decide), h 12 (by decide), h 13 (by decide), h 14 (by decide), h 16 (by decide), h 17 (by decide), h 19 (by decide), h 20 (by decide), h 22 (by decide), h 23 (by decide), h 24 (by decide), h 26 (by decide), h 27 (by decide), h 28 (by decide), h 29 (by decide), h 30 (by decide), h 31 (by decide), h 32 (by decide), h 33 (by decide), h 35 (by decide)]
  rfl
theorem enc_self (A : Nat → List Int32) (I : Nat → Nat → Int32) : enc A I = (enc A I).take 36 ++ tailN A (A 40).length := rfl
theorem set_tl {w T : XW} (hw : w.length = 36) (k : Nat) (c : XC) : (w ++ T).set (36 + k) c = w ++ T.set k c := by
  rw [List.set_append_right _ _ (by omega), hw, Nat.add_sub_cancel_left]
theorem take36 (A : Nat → List Int32) (I : Nat → Nat → Int32) : ((enc A I).take 36).length = 36 := rfl
theorem uA_lt (A : Nat → List Int32) {k : Nat} (xs : List Int32) (hk : 36 ≤ k) : ∀ j, j < 36 → uA A k xs j = A j := fun j hj => uA_n _ _ _ (by omega)
theorem set_36 (h : 1 ≤ (A 40).length) (xs : List Int32) : (enc A I).set 36 (.inr (0, xs)) = enc (uA A 36 xs) I := by
  rw [enc_tl A (uA A 36 xs) I _ (uA_lt A xs (by decide)) rfl]
  rw [show (enc A I).set 36 (.inr (0, xs)) = ((enc A I).take 36 ++ tailN A (A 40).length).set (36 + 0) (.inr (0, xs)) from rfl, set_tl (take36 A I)]
  congr 1
  rw [uA_n A 36 xs (show (40 : Nat) ≠ 36 by decide)]
  generalize (A 40).length = n at h
  match n, h with
  | 1, _ => rfl
  | 2, _ => rfl
  | 3, _ => rfl
  | n + 4, _ => rfl
theorem set_37 (h : 2 ≤ (A 40).length) (xs : List Int32) : (enc A I).set 37 (.inr (0, xs)) = enc (uA A 37 xs) I := by
  rw [enc_tl A (uA A 37 xs) I _ (uA_lt A xs (by decide)) rfl]
  rw [show (enc A I).set 37 (.inr (0, xs)) = ((enc A I).take 36 ++ tailN A (A 40).length).set (36 + 1) (.inr (0, xs)) from rfl, set_tl (take36 A I)]
  congr 1
  rw [uA_n A 37 xs (show (40 : Nat) ≠ 37 by decide)]
  generalize (A 40).length = n at h
  match n, h with
  | 2, _ => rfl
  | 3, _ => rfl
  | n + 4, _ => rfl
theorem set_38 (h : 3 ≤ (A 40).length) (xs : List Int32) : (enc A I).set 38 (.inr (0, xs)) = enc (uA A 38 xs) I := by
  rw [enc_tl A (uA A 38 xs) I _ (uA_lt A xs (by decide)) rfl]
  rw [show (enc A I).set 38 (.inr (0, xs)) = ((enc A I).take 36 ++ tailN A (A 40).length).set (36 + 2) (.inr (0, xs)) from rfl, set_tl (take36 A I)]
  congr 1
  rw [uA_n A 38 xs (show (40 : Nat) ≠ 38 by decide)]
  generalize (A 40).length = n at h
  match n, h with
  | 3, _ => rfl
  | n + 4, _ => rfl
theorem set_39 (h : 4 ≤ (A 40).length) (xs : List Int32) : (enc A I).set 39 (.inr (0, xs)) = enc (uA A 39 xs) I := by
  rw [enc_tl A (uA A 39 xs) I _ (uA_lt A xs (by decide)) rfl]
  rw [show (enc A I).set 39 (.inr (0, xs)) = ((enc A I).take 36 ++ tailN A (A 40).length).set (36 + 3) (.inr (0, xs)) from rfl, set_tl (take36 A I)]
  congr 1
  rw [uA_n A 39 xs (show (40 : Nat) ≠ 39 by decide)]
  generalize (A 40).length = n at h
  match n, h with
  | n + 4, _ => rfl
/-- an array more -/
theorem new_36 (h : A 40 = []) (xs : List Int32) : enc A I ++ [.inr (0, xs)] = enc (uA (uA A 36 xs) 40 [0]) I := by
  rw [enc_tl A (uA (uA A 36 xs) 40 [0]) I _ (fun j hj => by rw [uA_n _ _ _ (by omega), uA_n _ _ _ (by omega)]) rfl]
  rw [show enc A I ++ [.inr (0, xs)] = (enc A I).take 36 ++ tailN A (A 40).length ++ [.inr (0, xs)] from rfl, h, List.append_assoc]
  rfl
theorem new_37 {x : Int32} (h : A 40 = [x]) (xs : List Int32) : enc A I ++ [.inr (0, xs)] = enc (uA (uA A 37 xs) 40 [0, 0]) I := by
  rw [enc_tl A (uA (uA A 37 xs) 40 [0, 0]) I _ (fun j hj => by rw [uA_n _ _ _ (by omega), uA_n _ _ _ (by omega)]) rfl]
  rw [show enc A I ++ [.inr (0, xs)] = (enc A I).take 36 ++ tailN A (A 40).length ++ [.inr (0, xs)] from rfl, h, List.append_assoc]
  rfl
theorem new_38 {x y : Int32} (h : A 40 = [x, y]) (xs : List Int32) : enc A I ++ [.inr (0, xs)] = enc (uA (uA A 38 xs) 40 [0, 0, 0]) I := by
  rw [enc_tl A (uA (uA A 38 xs) 40 [0, 0, 0]) I _ (fun j hj => by rw [uA_n _ _ _ (by omega), uA_n _ _ _ (by omega)]) rfl]
  rw [show enc A I ++ [.inr (0, xs)] = (enc A I).take 36 ++ tailN A (A 40).length ++ [.inr (0, xs)] from rfl, h, List.append_assoc]
  rfl
theorem new_39 {x y z : Int32} (h : A 40 = [x, y, z]) (xs : List Int32) : enc A I ++ [.inr (0, xs)] = enc (uA (uA A 39 xs) 40 [0, 0, 0, 0]) I := by
  rw [enc_tl A (uA (uA A 39 xs) 40 [0, 0, 0, 0]) I _ (fun j hj => by rw [uA_n _ _ _ (by omega), uA_n _ _ _ (by omega)]) rfl]
  rw [show enc A I ++ [.inr (0, xs)] = (enc A I).take 36 ++ tailN A (A 40).length ++ [.inr (0, xs)] from rfl, h, List.append_assoc]
  rfl
theorem enc_len (A : Nat → List Int32) (I : Nat → Nat → Int32) : (enc A I).length = 36 + (tailN A (A 40).length).length := by
  rw [enc_self, List.length_append, take36]
theorem len_0 (h : A 40 = []) : (enc A I).length = 36 := by rw [enc_len, h]; rfl
theorem len_1 {x : Int32} (h : A 40 = [x]) : (enc A I).length = 37 := by rw [enc_len, h]; rfl
theorem len_2 {x y : Int32} (h : A 40 = [x, y]) : (enc A I).length = 38 := by rw [enc_len, h]; rfl
theorem len_3 {x y z : Int32} (h : A 40 = [x, y, z]) : (enc A I).length = 39 := by rw [enc_len, h]; rfl
theorem ai_36 (h : 1 ≤ (A 40).length) {j : Nat} (hj : j < (A 36).length) (hb : j < 2147483648) : aI (enc A I) 36 (nI j) = some (rd (A 36) j) := aI_enc (at_36 h) hj hb
theorem ai_37 (h : 2 ≤ (A 40).length) {j : Nat} (hj : j < (A 37).length) (hb : j < 2147483648) : aI (enc A I) 37 (nI j) = some (rd (A 37) j) := aI_enc (at_37 h) hj hb
theorem ai_38 (h : 3 ≤ (A 40).length) {j : Nat} (hj : j < (A 38).length) (hb : j < 2147483648) : aI (enc A I) 38 (nI j) = some (rd (A 38) j) := aI_enc (at_38 h) hj hb
theorem ai_39 (h : 4 ≤ (A 40).length) {j : Nat} (hj : j < (A 39).length) (hb : j < 2147483648) : aI (enc A I) 39 (nI j) = some (rd (A 39) j) := aI_enc (at_39 h) hj hb
theorem si_36 (h : 1 ≤ (A 40).length) {j : Nat} (x : Int32) (hj : j < (A 36).length) (hb : j < 2147483648) : sI (enc A I) 36 (nI j) x = some (enc (uA A 36 ((A 36).set j x)) I) := by
  rw [sI_enc (at_36 h) (by decide) hj hb, set_36 h]
theorem si_37 (h : 2 ≤ (A 40).length) {j : Nat} (x : Int32) (hj : j < (A 37).length) (hb : j < 2147483648) : sI (enc A I) 37 (nI j) x = some (enc (uA A 37 ((A 37).set j x)) I) := by
  rw [sI_enc (at_37 h) (by decide) hj hb, set_37 h]
theorem si_38 (h : 3 ≤ (A 40).length) {j : Nat} (x : Int32) (hj : j < (A 38).length) (hb : j < 2147483648) : sI (enc A I) 38 (nI j) x = some (enc (uA A 38 ((A 38).set j x)) I) := by
  rw [sI_enc (at_38 h) (by decide) hj hb, set_38 h]
theorem si_39 (h : 4 ≤ (A 40).length) {j : Nat} (x : Int32) (hj : j < (A 39).length) (hb : j < 2147483648) : sI (enc A I) 39 (nI j) x = some (enc (uA A 39 ((A 39).set j x)) I) := by
  rw [sI_enc (at_39 h) (by decide) hj hb, set_39 h]
/-- the state says nothing of the law's arrays -/
theorem RR.tl {σ : SG} (r : RR σ A I) {B : Nat → List Int32} (h : ∀ k, k < 36 → B k = A k) : RR σ B I := by
  obtain ⟨r1, r2, r3, r5⟩ := r
  refine ⟨r1, fun k hk => ?_, ?_, ?_⟩
  · have hk2 : k < 36 := by
      have hm := hk
      unfold isArr at hm
      have hm := List.elem_iff.mp hm
      simp only [List.mem_cons, List.not_mem_nil, or_false] at hm
      omega
    rw [h k hk2]; exact r2 k hk
  · unfold RC at *
    rw [h 3 (by decide), h 4 (by decide), h 5 (by decide), h 6 (by decide), h 7 (by decide), h 8 (by decide), h 9 (by decide), h 10 (by decide)]
    exact r3
  · unfold RS at *
    rw [h 12 (by decide), h 13 (by decide)]
    exact r5
/-! numbers out of the script -/
theorem and_max (v : Int32) : ∃ a, a < 2147483648 ∧ v &&& 2147483647 = nI a := by
  have h : ¬ (v &&& 2147483647) < 0 := by
    intro z
    rw [Int32.lt_iff_toInt_lt] at z
    have z : (v &&& 2147483647).toBitVec.toInt < 0 := z
    have hm : (v &&& 2147483647).toBitVec.msb = false := by
      rw [Int32.toBitVec_and, BitVec.msb_and]
      have : (2147483647 : Int32).toBitVec.msb = false := by decide
      rw [this, Bool.and_false]
    rw [BitVec.msb_eq_toInt] at hm
    exact absurd z (of_decide_eq_false hm)
  obtain ⟨a, h1, h2⟩ := nI_of h
  exact ⟨a, h1, h2⟩
theorem n_divL {a b : Nat} (ha : a < 2147483648) (hb : b < 2147483648) : nI a / nI b = nI (a / b) := (Int32.ofNat_div ha hb).symm
theorem n_mod {a b : Nat} (ha : a < 2147483648) (hb : b < 2147483648) : nI a - nI a / nI b * nI b = nI (a % b) := by
  rw [n_divL ha hb, pk_mul, pk_sub (Nat.div_mul_le_self a b)]
  congr 1
  have := Nat.div_add_mod a b
  rw [Nat.mul_comm] at this
  omega
theorem l_some (v : Int32) {n : Nat} (h1 : 1 ≤ n) (h2 : n < 2147483648) (w : XW) : ∃ j, j < n ∧ U_L_some fu [.int v, .int (nI n)] w = some (some (.int (nI j)), w) := by
  obtain ⟨a, ha, e⟩ := and_max v
  refine ⟨a % n, Nat.mod_lt _ (by omega), ?_⟩
  rw [u_L_some, M_L_some, if_neg (by rw [nI_pe0 h2]; omega), e, n_mod ha h2]
theorem l_cell (hl : (A 0).length < 2147483648) {k : Nat} (hk : k < 2147483648) : ∃ x, U_L_cell fu [.ref 0, .int (nI k)] (enc A I) = some (some (.int x), enc A I) := by
  have al : aL (enc A I) 0 = some (nI (A 0).length) := rfl
  rw [u_L_cell, M_L_cell, al, Option.bind_some]
  by_cases z : k < (A 0).length
  · have e : aI (enc A I) 0 (nI k) = some (rd (A 0) k) := by
      unfold aI
      rw [show (enc A I)[0]? = some (.inr (2, A 0)) from rfl]
      dsimp only
      rw [if_pos ⟨Or.inr rfl, nI_pos' hk⟩, nI_clamp hk, rd, List.getD_eq_getElem?_getD, List.getElem?_eq_getElem z]
      rfl
    rw [e]
    refine ⟨rd (A 0) k, ?_⟩
    rw [if_pos (nI_lt z hl)]
    rfl
  · refine ⟨747796405 * (nI k + 1), ?_⟩
    rw [if_neg (by rw [n_lt hk hl]; exact z)]
end LA
