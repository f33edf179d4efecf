/-! ===== what the two objects' worlds say: one state of numbers ===== -/
abbrev SG : Type := Nat → Nat → Nat
/- σ 0 0 cells, 0 1 pace, 0 2 water, 0 3 stones, 0 4 walkers; σ 1 depth, 2 bed (of cells); 3 kind, 4 height, 5 weight, 6 lies (of stones); 7 the stone of a cell (0 none, s + 1); 8 the place of a stone (0 lies, c + 1 in a cell, 100 gone); 9 guarded; 10 strides -/
def uN (σ : SG) (t i v : Nat) : SG := fun a b => if a = t ∧ b = i then v else σ a b
def WF (σ : SG) : Prop :=
  (σ 0 0 = 0 ∨ 3 ≤ σ 0 0) ∧ σ 0 0 ≤ 7 ∧ σ 0 1 ≤ 9 ∧ σ 0 2 ≤ 9 ∧ σ 0 3 ≤ 6 ∧ σ 0 4 ≤ 6 ∧ (σ 0 0 = 0 → σ 0 3 = 0 ∧ σ 0 4 = 0) ∧
  (∀ c, c < σ 0 0 → σ 1 c ≤ 9 ∧ σ 2 c ≤ 9 ∧ σ 9 c ≤ 1) ∧
  (∀ s, s < σ 0 3 → σ 3 s ≤ 2 ∧ 1 ≤ σ 4 s ∧ σ 4 s ≤ 20 ∧ 1 ≤ σ 5 s ∧ σ 5 s ≤ 9 ∧ σ 6 s ≤ 9) ∧
  (∀ x, x < σ 0 4 → 1 ≤ σ 10 x ∧ σ 10 x ≤ 9) ∧
  (∀ c, c < σ 0 0 → ∀ s, σ 7 c = s + 1 → s < σ 0 3 ∧ σ 8 s = c + 1) ∧
  (∀ s, s < σ 0 3 → σ 8 s = 0 ∨ σ 8 s = 100 ∨ ∃ c, c < σ 0 0 ∧ σ 8 s = c + 1 ∧ σ 7 c = s + 1)
def ro : Nat → Int32
  | 0 => -9
  | s + 1 => nI s
def pl (k : Nat) : Int32 := if k = 0 then -9 else if k = 100 then -5 else nI (k - 1)
def LEN (A : Nat → List Int32) : Prop := ∀ k, isArr k = true → (A k).length = lenT k
def RC (σ : SG) (A : Nat → List Int32) (I : Nat → Nat → Int32) : Prop :=
  (I 2 8 = nI (σ 0 0) ∧ I 2 9 = nI (σ 0 1) ∧ I 2 10 = nI (bits (fun c => σ 9 c == 1) (σ 0 0)) ∧ I 2 11 = nI (σ 0 2) ∧ I 2 12 = nI (σ 0 3) ∧ I 2 13 = nI (bits (fun s => σ 8 s == 100) (σ 0 3)) ∧ I 2 14 = nI (σ 0 4)) ∧
  (∀ c, c < σ 0 0 → rd (A 3) c = nI (σ 1 c) ∧ rd (A 4) c = nI (σ 2 c) ∧ rd (A 5) c = ro (σ 7 c)) ∧
  (∀ s, s < σ 0 3 → rd (A 6) s = nI (σ 3 s) ∧ rd (A 7) s = nI (σ 4 s) ∧ rd (A 8) s = nI (σ 5 s) ∧ rd (A 9) s = nI (σ 6 s)) ∧
  (∀ x, x < σ 0 4 → rd (A 10) x = nI (σ 10 x))
def RS (A : Nat → List Int32) : Prop := ∀ q, q < 4 → rd (A 13) q = -1 ∨ ∃ n t : Nat, n ≤ 60 ∧ t ≤ 2 ∧ rd (A 13) q = nI n ∧ rd (A 12) q = nI t
def RR (σ : SG) (A : Nat → List Int32) (I : Nat → Nat → Int32) : Prop := WF σ ∧ LEN A ∧ RC σ A I ∧ RS A
/-! what a call may leave changed that no later call reads -/
def scrA (k : Nat) : Bool := ([16, 17, 19, 20, 22, 23, 24, 26, 27, 28, 29, 30, 31, 32, 33, 35] : List Nat).elem k
def scrI (o j : Nat) : Bool := (o == 15) || (o == 18) || (o == 21) || (o == 34)
def Fr (A : Nat → List Int32) (I : Nat → Nat → Int32) (A1 : Nat → List Int32) (I1 : Nat → Nat → Int32) : Prop :=
  (∀ k, scrA k = false → A1 k = A k) ∧ (∀ k, (A1 k).length = (A k).length) ∧ ∀ o j, scrI o j = false → I1 o j = I o j
theorem Fr.rf (A : Nat → List Int32) (I : Nat → Nat → Int32) : Fr A I A I := ⟨fun _ _ => rfl, fun _ => rfl, fun _ _ _ => rfl⟩
theorem Fr.tr {A B C : Nat → List Int32} {I J K : Nat → Nat → Int32} (h : Fr A I B J) (g : Fr B J C K) : Fr A I C K :=
  ⟨fun k hk => (g.1 k hk).trans (h.1 k hk), fun k => (g.2.1 k).trans (h.2.1 k), fun o j hj => (g.2.2 o j hj).trans (h.2.2 o j hj)⟩
theorem Fr.arr {A B : Nat → List Int32} {I J : Nat → Nat → Int32} (h : Fr A I B J) {k : Nat} {xs : List Int32} (hk : scrA k = true) (hl : xs.length = (B k).length) : Fr A I (uA B k xs) J := by
  refine ⟨fun j hj => ?_, fun j => ?_, h.2.2⟩
  · have : j ≠ k := fun q => by rw [q, hk] at hj; cases hj
    rw [uA_n _ _ _ this]; exact h.1 j hj
  · by_cases q : j = k
    · subst q; rw [uA_s, hl]; exact h.2.1 j
    · rw [uA_n _ _ _ q]; exact h.2.1 j
theorem Fr.int {A B : Nat → List Int32} {I J : Nat → Nat → Int32} (h : Fr A I B J) {o j : Nat} {x : Int32} (hk : scrI o j = true) : Fr A I B (uI J o j x) := by
  refine ⟨h.1, h.2.1, fun a i ha => ?_⟩
  have : ¬ (a = o ∧ i = j) := fun q => by rw [q.1, q.2, hk] at ha; cases ha
  unfold uI
  rw [if_neg this]; exact h.2.2 a i ha
theorem Fr.R {σ : SG} {A B : Nat → List Int32} {I J : Nat → Nat → Int32} (h : Fr A I B J) (r : RR σ A I) : RR σ B J := by
  obtain ⟨h1, h2, h3⟩ := h
  obtain ⟨r1, r2, r3, r5⟩ := r
  refine ⟨r1, fun k hk => (h2 k).trans (r2 k hk), ?_, ?_⟩
  · unfold RC at *
    rw [h3 2 8 rfl, h3 2 9 rfl, h3 2 10 rfl, h3 2 11 rfl, h3 2 12 rfl, h3 2 13 rfl, h3 2 14 rfl, h1 3 rfl, h1 4 rfl, h1 5 rfl, h1 6 rfl, h1 7 rfl, h1 8 rfl, h1 9 rfl, h1 10 rfl]
    exact r3
  · unfold RS at *
    rw [h1 12 rfl, h1 13 rfl]
    exact r5
theorem Fr.zero {A B : Nat → List Int32} {I J : Nat → Nat → Int32} (h : Fr A I B J) : B 0 = A 0 := h.1 0 rfl
theorem LEN.set {A : Nat → List Int32} (h : LEN A) {k : Nat} {xs : List Int32} (hl : xs.length = (A k).length) : LEN (uA A k xs) := by
  intro j hj
  by_cases q : j = k
  · subst q; rw [uA_s, hl]; exact h j hj
  · rw [uA_n _ _ _ q]; exact h j hj
