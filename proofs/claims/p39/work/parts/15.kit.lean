/-! ===== helpers for the methods' own functions ===== -/
def xi (ls : XL) (i : Nat) : Option Int32 := match xL ls i with
  | some (.int x) => some x
  | _ => none
def xj (ls : XL) (i : Nat) : Option Int64 := match xL ls i with
  | some (.long x) => some x
  | _ => none
def xr (ls : XL) (i : Nat) : Option Nat := match xL ls i with
  | some (.ref x) => some x
  | _ => none
theorem xi_of {ls : XL} {i : Nat} {x : Int32} (h : xi ls i = some x) : xL ls i = some (.int x) := by
  unfold xi at h
  split at h
  next y hy => cases h; exact hy
  next => cases h
theorem xj_of {ls : XL} {i : Nat} {x : Int64} (h : xj ls i = some x) : xL ls i = some (.long x) := by
  unfold xj at h
  split at h
  next y hy => cases h; exact hy
  next => cases h
theorem xr_of {ls : XL} {i : Nat} {x : Nat} (h : xr ls i = some x) : xL ls i = some (.ref x) := by
  unfold xr at h
  split at h
  next y hy => cases h; exact hy
  next => cases h
theorem b_none {α : Type} {x : Option α} {k : α → Option XO} (h : ∀ v, k v = none) : x.bind k = none := by
  cases x with
  | none => rfl
  | some v => exact h v
theorem c_none {c : Bool} {a b : Option XO} (ha : a = none) (hb : b = none) : (bif c then a else b) = none := by
  cases c <;> assumption
theorem c_some {pc k : Nat} {a b : Option XO} {o : XO} (h : (bif pc == k then a else b) = some o) : (pc = k ∧ a = some o) ∨ b = some o := by
  cases hc : pc == k with
  | true => rw [hc] at h; exact Or.inl ⟨eq_of_beq hc, h⟩
  | false => rw [hc] at h; exact Or.inr h
theorem nil_all {α : Type} {p : α → Prop} : ∀ q ∈ ([] : List α), p q := fun _ h => absurd h List.not_mem_nil
theorem cons_all {α : Type} {p : α → Prop} {a : α} {l : List α} (h : p a) (k : ∀ q ∈ l, p q) : ∀ q ∈ a :: l, p q := List.forall_mem_cons.mpr ⟨h, k⟩
def skI (st : List Value) (k : Int32 → List Value → Option XO) : Option XO := match st with
  | .int x :: r => k x r
  | _ => none
def skJ (st : List Value) (k : Int64 → List Value → Option XO) : Option XO := match st with
  | .long x :: r => k x r
  | _ => none
def skR (st : List Value) (k : Nat → List Value → Option XO) : Option XO := match st with
  | .ref x :: r => k x r
  | _ => none
def skN (st : List Value) (k : Option XO) : Option XO := match st with
  | [] => k
  | _ => none
theorem skI_none {st : List Value} {k : Int32 → List Value → Option XO} (h : ∀ x r, k x r = none) : skI st k = none := by
  unfold skI; split <;> first | exact h _ _ | rfl
theorem skJ_none {st : List Value} {k : Int64 → List Value → Option XO} (h : ∀ x r, k x r = none) : skJ st k = none := by
  unfold skJ; split <;> first | exact h _ _ | rfl
theorem skR_none {st : List Value} {k : Nat → List Value → Option XO} (h : ∀ x r, k x r = none) : skR st k = none := by
  unfold skR; split <;> first | exact h _ _ | rfl
theorem skN_none {st : List Value} {k : Option XO} (h : k = none) : skN st k = none := by
  unfold skN; split <;> first | exact h | rfl
theorem skI_of {st : List Value} {k : Int32 → List Value → Option XO} {o : XO} (h : skI st k = some o) : ∃ x r, st = .int x :: r ∧ k x r = some o := by
  unfold skI at h
  split at h
  next => exact ⟨_, _, rfl, h⟩
  next => cases h
theorem skJ_of {st : List Value} {k : Int64 → List Value → Option XO} {o : XO} (h : skJ st k = some o) : ∃ x r, st = .long x :: r ∧ k x r = some o := by
  unfold skJ at h
  split at h
  next => exact ⟨_, _, rfl, h⟩
  next => cases h
theorem skR_of {st : List Value} {k : Nat → List Value → Option XO} {o : XO} (h : skR st k = some o) : ∃ x r, st = .ref x :: r ∧ k x r = some o := by
  unfold skR at h
  split at h
  next => exact ⟨_, _, rfl, h⟩
  next => cases h
theorem skN_of {st : List Value} {k : Option XO} {o : XO} (h : skN st k = some o) : st = [] ∧ k = some o := by
  unfold skN at h
  split at h
  next => exact ⟨rfl, h⟩
  next => cases h
