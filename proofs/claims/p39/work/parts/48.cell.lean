section P8
variable {σ : SG} {A : Nat → List Int32} {I : Nat → Nat → Int32} {fu : Nat}
/-- the fault that one comes to who takes n cells from i on as a row of a sort; 0: none -/
def fvI (o : Option (Nat × Nat)) (y i n : Int32) : Int32 := match o with
  | none => 1
  | some (n0, t0) => if nI t0 = y then (if n < 0 then 4 else if i < 0 then 3 else if nI n0 < i then 3 else if nI n0 - i < n then 3 else 0) else 2
theorem n_sub60 : ∀ a, a < 61 → ∀ b, b < 61 → b ≤ a → nI a - nI b = nI (a - b) := by decide +kernel
end P8

