theorem bits_S (p : Nat → Bool) (n : Nat) (h : p n = false) : bits p (n + 1) = bits p n := by
  show bits p n + (if p n then 2 ^ n else 0) = bits p n
  rw [h]; simp
section O4
variable {σ : SG} {A : Nat → List Int32} {I : Nat → Nat → Int32} {fu : Nat}
/-- a stone more -/
def addS (σ : SG) (k h w t : Nat) : SG := uN (uN (uN (uN (uN (uN σ 0 3 (σ 0 3 + 1)) 3 (σ 0 3) k) 4 (σ 0 3) h) 5 (σ 0 3) w) 6 (σ 0 3) t) 8 (σ 0 3) 0
end O4

