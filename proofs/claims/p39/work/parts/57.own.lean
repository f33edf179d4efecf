theorem bit_n {a k : Nat} (ha : a < 2147483648) (hk : k < 31) : (nI a >>> (nI k &&& 31)) &&& 1 = nI (if a.testBit k = true then 1 else 0) := by
  rw [has_n ha hk]
  cases a.testBit k <;> rfl
