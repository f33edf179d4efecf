section IN
variable {p : Program} {l : Launch} {e : Env} {R : Room} {s : State} {m : MethodId} {args : Array Value} {below : List Frame} {meth : Method} {c : Code} {Q : State → Prop}
variable {D : va_G} {cA : Nat → ClassId} {base b nL d rz : Nat} {own : String} {ini : Bool} {cc : ByteArray} {w0 : XW} {o : XO}
theorem bin_of {f : Int32 → Int32 → Int32} {k : List Value → Option XO} {st : List Value} {o : XO} (h : bin f k st = some o) : ∃ x y r, st = .int y :: .int x :: r ∧ k (.int (f x y) :: r) = some o := by
  unfold bin at h
  split at h
  next y x r => exact ⟨x, y, r, rfl, h⟩
  next => cases h
theorem un_of {f : Int32 → Int32} {k : List Value → Option XO} {st : List Value} {o : XO} (h : un f k st = some o) : ∃ x r, st = .int x :: r ∧ k (.int (f x) :: r) = some o := by
  unfold un at h
  split at h
  next x r => exact ⟨x, r, rfl, h⟩
  next => cases h
theorem some_of {α : Type} {x : Option α} {k : α → Option XO} {o : XO} (h : x.bind k = some o) : ∃ v, x = some v ∧ k v = some o := by
  cases x with
  | none => cases h
  | some v => exact ⟨v, rfl, h⟩
theorem gF_of {w : XW} {o ci k : Nat} {v : Value} (h : gF w o ci k = some v) : ∃ fs, w[o]? = some (.inl (ci, fs)) ∧ fs[k]? = some v := by
  unfold gF at h
  split at h
  next c fs hc =>
    split at h
    next hh => subst hh; exact ⟨fs, hc, h⟩
    next => cases h
  next => cases h
theorem gI_of {w : XW} {o ci k : Nat} {x : Int32} (h : gI w o ci k = some x) : ∃ fs, w[o]? = some (.inl (ci, fs)) ∧ fs[k]? = some (.int x) := by
  unfold gI at h
  split at h
  next y hy => cases h; exact gF_of hy
  next => cases h
theorem gR_of {w : XW} {o ci k : Nat} {x : Nat} (h : gR w o ci k = some x) : ∃ fs, w[o]? = some (.inl (ci, fs)) ∧ fs[k]? = some (.ref x) := by
  unfold gR at h
  split at h
  next y hy => cases h; exact gF_of hy
  next => cases h
theorem pF_of {w : XW} {o ci k : Nat} {v : Value} {w' : XW} (h : pF w o ci k v = some w') : ∃ fs o', w[o]? = some (.inl (ci, fs)) ∧ k < fs.length ∧ o = o' + 1 ∧ w' = w.set (o' + 1) (.inl (ci, fs.set k v)) := by
  unfold pF at h
  split at h
  next c fs hc =>
    split at h
    next hh =>
      obtain ⟨rfl, h2, h3⟩ := hh
      cases h
      obtain ⟨o', rfl⟩ : ∃ o', o = o' + 1 := ⟨o - 1, by omega⟩
      exact ⟨fs, o', hc, h2, rfl, rfl⟩
    next => cases h
  next => cases h
theorem aI_of {w : XW} {o : Nat} {i x : Int32} (h : aI w o i = some x) : ∃ t xs, w[o]? = some (.inr (t, xs)) ∧ (t = 0 ∨ o = 0) ∧ vp_in i xs.length ∧ xs.getD i.toNatClampNeg 0 = x := by
  unfold aI at h
  split at h
  next t xs hc =>
    split at h
    next hh =>
      refine ⟨t, xs, hc, hh.1, ?_, ?_⟩
      · rintro (q | q)
        · exact absurd hh.2 (Int32.not_le.mpr q)
        · have := (List.getElem?_eq_some_iff.mp h).1; omega
      · rw [List.getD_eq_getElem?_getD, h]; rfl
    next => cases h
  next => cases h
theorem aZ_of {w : XW} {o : Nat} {i x : Int32} (h : aZ w o i = some x) : ∃ xs o', o = o' + 1 ∧ w[o]? = some (.inr (1, xs)) ∧ vp_in i xs.length ∧ xs.getD i.toNatClampNeg 0 = x := by
  unfold aZ at h
  split at h
  next t xs hc =>
    split at h
    next hh =>
      obtain ⟨rfl, h2, h3⟩ := hh
      refine ⟨xs, o - 1, by omega, hc, ?_, ?_⟩
      · rintro (q | q)
        · exact absurd h3 (Int32.not_le.mpr q)
        · have := (List.getElem?_eq_some_iff.mp h).1; omega
      · rw [List.getD_eq_getElem?_getD, h]; rfl
    next => cases h
  next => cases h
theorem sI_of {w : XW} {o : Nat} {i x : Int32} {w' : XW} (h : sI w o i x = some w') : ∃ xs o', o = o' + 1 ∧ w[o]? = some (.inr (0, xs)) ∧ vp_in i xs.length ∧ w' = w.set (o' + 1) (.inr (0, xs.set i.toNatClampNeg x)) := by
  unfold sI at h
  split at h
  next t xs hc =>
    split at h
    next hh =>
      obtain ⟨rfl, h2, h3, h4⟩ := hh
      cases h
      obtain ⟨o', rfl⟩ : ∃ o', o = o' + 1 := ⟨o - 1, by omega⟩
      refine ⟨xs, o', rfl, hc, ?_, rfl⟩
      rintro (q | q)
      · exact absurd h3 (Int32.not_le.mpr q)
      · omega
    next => cases h
  next => cases h
theorem sZ_of {w : XW} {o : Nat} {i x : Int32} {w' : XW} (h : sZ w o i x = some w') : ∃ xs o', o = o' + 1 ∧ w[o]? = some (.inr (1, xs)) ∧ vp_in i xs.length ∧ w' = w.set (o' + 1) (.inr (1, xs.set i.toNatClampNeg (x &&& 1))) := by
  unfold sZ at h
  split at h
  next t xs hc =>
    split at h
    next hh =>
      obtain ⟨rfl, h2, h3, h4⟩ := hh
      cases h
      obtain ⟨o', rfl⟩ : ∃ o', o = o' + 1 := ⟨o - 1, by omega⟩
      refine ⟨xs, o', rfl, hc, ?_, rfl⟩
      rintro (q | q)
      · exact absurd h3 (Int32.not_le.mpr q)
      · omega
    next => cases h
  next => cases h
theorem getD_set {xs : List Int32} {k : Nat} (h : k < xs.length) (x : Int32) : (fun j => (xs.set k x).getD j 0) = upd (fun j => xs.getD j 0) k x := by
  funext j
  simp only [upd, List.getD_eq_getElem?_getD, List.getElem?_set]
  by_cases hj : k = j
  · subst hj
    simp [h]
  · have hj' : ¬ j = k := fun q => hj q.symm
    simp [hj, hj']
theorem swi_of {pc : Nat} {d : Int} {x : Int32} {k : Nat → Option XO} {o : XO} : ∀ (ps : List (Int × Int)), (∀ q ∈ ps, -2147483648 ≤ q.1 ∧ q.1 < 2147483648) → swi pc d x k ps = some o → ∃ t : Nat, (pc : Int) + Op.lookupswitch.offset ps d x.toInt = (t : Int) ∧ k t = some o := by
  intro ps
  induction ps with
  | nil => intro _ h; exact tgo_of h
  | cons q r ih =>
    obtain ⟨a, f⟩ := q
    intro hb h
    have ha := hb (a, f) List.mem_cons_self
    have ht : (Int32.ofInt a).toInt = a := Int32.toInt_ofInt_of_le (by have := ha.1; simpa using this) (by have := ha.2; simpa using this)
    unfold swi at h
    rw [Op.lookupswitch.offset_cons]
    by_cases hx : x = Int32.ofInt a
    · rw [if_pos hx] at h
      rw [if_pos (by rw [hx, ht])]
      exact tgo_of h
    · rw [if_neg hx] at h
      rw [if_neg (fun z => hx (Int32.toInt_inj.mp (by rw [ht]; exact z.symm)))]
      exact ih (fun q hq => hb q (List.mem_cons_of_mem _ hq)) h
end IN
