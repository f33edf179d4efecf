section OK3
variable {p : Program} {l : Launch} {e : Env} {R : Room} {s : State} {m : MethodId} {args : Array Value} {below : List Frame} {meth : Method} {c : Code} {Q : State → Prop}
variable {D : va_G} {cA : Nat → ClassId} {base b nL d rz : Nat} {own : String} {ini : Bool} {cc : ByteArray} {w0 : XW} {o : XO}
set_option maxHeartbeats 4000000 in
theorem ok_iaload (A : ACT p l e R s m args below meth c Q D cA base b nL d rz own ini cc w0 o) {K : Kont} (hK : KS p l e R s m args below meth c Q D cA base b nL w0 o K)
    {pc : Nat} (hdg : decode cc pc = .ok (.iaload, 1)) {ls : XL} {r : List Value} {w : XW} {a : Nat} {i x : Int32} (hx1 : aI w a i = some x) (h : K (pc + 1) ls (.int x :: r) w = some o) :
    SND p l e R s m args below meth c Q D cA base b nL w0 o pc ls (.int i :: .ref a :: r) w := by
  obtain ⟨⟨hx, hb, hml, hown⟩, hts, ⟨-, hKK, ⟨xs, hx0, hX⟩, hN, -, hbb⟩, -, hbase, -⟩ := A
  obtain ⟨t, ys, ha, ht, hin, hv⟩ := aI_of hx1
  refine (hK _ _ _ _ h).step fun H locs cells slots LS hl hP hS h0 kk => ?_
  cases a with
  | zero =>
    rw [h0.trans hx0] at ha
    cases ha
    refine va_sld hx hb hX (by omega) (fun q => absurd q (by omega)) hS hin hdg ?_
    rw [hv]
    exact kk LS hl
  | succ a =>
    obtain rfl : t = 0 := by omega
    have he := xw_get (base := base) (b := b) (cA := cA) ha
    refine va_iald hx hb hKK hP a 0 he rfl hin hdg ?_
    rw [hv]
    exact kk LS hl
set_option maxHeartbeats 4000000 in
theorem ok_iastore (A : ACT p l e R s m args below meth c Q D cA base b nL d rz own ini cc w0 o) {K : Kont} (hK : KS p l e R s m args below meth c Q D cA base b nL w0 o K)
    {pc : Nat} (hdg : decode cc pc = .ok (.iastore, 1)) {ls : XL} {r : List Value} {w w' : XW} {a : Nat} {i x : Int32} (hx1 : sI w a i x = some w') (h : K (pc + 1) ls r w' = some o) :
    SND p l e R s m args below meth c Q D cA base b nL w0 o pc ls (.int x :: .int i :: .ref a :: r) w := by
  obtain ⟨⟨hx, hb, hml, hown⟩, hts, ⟨-, hKK, ⟨xs, hx0, hX⟩, hN, -, hbb⟩, -, hbase, -⟩ := A
  obtain ⟨ys, a', rfl, ha, hin, rfl⟩ := sI_of hx1
  obtain ⟨e1, e2, e3⟩ := xw_same (base := base) (b := b) (cA := cA) ha (c := .inr (0, ys.set i.toNatClampNeg x)) (by simp [xsz])
  refine (hK _ _ _ _ h).put e1 e2 e3 fun H locs cells slots LS hl hP hS h0 kk => ?_
  have he := xw_get (base := base) (b := b) (cA := cA) ha
  have hlt : i.toNatClampNeg < ys.length := Nat.not_le.mp fun q => hin (Or.inr q)
  refine va_iast hx hb hKK hP (xw_D w) hS a' 0 he rfl hin hdg fun H1 locs1 hP1 hD1 hS1 => kk H1 locs1 ?_ hS1
  rw [xw_set]
  simp only [xe, List.length_set, Nat.reduceBEq, cond_false]
  rw [getD_set hlt]
  exact hP1
set_option maxHeartbeats 4000000 in
theorem ok_alen (A : ACT p l e R s m args below meth c Q D cA base b nL d rz own ini cc w0 o) {K : Kont} (hK : KS p l e R s m args below meth c Q D cA base b nL w0 o K)
    {pc : Nat} (hdg : decode cc pc = .ok (.arraylength, 1)) {ls : XL} {r : List Value} {w : XW} {a : Nat} {x : Int32} (hx1 : aL w a = some x) (h : K (pc + 1) ls (.int x :: r) w = some o) :
    SND p l e R s m args below meth c Q D cA base b nL w0 o pc ls (.ref a :: r) w := by
  obtain ⟨⟨hx, hb, hml, hown⟩, hts, ⟨-, hKK, ⟨xs, hx0, hX⟩, hN, -, hbb⟩, -, hbase, -⟩ := A
  refine (hK _ _ _ _ h).step fun H locs cells slots LS hl hP hS h0 kk => ?_
  unfold aL at hx1
  split at hx1
  next t ys ha =>
    split at hx1
    next ht =>
      cases hx1
      cases a with
      | zero =>
        rw [h0.trans hx0] at ha
        cases ha
        exact va_slen (b := b) hx hb hX (by omega) (fun q => absurd q (by omega)) hS hdg (kk LS hl)
      | succ a =>
        have he := xw_get (base := base) (b := b) (cA := cA) ha
        rcases ht with rfl | ht
        · exact va_alen hx hb hKK hP a 0 he rfl rfl hdg (kk LS hl)
        · omega
    next => cases hx1
  next => cases hx1
/-- a new cell: where it stands -/
theorem new_at {H H1 : Heap} {w : XW} {q : Nat} {e1 : va_E} (hP : va_P D vwCl (xw base b cA w ++ [(q, e1)]) H1) (hD : va_D (fun q => base ≤ q) (xw base b cA w ++ [(q, e1)])) (hl : 0 < w.length) (hz : H1.size + 1 ≤ base + w.length + 1) : q = base + (w.length - 1) := by
  have hlen : (xw base b cA w).length = w.length - 1 := by simp [xw]
  have h1 : (xw base b cA w ++ [(q, e1)])[w.length - 1]? = some (q, e1) := by
    rw [List.getElem?_append_right (by omega), hlen]; simp
  have h2 := (hP _ _ h1).lt
  have h3 := hD.2 _ _ h1
  simp only at h2 h3
  by_cases hq : q < base + (w.length - 1)
  · obtain ⟨k, hk⟩ : ∃ k, q = base + k := ⟨q - base, by omega⟩
    have hw : w[k + 1]? = some (w[k + 1]'(by omega)) := List.getElem?_eq_getElem _
    have hg := xw_get (base := base) (b := b) (cA := cA) hw
    have h4 : (xw base b cA w ++ [(q, e1)])[k]? = some (base + k, xe base b cA (w[k + 1]'(by omega))) := by
      rw [List.getElem?_append_left (by omega)]; exact hg
    have := hD.1 _ _ _ _ h4 h1 hk.symm
    omega
  · omega
/-- a step that makes a cell -/
theorem SND.made {pc pc' : Nat} {ls : XL} {st st' : List Value} {w : XW} {cl : XC} (A : ACT p l e R s m args below meth c Q D cA base b nL d rz own ini cc w0 o) (h : SND p l e R s m args below meth c Q D cA base b nL w0 o pc' ls (.ref w.length :: st') (w ++ [cl])) (hw : 0 < w.length)
    (k : ∀ (H : Heap) (locs : List Loc) (cells slots : Nat) (LS : Array Slot), lv_has LS nL (xl base b ls) → va_P D vwCl (xw base b cA w) H → va_S (fun q => base ≤ q) s.heap H locs → cells + 1 ≤ R.cells → slots + xsz cl ≤ R.slots →
      (∀ q H1, va_P D vwCl (xw base b cA w ++ [(q, xe base b cA cl)]) H1 → va_D (fun q => base ≤ q) (xw base b cA w ++ [(q, xe base b cA cl)]) → va_S (fun q => base ≤ q) s.heap H1 locs → W p l e R s m args below meth c H1 locs (cells + 1) (slots + xsz cl) Q (F0 m pc' LS (.ref q :: st'.map (xv base b)))) →
      W p l e R s m args below meth c H locs cells slots Q (F0 m pc LS (st.map (xv base b)))) :
    SND p l e R s m args below meth c Q D cA base b nL w0 o pc ls st w := by
  obtain ⟨-, -, ⟨-, -, -, -, hsz, -⟩, -⟩ := A
  obtain ⟨h1, h2, h3, h4⟩ := h
  rw [List.length_append, List.length_singleton] at h1
  rw [gs_push] at h2
  refine ⟨by omega, by omega, h3.trans (by rw [List.getElem?_append_left hw]), fun H locs cells slots LS hl hP hS hz hc hs hr1 hr2 => ?_⟩
  refine k H locs cells slots LS hl hP hS (by omega) (by omega) fun q H1 hP1 hD1 hS1 => W.sized fun z1 z2 => ?_
  have hq := new_at hP1 hD1 hw (H := H) (by omega)
  subst hq
  have hkk := h4 H1 locs (cells + 1) (slots + xsz cl) LS hl (by rw [xw_push hw]; exact hP1) hS1 (by rw [List.getElem?_append_left hw]; exact hz) (by rw [List.length_append, List.length_singleton]; omega) (by rw [gs_push]; omega) hr1 hr2
  have hx : xa base b w.length = base + (w.length - 1) := by
    obtain ⟨n, hn⟩ : ∃ n, w.length = n + 1 := ⟨w.length - 1, by omega⟩
    rw [hn]; rfl
  rw [List.map_cons, xv, hx] at hkk
  exact hkk
end OK3
