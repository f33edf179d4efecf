section OK6
variable {p : Program} {l : Launch} {e : Env} {R : Room} {s : State} {m : MethodId} {args : Array Value} {below : List Frame} {meth : Method} {c : Code} {Q : State → Prop}
variable {D : va_G} {cA : Nat → ClassId} {base b nL d rz : Nat} {own : String} {ini : Bool} {cc : ByteArray} {w0 : XW} {o : XO}
theorem headX {st r : List Value} {n a : Nat} (h : (st.take (n + 1)).reverse = .ref a :: r) (hl : r.length = n) : st.take n = r.reverse ∧ st = r.reverse ++ .ref a :: st.drop (n + 1) := by
  have h5 := congrArg List.reverse h
  rw [List.reverse_reverse, List.reverse_cons] at h5
  have h6 := List.take_append_drop (n + 1) st
  rw [h5] at h6
  refine ⟨?_, by rw [List.append_assoc] at h6; exact h6.symm⟩
  have h7 : st.take n = (st.take (n + 1)).take n := by rw [List.take_take]; congr 1; omega
  rw [h7, h5, List.take_append_of_le_length (by rw [List.length_reverse, hl]; exact Nat.le_refl _), List.take_of_length_le (by rw [List.length_reverse, hl]; exact Nat.le_refl _)]
set_option maxHeartbeats 4000000 in
theorem ok_virtual {q : Nat × Nat × Nat × Orc} (hq : vOK l D cA base b d own q) (A : ACT p l e R s m args below meth c Q D cA base b nL d rz own ini cc w0 o) {K : Kont} (hK : KS p l e R s m args below meth c Q D cA base b nL w0 o K)
    {pc : Nat} (hdg : decode cc pc = .ok (.invokevirtual q.1, 3)) {ls : XL} {st : List Value} {w : XW}
    (h : callK q.2.1 q.2.2.1 q.2.2.2 (fun s w' => K (pc + 3) ls s w') st w = some o) : SND p l e R s m args below meth c Q D cA base b nL w0 o pc ls st w := by
  have A' := A
  obtain ⟨⟨hx, hb, hml, hown⟩, hts, ⟨-, hKK, ⟨xs, hx0, hX⟩, hN, -, hbb⟩, -, hbase, hrm, -⟩ := A
  obtain ⟨hne, y, bytes, maxL, ret, d', host, ci, T, N, n, hC, hd, hmx, hn1, hsh, hcl, g1, g2, g3, g4, g5, g6⟩ := hq
  obtain ⟨⟨h1, h1'⟩, h2, v, w', h3, h4⟩ := callK_of h
  obtain ⟨a, r, hr1, hr2, hr3⟩ := hsh _ _ _ h3
  rw [hn1] at hr1 h1 h2 h3 h4
  obtain ⟨-, hst⟩ := headX hr1 hr2
  rw [hr1] at h3
  refine SND.call (rest := st.drop (n + 1)) A' hC h3 (hK _ _ _ _ h4) fun H locs cells slots mc ms LS hl hP hXR hc hs hM => ?_
  have hobj : ∃ cellB : Cell, H[xa base b a]? = some cellB ∧ cellB.vm.isStatics = false ∧ s.vm.findClass y.cls = some cellB.cls := by
    unfold isO at hr3
    split at hr3
    next c1 fs ha =>
      have hci : c1 = ci := by simpa using hr3
      subst hci
      obtain ⟨a', rfl⟩ : ∃ a' : Nat, a = a' + 1 := by
        cases a with
        | zero =>
          obtain ⟨xs', hx', -⟩ := (hXR { s with heap := H } rfl (State.WarmedH.refl s)).2.2.1
          rw [hx'] at ha; cases ha
        | succ a => exact ⟨a, rfl⟩
      exact va_recv hKK hP hcl (xw_get (base := base) (b := b) (cA := cA) ha)
    next => cases hr3
  have hpre : PreV s H y.cls (xa base b a) (va_Pc ((Value.ref a :: r).map (xv base b)) (XR D cA base b w)) (r.map (xv base b)) := ⟨blindX, hobj, fun U hU hW => ⟨rfl, hXR U hU hW⟩⟩
  have hnl : (r.map (xv base b)).length = n := by rw [List.length_map]; exact hr2
  have hstk : st.map (xv base b) = (r.map (xv base b)).reverse ++ .ref (xa base b a) :: (st.drop (n + 1)).map (xv base b) := by
    conv => lhs; rw [hst]
    rw [List.map_append, List.map_reverse, List.map_cons]; rfl
  rcases g6 with g6 | g6
  · exact va_runV (Ts := tblG) (nL := nL) (n := n) (maxL := maxL) (ret := ret) (C := y.cls) ⟨hx, hb, hml, hown, hts⟩ hM ⟨⟨rfl, rfl, by show d' + 1 ≤ R.frames; omega, by show 8 + (maxL + 11) + 40 * d' ≤ R.locals; omega, wsX hts g1, List.mem_cons_self, hts _ g1, hts _ g2, ⟨g5.1, g5.2.1⟩, lenX g5, hts _ g6⟩, hts _ g3, hts _ g4⟩ hpre rfl hnl hl.1 hstk (roomX (h2 hne)) hdg ⟨hc, hs⟩
  · exact va_runVN (Ts := tblG) (nL := nL) (n := n) (maxL := maxL) (ret := ret) (C := y.cls) ⟨hx, hb, hml, hown, hts⟩ hM ⟨⟨⟨rfl, rfl, by show d' + 1 ≤ R.frames; omega, by show 8 + (maxL + 11) + 40 * d' ≤ R.locals; omega, wsX hts g1, List.mem_cons_self⟩, hts _ g1, hts _ g2, ⟨g5.1, g5.2.1⟩, lenX g5, va_Nw.use rfl (hN _ g6)⟩, hts _ g3, hts _ g4⟩ hpre rfl hnl hl.1 hstk (roomX (h2 hne)) hdg ⟨hc, hs⟩
set_option maxHeartbeats 4000000 in
theorem ok_special {q : Nat × Nat × Nat × Orc} (hq : iOK l D cA base b d own q) (A : ACT p l e R s m args below meth c Q D cA base b nL d rz own ini cc w0 o) {K : Kont} (hK : KS p l e R s m args below meth c Q D cA base b nL w0 o K)
    {pc : Nat} (hdg : decode cc pc = .ok (.invokespecial q.1, 3)) {ls : XL} {st : List Value} {w : XW}
    (h : callK q.2.1 q.2.2.1 q.2.2.2 (fun s w' => K (pc + 3) ls s w') st w = some o) : SND p l e R s m args below meth c Q D cA base b nL w0 o pc ls st w := by
  have A' := A
  obtain ⟨⟨hx, hb, hml, hown⟩, hts, ⟨-, hKK, ⟨xs, hx0, hX⟩, hN, -, hbb⟩, -, hbase, hrm, -⟩ := A
  rcases hq with ⟨hne, y, bytes, maxL, d', host, n, hC, hd, hmx, hn1, hsh, hy1, g1, g2, g3, g5, g6⟩ | ⟨g1, g2, g3, g4, g5, g6⟩
  · obtain ⟨⟨h1, h1'⟩, h2, v, w', h3, h4⟩ := callK_of h
    obtain ⟨a, r, hr1, hr2⟩ := hsh _ _ _ h3
    rw [hn1] at hr1 h1 h2 h3 h4
    obtain ⟨-, hst⟩ := headX hr1 hr2
    rw [hr1] at h3
    refine SND.call (rest := st.drop (n + 1)) A' hC h3 (hK _ _ _ _ h4) fun H locs cells slots mc ms LS hl hP hXR hc hs hM => ?_
    have hpre : PreS s H (va_Pc ((Value.ref a :: r).map (xv base b)) (XR D cA base b w)) (.ref (xa base b a) :: r.map (xv base b)) := ⟨blindX, fun U hU hW => ⟨rfl, hXR U hU hW⟩⟩
    have hnl : (r.map (xv base b)).length = n := by rw [List.length_map]; exact hr2
    have hstk : st.map (xv base b) = (r.map (xv base b)).reverse ++ .ref (xa base b a) :: (st.drop (n + 1)).map (xv base b) := by
      conv => lhs; rw [hst]
      rw [List.map_append, List.map_reverse, List.map_cons]; rfl
    rcases g6 with g6 | g6
    · exact va_runI (Ts := tblG) (nL := nL) (n := n) (maxL := maxL) ⟨hx, hb, hml, hown, hts⟩ hM ⟨⟨rfl, rfl, by show d' + 1 ≤ R.frames; omega, by show 8 + (maxL + 11) + 40 * d' ≤ R.locals; omega, wsX hts g1, List.mem_cons_self, hts _ g1, hts _ g2, ⟨g5.1, g5.2.1⟩, lenX g5, hts _ g6⟩, hy1, hts _ g3⟩ hpre rfl hnl hl.1 hstk (roomX (h2 hne)) hdg ⟨hc, hs⟩
    · exact va_runIN (Ts := tblG) (nL := nL) (n := n) (maxL := maxL) ⟨hx, hb, hml, hown, hts⟩ hM ⟨⟨⟨rfl, rfl, by show d' + 1 ≤ R.frames; omega, by show 8 + (maxL + 11) + 40 * d' ≤ R.locals; omega, wsX hts g1, List.mem_cons_self⟩, hts _ g1, hts _ g2, ⟨g5.1, g5.2.1⟩, lenX g5, va_Nw.use rfl (hN _ g6)⟩, hy1, hts _ g3⟩ hpre rfl hnl hl.1 hstk (roomX (h2 hne)) hdg ⟨hc, hs⟩
  · obtain ⟨⟨h1, h1'⟩, h2, v, w', h3, h4⟩ := callK_of h
    rw [g1] at h1 h2 h3 h4
    rw [g3] at h3
    unfold oInit at h3
    split at h3
    next as a heq =>
      cases h3
      have hst : st = .ref a :: st.drop 1 := by
        have h5 := congrArg List.reverse heq
        rw [List.reverse_reverse] at h5
        have h6 := List.take_append_drop 1 st
        rw [h5] at h6
        exact h6.symm
      refine (hK _ _ _ _ h4).step fun H locs cells slots LS hl hP hS h0 kk => ?_
      have hstk : st.map (xv base b) = .ref (xa base b a) :: (st.drop 1).map (xv base b) := by
        conv => lhs; rw [hst]
        rfl
      refine W.objInit hx hb hown (hts _ g4) (hts _ g5) (hts _ g6) rfl (hl.1.trans hml.symm) hstk hdg (by omega) ?_ (kk LS hl)
      rw [xv_sum]
      have := cat_le (st.drop 1)
      show 2 * 0 + _ + 12 ≤ _
      omega
    next => cases h3
/-- the end of a method -/
theorem ok_ret (A : ACT p l e R s m args below meth c Q D cA base b nL d rz own ini cc w0 o) {pc : Nat} {ls : XL} {v : Option Value} {w : XW} (ho : o = (v, w))
    (hv : rOK cc rz pc v) : SND p l e R s m args below meth c Q D cA base b nL w0 o pc ls v.toList w := by
  subst ho
  obtain ⟨-, -, -, -, -, -, hret⟩ := A
  refine ⟨Nat.le_refl _, Nat.le_refl _, rfl, fun H locs cells slots LS hl hP hS h0 hc hs hr1 hr2 => ?_⟩
  have h := hret H locs cells slots LS pc hP hS h0 hc hs hr1 hr2 hv
  have e1 : v.toList.map (xv base b) = (v.map (xv base b)).toList := by cases v <;> rfl
  rw [e1]
  exact h
set_option maxHeartbeats 4000000 in
/-- every operation stands for the machine's -/
theorem opK_ok {fl : List (Nat × Nat × Nat × Nat)} {nl : List (Nat × Nat × List Value)} {kl : List (Nat × Int32)} {k2 : List (Nat × Int64)} {mv ms mi : List (Nat × Nat × Nat × Orc)}
    (hI : Jvm.Cond.arrayClass .int ∈ tblG)
    (hfl : ∀ q ∈ fl, fOK own ini q) (hnl : ∀ q ∈ nl, nOK own q) (hkl : ∀ q ∈ kl, Jvm.Cond.constant own q.1 q.2 ∈ tblG) (hk2 : ∀ q ∈ k2, Jvm.Cond.constantLong own q.1 q.2 ∈ tblG)
    (hmv : ∀ q ∈ mv, vOK l D cA base b d own q) (hms : ∀ q ∈ ms, sOK l D cA base b d own q) (hmi : ∀ q ∈ mi, iOK l D cA base b d own q)
    (A : ACT p l e R s m args below meth c Q D cA base b nL d rz own ini cc w0 o) {K : Kont} (hK : KS p l e R s m args below meth c Q D cA base b nL w0 o K)
    {pc : Nat} {ins : Instr} {len : Nat} (hdg : decode cc pc = .ok (ins, len)) (hat : okAt pc ins len = true) {ls : XL} {st : List Value} {w : XW}
    (h : opK nL rz fl nl kl k2 mv ms mi pc K ls st w ins = some o) : SND p l e R s m args below meth c Q D cA base b nL w0 o pc ls st w := by
  have hlen := (Bool.and_eq_true_iff.mp hat).1
  cases ins <;> first | exact opK_plain hkl hk2 A hK hdg hat trivial h | skip
  case getfield i =>
    obtain rfl : len = 3 := by simpa [okLen] using hlen
    exact ok_getfield hfl A hK hdg h
  case putfield i =>
    obtain rfl : len = 3 := by simpa [okLen] using hlen
    exact ok_putfield hfl A hK hdg h
  case iaload =>
    obtain rfl : len = 1 := by simpa [okLen] using hlen
    simp only [opK] at h
    split at h
    next => obtain ⟨v, hv, h⟩ := some_of h; exact ok_iaload A hK hdg hv h
    next => cases h
  case iastore =>
    obtain rfl : len = 1 := by simpa [okLen] using hlen
    simp only [opK] at h
    split at h
    next => obtain ⟨v, hv, h⟩ := some_of h; exact ok_iastore A hK hdg hv h
    next => cases h
  case arraylength =>
    obtain rfl : len = 1 := by simpa [okLen] using hlen
    simp only [opK] at h
    split at h
    next => obtain ⟨v, hv, h⟩ := some_of h; exact ok_alen A hK hdg hv h
    next => cases h
  case newarray t =>
    obtain rfl : len = 2 := by simpa [okLen] using hlen
    simp only [opK] at h
    split at h
    next =>
      split at h
      next =>
        split at h
        next hh => exact ok_newarray hI A hK hdg hh.1 hh.2.1 hh.2.2 ⟨rfl, rfl⟩ h
        next => cases h
      next => cases h
    next => cases h
  case aaload =>
    obtain rfl : len = 1 := by simpa [okLen] using hlen
    simp only [opK] at h
    split at h
    next => obtain ⟨v, hv, h⟩ := some_of h; exact ok_aaload A hK hdg hv h
    next => cases h
  case multianewarray i dd =>
    obtain rfl : len = 4 := by simpa [okLen] using hlen
    simp only [opK] at h
    obtain ⟨⟨ci, fs⟩, hf, h5⟩ := some_of h
    have hz : (ci == 99 && dd == 2) = true := by
      cases hz : (ci == 99 && dd == 2) with
      | true => rfl
      | false => dsimp only at h5; rw [hz] at h5; cases h5
    dsimp only at h5
    rw [hz, cond_true] at h5
    obtain ⟨z1, z2⟩ := Bool.and_eq_true_iff.mp hz
    have z1 := eq_of_beq z1
    have z2 := eq_of_beq z2
    subst z1 z2
    split at h5
    next =>
      split at h5
      next hh =>
        rcases hnl _ (lk_mem hf) with ⟨-, g1, g2⟩ | ⟨C, T, N, ty, g1, -⟩
        · exact ok_multi hI g2 g1 A hK hdg hh.1 hh.2.1 hh.2.2.1 hh.2.2.2.1 hh.2.2.2.2.1 hh.2.2.2.2.2 h5
        · exact absurd g1 (by simp [vwCl])
      next => cases h5
    next => cases h5
  case new i =>
    obtain rfl : len = 3 := by simpa [okLen] using hlen
    exact ok_new hnl A hK hdg h
  case invokevirtual i =>
    obtain rfl : len = 3 := by simpa [okLen] using hlen
    obtain ⟨f, hf, h⟩ := some_of h
    exact ok_virtual (q := (i, f)) (hmv _ (lk_mem hf)) A hK hdg h
  case invokestatic i =>
    obtain rfl : len = 3 := by simpa [okLen] using hlen
    obtain ⟨f, hf, h⟩ := some_of h
    exact ok_static (q := (i, f)) (hms _ (lk_mem hf)) A hK hdg h
  case invokespecial i =>
    obtain rfl : len = 3 := by simpa [okLen] using hlen
    obtain ⟨f, hf, h⟩ := some_of h
    exact ok_special (q := (i, f)) (hmi _ (lk_mem hf)) A hK hdg h
  case ireturn =>
    obtain rfl : len = 1 := by simpa [okLen] using hlen
    simp only [opK] at h
    split at h
    next =>
      split at h
      next hz => cases h; exact ok_ret (v := some (.int _)) A rfl ⟨hdg, Or.inl hz⟩
      next =>
        split at h
        next hz =>
          unfold retZ at h
          split at h
          next hx => subst hx; cases h; exact ok_ret (v := some (.int 0)) A rfl ⟨hdg, Or.inr ⟨hz, Or.inl rfl⟩⟩
          next =>
            split at h
            next hx => subst hx; cases h; exact ok_ret (v := some (.int 1)) A rfl ⟨hdg, Or.inr ⟨hz, Or.inr rfl⟩⟩
            next => cases h
        next => cases h
    next => cases h
  case lreturn =>
    obtain rfl : len = 1 := by simpa [okLen] using hlen
    simp only [opK] at h
    split at h
    next =>
      split at h
      next hz => cases h; exact ok_ret (v := some (.long _)) A rfl ⟨hdg, hz⟩
      next => cases h
    next => cases h
  case return_ =>
    obtain rfl : len = 1 := by simpa [okLen] using hlen
    simp only [opK] at h
    split at h
    next =>
      split at h
      next hz => cases h; exact ok_ret (v := none) A rfl ⟨hdg, hz⟩
      next => cases h
    next => cases h
  case tableswitch d lo hi offs =>
    simp only [opK] at h
    split at h
    next =>
      split at h
      next hh => exact ok_tsw A hK hdg hh.1 hh.2.1 hh.2.2 h
      next => cases h
    next => cases h
  case lookupswitch d ps =>
    simp only [opK] at h
    split at h
    next =>
      split at h
      next hh => exact ok_lsw A hK hdg hh h
      next => cases h
    next => cases h
end OK6
