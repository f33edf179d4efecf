theorem callK_of {n rk : Nat} {F : Orc} {k : List Value → XW → Option XO} {st : List Value} {w : XW} {o : XO} (h : callK n rk F k st w = some o) :
    (n ≤ st.length ∧ (st.drop n).length ≤ 8) ∧ (rk ≠ 3 → (st.drop n).length ≤ 4) ∧ ∃ v w', F (st.take n).reverse w = some (v, w') ∧ k (v.toList ++ st.drop n) w' = some o := by
  unfold callK at h
  split at h
  next hh =>
    refine ⟨⟨hh.1, hh.2.1⟩, fun q => hh.2.2.resolve_right q, ?_⟩
    split at h
    next => obtain ⟨v, w', h1, h2⟩ := cI_of h; exact ⟨_, w', h1, h2⟩
    next =>
      split at h
      next => obtain ⟨v, w', h1, h2⟩ := cL_of h; exact ⟨_, w', h1, h2⟩
      next => obtain ⟨w', h1, h2⟩ := cV_of h; exact ⟨_, w', h1, h2⟩
  next => cases h
section OK5
variable {p : Program} {l : Launch} {e : Env} {R : Room} {s : State} {m : MethodId} {args : Array Value} {below : List Frame} {meth : Method} {c : Code} {Q : State → Prop}
variable {D : va_G} {cA : Nat → ClassId} {base b nL d rz : Nat} {own : String} {ini : Bool} {cc : ByteArray} {w0 : XW} {o : XO}
theorem blindX {av : List Value} {w : XW} : FrameBlind (va_Pc av (XR D cA base b w)) := by
  intro a U g mk h
  obtain ⟨h1, h2, h3, h4, h5, h6⟩ := h
  refine ⟨h1, h2, va_K.moved (u := U) (U := U.calling g mk a) (Vm.Alike.refl U.vm) h3, ?_, fun n hn => ?_, h6⟩
  · obtain ⟨xs, g1, g2⟩ := h4
    exact ⟨xs, g1, va_X.moved (u := U) (U := U.calling g mk a) (Vm.Alike.refl U.vm) g2⟩
  · have h7 := h5 n hn
    have h8 := (List.mem_filter.mp hn).2
    cases n <;> first | exact va_Nw.same rfl (u := U) (U := U.calling g mk a) rfl h7 | exact h7 | cases h8
theorem wsX (hts : ∀ w ∈ tblG, w.before args s = true) {y : MethodName} {bytes : ByteArray} {maxL : Nat} {ret : Option FieldType} (hc : Jvm.Cond.code y bytes maxL ret ∈ tblG) :
    ∀ w ∈ (Jvm.Cond.code y bytes maxL ret :: tblG), ∀ (a' : Array Value) (U : State), s.WarmedH U.vm → w.before a' U = true := by
  intro w hw a' U hW
  rcases List.mem_cons.mp hw with rfl | hw
  · exact word_at hW (tblG_good hc) (hts _ hc)
  · exact word_at hW (tblG_good hw) (hts _ hw)
theorem lenX {y : MethodName} {n : Nat} (h : pl3 y n) : ∀ sig, parseMethodDescriptor y.desc = some sig → n = sig.parameters.length := by
  intro sig hs
  have h2 := h.2.2
  rw [hs] at h2
  exact (Option.some.inj h2).symm
theorem roomX {m : MethodId} {pc : Nat} {LS : Array Slot} {stk : List Value} {rest : List Value} (h : rest.length ≤ 4) : 2 * (F0 m pc LS stk).monitorRoom + ((rest.map (xv base b)).map fun v => v.category).sum ≤ 8 := by
  rw [xv_sum]
  have := cat_le rest
  show 2 * 0 + _ ≤ 8
  omega
theorem splitX {st : List Value} {n : Nat} : st.map (xv base b) = (((st.take n).reverse).map (xv base b)).reverse ++ (st.drop n).map (xv base b) := by
  rw [← List.map_reverse, List.reverse_reverse, ← List.map_append, List.take_append_drop]
set_option maxHeartbeats 4000000 in
theorem ok_static {q : Nat × Nat × Nat × Orc} (hq : sOK l D cA base b d own q) (A : ACT p l e R s m args below meth c Q D cA base b nL d rz own ini cc w0 o) {K : Kont} (hK : KS p l e R s m args below meth c Q D cA base b nL w0 o K)
    {pc : Nat} (hdg : decode cc pc = .ok (.invokestatic q.1, 3)) {ls : XL} {st : List Value} {w : XW}
    (h : callK q.2.1 q.2.2.1 q.2.2.2 (fun s w' => K (pc + 3) ls s w') st w = some o) : SND p l e R s m args below meth c Q D cA base b nL w0 o pc ls st w := by
  have A' := A
  obtain ⟨⟨hx, hb, hml, hown⟩, hts, ⟨-, hKK, ⟨xs, hx0, hX⟩, hN, -, hbb⟩, -, hbase, hrm, -⟩ := A
  rcases hq with ⟨hne, y, bytes, maxL, ret, d', host, hC, hd, hmx, g1, g2, g3, g4, g5⟩ | ⟨g1, g2, g3, g4, g5, g6, g7⟩ | ⟨g1, g2, g3, g4, g5, g6, g7⟩ | ⟨g1, g2, g3, g4, g5, g6, g7⟩
  · obtain ⟨⟨h1, h1'⟩, h2, v, w', h3, h4⟩ := callK_of h
    refine SND.call A' hC h3 (hK _ _ _ _ h4) fun H locs cells slots mc ms LS hl hP hXR hc hs hM => ?_
    have hn : (((st.take q.2.1).reverse).map (xv base b)).length = q.2.1 := by simp; omega
    have hpre : PreS s H (va_Pc (((st.take q.2.1).reverse).map (xv base b)) (XR D cA base b w)) (((st.take q.2.1).reverse).map (xv base b)) := ⟨blindX, fun U hU hW => ⟨rfl, hXR U hU hW⟩⟩
    rcases g5 with g5 | g5
    · exact va_runS (Ts := tblG) (nL := nL) (n := q.2.1) (maxL := maxL) (ret := ret) ⟨hx, hb, hml, hown, hts⟩ hM ⟨⟨rfl, rfl, by show d' + 1 ≤ R.frames; omega, by show 8 + (maxL + 11) + 40 * d' ≤ R.locals; omega, wsX hts g1, List.mem_cons_self, hts _ g1, hts _ g2, ⟨g4.1, g4.2.1⟩, lenX g4, hts _ g5⟩, hts _ g3⟩ hpre rfl hn hl.1 splitX (roomX (h2 hne)) hdg ⟨hc, hs⟩
    · exact va_runSN (Ts := tblG) (nL := nL) (n := q.2.1) (maxL := maxL) (ret := ret) ⟨hx, hb, hml, hown, hts⟩ hM ⟨⟨⟨rfl, rfl, by show d' + 1 ≤ R.frames; omega, by show 8 + (maxL + 11) + 40 * d' ≤ R.locals; omega, wsX hts g1, List.mem_cons_self⟩, hts _ g1, hts _ g2, ⟨g4.1, g4.2.1⟩, lenX g4, va_Nw.use rfl (hN _ g5)⟩, hts _ g3, trivial⟩ hpre rfl hn hl.1 splitX (roomX (h2 hne)) hdg ⟨hc, hs⟩
  · obtain ⟨⟨h1, h1'⟩, h2, v, w', h3, h4⟩ := callK_of h
    rw [g3] at h3
    unfold oCopy at h3
    split at h3
    next as a i a2 j n heq =>
      have hst : st = .int n :: .int j :: .ref a2 :: .int i :: .ref a :: st.drop q.2.1 := by
        have h5 := congrArg List.reverse heq
        rw [List.reverse_reverse] at h5
        have h6 := List.take_append_drop q.2.1 st
        rw [h5] at h6
        exact h6.symm
      cases hsc : sC w a i a2 j n with
      | none => rw [hsc] at h3; cases h3
      | some w1 =>
        rw [hsc] at h3
        cases h3
        unfold sC at hsc
        split at hsc
        next t xs1 t2 ys ha ha2 =>
          split at hsc
          next hh =>
            obtain ⟨rfl, rfl, q1, q2, q3, q4, q5, q6, q7⟩ := hh
            cases hsc
            obtain ⟨a, rfl⟩ : ∃ a' : Nat, a = a' + 1 := ⟨a - 1, (Nat.sub_one_add_one q1).symm⟩
            obtain ⟨a2, rfl⟩ : ∃ a' : Nat, a2 = a' + 1 := ⟨a2 - 1, (Nat.sub_one_add_one q2).symm⟩
            have hzl : (ys.take j.toNatClampNeg ++ ((xs1.drop i.toNatClampNeg).take n.toNatClampNeg ++ ys.drop (j.toNatClampNeg + n.toNatClampNeg))).length = ys.length := by
              simp only [List.length_append, List.length_take, List.length_drop]; omega
            obtain ⟨e1, e2, e3⟩ := xw_same (base := base) (b := b) (cA := cA) ha2 (c := .inr (0, ys.take j.toNatClampNeg ++ ((xs1.drop i.toNatClampNeg).take n.toNatClampNeg ++ ys.drop (j.toNatClampNeg + n.toNatClampNeg)))) hzl.symm
            refine (hK _ _ _ _ h4).put e1 e2 e3 fun H locs cells slots LS hl hP hS h0 kk => ?_
            have he := xw_get (base := base) (b := b) (cA := cA) ha
            have he2 := xw_get (base := base) (b := b) (cA := cA) ha2
            rw [hst]
            refine va_copyi (s := s) hx hb (hml.trans hl.1.symm) hown (hts _ g4) (hts _ g5) (hts _ g6) (hts _ g7) hKK hP (xw_D w) hS a a2 0 0 he he2 rfl rfl rfl (i_nn q3) (i_nn q4) (i_nn q5) q6 q7 (fun _ _ => rfl) (by omega) ?_ hdg fun H1 locs1 hP1 hD1 hS1 => kk H1 locs1 ?_ hS1
            · rw [xv_sum]
              have := cat_le (st.drop q.2.1)
              have h7 : nativeFrameWords "java/lang/System" "arraycopy" 5 = 7 := by decide +kernel
              rw [h7]
              omega
            · rw [xw_set]
              simp only [xe, Nat.reduceBEq, cond_false]
              rw [hzl]
              have hf : (fun k => (ys.take j.toNatClampNeg ++ ((xs1.drop i.toNatClampNeg).take n.toNatClampNeg ++ ys.drop (j.toNatClampNeg + n.toNatClampNeg))).getD k 0) = va_cpy (fun k => xs1.getD k 0) (fun k => ys.getD k 0) i.toNatClampNeg j.toNatClampNeg n.toNatClampNeg := by
                funext k
                simp only [va_cpy, List.getD_eq_getElem?_getD]
                by_cases h8 : k < j.toNatClampNeg
                · rw [List.getElem?_append_left (by simp only [List.length_take]; omega), List.getElem?_take, if_pos h8, if_neg (by omega)]
                · rw [List.getElem?_append_right (by simp only [List.length_take]; omega)]
                  have h9 : (List.take j.toNatClampNeg ys).length = j.toNatClampNeg := by rw [List.length_take]; omega
                  rw [h9]
                  have h10 : (List.take n.toNatClampNeg (List.drop i.toNatClampNeg xs1)).length = n.toNatClampNeg := by rw [List.length_take, List.length_drop]; omega
                  by_cases h11 : k < j.toNatClampNeg + n.toNatClampNeg
                  · rw [List.getElem?_append_left (by omega), List.getElem?_take, if_pos (by omega), List.getElem?_drop, if_pos (by omega)]
                  · rw [List.getElem?_append_right (by omega), h10, List.getElem?_drop, if_neg (by omega), show j.toNatClampNeg + n.toNatClampNeg + (k - j.toNatClampNeg - n.toNatClampNeg) = k by omega]
              rw [hf]
              exact hP1
          next => cases hsc
        next => cases hsc
    next => cases h3
  · obtain ⟨⟨h1, h1'⟩, h2, v, w', h3, h4⟩ := callK_of h
    rw [g3] at h3
    unfold oMax at h3
    split at h3
    next as a1 a2 heq =>
      have hst : st = .int a2 :: .int a1 :: st.drop q.2.1 := by
        have h5 := congrArg List.reverse heq
        rw [List.reverse_reverse] at h5
        have h6 := List.take_append_drop q.2.1 st
        rw [h5] at h6
        exact h6.symm
      cases h3
      obtain ⟨k1, k2, k3, k4⟩ := hK _ _ _ _ h4
      refine ⟨k1, k2, k3, fun H locs cells slots LS hl hP hS h0 hc hs hr1 hr2 => ?_⟩
      rw [hst]
      refine va_mmax (s := s) hx hb (hml.trans hl.1.symm) hown (hts _ g4) (hts _ g5) (hts _ g6) (hts _ g7) (by omega) ?_ (by omega) (by omega) hdg (k4 H locs cells slots LS hl hP hS h0 hc hs hr1 hr2)
      rw [xv_sum]
      have := cat_le (st.drop q.2.1)
      omega
    next => cases h3
  · obtain ⟨⟨h1, h1'⟩, h2, v, w', h3, h4⟩ := callK_of h
    rw [g3] at h3
    unfold oMin at h3
    split at h3
    next as a1 a2 heq =>
      have hst : st = .int a2 :: .int a1 :: st.drop q.2.1 := by
        have h5 := congrArg List.reverse heq
        rw [List.reverse_reverse] at h5
        have h6 := List.take_append_drop q.2.1 st
        rw [h5] at h6
        exact h6.symm
      cases h3
      obtain ⟨k1, k2, k3, k4⟩ := hK _ _ _ _ h4
      refine ⟨k1, k2, k3, fun H locs cells slots LS hl hP hS h0 hc hs hr1 hr2 => ?_⟩
      rw [hst]
      refine va_mmin (s := s) hx hb (hml.trans hl.1.symm) hown (hts _ g4) (hts _ g5) (hts _ g6) (hts _ g7) (by omega) ?_ (by omega) (by omega) hdg (k4 H locs cells slots LS hl hP hS h0 hc hs hr1 hr2)
      rw [xv_sum]
      have := cat_le (st.drop q.2.1)
      omega
    next => cases h3
end OK5
