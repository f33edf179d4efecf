theorem xw_same {base b : Nat} {cA : Nat → ClassId} {w : XW} {o' : Nat} {c0 c : XC} (h : w[o' + 1]? = some c0) (hs : xsz c0 = xsz c) : (w.set (o' + 1) c).length = w.length ∧ gs (w.set (o' + 1) c) = gs w ∧ (w.set (o' + 1) c)[0]? = w[0]? :=
  ⟨List.length_set, gs_set h hs, by rw [List.getElem?_set_ne (by omega)]⟩
section OK2
variable {p : Program} {l : Launch} {e : Env} {R : Room} {s : State} {m : MethodId} {args : Array Value} {below : List Frame} {meth : Method} {c : Code} {Q : State → Prop}
variable {D : va_G} {cA : Nat → ClassId} {base b nL d rz : Nat} {own : String} {ini : Bool} {cc : ByteArray} {w0 : XW} {o : XO}
set_option maxHeartbeats 4000000 in
theorem ok_getfield {fl : List (Nat × Nat × Nat × Nat)} (hfl : ∀ q ∈ fl, fOK own ini q) (A : ACT p l e R s m args below meth c Q D cA base b nL d rz own ini cc w0 o) {K : Kont} (hK : KS p l e R s m args below meth c Q D cA base b nL w0 o K)
    {pc i : Nat} (hdg : decode cc pc = .ok (.getfield i, 3)) {ls : XL} {st : List Value} {w : XW}
    (h : ((lk fl i).bind fun f => match st with
      | .ref o :: r => if f.2.2 < 10 then (gI w o f.1 f.2.1).bind (fun x => K (pc + 3) ls (.int x :: r) w) else (gR w o f.1 f.2.1).bind (fun x => K (pc + 3) ls (.ref x :: r) w)
      | _ => none) = some o) : SND p l e R s m args below meth c Q D cA base b nL w0 o pc ls st w := by
  obtain ⟨⟨hx, hb, hml, hown⟩, hts, ⟨-, hKK, ⟨xs, hx0, -⟩, hN, -⟩, -⟩ := A
  obtain ⟨⟨ci, k, fg⟩, hf, h⟩ := some_of h
  obtain ⟨C, T, N, ty, host, g1, g2, g3, g4, g5, g6, g7, -, -⟩ := hfl _ (lk_mem hf)
  dsimp only at h g1 g2 g6 g7
  have key : ∀ (a : Nat) (v : Value) (r : List Value) (fs : List Value), w[a]? = some (.inl (ci, fs)) → fs[k]? = some v → SND p l e R s m args below meth c Q D cA base b nL w0 o (pc + 3) ls (v :: r) w → SND p l e R s m args below meth c Q D cA base b nL w0 o pc ls (.ref a :: r) w := by
    intro a v r fs ha hv hS
    refine hS.step fun H locs cells slots LS hl hP hS h0 kk => ?_
    obtain ⟨a', rfl⟩ : ∃ a', a = a' + 1 := by
      cases a with
      | zero => rw [h0.trans hx0] at ha; cases ha
      | succ a => exact ⟨a, rfl⟩
    have he := xw_get (base := base) (b := b) (cA := cA) ha
    have hv' : (fs.map (xv base b))[k]? = some (xv base b v) := by rw [List.getElem?_map, hv]; rfl
    rcases g7 with g7 | g7
    · exact va_get hx hb hts g3 hown hKK hP a' he g1 k g2 (hts _ g7) (fun x hx => by rw [g6] at hx; exact hx) hv' hdg (kk LS hl)
    · exact va_getN hx hb hts g3 hown hKK hP a' he g1 k g2 (va_Nw.use rfl (hN _ g7)) (fun x hx => by rw [g6] at hx; exact hx) hv' hdg (kk LS hl)
  cases st with
  | nil => cases h
  | cons v r => cases v with
    | ref a =>
      dsimp only at h
      split at h
      next =>
        obtain ⟨z, hx1, h⟩ := some_of h
        obtain ⟨fs, ha, hv⟩ := gI_of hx1
        exact key a _ r fs ha hv (hK _ _ _ _ h)
      next =>
        obtain ⟨z, hx1, h⟩ := some_of h
        obtain ⟨fs, ha, hv⟩ := gR_of hx1
        exact key a _ r fs ha hv (hK _ _ _ _ h)
    | _ => cases h
set_option maxHeartbeats 4000000 in
theorem ok_putfield {fl : List (Nat × Nat × Nat × Nat)} (hfl : ∀ q ∈ fl, fOK own ini q) (A : ACT p l e R s m args below meth c Q D cA base b nL d rz own ini cc w0 o) {K : Kont} (hK : KS p l e R s m args below meth c Q D cA base b nL w0 o K)
    {pc i : Nat} (hdg : decode cc pc = .ok (.putfield i, 3)) {ls : XL} {st : List Value} {w : XW}
    (h : ((lk fl i).bind fun f => match st with
      | .int x :: .ref o :: r => if f.2.2 = 1 then (pF w o f.1 f.2.1 (.int x)).bind (fun w' => K (pc + 3) ls r w') else none
      | .ref x :: .ref o :: r => if f.2.2 = 12 then (pF w o f.1 f.2.1 (.ref x)).bind (fun w' => K (pc + 3) ls r w') else none
      | _ => none) = some o) : SND p l e R s m args below meth c Q D cA base b nL w0 o pc ls st w := by
  obtain ⟨⟨hx, hb, hml, hown⟩, hts, ⟨-, hKK, ⟨xs, hx0, -⟩, hN, -⟩, hini, -⟩ := A
  obtain ⟨⟨ci, k, fg⟩, hf, h⟩ := some_of h
  obtain ⟨C, T, N, ty, host, g1, g2, g3, g4, g5, g6, g7, g8, g9⟩ := hfl _ (lk_mem hf)
  dsimp only at h g1 g2 g6 g7 g8 g9
  cases st with
  | nil => cases h
  | cons v r => cases v with
    | int z => cases r with
      | nil => cases h
      | cons u r => cases u with
        | ref a =>
          dsimp only at h
          split at h
          next hfg =>
              obtain ⟨w', hw', h⟩ := some_of h
              obtain ⟨fs, a', ha, hk, rfl, rfl⟩ := pF_of hw'
              obtain ⟨g10, g11⟩ := g8 hfg
              obtain ⟨e1, e2, e3⟩ := xw_same (base := base) (b := b) (cA := cA) ha (c := .inl (ci, fs.set k (.int z))) (by simp [xsz])
              refine (hK _ _ _ _ h).put e1 e2 e3 fun H locs cells slots LS hl hP hS h0 kk => ?_
              have he := xw_get (base := base) (b := b) (cA := cA) ha
              have hset : xw base b cA (w.set (a' + 1) (.inl (ci, fs.set k (.int z)))) = (xw base b cA w).set a' (base + a', .inr (ci, (fs.map (xv base b)).set k (.int z))) := by
                rw [xw_set]; simp [xe, List.map_set, xv]
              have hk' : k < (fs.map (xv base b)).length := by simpa using hk
              rcases g7 with g7 | g7
              · exact va_put hx hb hts g3 ty g4 g5 hown hKK hP (xw_D w) hS a' he g1 k g2 (hts _ g7) (fun x hx => by rw [g6] at hx; exact hx) g10 (g4 k g2) (by rw [g11]; rfl) (by rw [g11]; rfl) hk' hdg (fun H1 locs1 hP1 hD1 hS1 => kk H1 locs1 (by rw [hset]; exact hP1) hS1)
              · exact va_putN hx hb hts g3 ty g4 g5 hown hKK hP (xw_D w) hS a' he g1 k g2 (va_Nw.use rfl (hN _ g7)) (fun x hx => by rw [g6] at hx; exact hx) g10 (g4 k g2) (by rw [g11]; rfl) (by rw [g11]; rfl) hk' hdg (fun H1 locs1 hP1 hD1 hS1 => kk H1 locs1 (by rw [hset]; exact hP1) hS1)
          next => cases h
        | _ => cases h
    | ref z => cases r with
      | nil => cases h
      | cons u r => cases u with
        | ref a =>
          dsimp only at h
          split at h
          next hfg =>
              obtain ⟨w', hw', h⟩ := some_of h
              obtain ⟨fs, a', ha, hk, rfl, rfl⟩ := pF_of hw'
              obtain ⟨g10, g11, g12, g13, g14⟩ := g9 hfg
              obtain ⟨e1, e2, e3⟩ := xw_same (base := base) (b := b) (cA := cA) ha (c := .inl (ci, fs.set k (.ref z))) (by simp [xsz])
              refine (hK _ _ _ _ h).put e1 e2 e3 fun H locs cells slots LS hl hP hS h0 kk => ?_
              have he := xw_get (base := base) (b := b) (cA := cA) ha
              have hset : xw base b cA (w.set (a' + 1) (.inl (ci, fs.set k (.ref z)))) = (xw base b cA w).set a' (base + a', .inr (ci, (fs.map (xv base b)).set k (.ref (xa base b z)))) := by
                rw [xw_set]; simp [xe, List.map_set, xv]
              have hk' : k < (fs.map (xv base b)).length := by simpa using hk
              have hn : narrow (ty k) (.ref (xa base b z)) = .ref (xa base b z) := by rcases g13 with ⟨n, q⟩ | ⟨n, q⟩ <;> rw [q] <;> rfl
              have hfit : fits (ty k) (.ref (xa base b z)) = true := by rcases g13 with ⟨n, q⟩ | ⟨n, q⟩ <;> rw [q] <;> rfl
              exact va_putF hx hb hts g3 ty g4 g5 hown hKK hP (xw_D w) hS a' he g1 k g2 (hts _ g14) (fun x hx => by rw [g6] at hx; exact hx) g10 (hini g12) (g6.trans g11.symm) (g4 k g2) hn hfit hk' hdg (fun H1 locs1 hP1 hD1 hS1 => kk H1 locs1 (by rw [hset]; exact hP1) hS1)
          next => cases h
        | _ => cases h
    | _ => cases h
end OK2
