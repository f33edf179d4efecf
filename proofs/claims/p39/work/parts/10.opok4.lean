section OK4
variable {p : Program} {l : Launch} {e : Env} {R : Room} {s : State} {m : MethodId} {args : Array Value} {below : List Frame} {meth : Method} {c : Code} {Q : State → Prop}
variable {D : va_G} {cA : Nat → ClassId} {base b nL d rz : Nat} {own : String} {ini : Bool} {cc : ByteArray} {w0 : XW} {o : XO}
theorem i_nn {n : Int32} (h : 0 ≤ n) : ¬ n < 0 := Int32.not_lt.mpr h
theorem i_small {n : Int32} (h : n ≤ 1000) : n.toNatClampNeg ≤ 1000 := by
  have h1 : n.toInt ≤ 1000 := by simpa using Int32.le_iff_toInt_le.mp h
  show n.toInt.toNat ≤ 1000
  omega
set_option maxHeartbeats 4000000 in
theorem ok_newarray (hI : Jvm.Cond.arrayClass .int ∈ tblG) (A : ACT p l e R s m args below meth c Q D cA base b nL d rz own ini cc w0 o) {K : Kont} (hK : KS p l e R s m args below meth c Q D cA base b nL w0 o K)
    {pc : Nat} {t : ArrayType} (hdg : decode cc pc = .ok (.newarray t, 2)) {ls : XL} {r : List Value} {w : XW} {n : Int32} (h1 : 0 ≤ n) (h2 : n ≤ 1000) (hw : 0 < w.length) {k : Nat} (ht : t = .int ∧ k = 0)
    (h : K (pc + 2) ls (.ref w.length :: r) (w ++ [.inr (k, List.replicate n.toNatClampNeg 0)]) = some o) :
    SND p l e R s m args below meth c Q D cA base b nL w0 o pc ls (.int n :: r) w := by
  refine SND.made A (hK _ _ _ _ h) hw fun H locs cells slots LS hl hP hS hc hs kk => ?_
  obtain ⟨⟨hx, hb, hml, hown⟩, hts, ⟨-, hKK, ⟨xs, hx0, hX⟩, hN, -, hbb⟩, -, hbase, -⟩ := A
  have hN' := i_small h2
  have hsz : xsz (.inr (k, List.replicate n.toNatClampNeg 0)) = n.toNatClampNeg := by simp [xsz]
  rw [hsz] at hs kk
  have hk3 : (k == 3) = false := by rw [ht.2]; rfl
  have hxe : xe base b cA (.inr (k, List.replicate n.toNatClampNeg 0)) = .inl (cA k, n.toNatClampNeg, .inl (fun _ => 0)) := by
    simp only [xe, hk3, cond_false, List.length_replicate]
    congr 3
    refine congrArg Sum.inl ?_
    funext j
    simp only [List.getD_eq_getElem?_getD, List.getElem?_replicate]
    split <;> rfl
  rw [hxe] at kk
  have hA' : ∀ q : Nat, s.heap.size ≤ q → base ≤ q := fun q hq => Nat.le_trans hbase hq
  obtain ⟨rfl, rfl⟩ := ht
  · refine va_newa (atype := .int) (a0 := (n.toNatClampNeg, .inl (fun _ => 0))) hx hb (hts _ hI) rfl hKK hP (xw_D w) hS hA' (fun cA => rfl) (i_nn h1) rfl (by show n.toNatClampNeg * 4 ≤ 536870912; omega) hc hs hdg fun q cA' H1 hK1 hP1 hD1 hS1 => ?_
    have e1 := (hK1.2 2 _ rfl).2
    have e2 := (hKK.2 0 _ rfl).2
    have : cA' = cA 0 := Option.some.inj (e1.symm.trans e2)
    subst this
    exact kk q H1 hP1 hD1 hS1
set_option maxHeartbeats 4000000 in
theorem ok_new {nl : List (Nat × Nat × List Value)} (hnl : ∀ q ∈ nl, nOK own q) (A : ACT p l e R s m args below meth c Q D cA base b nL d rz own ini cc w0 o) {K : Kont} (hK : KS p l e R s m args below meth c Q D cA base b nL w0 o K)
    {pc i : Nat} (hdg : decode cc pc = .ok (.new i, 3)) {ls : XL} {st : List Value} {w : XW}
    (h : ((lk nl i).bind fun f => if 0 < w.length then (bif f.1 == 99 then none else K (pc + 3) ls (.ref w.length :: st) (w ++ [.inl (f.1, f.2)])) else none) = some o) :
    SND p l e R s m args below meth c Q D cA base b nL w0 o pc ls st w := by
  obtain ⟨⟨ci, fs⟩, hf, h⟩ := some_of h
  split at h
  next hw =>
    have hci : (ci == 99) = false := by
      cases hz : ci == 99 with
      | false => rfl
      | true => dsimp only at h; rw [hz] at h; cases h
    dsimp only at h
    rw [hci, cond_false] at h
    refine SND.made A (hK _ _ _ _ h) hw fun H locs cells slots LS hl hP hS hc hs kk => ?_
    obtain ⟨⟨hx, hb, hml, hown⟩, hts, ⟨-, hKK, ⟨xs, hx0, hX⟩, hN, -, hbb⟩, -, hbase, -⟩ := A
    have hq := hnl _ (lk_mem hf)
    rcases hq with ⟨g0, -⟩ | ⟨C, T, N, ty, g1, g2, g3, g4, g5, g6, g7, g8, g9⟩
    · have g0 : ci = 99 := g0
      subst g0
      cases hci
    dsimp only at g1 g7 g8 g9
    have hsz : xsz (.inl (ci, fs)) = N := g7
    try dsimp only at hs kk
    rw [hsz] at hs kk
    have hxe : xe base b cA (.inl (ci, fs)) = .inr (ci, fs) := by
      simp only [xe]
      congr 2
      refine (List.map_congr_left fun v hv => ?_).trans (List.map_id _)
      rcases g9 v hv with rfl | rfl <;> rfl
    rw [hxe] at kk
    exact va_new hx hb hts g2 ty g3 hown (hts _ g4) (hts _ g5) (hts _ g6) hKK hP (xw_D w) hS (fun q hq => Nat.le_trans hbase hq) g1 g8 hc hs hdg fun q H1 hP1 hD1 hS1 => kk q H1 hP1 hD1 hS1
  next => cases h
set_option maxHeartbeats 4000000 in
theorem ok_tsw (A : ACT p l e R s m args below meth c Q D cA base b nL d rz own ini cc w0 o) {K : Kont} (hK : KS p l e R s m args below meth c Q D cA base b nL w0 o K)
    {pc len : Nat} {dflt lo hi : Int} {offs : Array Int} (hdg : decode cc pc = .ok (.tableswitch dflt lo hi offs, len)) {ls : XL} {r : List Value} {w : XW} {z : Int32}
    (h1 : hi = lo + (offs.size : Int) - 1) (h2 : -2147483648 ≤ lo) (h3 : hi < 2147483648) (h : swi pc dflt z (fun t => K t ls r w) (offs.toList.mapIdx fun i o => (lo + (i : Int), o)) = some o) :
    SND p l e R s m args below meth c Q D cA base b nL w0 o pc ls (.int z :: r) w := by
  obtain ⟨⟨hx, hb, hml, hown⟩, hts, -⟩ := A
  have hps : ∀ q ∈ (offs.toList.mapIdx fun i o => (lo + (i : Int), o)), -2147483648 ≤ q.1 ∧ q.1 < 2147483648 := by
    intro q hq
    obtain ⟨k, hk⟩ := List.getElem?_of_mem hq
    rw [List.getElem?_mapIdx] at hk
    cases ho : offs.toList[k]? with
    | none => rw [ho] at hk; cases hk
    | some f =>
      rw [ho] at hk
      cases hk
      have := (List.getElem?_eq_some_iff.mp ho).1
      rw [Array.length_toList] at this
      show -2147483648 ≤ lo + (k : Int) ∧ lo + (k : Int) < 2147483648
      omega
  obtain ⟨t, ht, hk⟩ := swi_of _ hps h
  have key : ∀ (n : Nat) (xs : List Int) (a : Int), Op.lookupswitch.offset (xs.mapIdx fun i o => (a + (i : Int), o)) dflt z.toInt = if z.toInt < a then dflt else (xs[(z.toInt - a).toNat]?).getD dflt := by
    intro _ xs
    induction xs with
    | nil => intro a; simp [Op.lookupswitch.offset]
    | cons f xs ih =>
      intro a
      rw [List.mapIdx_cons]
      rw [Op.lookupswitch.offset_cons]
      by_cases hz : a = z.toInt
      · rw [if_pos (by simpa using hz), if_neg (by omega)]
        rw [show (z.toInt - a).toNat = 0 by omega]
        rfl
      · rw [if_neg (by simpa using hz)]
        have e : (fun (i : Nat) (o : Int) => (a + ((i + 1 : Nat) : Int), o)) = fun (i : Nat) (o : Int) => ((a + 1) + (i : Int), o) := by
          funext i o
          congr 1
          omega
        have := ih (a + 1)
        rw [e, this]
        by_cases h1 : z.toInt < a
        · rw [if_pos (by omega), if_pos h1]
        · rw [if_neg (by omega), if_neg h1]
          obtain ⟨n, hn⟩ : ∃ n : Nat, (z.toInt - a).toNat = n + 1 := ⟨(z.toInt - a).toNat - 1, by omega⟩
          rw [hn, List.getElem?_cons_succ, show (z.toInt - (a + 1)).toNat = n by omega]
  rw [key 0] at ht
  refine (hK _ _ _ _ hk).step fun H locs cells slots LS hl hP hS h0 kk => ?_
  by_cases g1 : z.toInt < lo
  · rw [if_pos g1] at ht
    exact lv_tableOut hx hb hdg (Or.inl g1) ht (kk LS hl)
  · rw [if_neg g1] at ht
    by_cases g2 : hi < z.toInt
    · rw [List.getElem?_eq_none (by rw [Array.length_toList]; omega)] at ht
      exact lv_tableOut hx hb hdg (Or.inr g2) ht (kk LS hl)
    · have hlt : (z.toInt - lo).toNat < offs.size := by omega
      have he : offs[(z.toInt - lo).toNat]? = some (offs[(z.toInt - lo).toNat]'hlt) := Array.getElem?_eq_getElem hlt
      rw [Array.getElem?_toList, he] at ht
      exact lv_tableIn hx hb hdg g1 g2 he ht (kk LS hl)
set_option maxHeartbeats 4000000 in
theorem ok_lsw (A : ACT p l e R s m args below meth c Q D cA base b nL d rz own ini cc w0 o) {K : Kont} (hK : KS p l e R s m args below meth c Q D cA base b nL w0 o K)
    {pc len : Nat} {dflt : Int} {ps : Array (Int × Int)} (hdg : decode cc pc = .ok (.lookupswitch dflt ps, len)) {ls : XL} {r : List Value} {w : XW} {z : Int32}
    (h1 : swOk ps.toList = true) (h : swi pc dflt z (fun t => K t ls r w) ps.toList = some o) :
    SND p l e R s m args below meth c Q D cA base b nL w0 o pc ls (.int z :: r) w := by
  obtain ⟨⟨hx, hb, hml, hown⟩, hts, -⟩ := A
  obtain ⟨g1, g2⟩ := Bool.and_eq_true_iff.mp h1
  obtain ⟨t, ht, hk⟩ := swi_of _ (fun q hq => by simpa using List.all_eq_true.mp g1 q hq) h
  exact (hK _ _ _ _ hk).step fun H locs cells slots LS hl hP hS h0 kk => lv_lookup hx hb hdg g2 rfl ht (kk LS hl)
end OK4
