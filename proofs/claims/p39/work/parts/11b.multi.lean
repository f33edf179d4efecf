/-! ===== arrays of arrays: reading one, making two dimensions ===== -/
theorem aR_of {w : XW} {o : Nat} {i : Int32} {x : Nat} (h : aR w o i = some x) : ∃ xs o', o = o' + 1 ∧ w[o]? = some (.inr (3, xs)) ∧ vp_in i xs.length ∧ (xs.getD i.toNatClampNeg 0).toNatClampNeg = x := by
  unfold aR at h
  split at h
  next t xs hc =>
    split at h
    next hh =>
      obtain ⟨rfl, h2, h3⟩ := hh
      obtain ⟨v, hv, hx⟩ := Option.map_eq_some_iff.mp h
      refine ⟨xs, o - 1, by omega, hc, ?_, ?_⟩
      · rintro (q | q)
        · exact absurd h3 (Int32.not_le.mpr q)
        · have := (List.getElem?_eq_some_iff.mp hv).1; omega
      · rw [List.getD_eq_getElem?_getD, hv]; exact hx
    next => cases h
  next => cases h
theorem xw_app {base b : Nat} {cA : Nat → ClassId} {w : XW} {L : XW} (h : 0 < w.length) : xw base b cA (w ++ L) = xw base b cA w ++ L.mapIdx (fun k c => (base + (w.length - 1) + k, xe base b cA c)) := by
  unfold xw
  cases w with
  | nil => simp at h
  | cons a r =>
    simp only [List.cons_append, List.tail_cons, List.mapIdx_append, List.length_cons, Nat.add_sub_cancel]
    congr 2
    funext k c
    rw [show base + (k + r.length) = base + r.length + k by omega]
theorem gs_app (w v : XW) : gs (w ++ v) = gs w + gs v := by simp [gs]
theorem mkA_len (L : Nat) (n k : Int32) : (mkA L n k).length = 1 + n.toNatClampNeg := by simp [mkA]; omega
theorem mkA_gs (L : Nat) (n k : Int32) : gs (mkA L n k) = n.toNatClampNeg + n.toNatClampNeg * k.toNatClampNeg := by
  simp [gs, mkA, xsz]
theorem ofNat_clamp {n : Nat} (h : n < 2147483648) : (Int32.ofNat n).toNatClampNeg = n := by
  show (Int32.ofNat n).toInt.toNat = n
  rw [Int32.toInt_ofNat_of_lt (by simpa using h)]
  rfl
theorem cell_out (cA : ClassId) (N h0 : Nat) : Jvm.Free.Multi.outerC cA N h0 N = arrV cA N (fun j => .ref (h0 + 1 + j)) := by
  obtain ⟨a, b, d⟩ := Jvm.Free.Multi.outerC_facts cA N h0 N
  obtain ⟨e, f⟩ := Jvm.Free.Multi.outerC_plain cA N h0 N
  have hs : (Jvm.Free.Multi.outerC cA N h0 N).slots = (arrV cA N (fun j => .ref (h0 + 1 + j))).slots := by
    apply Array.ext_getElem?
    intro j
    by_cases hj : j < N
    · rw [Jvm.Free.Multi.outerC_slot cA N h0 N j hj, if_pos hj, arrV_read cA _ hj]
    · rw [Array.getElem?_eq_none (by omega), Array.getElem?_eq_none (by rw [arrV_size]; omega)]
  generalize Jvm.Free.Multi.outerC cA N h0 N = x at a b d e f hs
  cases x
  simp only at a b e f hs
  subst a b e f hs
  rfl
section OKM
variable {p : Program} {l : Launch} {e : Env} {R : Room} {s : State} {m : MethodId} {args : Array Value} {below : List Frame} {meth : Method} {c : Code} {Q : State → Prop}
variable {D : va_G} {cA : Nat → ClassId} {base b nL d rz : Nat} {own : String} {ini : Bool} {cc : ByteArray} {w0 : XW} {o : XO}
set_option maxHeartbeats 4000000 in
theorem ok_aaload (A : ACT p l e R s m args below meth c Q D cA base b nL d rz own ini cc w0 o) {K : Kont} (hK : KS p l e R s m args below meth c Q D cA base b nL w0 o K)
    {pc : Nat} (hdg : decode cc pc = .ok (.aaload, 1)) {ls : XL} {r : List Value} {w : XW} {a : Nat} {i : Int32} {x : Nat} (hx1 : aR w a i = some x) (h : K (pc + 1) ls (.ref x :: r) w = some o) :
    SND p l e R s m args below meth c Q D cA base b nL w0 o pc ls (.int i :: .ref a :: r) w := by
  obtain ⟨⟨hx, hb, hml, hown⟩, hts, ⟨-, hKK, ⟨xs, hx0, hX⟩, hN, -, hbb⟩, -, hbase, -⟩ := A
  obtain ⟨ys, a', rfl, ha, hin, hv⟩ := aR_of hx1
  refine (hK _ _ _ _ h).step fun H locs cells slots LS hl hP hS h0 kk => ?_
  have he := xw_get (base := base) (b := b) (cA := cA) ha
  have hlt : i.toNatClampNeg < ys.length := Nat.not_le.mp fun q => hin (Or.inr q)
  refine W.aald (v := .ref (xa base b x)) (ty := .array .int) hx hb (hP a' _ he) ((hKK.2 1 _ rfl).1 ys.length _) rfl (fun q => by cases q) (by show ¬ (i < 0 ∨ (arrV _ _ _).slots.size ≤ _); rw [arrV_size]; exact hin) (by show (arrV _ _ _).slots[_]? = _; rw [arrV_read _ _ hlt]; subst hv; rfl) rfl rfl hdg (kk LS hl)
set_option maxHeartbeats 4000000 in
theorem ok_multi (hI : Jvm.Cond.arrayClass .int ∈ tblG) (hAO : Jvm.Cond.arrayOver (.array .int) ∈ tblN) {i : Nat} (hcl : Jvm.Cond.classLink own i "[[I" ∈ tblG)
    (A : ACT p l e R s m args below meth c Q D cA base b nL d rz own ini cc w0 o) {K : Kont} (hK : KS p l e R s m args below meth c Q D cA base b nL w0 o K)
    {pc : Nat} (hdg : decode cc pc = .ok (.multianewarray i 2, 4)) {ls : XL} {r : List Value} {w : XW} {n k : Int32} (h1 : 0 ≤ n) (h2 : n ≤ 1000) (h3 : 0 ≤ k) (h4 : k ≤ 1000) (hw : 0 < w.length) (hw2 : w.length ≤ 1000)
    (h : K (pc + 4) ls (.ref w.length :: r) (w ++ mkA w.length n k) = some o) :
    SND p l e R s m args below meth c Q D cA base b nL w0 o pc ls (.int k :: .int n :: r) w := by
  obtain ⟨⟨hx, hb, hml, hown⟩, hts, ⟨-, hKK, ⟨xs, hx0, hX⟩, hN, hsz, hbb⟩, -, hbase, -⟩ := A
  obtain ⟨k1, k2, k3, k4⟩ := hK _ _ _ _ h
  have hn := i_small h2
  have hk := i_small h4
  rw [List.length_append, mkA_len] at k1
  rw [gs_app, mkA_gs] at k2
  have hmul : n.toNatClampNeg * k.toNatClampNeg ≤ 1000 * 1000 := Nat.mul_le_mul hn hk
  refine ⟨by omega, by omega, k3.trans (by rw [List.getElem?_append_left hw]), fun H locs cells slots LS hl hP hS hz hc hs hr1 hr2 => W.sized fun z1 z2 => ?_⟩
  have hH : H.size + 1 = base + w.length := by
    have := xw_size hP (by omega) hw
    omega
  intro T hT X
  have hao : (Jvm.Cond.arrayOver (.array .int)).before args s = true := hN _ hAO
  obtain ⟨vm₁, cA', comp, hW, hfA, hfC, -, -, X1, step⟩ := X.multianewarray2F (ty := .int) hx hown (hts _ hcl) hao (hts _ hI) (g := F0 m pc LS ((.int k :: .int n :: r : List Value).map (xv base b))) rfl (by rw [hb]; exact hdg) (n := n) (k := k) (rest := r.map (xv base b)) rfl (i_nn h1) (i_nn h3) (by omega) (by show k.toNatClampNeg * 4 ≤ 536870912; omega) (by omega) rfl rfl (by omega) (by omega)
  have eA : cA' = cA 3 := Option.some.inj (hfA.symm.trans (hKK.2 1 _ rfl).2)
  have eC : comp = cA 0 := Option.some.inj (hfC.symm.trans (hKK.2 0 _ rfl).2)
  subst eA eC
  have hTs : (T.setVm vm₁).heap.size = H.size := by rw [← hT]; rfl
  have f1 := (Jvm.Free.Multi.fill_facts (T.setVm vm₁) (cA 3) (cA 0) n.toNatClampNeg k.toNatClampNeg (.int 0) n.toNatClampNeg)
  obtain ⟨f1, f2, -, -⟩ := f1
  have f3 := fun (a : Nat) (ha : a < (T.setVm vm₁).heap.size) => Jvm.Free.Multi.fill_old (T.setVm vm₁) (cA 3) (cA 0) n.toNatClampNeg k.toNatClampNeg (.int 0) ha n.toNatClampNeg
  have f4 := Jvm.Free.Multi.fill_inner (T.setVm vm₁) (cA 3) (cA 0) n.toNatClampNeg k.toNatClampNeg (.int 0) n.toNatClampNeg
  have hTh : (T.setVm vm₁).heap = H := hT
  rw [hTs] at f1 f2 f3 f4
  rw [hTh] at f3
  have X2 : Stand p l e R s m args below meth c (Jvm.Free.Multi.fill (T.setVm vm₁) (cA 3) (cA 0) n.toNatClampNeg k.toNatClampNeg (.int 0) n.toNatClampNeg) locs (cells + 1 + n.toNatClampNeg) (slots + n.toNatClampNeg + n.toNatClampNeg * k.toNatClampNeg) := X1
  have step2 : ∀ target, Steps p.tables e below ((Jvm.Free.Multi.fill (T.setVm vm₁) (cA 3) (cA 0) n.toNatClampNeg k.toNatClampNeg (.int 0) n.toNatClampNeg).setTop (F0 m (pc + 4) LS (.ref T.heap.size :: r.map (xv base b)))) target →
        Steps p.tables e below (T.setTop (F0 m pc LS ((.int k :: .int n :: r : List Value).map (xv base b)))) target := step
  generalize Jvm.Free.Multi.fill (T.setVm vm₁) (cA 3) (cA 0) n.toNatClampNeg k.toNatClampNeg (.int 0) n.toNatClampNeg = T1 at f1 f2 f3 f4 X2 step2
  have hP1 : va_P D vwCl (xw base b cA (w ++ mkA w.length n k)) T1.heap := by
    rw [xw_app hw]
    refine va_P.app (va_P.kept hP fun j q hj => f3 q.1 (hP j q hj).lt) fun j q hj => ?_
    rw [List.getElem?_mapIdx] at hj
    cases j with
    | zero =>
      simp only [mkA, List.getElem?_cons_zero, Option.map_some, Option.some.injEq] at hj
      subst hj
      show T1.heap[base + (w.length - 1) + 0]? = some (vp_cell _ _)
      rw [show base + (w.length - 1) + 0 = H.size by omega, f2, cell_out, vp_cell_q]
      congr 1
      simp only [List.length_map, List.length_range]
      unfold arrV
      congr 1
      congr 1
      funext j
      have hj : j.val < n.toNatClampNeg := j.isLt
      simp only [List.getD_eq_getElem?_getD, List.getElem?_map, List.getElem?_range hj, Option.map_some, Option.getD_some, va_rf]
      rw [ofNat_clamp (by omega), show w.length + 1 + j.val = (w.length + j.val) + 1 by omega]
      exact congrArg Value.ref (show H.size + 1 + j.val = base + (w.length + j.val) by omega)
    | succ j =>
      simp only [mkA, List.getElem?_cons_succ, List.getElem?_replicate] at hj
      split at hj
      next hlt =>
        simp only [Option.map_some, Option.some.injEq] at hj
        subst hj
        show T1.heap[base + (w.length - 1) + (j + 1)]? = some (vp_cell _ _)
        rw [show base + (w.length - 1) + (j + 1) = H.size + 1 + j by omega, f4 j hlt]
        congr 1
        have e0 : (Jvm.Free.Multi.innerC (cA 0) k.toNatClampNeg (.int 0) : Cell) = arrV (cA 0) k.toNatClampNeg (fun _ => .int 0) := arrV_new _ _ _
        refine e0.trans ((?_ : _ = _).trans (vp_cell_i _ _ _).symm)
        simp only [List.length_replicate]
        congr 1
        funext j
        simp only [List.getD_eq_getElem?_getD, List.getElem?_replicate]
        split <;> rfl
      next => cases hj
  have hS1 : va_S (fun q => base ≤ q) s.heap T1.heap locs := ⟨by omega, fun q q1 q2 => (f3 q (by omega)).trans (hS.2.1 q q1 q2), hS.2.2⟩
  have hx2 : xa base b w.length = T.heap.size := by
    obtain ⟨n, hn⟩ : ∃ n, w.length = n + 1 := ⟨w.length - 1, by omega⟩
    rw [hn, hT]
    show base + n = H.size
    omega
  obtain ⟨t, a1, b1⟩ := k4 T1.heap locs (cells + 1 + n.toNatClampNeg) (slots + n.toNatClampNeg + n.toNatClampNeg * k.toNatClampNeg) LS hl hP1 hS1 (by rw [List.getElem?_append_left hw]; exact hz) (by rw [List.length_append, mkA_len]; omega) (by rw [gs_app, mkA_gs]; omega) hr1 hr2 T1 rfl X2
  rw [List.map_cons, xv, hx2] at a1
  exact ⟨t, step2 t a1, b1⟩
end OKM
