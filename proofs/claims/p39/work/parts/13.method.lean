/-! ===== a world only grows ===== -/
def MO (w w' : XW) : Prop := w.length ≤ w'.length ∧ gs w ≤ gs w' ∧ w'[0]? = w[0]?
theorem MO.set {w : XW} {o' : Nat} {c0 c : XC} {w' : XW} (h : w[o' + 1]? = some c0) (hs : xsz c0 = xsz c) (k : MO (w.set (o' + 1) c) w') : MO w w' := by
  obtain ⟨e1, e2, e3⟩ := xw_same (base := 0) (b := 0) (cA := fun _ => 0) h hs
  obtain ⟨k1, k2, k3⟩ := k
  exact ⟨by omega, by omega, k3.trans e3⟩
theorem MO.push {w : XW} {c : XC} {w' : XW} (hw : 0 < w.length) (k : MO (w ++ [c]) w') : MO w w' := by
  obtain ⟨k1, k2, k3⟩ := k
  rw [List.length_append, List.length_singleton] at k1
  rw [gs_push] at k2
  exact ⟨by omega, by omega, k3.trans (by rw [List.getElem?_append_left hw])⟩
theorem MO.pushes {w v : XW} {w' : XW} (hw : 0 < w.length) (k : MO (w ++ v) w') : MO w w' := by
  obtain ⟨k1, k2, k3⟩ := k
  rw [List.length_append] at k1
  rw [gs_app] at k2
  exact ⟨by omega, by omega, k3.trans (by rw [List.getElem?_append_left hw])⟩
theorem MO.trans {a b c : XW} (h : MO a b) (k : MO b c) : MO a c := ⟨Nat.le_trans h.1 k.1, Nat.le_trans h.2.1 k.2.1, k.2.2.trans h.2.2⟩
theorem MO.rfl {a : XW} : MO a a := ⟨Nat.le_refl _, Nat.le_refl _, Eq.refl _⟩
def OM (F : Orc) : Prop := ∀ as w o, F as w = some o → MO w o.2
theorem om_init : OM oInit := by
  intro as w o h
  unfold oInit at h
  split at h
  next => cases h; exact MO.rfl
  next => cases h
theorem om_max : OM oMax := by
  intro as w o h
  unfold oMax at h
  split at h
  next => cases h; exact MO.rfl
  next => cases h
theorem om_min : OM oMin := by
  intro as w o h
  unfold oMin at h
  split at h
  next => cases h; exact MO.rfl
  next => cases h
theorem om_copy : OM oCopy := by
  intro as w o h
  unfold oCopy at h
  split at h
  next =>
    rename_i a i a2 j n
    cases hsc : sC w a i a2 j n with
    | none => rw [hsc] at h; cases h
    | some w1 =>
      rw [hsc] at h
      cases h
      unfold sC at hsc
      split at hsc
      next t xs1 t2 ys ha ha2 =>
        split at hsc
        next hh =>
          obtain ⟨rfl, rfl, q1, q2, q3, q4, q5, q6, q7⟩ := hh
          cases hsc
          obtain ⟨a2, rfl⟩ : ∃ a' : Nat, a2 = a' + 1 := ⟨a2 - 1, (Nat.sub_one_add_one q2).symm⟩
          refine MO.set ha2 ?_ MO.rfl
          simp only [xsz, List.length_append, List.length_take, List.length_drop]
          omega
        next => cases hsc
      next => cases hsc
  next => cases h
theorem opK_mono {nL rz : Nat} {fl : List (Nat × Nat × Nat × Nat)} {nl : List (Nat × Nat × List Value)} {kl : List (Nat × Int32)} {k2 : List (Nat × Int64)} {mv ms mi : List (Nat × Nat × Nat × Orc)} {o : XO}
    (hmv : ∀ q ∈ mv, OM q.2.2.2) (hms : ∀ q ∈ ms, OM q.2.2.2) (hmi : ∀ q ∈ mi, OM q.2.2.2) {K : Kont} (hK : ∀ pc ls st w, K pc ls st w = some o → MO w o.2)
    {pc : Nat} {ins : Instr} {ls : XL} {st : List Value} {w : XW} (h : opK nL rz fl nl kl k2 mv ms mi pc K ls st w ins = some o) : MO w o.2 := by
  have hsw : ∀ (d : Int) (x : Int32) (r : List Value) (ps : List (Int × Int)), swi pc d x (fun t => K t ls r w) ps = some o → MO w o.2 := by
    intro d x r ps
    induction ps with
    | nil => intro h; obtain ⟨_, _, h⟩ := tgo_of h; exact hK _ _ _ _ h
    | cons q ps ih =>
      obtain ⟨a, f⟩ := q
      intro h
      unfold swi at h
      split at h
      next => obtain ⟨_, _, h⟩ := tgo_of h; exact hK _ _ _ _ h
      next => exact ih h
  have hcall : ∀ (n rk : Nat) (F : Orc) (pc' : Nat), OM F → callK n rk F (fun s w' => K pc' ls s w') st w = some o → MO w o.2 := by
    intro n rk F pc' hF h
    obtain ⟨-, -, v, w', h3, h4⟩ := callK_of h
    exact (hF _ _ _ h3).trans (hK _ _ _ _ h4)
  cases ins <;> simp only [opK] at h <;> first
    | (cases h; done)
    | exact hK _ _ _ _ h
    | (obtain ⟨f, hf, h⟩ := some_of h; exact hcall _ _ _ _ (hmv _ (lk_mem hf)) h)
    | (obtain ⟨f, hf, h⟩ := some_of h; exact hcall _ _ _ _ (hms _ (lk_mem hf)) h)
    | (obtain ⟨f, hf, h⟩ := some_of h; exact hcall _ _ _ _ (hmi _ (lk_mem hf)) h)
    | (obtain ⟨_, _, h⟩ := some_of h; exact hK _ _ _ _ h)
    | (obtain ⟨_, _, h⟩ := tgo_of h; exact hK _ _ _ _ h)
    | (obtain ⟨_, _, _, _, h⟩ := bin_of h; exact hK _ _ _ _ h)
    | (obtain ⟨_, _, _, h⟩ := un_of h; exact hK _ _ _ _ h)
    | (split at h <;> first | (cases h; done) | exact hK _ _ _ _ h)
    | (split at h <;> first | (cases h; done) | (split at h <;> first | (cases h; done) | exact hK _ _ _ _ h))
    | skip
  case getfield i =>
    obtain ⟨f, hf, h⟩ := some_of h
    split at h
    next =>
      split at h
      next => obtain ⟨_, _, h⟩ := some_of h; exact hK _ _ _ _ h
      next => obtain ⟨_, _, h⟩ := some_of h; exact hK _ _ _ _ h
    next => cases h
  case putfield i =>
    obtain ⟨f, hf, h⟩ := some_of h
    split at h
    next =>
      split at h
      next =>
        obtain ⟨w', hw, hh⟩ := some_of h
        obtain ⟨fs, o', g1, g2, g3, rfl⟩ := pF_of hw
        subst g3
        exact MO.set g1 (by simp [xsz]) (hK _ _ _ _ hh)
      next => cases h
    next =>
      split at h
      next =>
        obtain ⟨w', hw, hh⟩ := some_of h
        obtain ⟨fs, o', g1, g2, g3, rfl⟩ := pF_of hw
        subst g3
        exact MO.set g1 (by simp [xsz]) (hK _ _ _ _ hh)
      next => cases h
    next => cases h
  case iaload => split at h <;> first | (cases h; done) | (obtain ⟨_, _, h⟩ := some_of h; exact hK _ _ _ _ h)
  case arraylength => split at h <;> first | (cases h; done) | (obtain ⟨_, _, h⟩ := some_of h; exact hK _ _ _ _ h)
  case iastore =>
    split at h
    next =>
      obtain ⟨w', hw, h⟩ := some_of h
      obtain ⟨fs, o', rfl, g1, g2, rfl⟩ := sI_of hw
      exact MO.set g1 (by simp [xsz]) (hK _ _ _ _ h)
    next => cases h
  case newarray t =>
    split at h
    next =>
      split at h
      next =>
        split at h
        next hh => exact MO.push hh.2.2 (hK _ _ _ _ h)
        next => cases h
      next => cases h
    next => cases h
  case new i =>
    obtain ⟨f, hf, h⟩ := some_of h
    split at h
    next hw =>
      cases hz : f.1 == 99 with
      | true => rw [hz] at h; cases h
      | false => rw [hz] at h; exact MO.push hw (hK _ _ _ _ h)
    next => cases h
  case aaload => split at h <;> first | (cases h; done) | (obtain ⟨_, _, h⟩ := some_of h; exact hK _ _ _ _ h)
  case multianewarray i dd =>
    obtain ⟨f, hf, h5⟩ := some_of h
    have hz : (f.1 == 99 && dd == 2) = true := by
      cases hz : (f.1 == 99 && dd == 2) with
      | true => rfl
      | false => rw [hz] at h5; cases h5
    rw [hz, cond_true] at h5
    split at h5
    next =>
      split at h5
      next hh => exact MO.pushes hh.2.2.2.2.1 (hK _ _ _ _ h5)
      next => cases h5
    next => cases h5
  case ifCond cn off =>
    split at h
    next => split at h <;> split at h <;> first | exact hK _ _ _ _ h | (obtain ⟨_, _, h⟩ := tgo_of h; exact hK _ _ _ _ h)
    next => cases h
  case if_icmp cn off =>
    split at h
    next => split at h <;> split at h <;> first | exact hK _ _ _ _ h | (obtain ⟨_, _, h⟩ := tgo_of h; exact hK _ _ _ _ h)
    next => cases h
  case tableswitch d lo hi offs =>
    split at h
    next =>
      split at h
      next => exact hsw _ _ _ _ h
      next => cases h
    next => cases h
  case lookupswitch d ps =>
    split at h
    next =>
      split at h
      next => exact hsw _ _ _ _ h
      next => cases h
    next => cases h
  case ireturn =>
    split at h
    next =>
      split at h
      next => cases h; exact MO.rfl
      next =>
        split at h
        next =>
          unfold retZ at h
          split at h
          next => cases h; exact MO.rfl
          next =>
            split at h
            next => cases h; exact MO.rfl
            next => cases h
        next => cases h
    next => cases h
  case lreturn =>
    split at h
    next =>
      split at h
      next => cases h; exact MO.rfl
      next => cases h
    next => cases h
  case return_ =>
    split at h
    next =>
      split at h
      next => cases h; exact MO.rfl
      next => cases h
    next => cases h

/-! ===== a method out of its table ===== -/
def rzOf : Option FieldType → Nat
  | some .int => 0
  | some .boolean => 1
  | some .long => 2
  | none => 3
  | _ => 9
def chkT (cc : ByteArray) (T : List (Nat × Instr)) : Bool := T.all fun q => match decode cc q.1 with
  | .ok (i, len) => decide (i = q.2) && okAt q.1 i len
  | _ => false
theorem chkT_of {cc : ByteArray} {T : List (Nat × Instr)} (h : chkT cc T = true) {pc : Nat} {ins : Instr} (hl : lk T pc = some ins) : ∃ len, decode cc pc = .ok (ins, len) ∧ okAt pc ins len = true := by
  have h1 := List.all_eq_true.mp h _ (lk_mem hl)
  dsimp only at h1
  split at h1
  next i len hd =>
    obtain ⟨h2, h3⟩ := Bool.and_eq_true_iff.mp h1
    have h4 : i = ins := by simpa using h2
    subst h4
    exact ⟨len, hd, h3⟩
  next => cases h1
/-- a method's cuts: what a family of answers must do -/
def DS (T : List (Nat × Instr)) (op : Nat → Kont → XL → List Value → XW → Instr → Option XO) (cut : List Nat) (N : Nat) (Dn : Nat → Kont) : Prop :=
  (∀ pc ls st w, Dn 0 pc ls st w = none) ∧
  ∀ n pc ls st w o, Dn (n + 1) pc ls st w = some o → ∃ ks : XL, (∀ q ∈ ks, xL ls q.1 = some q.2) ∧ ev T op cut (Dn n) N pc ks st w = some o
theorem args_len (base b : Nat) (vs : List Value) : (lg_sl (vs.map (xv base b))).length = (lg_sl vs).length := by
  induction vs with
  | nil => rfl
  | cons v r ih =>
    unfold lg_sl at ih ⊢
    rw [List.map_cons, List.flatMap_cons, List.flatMap_cons, List.length_append, List.length_append, ih, xv_cat]
    by_cases h : v.category = 2 <;> simp [h]
theorem lv_args_map (base b : Nat) (vs : List Value) : ∀ i, lv_args i (vs.map (xv base b)) = xl base b (lv_args i vs) := by
  induction vs with
  | nil => intro i; rfl
  | cons v r ih =>
    intro i
    simp only [List.map_cons, lv_args, xv_cat]
    rw [ih]
    rfl
theorem ev_mono {nL rz : Nat} {fl : List (Nat × Nat × Nat × Nat)} {nl : List (Nat × Nat × List Value)} {kl : List (Nat × Int32)} {k2 : List (Nat × Int64)} {mv ms mi : List (Nat × Nat × Nat × Orc)} {o : XO}
    (hmv : ∀ q ∈ mv, OM q.2.2.2) (hms : ∀ q ∈ ms, OM q.2.2.2) (hmi : ∀ q ∈ mi, OM q.2.2.2) {T : List (Nat × Instr)} {cut : List Nat} {K : Kont} (hK : ∀ pc ls st w, K pc ls st w = some o → MO w o.2) :
    ∀ N pc ls st w, ev T (opK nL rz fl nl kl k2 mv ms mi) cut K N pc ls st w = some o → MO w o.2 := by
  intro N
  induction N with
  | zero => intro pc ls st w h; cases h
  | succ N ih =>
    intro pc ls st w h
    unfold ev opT at h
    obtain ⟨ins, -, h⟩ := some_of h
    refine opK_mono hmv hms hmi (fun pc' ls' st' w' h' => ?_) h
    cases hc : cut.elem pc' with
    | true => rw [hc] at h'; exact hK _ _ _ _ h'
    | false => rw [hc] at h'; exact ih _ _ _ _ h'
section RUN
variable {p : Program} {l : Launch} {e : Env} {R : Room} {s : State} {m : MethodId} {args : Array Value} {below : List Frame} {meth : Method} {c : Code} {Q : State → Prop}
variable {D : va_G} {cA : Nat → ClassId} {base b nL d rz : Nat} {own : String} {ini : Bool} {cc : ByteArray} {w0 : XW} {o : XO}
theorem ev_snd {fl : List (Nat × Nat × Nat × Nat)} {nl : List (Nat × Nat × List Value)} {kl : List (Nat × Int32)} {k2 : List (Nat × Int64)} {mv ms mi : List (Nat × Nat × Nat × Orc)}
    (hI : Jvm.Cond.arrayClass .int ∈ tblG)
    (hfl : ∀ q ∈ fl, fOK own ini q) (hnl : ∀ q ∈ nl, nOK own q) (hkl : ∀ q ∈ kl, Jvm.Cond.constant own q.1 q.2 ∈ tblG) (hk2 : ∀ q ∈ k2, Jvm.Cond.constantLong own q.1 q.2 ∈ tblG)
    (hmv : ∀ q ∈ mv, vOK l D cA base b d own q) (hms : ∀ q ∈ ms, sOK l D cA base b d own q) (hmi : ∀ q ∈ mi, iOK l D cA base b d own q)
    {T : List (Nat × Instr)} (hT : chkT cc T = true) {cut : List Nat} (A : ACT p l e R s m args below meth c Q D cA base b nL d rz own ini cc w0 o) {K : Kont} (hK : KS p l e R s m args below meth c Q D cA base b nL w0 o K) :
    ∀ N, KS p l e R s m args below meth c Q D cA base b nL w0 o (ev T (opK nL rz fl nl kl k2 mv ms mi) cut K N) := by
  intro N
  induction N with
  | zero => intro pc ls st w h; cases h
  | succ N ih =>
    intro pc ls st w h
    unfold ev opT at h
    obtain ⟨ins, hl, h⟩ := some_of h
    obtain ⟨len, hd, hat⟩ := chkT_of hT hl
    refine opK_ok hI hfl hnl hkl hk2 hmv hms hmi A (K := fun pc' ls' st' w' => bif cut.elem pc' then K pc' ls' st' w' else ev T (opK nL rz fl nl kl k2 mv ms mi) cut K N pc' ls' st' w') (fun pc' ls' st' w' h' => ?_) hd hat h
    dsimp only at h'
    cases hc : cut.elem pc' with
    | true => rw [hc] at h'; exact hK _ _ _ _ h'
    | false => rw [hc] at h'; exact ih _ _ _ _ h'
theorem ds_snd {fl : List (Nat × Nat × Nat × Nat)} {nl : List (Nat × Nat × List Value)} {kl : List (Nat × Int32)} {k2 : List (Nat × Int64)} {mv ms mi : List (Nat × Nat × Nat × Orc)}
    (hI : Jvm.Cond.arrayClass .int ∈ tblG)
    (hfl : ∀ q ∈ fl, fOK own ini q) (hnl : ∀ q ∈ nl, nOK own q) (hkl : ∀ q ∈ kl, Jvm.Cond.constant own q.1 q.2 ∈ tblG) (hk2 : ∀ q ∈ k2, Jvm.Cond.constantLong own q.1 q.2 ∈ tblG)
    (hmv : ∀ q ∈ mv, vOK l D cA base b d own q) (hms : ∀ q ∈ ms, sOK l D cA base b d own q) (hmi : ∀ q ∈ mi, iOK l D cA base b d own q)
    {T : List (Nat × Instr)} (hT : chkT cc T = true) {cut : List Nat} {N : Nat} {Dn : Nat → Kont} (hD : DS T (opK nL rz fl nl kl k2 mv ms mi) cut N Dn) (A : ACT p l e R s m args below meth c Q D cA base b nL d rz own ini cc w0 o) :
    ∀ n, KS p l e R s m args below meth c Q D cA base b nL w0 o (Dn n) := by
  intro n
  induction n with
  | zero => intro pc ls st w h; rw [hD.1] at h; cases h
  | succ n ih =>
    intro pc ls st w h
    obtain ⟨ks, hks, h⟩ := hD.2 n pc ls st w o h
    obtain ⟨g1, g2, g3, g4⟩ := ev_snd hI hfl hnl hkl hk2 hmv hms hmi hT A ih N _ _ _ _ h
    exact ⟨g1, g2, g3, fun H locs cells slots LS hl => g4 H locs cells slots LS (xl_sub hl hks)⟩
end RUN
set_option maxHeartbeats 4000000 in
theorem CS_of {l : Launch} {D : va_G} {cA : Nat → ClassId} {base b d : Nat} {y : MethodName} {cc : ByteArray} {nL : Nat} {ret : Option FieldType} {F : Orc}
    {fl : List (Nat × Nat × Nat × Nat)} {nl : List (Nat × Nat × List Value)} {kl : List (Nat × Int32)} {k2 : List (Nat × Int64)} {mv ms mi : List (Nat × Nat × Nat × Orc)} {ini : Bool}
    (hI : Jvm.Cond.arrayClass .int ∈ tblG)
    (hfl : ∀ q ∈ fl, fOK y.cls ini q) (hnl : ∀ q ∈ nl, nOK y.cls q) (hkl : ∀ q ∈ kl, Jvm.Cond.constant y.cls q.1 q.2 ∈ tblG) (hk2 : ∀ q ∈ k2, Jvm.Cond.constantLong y.cls q.1 q.2 ∈ tblG)
    (hmv : ∀ q ∈ mv, vOK l D cA base b d y.cls q ∧ OM q.2.2.2) (hms : ∀ q ∈ ms, sOK l D cA base b d y.cls q ∧ OM q.2.2.2) (hmi : ∀ q ∈ mi, iOK l D cA base b d y.cls q ∧ OM q.2.2.2)
    {T : List (Nat × Instr)} (hT : chkT cc T = true) {cut : List Nat} {N : Nat} {Dn : Nat → Kont} (hD : DS T (opK nL (rzOf ret) fl nl kl k2 mv ms mi) cut N Dn)
    (hpl : plainName y.cls = true) (hini : ini = true → y.name = "<init>")
    (hF : ∀ as w o, F as w = some o → (lg_sl as).length ≤ nL ∧ ∃ n, ev T (opK nL (rzOf ret) fl nl kl k2 mv ms mi) cut (Dn n) N 0 (lv_args 0 as) [] w = some o) :
    CS l D cA base b (d + 1) y cc nL ret F ∧ OM F := by
  have hDm : ∀ n pc ls st w o, Dn n pc ls st w = some o → MO w o.2 := by
    intro n
    induction n with
    | zero => intro pc ls st w o h; rw [hD.1] at h; cases h
    | succ n ih =>
      intro pc ls st w o h
      obtain ⟨ks, -, h⟩ := hD.2 n pc ls st w o h
      exact ev_mono (fun q hq => (hmv q hq).2) (fun q hq => (hms q hq).2) (fun q hq => (hmi q hq).2) (fun pc ls st w h => ih pc ls st w o h) N _ _ _ _ h
  have hFm : OM F := by
    intro as w o h
    obtain ⟨-, n, h⟩ := hF as w o h
    exact ev_mono (fun q hq => (hmv q hq).2) (fun q hq => (hms q hq).2) (fun q hq => (hmi q hq).2) (fun pc ls st w h => hDm n pc ls st w o h) N _ _ _ _ h
  refine ⟨fun as w o h => ⟨(hFm _ _ _ h).1, (hFm _ _ _ h).2.1, (hFm _ _ _ h).2.2, fun mc ms' hmc hms' => ?_⟩, hFm⟩
  obtain ⟨hlen, n, hev⟩ := hF as w o h
  refine Met.ofW (cc := cc) (maxL := nL) (ret := ret) hpl rfl ?_
  intro p e s m args below meth c s₁ B hml hv
  obtain ⟨rfl, hXR⟩ := hv
  have hx := B.exec
  have hb := B.bytes
  have hr := B.returns
  have hts := atoms_spec (ws := .code y cc nL ret :: tblG) B.pre
  have hown : s.vm.findClass y.cls = some m.cls := findClass_of_methodNamed B.named
  have hlocks := B.notSynchronized
  have hin : ini = true → meth.name = "<init>" := fun q => (name_of_methodNamed B.named B.method).1.trans (hini q)
  have hwl := hXR.len
  have hbase : base ≤ s.heap.size := by have := hXR.2.2.2.2.1; omega
  have A : ACT p l e ({ frames := d + 1, cells := mc, slots := ms', locals := 40 * (d + 1) } : Room) s m (as.map (xv base b)).toArray below meth c (MQ below (QX D cA base b o) (as.map (xv base b)).toArray s mc ms' (fun q => base ≤ q)) D cA base b nL d (rzOf ret) y.cls ini cc w o := by
    refine ⟨⟨hx, hb, hml, hown⟩, fun w hw => hts w (List.mem_cons_of_mem _ hw), hXR, hin, hbase, ⟨Nat.le_refl _, by show 40 * d + 40 ≤ 40 * (d + 1); omega⟩, ?_⟩
    intro H locs cells slots LS pc hP hS h0 hc hs hr1 hr2 hv
    obtain rfl : cells = mc := by omega
    obtain rfl : slots = ms' := by omega
    refine W.sized fun z1 z2 => ?_
    have hQ : ∀ t : State, t.heap = H → s.WarmedH t.vm → QX D cA base b o (as.map (xv base b)).toArray s (.returned (o.1.map (xv base b))) t := by
      intro t ht hW
      obtain ⟨-, hKK, ⟨xs, hx0, hX⟩, hN, hsz, hbb⟩ := hXR
      have hol : 0 < o.2.length := by omega
      have hge := xw_size hP (by omega) hol
      have hXH : va_X b xs.length (fun j => xs.getD j 0) s H := hX.kept (hS.2.1 b (by omega) (by omega))
      refine ⟨rfl, ⟨by rw [ht]; exact hP, va_K.moved hW.alike hKK, ⟨xs, h0.trans hx0, by rw [ht]; exact va_X.moved hW.alike hXH⟩, fun n hn => tblN_warm hW hn (hN n hn), by rw [ht]; omega, hbb⟩, hS.F ht⟩
    have hf : ∀ q ∈ locs, (fun q => base ≤ q) q.base := hS.2.2
    obtain ⟨v, w'⟩ := o
    cases v with
    | none =>
      obtain ⟨hdg, hz⟩ := hv
      have hr0 : ret = none := by
        cases ret with
        | none => rfl
        | some t => cases t <;> simp [rzOf] at hz
      exact W.vret hx hb (by rw [hr, hr0]) hQ hf hdg hlocks
    | some v =>
      cases v with
      | int x =>
        obtain ⟨hdg, hz⟩ := hv
        rcases hz with hz | ⟨hz, hx01⟩
        · have hr0 : ret = some .int := by
            cases ret with
            | none => simp [rzOf] at hz
            | some t => cases t <;> first | rfl | simp [rzOf] at hz
          exact W.iret hx hb (by rw [hr, hr0]) hQ hf hdg hlocks
        · have hr0 : ret = some .boolean := by
            cases ret with
            | none => simp [rzOf] at hz
            | some t => cases t <;> first | rfl | simp [rzOf] at hz
          refine W.zret (ty := .boolean) hx hb (by rw [hr, hr0]) ?_ hQ hf hdg hlocks
          rcases hx01 with rfl | rfl <;> rfl
      | long x =>
        obtain ⟨hdg, hz⟩ := hv
        have hr0 : ret = some .long := by
          cases ret with
          | none => simp [rzOf] at hz
          | some t => cases t <;> first | rfl | simp [rzOf] at hz
        exact W.lret hx hb (by rw [hr, hr0]) hQ hf hdg hlocks
      | _ => exact hv.elim
  obtain ⟨-, -, -, hW⟩ := ev_snd hI hfl hnl hkl hk2 (fun q hq => (hmv q hq).1) (fun q hq => (hms q hq).1) (fun q hq => (hmi q hq).1) hT A (ds_snd hI hfl hnl hkl hk2 (fun q hq => (hmv q hq).1) (fun q hq => (hms q hq).1) (fun q hq => (hmi q hq).1) hT hD A n) N _ _ _ _ hev
  rw [lg_entry_eq]
  exact hW s.heap [] 0 0 _ (by rw [← lv_args_map]; exact lv_entry (as.map (xv base b)) (by rw [args_len]; exact hlen)) hXR.1 va_S.rf rfl (by omega) (by omega) (by show o.2.length ≤ mc + w.length; omega) (by show gs o.2 ≤ ms' + gs w; omega)
