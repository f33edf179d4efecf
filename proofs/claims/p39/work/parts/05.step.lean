/-! ===== what a method's tables must say ===== -/
def fOK (own : String) (ini : Bool) (q : Nat × Nat × Nat × Nat) : Prop :=
  ∃ (C : String) (T : u_T) (N : Nat) (ty : Nat → FieldType) (host : String), vwCl[q.2.1]? = some (C, T, N) ∧ q.2.2.1 < N ∧ (∀ w ∈ u_ws C T N, w ∈ tblG) ∧ (∀ k, k < N → parseFieldDescriptor (T k).2.2.1 = some (ty k)) ∧
    (∀ a, a < N → ∀ b, b < N → a ≠ b → (T a).2.1 ≠ (T b).2.1) ∧ (T q.2.2.1).1 = C ∧
    ((Jvm.Cond.fieldLink own q.1 C (T q.2.2.1).2.1 (T q.2.2.1).2.2.1) ∈ tblG ∨ (Jvm.Cond.fieldLinkNest own q.1 C (T q.2.2.1).2.1 (T q.2.2.1).2.2.1 host) ∈ tblN) ∧
    (q.2.2.2 = 1 → (T q.2.2.1).2.2.2 = false ∧ ty q.2.2.1 = .int) ∧
    (q.2.2.2 = 12 → (T q.2.2.1).2.2.2 = true ∧ own = C ∧ ini = true ∧ ((∃ n, ty q.2.2.1 = .object n) ∨ ∃ t, ty q.2.2.1 = .array t) ∧ (Jvm.Cond.fieldLink own q.1 C (T q.2.2.1).2.1 (T q.2.2.1).2.2.1) ∈ tblG)
def nOK (own : String) (q : Nat × Nat × List Value) : Prop :=
  (q.2.1 = 99 ∧ Jvm.Cond.classLink own q.1 "[[I" ∈ tblG ∧ Jvm.Cond.arrayOver (.array .int) ∈ tblN) ∨
  ∃ (C : String) (T : u_T) (N : Nat) (ty : Nat → FieldType), vwCl[q.2.1]? = some (C, T, N) ∧ (∀ w ∈ u_ws C T N, w ∈ tblG) ∧ (∀ k, k < N → parseFieldDescriptor (T k).2.2.1 = some (ty k)) ∧
    Jvm.Cond.classLink own q.1 C ∈ tblG ∧ Jvm.Cond.instantiable C N ∈ tblG ∧ Jvm.Cond.initialized C ∈ tblG ∧ q.2.2.length = N ∧ (∀ j, j < N → defaultValue (ty j) = vp_V q.2.2 j) ∧ (∀ v ∈ q.2.2, v = .null ∨ v = .int 0)
def pl3 (y : MethodName) (n : Nat) : Prop := y.cls ≠ "java/lang/invoke/MethodHandle" ∧ y.cls ≠ "java/lang/invoke/VarHandle" ∧ (parseMethodDescriptor y.desc).map (fun d => d.parameters.length) = some n
def vOK (l : Launch) (D : va_G) (cA : Nat → ClassId) (base b d : Nat) (own : String) (q : Nat × Nat × Nat × Orc) : Prop :=
  q.2.2.1 ≠ 3 ∧ ∃ (y : MethodName) (bytes : ByteArray) (maxL : Nat) (ret : Option FieldType) (d' : Nat) (host : String) (ci : Nat) (T : u_T) (N n : Nat),
    CS l D cA base b d' y bytes maxL ret q.2.2.2 ∧ d' ≤ d ∧ maxL ≤ 20 ∧ q.2.1 = n + 1 ∧ (∀ as w o, q.2.2.2 as w = some o → ∃ a r, as = .ref a :: r ∧ r.length = n ∧ isO w a ci = true) ∧
    vwCl[ci]? = some (y.cls, T, N) ∧ Jvm.Cond.code y bytes maxL ret ∈ tblG ∧ Jvm.Cond.initialized y.cls ∈ tblG ∧ Jvm.Cond.instanceMethod y ∈ tblG ∧ Jvm.Cond.selects y.cls y y ∈ tblG ∧ pl3 y n ∧
    (Jvm.Cond.methodLink own q.1 y ∈ tblG ∨ Jvm.Cond.methodLinkNest own q.1 y host ∈ tblN)
def sOK (l : Launch) (D : va_G) (cA : Nat → ClassId) (base b d : Nat) (own : String) (q : Nat × Nat × Nat × Orc) : Prop :=
  (q.2.2.1 ≠ 3 ∧ ∃ (y : MethodName) (bytes : ByteArray) (maxL : Nat) (ret : Option FieldType) (d' : Nat) (host : String),
    CS l D cA base b d' y bytes maxL ret q.2.2.2 ∧ d' ≤ d ∧ maxL ≤ 20 ∧
    Jvm.Cond.code y bytes maxL ret ∈ tblG ∧ Jvm.Cond.initialized y.cls ∈ tblG ∧ Jvm.Cond.static y ∈ tblG ∧ pl3 y q.2.1 ∧
    (Jvm.Cond.methodLink own q.1 y ∈ tblG ∨ Jvm.Cond.methodLinkNest own q.1 y host ∈ tblN)) ∨
  (q.2.1 = 5 ∧ q.2.2.1 = 0 ∧ q.2.2.2 = oCopy ∧ Jvm.Cond.methodLink own q.1 arraycopyName ∈ tblG ∧ Jvm.Cond.native arraycopyName ∈ tblG ∧ Jvm.Cond.static arraycopyName ∈ tblG ∧ Jvm.Cond.initialized "java/lang/System" ∈ tblG) ∨
  (q.2.1 = 2 ∧ q.2.2.1 = 3 ∧ q.2.2.2 = oMax ∧ Jvm.Cond.methodLink own q.1 Lib.Math.max.name ∈ tblG ∧ Jvm.Cond.static Lib.Math.max.name ∈ tblG ∧ Jvm.Cond.initialized "java/lang/Math" ∈ tblG ∧ Jvm.Cond.code Lib.Math.max.name Lib.Math.max.code 2 (some .int) ∈ tblG) ∨
  (q.2.1 = 2 ∧ q.2.2.1 = 3 ∧ q.2.2.2 = oMin ∧ Jvm.Cond.methodLink own q.1 Lib.Math.min.name ∈ tblG ∧ Jvm.Cond.static Lib.Math.min.name ∈ tblG ∧ Jvm.Cond.initialized "java/lang/Math" ∈ tblG ∧ Jvm.Cond.code Lib.Math.min.name Lib.Math.min.code 2 (some .int) ∈ tblG)
def iOK (l : Launch) (D : va_G) (cA : Nat → ClassId) (base b d : Nat) (own : String) (q : Nat × Nat × Nat × Orc) : Prop :=
  (q.2.2.1 ≠ 3 ∧ ∃ (y : MethodName) (bytes : ByteArray) (maxL d' : Nat) (host : String) (n : Nat),
    CS l D cA base b d' y bytes maxL none q.2.2.2 ∧ d' ≤ d ∧ maxL ≤ 20 ∧ q.2.1 = n + 1 ∧ (∀ as w o, q.2.2.2 as w = some o → ∃ a r, as = .ref a :: r ∧ r.length = n) ∧ y.name = "<init>" ∧
    Jvm.Cond.code y bytes maxL none ∈ tblG ∧ Jvm.Cond.initialized y.cls ∈ tblG ∧ Jvm.Cond.instanceMethod y ∈ tblG ∧ pl3 y n ∧
    (Jvm.Cond.methodLink own q.1 y ∈ tblG ∨ Jvm.Cond.methodLinkNest own q.1 y host ∈ tblN)) ∨
  (q.2.1 = 1 ∧ q.2.2.1 = 0 ∧ q.2.2.2 = oInit ∧ Jvm.Cond.methodLink own q.1 objectInit ∈ tblG ∧ Jvm.Cond.instanceMethod objectInit ∈ tblG ∧ Jvm.Cond.code objectInit ⟨#[0xb1]⟩ 1 none ∈ tblG)
theorem tgo_of {pc : Nat} {off : Int} {k : Nat → Option XO} {o : XO} (h : tgo pc off k = some o) : ∃ t : Nat, (pc : Int) + off = (t : Int) ∧ k t = some o := by
  unfold tgo at h
  cases ht : (pc : Int) + off with
  | ofNat t => rw [ht] at h; exact ⟨t, rfl, h⟩
  | negSucc t => rw [ht] at h; cases h
theorem cI_of {x : Option XO} {k : Int32 → XW → Option XO} {o : XO} (h : cI x k = some o) : ∃ v w, x = some (some (.int v), w) ∧ k v w = some o := by
  unfold cI at h
  split at h
  next v w => exact ⟨v, w, rfl, h⟩
  next => cases h
theorem cL_of {x : Option XO} {k : Int64 → XW → Option XO} {o : XO} (h : cL x k = some o) : ∃ v w, x = some (some (.long v), w) ∧ k v w = some o := by
  unfold cL at h
  split at h
  next v w => exact ⟨v, w, rfl, h⟩
  next => cases h
theorem cV_of {x : Option XO} {k : XW → Option XO} {o : XO} (h : cV x k = some o) : ∃ w, x = some (none, w) ∧ k w = some o := by
  unfold cV at h
  split at h
  next w => exact ⟨w, rfl, h⟩
  next => cases h
section ST
variable {p : Program} {l : Launch} {e : Env} {R : Room} {s : State} {m : MethodId} {args : Array Value} {below : List Frame} {meth : Method} {c : Code} {Q : State → Prop}
variable {D : va_G} {cA : Nat → ClassId} {base b nL d rz : Nat} {own : String} {ini : Bool} {cc : ByteArray} {w0 : XW} {o : XO}
/-- behind a call -/
theorem SND.call {pc : Nat} {ls : XL} {st rest : List Value} {as : List Value} {w : XW} {v : Option Value} {w' : XW} {F : Orc} {d' maxL : Nat} {y : MethodName} {bytes : ByteArray} {ret : Option FieldType}
    (A : ACT p l e R s m args below meth c Q D cA base b nL d rz own ini cc w0 o) (hC : CS l D cA base b d' y bytes maxL ret F) (hF : F as w = some (v, w'))
    (h : SND p l e R s m args below meth c Q D cA base b nL w0 o (pc + 3) ls (v.toList ++ rest) w')
    (k : ∀ (H : Heap) (locs : List Loc) (cells slots mc ms : Nat) (LS : Array Slot), lv_has LS nL (xl base b ls) → va_P D vwCl (xw base b cA w) H → (∀ U : State, U.heap = H → s.WarmedH U.vm → XR D cA base b w U) →
      cells + mc ≤ R.cells → slots + ms ≤ R.slots →
      Met l y (.code y bytes maxL ret :: tblG) { frames := d', cells := mc, slots := ms, locals := 40 * d' } (va_Pc (as.map (xv base b)) (XR D cA base b w)) (QX D cA base b (v, w')) mc ms (fun q => base ≤ q) →
      va_Run p l e R s m args below meth c H locs cells slots mc ms (F0 m pc LS (st.map (xv base b))) (rest.map (xv base b)) (QX D cA base b (v, w') (as.map (xv base b)).toArray) (fun q => base ≤ q)) :
    SND p l e R s m args below meth c Q D cA base b nL w0 o pc ls st w := by
  obtain ⟨h1, h2, h3, h4⟩ := h
  obtain ⟨c1, c2, c3, c4⟩ := hC as w _ hF
  refine ⟨Nat.le_trans c1 h1, Nat.le_trans c2 h2, h3.trans c3, fun H locs cells slots LS hl hP hS hz hc hs hr1 hr2 => ?_⟩
  obtain ⟨⟨hx, hb, hml, hown⟩, hts, ⟨-, hK, ⟨xs, hx0, hX⟩, hN, hsz, hbb⟩, hini, hbase, hroom, -⟩ := A
  refine W.sized fun z1 z2 => ?_
  have hw0 : 0 < w0.length := (List.getElem?_eq_some_iff.mp hx0).1
  have hwl : 0 < w.length := by omega
  have hXH : va_X b xs.length (fun j => xs.getD j 0) s H := hX.kept (hS.2.1 b (by omega) (by omega))
  have hsize : H.size + 1 = base + w.length := by
    have := xw_size hP (by omega) hwl
    omega
  have hXR : ∀ U : State, U.heap = H → s.WarmedH U.vm → XR D cA base b w U := fun U hU hW => by
    refine ⟨by rw [hU]; exact hP, va_K.moved hW.alike hK, ⟨xs, hz.trans hx0, ?_⟩, fun n hn => tblN_warm hW hn (hN n hn), by rw [hU]; exact hsize, hbb⟩
    rw [hU]
    exact va_X.moved hW.alike hXH
  have c1 : w.length ≤ w'.length := c1
  have c2 : gs w ≤ gs w' := c2
  have h1 : w'.length ≤ o.2.length := h1
  have h2 : gs w' ≤ gs o.2 := h2
  obtain ⟨mc, hmc⟩ : ∃ mc, w'.length = mc + w.length := ⟨w'.length - w.length, by omega⟩
  obtain ⟨ms, hms⟩ : ∃ ms, gs w' = ms + gs w := ⟨gs w' - gs w, by omega⟩
  have hrun := k H locs cells slots mc ms LS hl hP hXR (by omega) (by omega) (c4 mc ms hmc hms)
  intro T hT X
  obtain ⟨v2, st₀, t, T', L, g0, X', hL, e1, e2, ⟨q1, q2, q3⟩, stp⟩ := hrun T hT X
  have hv2 : v2 = v.map (xv base b) := by cases q1; rfl
  subst hv2
  have hH : va_P D vwCl (xw base b cA w') T'.heap := by rw [e1]; exact q2.1
  have hS' : va_S (fun q => base ≤ q) s.heap T'.heap (locs ++ L) := by
    refine ⟨by rw [e1]; exact Nat.le_trans hS.1 (by rw [← g0]; exact q3.1), fun q g1 g2 => ?_, fun q hq => ?_⟩
    · rw [e1, q3.2 q (by rw [g0]; exact Nat.lt_of_lt_of_le g1 hS.1) g2, g0]
      exact hS.2.1 q g1 g2
    · rcases List.mem_append.mp hq with h | h
      · exact hS.2.2 q h
      · exact hL q h
  obtain ⟨t2, a1, b1⟩ := h4 T'.heap (locs ++ L) (cells + mc) (slots + ms) LS hl hH hS' (c3.trans hz) (by omega) (by omega) hr1 hr2 T' rfl X'
  refine ⟨t2, stp t2 ?_, b1⟩
  have : (v.toList ++ rest).map (xv base b) = (v.map (xv base b)).toList ++ rest.map (xv base b) := by cases v <;> rfl
  rw [this] at a1
  exact a1
end ST
