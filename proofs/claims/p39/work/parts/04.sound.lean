/-! ===== the instructions stand for the machine's ===== -/
section SN
variable {p : Program} {l : Launch} {e : Env} {R : Room} {s : State} {m : MethodId} {args : Array Value} {below : List Frame} {meth : Method} {c : Code} {Q : State → Prop}
variable {D : va_G} {cA : Nat → ClassId} {base b nL : Nat} {cc : ByteArray} {w0 : XW} {o : XO}
theorem W.sized {H : Heap} {locs : List Loc} {cells slots : Nat} {g : JFrame} (k : s.heap.size ≤ H.size → H.size ≤ s.heap.size + cells → W p l e R s m args below meth c H locs cells slots Q g) : W p l e R s m args below meth c H locs cells slots Q g := by
  intro T hT X
  have h := X.same
  have h1 : (T.setVm s.vm).heap = H := hT
  exact k (by have := h.2.1; rw [h1] at this; exact this) (by have := h.2.2.1; rw [h1] at this; exact this) T hT X
/-- from a place, with locals, stack and world, the method comes to its end -/
def SND (p : Program) (l : Launch) (e : Env) (R : Room) (s : State) (m : MethodId) (args : Array Value) (below : List Frame) (meth : Method) (c : Code) (Q : State → Prop) (D : va_G) (cA : Nat → ClassId) (base b nL : Nat) (w0 : XW) (o : XO) (pc : Nat) (ls : XL) (st : List Value) (w : XW) : Prop :=
  w.length ≤ o.2.length ∧ gs w ≤ gs o.2 ∧ o.2[0]? = w[0]? ∧
  ∀ (H : Heap) (locs : List Loc) (cells slots : Nat) (LS : Array Slot), lv_has LS nL (xl base b ls) → va_P D vwCl (xw base b cA w) H → va_S (fun q => base ≤ q) s.heap H locs → w[0]? = w0[0]? → cells + w0.length = w.length → slots + gs w0 = gs w → o.2.length ≤ R.cells + w0.length → gs o.2 ≤ R.slots + gs w0 →
    W p l e R s m args below meth c H locs cells slots Q (F0 m pc LS (st.map (xv base b)))
def rOK (cc : ByteArray) (rz pc : Nat) (v : Option Value) : Prop := match v with
  | some (.int x) => decode cc pc = .ok (.ireturn, 1) ∧ (rz = 0 ∨ (rz = 1 ∧ (x = 0 ∨ x = 1)))
  | some (.long x) => decode cc pc = .ok (.lreturn, 1) ∧ rz = 2
  | none => decode cc pc = .ok (.return_, 1) ∧ rz = 3
  | _ => False
/-- what holds through a whole method -/
def ACT (p : Program) (l : Launch) (e : Env) (R : Room) (s : State) (m : MethodId) (args : Array Value) (below : List Frame) (meth : Method) (c : Code) (Q : State → Prop) (D : va_G) (cA : Nat → ClassId) (base b nL d rz : Nat) (own : String) (ini : Bool) (cc : ByteArray) (w0 : XW) (o : XO) : Prop :=
  (p.tables.exec = Jvm.exec ∧ c.code = cc ∧ c.maxLocals = nL ∧ s.vm.findClass own = some m.cls) ∧ (∀ w ∈ tblG, w.before args s = true) ∧ XR D cA base b w0 s ∧ (ini = true → meth.name = "<init>") ∧ base ≤ s.heap.size ∧ (d + 1 ≤ R.frames ∧ 40 * d + 40 ≤ R.locals) ∧
  ∀ (H : Heap) (locs : List Loc) (cells slots : Nat) (LS : Array Slot) (pc : Nat), va_P D vwCl (xw base b cA o.2) H → va_S (fun q => base ≤ q) s.heap H locs → o.2[0]? = w0[0]? → cells + w0.length = o.2.length → slots + gs w0 = gs o.2 → o.2.length ≤ R.cells + w0.length → gs o.2 ≤ R.slots + gs w0 →
    rOK cc rz pc o.1 →
    W p l e R s m args below meth c H locs cells slots Q (F0 m pc LS ((o.1.map (xv base b)).toList))
abbrev KS (p : Program) (l : Launch) (e : Env) (R : Room) (s : State) (m : MethodId) (args : Array Value) (below : List Frame) (meth : Method) (c : Code) (Q : State → Prop) (D : va_G) (cA : Nat → ClassId) (base b nL : Nat) (w0 : XW) (o : XO) (K : Kont) : Prop :=
  ∀ pc ls st w, K pc ls st w = some o → SND p l e R s m args below meth c Q D cA base b nL w0 o pc ls st w
/-- a step that leaves the world -/
theorem SND.step {pc pc' : Nat} {ls ls' : XL} {st st' : List Value} {w : XW} (h : SND p l e R s m args below meth c Q D cA base b nL w0 o pc' ls' st' w)
    (k : ∀ (H : Heap) (locs : List Loc) (cells slots : Nat) (LS : Array Slot), lv_has LS nL (xl base b ls) → va_P D vwCl (xw base b cA w) H → va_S (fun q => base ≤ q) s.heap H locs → w[0]? = w0[0]? →
      (∀ LS', lv_has LS' nL (xl base b ls') → W p l e R s m args below meth c H locs cells slots Q (F0 m pc' LS' (st'.map (xv base b)))) → W p l e R s m args below meth c H locs cells slots Q (F0 m pc LS (st.map (xv base b)))) :
    SND p l e R s m args below meth c Q D cA base b nL w0 o pc ls st w := by
  obtain ⟨h1, h2, h3, h4⟩ := h
  exact ⟨h1, h2, h3, fun H locs cells slots LS hl hP hS h0 hc hs hr1 hr2 => k H locs cells slots LS hl hP hS h0 fun LS' hl' => h4 H locs cells slots LS' hl' hP hS h0 hc hs hr1 hr2⟩
/-- a step that writes: the locals stay -/
theorem SND.put {pc pc' : Nat} {ls : XL} {st st' : List Value} {w w' : XW} (h : SND p l e R s m args below meth c Q D cA base b nL w0 o pc' ls st' w') (hl : w'.length = w.length) (hg : gs w' = gs w) (h0 : w'[0]? = w[0]?)
    (k : ∀ (H : Heap) (locs : List Loc) (cells slots : Nat) (LS : Array Slot), lv_has LS nL (xl base b ls) → va_P D vwCl (xw base b cA w) H → va_S (fun q => base ≤ q) s.heap H locs → w[0]? = w0[0]? →
      (∀ H1 locs1, va_P D vwCl (xw base b cA w') H1 → va_S (fun q => base ≤ q) s.heap H1 locs1 → W p l e R s m args below meth c H1 locs1 cells slots Q (F0 m pc' LS (st'.map (xv base b)))) → W p l e R s m args below meth c H locs cells slots Q (F0 m pc LS (st.map (xv base b)))) :
    SND p l e R s m args below meth c Q D cA base b nL w0 o pc ls st w := by
  obtain ⟨h1, h2, h3, h4⟩ := h
  exact ⟨by omega, by omega, h3.trans h0, fun H locs cells slots LS hl' hP hS hz hc hs hr1 hr2 => k H locs cells slots LS hl' hP hS hz fun H1 locs1 hP1 hS1 => h4 H1 locs1 cells slots LS hl' hP1 hS1 (h0.trans hz) (by omega) (by omega) hr1 hr2⟩
end SN
