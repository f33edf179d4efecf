/-! ===== small worlds: cells by number (number 0 is the script), values whose references are numbers ===== -/
abbrev XC : Type := (Nat × List Value) ⊕ (Nat × List Int32)
abbrev XW : Type := List XC
abbrev XL : Type := List (Nat × Value)
abbrev XO : Type := Option Value × XW
abbrev Kont : Type := Nat → XL → List Value → XW → Option XO
abbrev Orc : Type := List Value → XW → Option XO
def xa (base b : Nat) : Nat → Nat
  | 0 => b
  | k + 1 => base + k
def xv (base b : Nat) : Value → Value
  | .ref k => .ref (xa base b k)
  | .int x => .int x
  | .long x => .long x
  | .float x => .float x
  | .double x => .double x
  | .null => .null
  | .retAddr x => .retAddr x
def xe (base b : Nat) (cA : Nat → ClassId) : XC → va_E
  | .inl (ci, fs) => .inr (ci, fs.map (xv base b))
  | .inr (t, xs) => bif t == 3 then .inl (cA 3, xs.length, .inr (.inr (.inr (.inr (fun j => some (xa base b (xs.getD j 0).toNatClampNeg)))))) else .inl (cA t, xs.length, .inl (fun j => xs.getD j 0))
def xw (base b : Nat) (cA : Nat → ClassId) (w : XW) : va_W := w.tail.mapIdx fun k c => (base + k, xe base b cA c)
def xsz : XC → Nat
  | .inl (_, fs) => fs.length
  | .inr (_, xs) => xs.length
def gs (w : XW) : Nat := (w.map xsz).sum
/-! what is read and written -/
def gF (w : XW) (o ci k : Nat) : Option Value := match w[o]? with
  | some (.inl (c, fs)) => if c = ci then fs[k]? else none
  | _ => none
def gI (w : XW) (o ci k : Nat) : Option Int32 := match gF w o ci k with
  | some (.int x) => some x
  | _ => none
def gR (w : XW) (o ci k : Nat) : Option Nat := match gF w o ci k with
  | some (.ref x) => some x
  | _ => none
def pF (w : XW) (o ci k : Nat) (v : Value) : Option XW := match w[o]? with
  | some (.inl (c, fs)) => if c = ci ∧ k < fs.length ∧ o ≠ 0 then some (w.set o (.inl (c, fs.set k v))) else none
  | _ => none
def aI (w : XW) (o : Nat) (i : Int32) : Option Int32 := match w[o]? with
  | some (.inr (t, xs)) => if (t = 0 ∨ o = 0) ∧ 0 ≤ i then xs[i.toNatClampNeg]? else none
  | _ => none
def aZ (w : XW) (o : Nat) (i : Int32) : Option Int32 := match w[o]? with
  | some (.inr (t, xs)) => if t = 1 ∧ o ≠ 0 ∧ 0 ≤ i then xs[i.toNatClampNeg]? else none
  | _ => none
def aL (w : XW) (o : Nat) : Option Int32 := match w[o]? with
  | some (.inr (t, xs)) => if t = 0 ∨ o = 0 then some (Int32.ofNat xs.length) else none
  | _ => none
def sI (w : XW) (o : Nat) (i x : Int32) : Option XW := match w[o]? with
  | some (.inr (t, xs)) => if t = 0 ∧ o ≠ 0 ∧ 0 ≤ i ∧ i.toNatClampNeg < xs.length then some (w.set o (.inr (0, xs.set i.toNatClampNeg x))) else none
  | _ => none
def sZ (w : XW) (o : Nat) (i x : Int32) : Option XW := match w[o]? with
  | some (.inr (t, xs)) => if t = 1 ∧ o ≠ 0 ∧ 0 ≤ i ∧ i.toNatClampNeg < xs.length then some (w.set o (.inr (1, xs.set i.toNatClampNeg (x &&& 1)))) else none
  | _ => none
/-- n cells from i on of an int array go to another one from j on -/
def sC (w : XW) (o : Nat) (i : Int32) (o2 : Nat) (j n : Int32) : Option XW := match w[o]?, w[o2]? with
  | some (.inr (t, xs)), some (.inr (t2, ys)) => if t = 0 ∧ t2 = 0 ∧ o ≠ 0 ∧ o2 ≠ 0 ∧ 0 ≤ i ∧ 0 ≤ j ∧ 0 ≤ n ∧ i.toNatClampNeg + n.toNatClampNeg ≤ xs.length ∧ j.toNatClampNeg + n.toNatClampNeg ≤ ys.length then
      some (w.set o2 (.inr (0, ys.take j.toNatClampNeg ++ ((xs.drop i.toNatClampNeg).take n.toNatClampNeg ++ ys.drop (j.toNatClampNeg + n.toNatClampNeg))))) else none
  | _, _ => none
/-- an array of arrays: its cells' numbers; how two dimensions are made -/
def aR (w : XW) (o : Nat) (i : Int32) : Option Nat := match w[o]? with
  | some (.inr (t, xs)) => if t = 3 ∧ o ≠ 0 ∧ 0 ≤ i then (xs[i.toNatClampNeg]?).map (fun x => x.toNatClampNeg) else none
  | _ => none
def mkA (L : Nat) (n k : Int32) : XW := .inr (3, (List.range n.toNatClampNeg).map (fun j => Int32.ofNat (L + 1 + j))) :: List.replicate n.toNatClampNeg (.inr (0, List.replicate k.toNatClampNeg 0))
def isO (w : XW) (o ci : Nat) : Bool := match w[o]? with
  | some (.inl (c, _)) => c == ci
  | _ => false
/-! what an answer is -/
def cI (m : Option XO) (k : Int32 → XW → Option XO) : Option XO := match m with
  | some (some (.int x), w) => k x w
  | _ => none
def cL (m : Option XO) (k : Int64 → XW → Option XO) : Option XO := match m with
  | some (some (.long x), w) => k x w
  | _ => none
def cV (m : Option XO) (k : XW → Option XO) : Option XO := match m with
  | some (none, w) => k w
  | _ => none
/-! ===== how they stand for the machine's ===== -/
theorem xw_get {base b : Nat} {cA : Nat → ClassId} {w : XW} {o : Nat} {c : XC} (h : w[o + 1]? = some c) : (xw base b cA w)[o]? = some (base + o, xe base b cA c) := by
  unfold xw
  rw [List.getElem?_mapIdx]
  have : w.tail[o]? = some c := by rw [List.getElem?_tail]; exact h
  rw [this]; rfl
theorem xw_of {base b : Nat} {cA : Nat → ClassId} {w : XW} {k : Nat} {q : Nat × va_E} (h : (xw base b cA w)[k]? = some q) : q.1 = base + k ∧ k + 1 < w.length := by
  unfold xw at h
  rw [List.getElem?_mapIdx] at h
  cases hc : w.tail[k]? with
  | none => rw [hc] at h; cases h
  | some c =>
    rw [hc] at h
    cases h
    refine ⟨rfl, ?_⟩
    have := (List.getElem?_eq_some_iff.mp hc).1
    rw [List.length_tail] at this
    omega
theorem xw_set {base b : Nat} {cA : Nat → ClassId} {w : XW} {o : Nat} {c : XC} : xw base b cA (w.set (o + 1) c) = (xw base b cA w).set o (base + o, xe base b cA c) := by
  unfold xw
  cases w with
  | nil => rfl
  | cons a r => simp [List.mapIdx_set]
theorem xw_push {base b : Nat} {cA : Nat → ClassId} {w : XW} {c : XC} (h : 0 < w.length) : xw base b cA (w ++ [c]) = xw base b cA w ++ [(base + (w.length - 1), xe base b cA c)] := by
  unfold xw
  cases w with
  | nil => simp at h
  | cons a r => simp [List.mapIdx_append]
theorem xw_D {base b : Nat} {cA : Nat → ClassId} (w : XW) : va_D (fun q => base ≤ q) (xw base b cA w) := by
  refine ⟨fun i j p q hi hj hpq => ?_, fun k q hk => ?_⟩
  · have h1 := (xw_of hi).1
    have h2 := (xw_of hj).1
    omega
  · rw [(xw_of hk).1]; omega
theorem gs_set {w : XW} {o : Nat} {c d : XC} (h : w[o]? = some c) (hs : xsz c = xsz d) : gs (w.set o d) = gs w := by
  unfold gs
  rw [List.map_set]
  congr 1
  apply List.ext_getElem?
  intro k
  rw [List.getElem?_set]
  split
  next hk =>
    subst hk
    split
    next => rw [List.getElem?_map, h]; simp [hs]
    next hl => rw [List.length_map] at hl; exact absurd (List.getElem?_eq_some_iff.mp h).1 hl
  next => rfl
theorem gs_push (w : XW) (c : XC) : gs (w ++ [c]) = gs w + xsz c := by simp [gs]
theorem xv_cat (base b : Nat) (v : Value) : (xv base b v).category = v.category := by cases v <;> rfl
theorem xv_sum (base b : Nat) (st : List Value) : ((st.map (xv base b)).map fun v => v.category).sum = (st.map fun v => v.category).sum := by
  rw [List.map_map]; congr 1; apply List.map_congr_left; intro v _; exact xv_cat base b v
theorem cat_le (st : List Value) : (st.map fun v => v.category).sum ≤ 2 * st.length := by
  induction st with
  | nil => simp
  | cons v r ih =>
    have : v.category ≤ 2 := by rcases lv_cat v with h | h <;> omega
    simp only [List.map_cons, List.sum_cons, List.length_cons]; omega
/-! locals -/
def xl (base b : Nat) (ls : XL) : List (Nat × Value) := ls.map fun q => (q.1, xv base b q.2)
def xL : XL → Nat → Option Value
  | [], _ => none
  | (j, v) :: r, i => bif j == i then some v else xL r i
def xst (ls : XL) (i : Nat) (v : Value) : XL := (i, v) :: ls.filter (fun q => !(q.1 == i) && !(q.1 + 1 == i && q.2.category == 2))
def xst2 (ls : XL) (i : Nat) (v : Value) : XL := (i, v) :: ls.filter (fun q => !(q.1 == i) && (!(q.1 == i + 1) && !(q.1 + 1 == i && q.2.category == 2)))
theorem xL_mem {ls : XL} {i : Nat} {v : Value} (h : xL ls i = some v) : (i, v) ∈ ls := by
  induction ls with
  | nil => cases h
  | cons q r ih =>
    obtain ⟨j, u⟩ := q
    unfold xL at h
    cases hj : j == i with
    | true =>
      rw [hj] at h
      cases h
      rw [eq_of_beq hj]
      exact List.mem_cons_self
    | false =>
      rw [hj] at h
      exact List.mem_cons_of_mem _ (ih h)
theorem xL_at {base b nL : Nat} {LS : Array Slot} {ls : XL} {i : Nat} {v : Value} (h : lv_has LS nL (xl base b ls)) (hv : xL ls i = some v) : LS[i]? = some (.val (xv base b v)) :=
  h.2.2 (i, xv base b v) (List.mem_map.mpr ⟨(i, v), xL_mem hv, rfl⟩)
theorem xL_place {base b : Nat} {ls : XL} {i : Nat} {v : Value} (hv : xL ls i = some v) : ∃ k : Nat, (xl base b ls)[k]? = some (i, xv base b v) :=
  List.getElem?_of_mem (List.mem_map.mpr ⟨(i, v), xL_mem hv, rfl⟩)
theorem xst_map (base b : Nat) (ls : XL) (i : Nat) (v : Value) : (i, xv base b v) :: (xl base b ls).filter (fun q => !(q.1 == i) && !(q.1 + 1 == i && q.2.category == 2)) = xl base b (xst ls i v) := by
  unfold xl xst
  rw [List.map_cons, List.filter_map]
  congr 2
  apply List.filter_congr
  intro q _
  simp [xv_cat]
theorem xst2_map (base b : Nat) (ls : XL) (i : Nat) (v : Value) : (i, xv base b v) :: (xl base b ls).filter (fun q => !(q.1 == i) && (!(q.1 == i + 1) && !(q.1 + 1 == i && q.2.category == 2))) = xl base b (xst2 ls i v) := by
  unfold xl xst2
  rw [List.map_cons, List.filter_map]
  congr 2
  apply List.filter_congr
  intro q _
  simp [xv_cat]
theorem xl_sub {base b nL : Nat} {LS : Array Slot} {ls ks : XL} (h : lv_has LS nL (xl base b ls)) (hk : ∀ q ∈ ks, xL ls q.1 = some q.2) : lv_has LS nL (xl base b ks) := by
  refine ⟨h.1, h.2.1, fun q hq => ?_⟩
  obtain ⟨p, hp, rfl⟩ := List.mem_map.mp hq
  exact xL_at h (hk p hp)
/-! words that are good at every state, and those of nest mates -/
def isNest : Jvm.Cond → Bool
  | .methodLinkNest .. => true
  | .fieldLinkNest .. => true
  | .arrayOver _ => true
  | _ => false
def tblN : List Jvm.Cond := tables_1.filter isNest
def tblG : List Jvm.Cond := lw_tbl.filter goodWord
theorem tblG_good {w : Jvm.Cond} (h : w ∈ tblG) : (w.onTables && w.keeps) = true ∨ ∃ ty, w = .arrayClass ty := good_of_word (List.mem_filter.mp h).2
theorem tblG_of {i : Nat} {w : Jvm.Cond} (h : tables_1[i]? = some w) (hg : goodWord w = true) : w ∈ tblG :=
  List.mem_filter.mpr ⟨List.mem_append_right _ (List.mem_of_getElem? h), hg⟩
theorem tblG_sel {q : MethodName × Nat} (h : q ∈ lw_privs) : Jvm.Cond.selects q.1.cls q.1 q.1 ∈ tblG :=
  List.mem_filter.mpr ⟨List.mem_append_left _ (List.mem_map.mpr ⟨q, h, rfl⟩), rfl⟩
theorem tblN_of {i : Nat} {w : Jvm.Cond} (h : tables_1[i]? = some w) (hg : isNest w = true) : w ∈ tblN := List.mem_filter.mpr ⟨List.mem_of_getElem? h, hg⟩
theorem tblN_warm {s U : State} (hW : s.WarmedH U.vm) {n : Jvm.Cond} (hn : n ∈ tblN) (h : va_Nw n s) : va_Nw n U := by
  have h1 := (List.mem_filter.mp hn).2
  cases n with
  | arrayOver ty =>
    have e : (s.setVm U.vm).vm = U.vm := rfl
    have h2 : (Jvm.Cond.arrayOver ty).before #[] (s.setVm U.vm) = true := by rw [Cond.arrayOver_setVmC hW.alike]; exact h
    exact h2
  | _ => first | exact va_Nw.warmF hW h | exact va_Nw.warmM hW h | cases h1
/-! the world of a state -/
abbrev xTys (cA : Nat → ClassId) : List (ClassId × FieldType) := [(cA 0, .int), (cA 3, .array .int)]
def XR (D : va_G) (cA : Nat → ClassId) (base b : Nat) (w : XW) (U : State) : Prop :=
  va_P D vwCl (xw base b cA w) U.heap ∧ va_K D vwCl (xTys cA) U ∧ (∃ xs, w[0]? = some (.inr (2, xs)) ∧ va_X b xs.length (fun j => xs.getD j 0) U U.heap) ∧ (∀ n ∈ tblN, va_Nw n U) ∧ U.heap.size + 1 = base + w.length ∧ b < base
def QX (D : va_G) (cA : Nat → ClassId) (base b : Nat) (o : XO) : Array Value → State → Outcome → State → Prop :=
  fun _ st oc t => oc = .returned (o.1.map (xv base b)) ∧ XR D cA base b o.2 t ∧ va_F (fun q => base ≤ q) st t
/-- a method answers, and leaves the world, as a function says -/
def CS (l : Launch) (D : va_G) (cA : Nat → ClassId) (base b d : Nat) (y : MethodName) (bytes : ByteArray) (maxL : Nat) (ret : Option FieldType) (F : Orc) : Prop :=
  ∀ (as : List Value) (w : XW) (o : XO), F as w = some o → w.length ≤ o.2.length ∧ gs w ≤ gs o.2 ∧ o.2[0]? = w[0]? ∧
    ∀ mc ms : Nat, o.2.length = mc + w.length → gs o.2 = ms + gs w →
      Met l y (.code y bytes maxL ret :: tblG) { frames := d, cells := mc, slots := ms, locals := 40 * d } (va_Pc (as.map (xv base b)) (XR D cA base b w)) (QX D cA base b o) mc ms (fun q => base ≤ q)
theorem XR.len {D : va_G} {cA : Nat → ClassId} {base b : Nat} {w : XW} {U : State} (h : XR D cA base b w U) : 0 < w.length := by
  obtain ⟨xs, h0, -⟩ := h.2.2.1
  exact (List.getElem?_eq_some_iff.mp h0).1
theorem xw_size {D : va_G} {cA : Nat → ClassId} {base b : Nat} {w : XW} {H : Heap} (hP : va_P D vwCl (xw base b cA w) H) (h0 : base ≤ H.size) (hl : 0 < w.length) : base + w.length ≤ H.size + 1 := by
  by_cases h : w.length = 1
  · omega
  · obtain ⟨k, hk⟩ : ∃ k, w.length = k + 2 := ⟨w.length - 2, by omega⟩
    have h2 : w[k + 1]? = some (w[k + 1]'(by omega)) := List.getElem?_eq_getElem _
    have h3 := (hP k _ (xw_get h2)).lt
    simp only at h3
    omega
