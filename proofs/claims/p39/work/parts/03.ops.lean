/-! ===== the instructions over small worlds ===== -/
def lk {α : Type} : List (Nat × α) → Nat → Option α
  | [], _ => none
  | (j, v) :: r, i => bif j == i then some v else lk r i
theorem lk_mem {α : Type} {l : List (Nat × α)} {i : Nat} {v : α} (h : lk l i = some v) : (i, v) ∈ l := by
  induction l with
  | nil => cases h
  | cons q r ih =>
    obtain ⟨j, u⟩ := q
    unfold lk at h
    cases hj : j == i with
    | true =>
      rw [hj] at h
      cases h
      rw [eq_of_beq hj]
      exact List.mem_cons_self
    | false =>
      rw [hj] at h
      exact List.mem_cons_of_mem _ (ih h)
/-- a place that a jump goes to -/
def tgo (pc : Nat) (off : Int) (k : Nat → Option XO) : Option XO := match (pc : Int) + off with
  | .ofNat t => k t
  | .negSucc _ => none
def swi (pc : Nat) (d : Int) (x : Int32) (k : Nat → Option XO) : List (Int × Int) → Option XO
  | [] => tgo pc d k
  | (a, o) :: r => if x = Int32.ofInt a then tgo pc o k else swi pc d x k r
def swOk (ps : List (Int × Int)) : Bool := ps.all (fun q => decide (-2147483648 ≤ q.1) && decide (q.1 < 2147483648)) && (ps.zip (ps.drop 1)).all (fun (a, next) => a.1 < next.1)
def oInit : Orc := fun as w => match as with
  | [.ref _] => some (none, w)
  | _ => none
def oCopy : Orc := fun as w => match as with
  | [.ref o, .int i, .ref o2, .int j, .int n] => (sC w o i o2 j n).map (fun w' => (none, w'))
  | _ => none
def oMax : Orc := fun as w => match as with
  | [.int x, .int y] => some (some (.int (if x < y then y else x)), w)
  | _ => none
def oMin : Orc := fun as w => match as with
  | [.int x, .int y] => some (some (.int (if y < x then y else x)), w)
  | _ => none
/-- an operation: what a method is beside its code: fields, classes, constants, calls; ints that are booleans -/
def callK (n rk : Nat) (F : Orc) (k : List Value → XW → Option XO) (st : List Value) (w : XW) : Option XO :=
  if n ≤ st.length ∧ (st.drop n).length ≤ 8 ∧ ((st.drop n).length ≤ 4 ∨ rk = 3) then
    (if rk = 1 ∨ rk = 3 then cI (F (st.take n).reverse w) (fun x w' => k (.int x :: st.drop n) w')
     else if rk = 2 then cL (F (st.take n).reverse w) (fun x w' => k (.long x :: st.drop n) w')
     else cV (F (st.take n).reverse w) (fun w' => k (st.drop n) w'))
  else none
def bin (f : Int32 → Int32 → Int32) (k : List Value → Option XO) (st : List Value) : Option XO := match st with
  | .int y :: .int x :: r => k (.int (f x y) :: r)
  | _ => none
/-- a boolean answer -/
def retZ (x : Int32) (w : XW) : Option XO := if x = 0 then some (some (.int 0), w) else if x = 1 then some (some (.int 1), w) else none
def un (f : Int32 → Int32) (k : List Value → Option XO) (st : List Value) : Option XO := match st with
  | .int x :: r => k (.int (f x) :: r)
  | _ => none
def opK (nL rz : Nat) (fl : List (Nat × Nat × Nat × Nat)) (nl : List (Nat × Nat × List Value)) (kl : List (Nat × Int32)) (k2 : List (Nat × Int64)) (mv ms mi : List (Nat × Nat × Nat × Orc)) (pc : Nat) (K : Kont) (ls : XL) (st : List Value) (w : XW) : Instr → Option XO
  | .iconst n => K (pc + 1) ls (.int (Int32.ofInt n) :: st) w
  | .bipush n => K (pc + 2) ls (.int (Int8.ofInt n).toInt32 :: st) w
  | .sipush n => K (pc + 3) ls (.int (Int16.ofInt n).toInt32 :: st) w
  | .lconst n => K (pc + 1) ls (.long (Int64.ofNat (n : Nat)) :: st) w
  | .ldc i => (lk kl i).bind fun v => K (pc + 2) ls (.int v :: st) w
  | .ldc_w i => (lk kl i).bind fun v => K (pc + 3) ls (.int v :: st) w
  | .ldc2_w i => (lk k2 i).bind fun v => K (pc + 3) ls (.long v :: st) w
  | .iload_n n => match xL ls n with | some (.int x) => K (pc + 1) ls (.int x :: st) w | _ => none
  | .iload n => match xL ls n with | some (.int x) => K (pc + 2) ls (.int x :: st) w | _ => none
  | .lload_n n => match xL ls n with | some (.long x) => K (pc + 1) ls (.long x :: st) w | _ => none
  | .lload n => match xL ls n with | some (.long x) => K (pc + 2) ls (.long x :: st) w | _ => none
  | .aload_n n => match xL ls n with | some (.ref x) => K (pc + 1) ls (.ref x :: st) w | _ => none
  | .aload n => match xL ls n with | some (.ref x) => K (pc + 2) ls (.ref x :: st) w | _ => none
  | .istore_n n => match st with | .int x :: r => if (n : Nat) < nL then K (pc + 1) (xst ls n (.int x)) r w else none | _ => none
  | .istore n => match st with | .int x :: r => if n < nL then K (pc + 2) (xst ls n (.int x)) r w else none | _ => none
  | .lstore_n n => match st with | .long x :: r => if (n : Nat) + 1 < nL then K (pc + 1) (xst2 ls n (.long x)) r w else none | _ => none
  | .lstore n => match st with | .long x :: r => if n + 1 < nL then K (pc + 2) (xst2 ls n (.long x)) r w else none | _ => none
  | .astore_n n => match st with | .ref x :: r => if (n : Nat) < nL then K (pc + 1) (xst ls n (.ref x)) r w else none | _ => none
  | .astore n => match st with | .ref x :: r => if n < nL then K (pc + 2) (xst ls n (.ref x)) r w else none | _ => none
  | .iinc n v => match xL ls n with | some (.int x) => if n < nL then K (pc + 3) (xst ls n (.int (x + Int32.ofInt v))) st w else none | _ => none
  | .iadd => bin (fun x y => x + y) (fun s => K (pc + 1) ls s w) st
  | .isub => bin (fun x y => x - y) (fun s => K (pc + 1) ls s w) st
  | .imul => bin (fun x y => x * y) (fun s => K (pc + 1) ls s w) st
  | .iand => bin (fun x y => x &&& y) (fun s => K (pc + 1) ls s w) st
  | .ior => bin (fun x y => x ||| y) (fun s => K (pc + 1) ls s w) st
  | .ixor => bin (fun x y => x ^^^ y) (fun s => K (pc + 1) ls s w) st
  | .ishl => bin (fun x y => x <<< (y &&& 31)) (fun s => K (pc + 1) ls s w) st
  | .ishr => bin (fun x y => x >>> (y &&& 31)) (fun s => K (pc + 1) ls s w) st
  | .iushr => bin (fun x y => (x.toUInt32 >>> (y.toUInt32 &&& Int32.toUInt32 31)).toInt32) (fun s => K (pc + 1) ls s w) st
  | .idiv => match st with | .int y :: .int x :: r => if y = 0 then none else K (pc + 1) ls (.int (x / y) :: r) w | _ => none
  | .irem => match st with | .int y :: .int x :: r => if y = 0 then none else K (pc + 1) ls (.int (x - x / y * y) :: r) w | _ => none
  | .ineg => un (fun x => -x) (fun s => K (pc + 1) ls s w) st
  | .i2b => un (fun x => x.toInt8.toInt32) (fun s => K (pc + 1) ls s w) st
  | .i2s => un (fun x => x.toInt16.toInt32) (fun s => K (pc + 1) ls s w) st
  | .i2l => match st with | .int x :: r => K (pc + 1) ls (.long x.toInt64 :: r) w | _ => none
  | .ldiv => match st with | .long y :: .long x :: r => if y = 0 then none else K (pc + 1) ls (.long (x / y) :: r) w | _ => none
  | .lrem => match st with | .long y :: .long x :: r => if y = 0 then none else K (pc + 1) ls (.long (x - x / y * y) :: r) w | _ => none
  | .lcmp => match st with | .long y :: .long x :: r => K (pc + 1) ls (.int (lg_cmp x y) :: r) w | _ => none
  | .dup => match st with | v :: r => if v.category = 1 then K (pc + 1) ls (v :: v :: r) w else none | _ => none
  | .dup2 => match st with | v :: u :: r => if v.category = 1 ∧ u.category = 1 then K (pc + 1) ls (v :: u :: v :: u :: r) w else none | _ => none
  | .pop => match st with | v :: r => if v.category = 1 then K (pc + 1) ls r w else none | _ => none
  | .goto off => tgo pc off fun t => K t ls st w
  | .ifCond c off => match st with
    | .int x :: r => match c with
      | .eq => if x = 0 then tgo pc off (fun t => K t ls r w) else K (pc + 3) ls r w
      | .ne => if x = 0 then K (pc + 3) ls r w else tgo pc off (fun t => K t ls r w)
      | .lt => if x < 0 then tgo pc off (fun t => K t ls r w) else K (pc + 3) ls r w
      | .ge => if x < 0 then K (pc + 3) ls r w else tgo pc off (fun t => K t ls r w)
      | .gt => if 0 < x then tgo pc off (fun t => K t ls r w) else K (pc + 3) ls r w
      | .le => if 0 < x then K (pc + 3) ls r w else tgo pc off (fun t => K t ls r w)
    | _ => none
  | .if_icmp c off => match st with
    | .int y :: .int x :: r => match c with
      | .eq => if x = y then tgo pc off (fun t => K t ls r w) else K (pc + 3) ls r w
      | .ne => if x = y then K (pc + 3) ls r w else tgo pc off (fun t => K t ls r w)
      | .lt => if x < y then tgo pc off (fun t => K t ls r w) else K (pc + 3) ls r w
      | .ge => if x < y then K (pc + 3) ls r w else tgo pc off (fun t => K t ls r w)
      | .gt => if y < x then tgo pc off (fun t => K t ls r w) else K (pc + 3) ls r w
      | .le => if y < x then K (pc + 3) ls r w else tgo pc off (fun t => K t ls r w)
    | _ => none
  | .tableswitch d lo hi offs => match st with
    | .int x :: r => if hi = lo + (offs.size : Int) - 1 ∧ -2147483648 ≤ lo ∧ hi < 2147483648 then swi pc d x (fun t => K t ls r w) (offs.toList.mapIdx fun i o => (lo + (i : Int), o)) else none
    | _ => none
  | .lookupswitch d ps => match st with
    | .int x :: r => if swOk ps.toList = true then swi pc d x (fun t => K t ls r w) ps.toList else none
    | _ => none
  | .getfield i => (lk fl i).bind fun f => match st with
    | .ref o :: r => if f.2.2 < 10 then (gI w o f.1 f.2.1).bind (fun x => K (pc + 3) ls (.int x :: r) w) else (gR w o f.1 f.2.1).bind (fun x => K (pc + 3) ls (.ref x :: r) w)
    | _ => none
  | .putfield i => (lk fl i).bind fun f => match st with
    | .int x :: .ref o :: r => if f.2.2 = 1 then (pF w o f.1 f.2.1 (.int x)).bind (fun w' => K (pc + 3) ls r w') else none
    | .ref x :: .ref o :: r => if f.2.2 = 12 then (pF w o f.1 f.2.1 (.ref x)).bind (fun w' => K (pc + 3) ls r w') else none
    | _ => none
  | .iaload => match st with | .int i :: .ref o :: r => (aI w o i).bind (fun x => K (pc + 1) ls (.int x :: r) w) | _ => none
  | .iastore => match st with | .int x :: .int i :: .ref o :: r => (sI w o i x).bind (fun w' => K (pc + 1) ls r w') | _ => none
  | .arraylength => match st with | .ref o :: r => (aL w o).bind (fun x => K (pc + 1) ls (.int x :: r) w) | _ => none
  | .newarray t => match st with
    | .int n :: r => match t with
      | .int => if 0 ≤ n ∧ n ≤ 1000 ∧ 0 < w.length then K (pc + 2) ls (.ref w.length :: r) (w ++ [.inr (0, List.replicate n.toNatClampNeg 0)]) else none
      | _ => none
    | _ => none
  | .new i => (lk nl i).bind fun f => if 0 < w.length then (bif f.1 == 99 then none else K (pc + 3) ls (.ref w.length :: st) (w ++ [.inl (f.1, f.2)])) else none
  | .multianewarray i d => (lk nl i).bind fun f => bif f.1 == 99 && d == 2 then (match st with
      | .int k :: .int n :: r => if 0 ≤ n ∧ n ≤ 1000 ∧ 0 ≤ k ∧ k ≤ 1000 ∧ 0 < w.length ∧ w.length ≤ 1000 then K (pc + 4) ls (.ref w.length :: r) (w ++ mkA w.length n k) else none
      | _ => none) else none
  | .aaload => match st with | .int i :: .ref o :: r => (aR w o i).bind (fun x => K (pc + 1) ls (.ref x :: r) w) | _ => none
  | .invokevirtual i => (lk mv i).bind fun f => callK f.1 f.2.1 f.2.2 (fun s w' => K (pc + 3) ls s w') st w
  | .invokestatic i => (lk ms i).bind fun f => callK f.1 f.2.1 f.2.2 (fun s w' => K (pc + 3) ls s w') st w
  | .invokespecial i => (lk mi i).bind fun f => callK f.1 f.2.1 f.2.2 (fun s w' => K (pc + 3) ls s w') st w
  | .ireturn => match st with
    | [.int x] => if rz = 0 then some (some (.int x), w) else if rz = 1 then retZ x w else none
    | _ => none
  | .lreturn => match st with | [.long x] => if rz = 2 then some (some (.long x), w) else none | _ => none
  | .return_ => match st with | [] => if rz = 3 then some (none, w) else none | _ => none
  | _ => none
def okLen (ins : Instr) (len : Nat) : Bool := match ins with
  | .bipush _ | .iload _ | .lload _ | .aload _ | .istore _ | .lstore _ | .astore _ | .ldc _ | .newarray _ => len == 2
  | .sipush _ | .ldc_w _ | .ldc2_w _ | .iinc .. | .goto _ | .ifCond .. | .if_icmp .. | .getfield _ | .putfield _ | .new _ | .invokevirtual _ | .invokestatic _ | .invokespecial _ => len == 3
  | .multianewarray .. => len == 4
  | .tableswitch .. | .lookupswitch .. => true
  | _ => len == 1
def okAt (pc : Nat) (ins : Instr) (len : Nat) : Bool := okLen ins len && (match ins with
  | .ifCond _ off | .if_icmp _ off => decide (0 ≤ (pc : Int) + off)
  | _ => true)
/-- a method's code as a table; run from a place to the next cut -/
def opT (T : List (Nat × Instr)) (op : Nat → Kont → XL → List Value → XW → Instr → Option XO) (pc : Nat) (K : Kont) (ls : XL) (st : List Value) (w : XW) : Option XO := (lk T pc).bind fun i => op pc K ls st w i
def ev (T : List (Nat × Instr)) (op : Nat → Kont → XL → List Value → XW → Instr → Option XO) (cut : List Nat) (K : Kont) : Nat → Kont
  | 0 => fun _ _ _ _ => none
  | n + 1 => fun pc ls st w => opT T op pc (fun pc' ls' st' w' => bif cut.elem pc' then K pc' ls' st' w' else ev T op cut K n pc' ls' st' w') ls st w
