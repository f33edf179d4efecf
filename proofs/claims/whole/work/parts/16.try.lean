def T_X0_isCell : List (Nat × Instr) := [(0, .iload_n 1), (1, .ifCond .lt 15), (4, .iload_n 1), (5, .aload_n 0), (6, .getfield 58), (9, .if_icmp .ge 7), (12, .iconst 1), (13, .goto 4), (16, .iconst 0), (17, .ireturn)]
def op_X0_isCell (fu : Nat) : Nat → Kont → XL → List Value → XW → Instr → Option XO := opK 2 (rzOf (some .boolean)) fl_BrookStones_Brook [] [] [] [] [] []
def M_X0_isCell (fu : Nat) (a0 : Nat) (a1 : Int32) (w : XW) : Option XO :=
  (if a1 < 0 then
    retZ (0 : Int32) w
  else
    (gI w a0 0 8).bind fun x1 =>
    (if a1 < x1 then
      retZ (1 : Int32) w
    else
      retZ (0 : Int32) w))
def U_X0_isCell (fu : Nat) : Orc := fun as w => match as with
  | [.ref a0, .int a1] => if isO w a0 0 = true then M_X0_isCell fu a0 a1 w else none
  | _ => none
def K_X0_isCell (fu : Nat) (n : Nat) : Kont := fun pc ls st w => none
set_option maxRecDepth 100000 in
set_option maxHeartbeats 4000000 in
theorem E_X0_isCell (fu : Nat) (a0 : Nat) (a1 : Int32) (w : XW) : M_X0_isCell fu a0 a1 w = ev T_X0_isCell (op_X0_isCell fu) [] (K_X0_isCell fu fu) 12 0 (lv_args 0 [.ref a0, .int a1]) [] w := by
  rfl
theorem D_X0_isCell (fu : Nat) : DS T_X0_isCell (op_X0_isCell fu) [] 12 (K_X0_isCell fu) := by
  refine ⟨fun pc ls st w => rfl, fun n pc ls st w o h => ?_⟩
  cases h
theorem H_X0_isCell (fu : Nat) : ∀ as w o, U_X0_isCell fu as w = some o → ∃ a r, as = .ref a :: r ∧ r.length = 1 ∧ isO w a 0 = true := by
  intro as w o h
  unfold U_X0_isCell at h
  split at h
  next =>
    split at h
    next hh => exact ⟨_, _, rfl, rfl, hh⟩
    next => cases h
  next => cases h
set_option maxRecDepth 100000 in
set_option maxHeartbeats 4000000 in
theorem S_X0_isCell (fu : Nat) {l : Launch} {D : va_G} {cA : Nat → ClassId} {base b : Nat} : CS l D cA base b 1 y_X0_isCell prog_2_method_4_code 2 (some .boolean) (U_X0_isCell fu) ∧ OM (U_X0_isCell fu) := by
  refine CS_of (d := 0) (y := y_X0_isCell) (cc := prog_2_method_4_code) (nL := 2) (ret := (some .boolean)) (F := U_X0_isCell fu) (fl := fl_BrookStones_Brook) (nl := []) (kl := []) (k2 := []) (mv := []) (ms := []) (mi := []) (ini := false) hI_w hZ_w fl_BrookStones_Brook_ok nil_all nil_all nil_all
    (nil_all)
    (nil_all)
    (nil_all)
    (T := T_X0_isCell) (by decide +kernel) (cut := []) (N := 12) (D_X0_isCell fu) (by decide +kernel) (fun h => absurd h (by decide)) (fun as w o h => ?_)
  unfold U_X0_isCell at h
  split at h
  next =>
    split at h
    next => exact ⟨Nat.le_of_ble_eq_true rfl, fu, (E_X0_isCell fu _ _ w).symm.trans h⟩
    next => cases h
  next => cases h
def T_X0_cellOf : List (Nat × Instr) := [(0, .iconst 0), (1, .istore_n 2), (2, .iload_n 2), (3, .aload_n 0), (4, .getfield 58), (7, .if_icmp .ge 21), (10, .aload_n 0), (11, .getfield 18), (14, .iload_n 2), (15, .iaload), (16, .iload_n 1), (17, .if_icmp .ne 5), (20, .iload_n 2), (21, .ireturn), (22, .iinc 2 1), (25, .goto (-23)), (28, .bipush (-9)), (30, .ireturn)]
def op_X0_cellOf (fu : Nat) : Nat → Kont → XL → List Value → XW → Instr → Option XO := opK 3 (rzOf (some .int)) fl_BrookStones_Brook [] [] [] [] [] []
def F_X0_cellOf (fu : Nat) : Nat → (Nat → Int32 → Int32 → XW → Option XO)
  | 0 => fun _ _ _ _ => none
  | n + 1 => (fun a0 a1 a2 w =>
    (gI w a0 0 8).bind fun x1 =>
    (if a2 < x1 then
      (gR w a0 0 2).bind fun r2 =>
      (aI w r2 a2).bind fun x3 =>
      (if x3 = a1 then
        some (some (.int a2), w)
      else
        (F_X0_cellOf fu n) a0 a1 (a2 + (1 : Int32)) w)
    else
      some (some (.int (-9 : Int32)), w)))
def M_X0_cellOf (fu : Nat) (a0 : Nat) (a1 : Int32) (w : XW) : Option XO :=
  (F_X0_cellOf fu fu) a0 a1 (0 : Int32) w
def U_X0_cellOf (fu : Nat) : Orc := fun as w => match as with
  | [.ref a0, .int a1] => if isO w a0 0 = true then M_X0_cellOf fu a0 a1 w else none
  | _ => none
def K_X0_cellOf (fu : Nat) (n : Nat) : Kont := fun pc ls st w => bif pc == 2 then ((xr ls 0).bind fun a0 => (xi ls 1).bind fun a1 => (xi ls 2).bind fun a2 => match st with | [] => (F_X0_cellOf fu n) a0 a1 a2 w | _ => none) else none
set_option maxRecDepth 100000 in
set_option maxHeartbeats 4000000 in
theorem E_X0_cellOf_2 (fu : Nat) (n : Nat) (a0 : Nat) (a1 : Int32) (a2 : Int32) (w : XW) : (F_X0_cellOf fu (n + 1)) a0 a1 a2 w = ev T_X0_cellOf (op_X0_cellOf fu) [2] (K_X0_cellOf fu n) 20 2 [(0, .ref a0), (1, .int a1), (2, .int a2)] [] w := by
  rfl
set_option maxRecDepth 100000 in
set_option maxHeartbeats 4000000 in
theorem E_X0_cellOf (fu : Nat) (a0 : Nat) (a1 : Int32) (w : XW) : M_X0_cellOf fu a0 a1 w = ev T_X0_cellOf (op_X0_cellOf fu) [2] (K_X0_cellOf fu fu) 20 0 (lv_args 0 [.ref a0, .int a1]) [] w := by
  rfl
theorem D_X0_cellOf (fu : Nat) : DS T_X0_cellOf (op_X0_cellOf fu) [2] 20 (K_X0_cellOf fu) := by
  refine ⟨fun pc ls st w => c_none (b_none fun _ => b_none fun _ => b_none fun _ => (by split <;> rfl)) (rfl), fun n pc ls st w o h => ?_⟩
  rcases c_some h with ⟨rfl, h⟩ | h
  · obtain ⟨a0, h0, h⟩ := some_of h; obtain ⟨a1, h1, h⟩ := some_of h; obtain ⟨a2, h2, h⟩ := some_of h;
    split at h
    next =>
      exact ⟨[(0, .ref a0), (1, .int a1), (2, .int a2)], cons_all (xr_of h0) (cons_all (xi_of h1) (cons_all (xi_of h2) (nil_all))), (E_X0_cellOf_2 fu n a0 a1 a2 w).symm.trans h⟩
    next => cases h
  · cases h
theorem H_X0_cellOf (fu : Nat) : ∀ as w o, U_X0_cellOf fu as w = some o → ∃ a r, as = .ref a :: r ∧ r.length = 1 ∧ isO w a 0 = true := by
  intro as w o h
  unfold U_X0_cellOf at h
  split at h
  next =>
    split at h
    next hh => exact ⟨_, _, rfl, rfl, hh⟩
    next => cases h
  next => cases h
set_option maxRecDepth 100000 in
set_option maxHeartbeats 4000000 in
theorem S_X0_cellOf (fu : Nat) {l : Launch} {D : va_G} {cA : Nat → ClassId} {base b : Nat} : CS l D cA base b 1 y_X0_cellOf prog_2_method_14_code 3 (some .int) (U_X0_cellOf fu) ∧ OM (U_X0_cellOf fu) := by
  refine CS_of (d := 0) (y := y_X0_cellOf) (cc := prog_2_method_14_code) (nL := 3) (ret := (some .int)) (F := U_X0_cellOf fu) (fl := fl_BrookStones_Brook) (nl := []) (kl := []) (k2 := []) (mv := []) (ms := []) (mi := []) (ini := false) hI_w hZ_w fl_BrookStones_Brook_ok nil_all nil_all nil_all
    (nil_all)
    (nil_all)
    (nil_all)
    (T := T_X0_cellOf) (by decide +kernel) (cut := [2]) (N := 20) (D_X0_cellOf fu) (by decide +kernel) (fun h => absurd h (by decide)) (fun as w o h => ?_)
  unfold U_X0_cellOf at h
  split at h
  next =>
    split at h
    next => exact ⟨Nat.le_of_ble_eq_true rfl, fu, (E_X0_cellOf fu _ _ w).symm.trans h⟩
    next => cases h
  next => cases h
def T_X7_has : List (Nat × Instr) := [(0, .iload_n 0), (1, .iload_n 1), (2, .ishr), (3, .iconst 1), (4, .iand), (5, .ifCond .eq 7), (8, .iconst 1), (9, .goto 4), (12, .iconst 0), (13, .ireturn)]
def op_X7_has (fu : Nat) : Nat → Kont → XL → List Value → XW → Instr → Option XO := opK 2 (rzOf (some .boolean)) fl_BrookStones nl_BrookStones [] k2_BrookStones [] [] []
def M_X7_has (fu : Nat) (a0 : Int32) (a1 : Int32) (w : XW) : Option XO :=
  (if ((a0 >>> (a1 &&& 31)) &&& (1 : Int32)) = 0 then
    retZ (0 : Int32) w
  else
    retZ (1 : Int32) w)
def U_X7_has (fu : Nat) : Orc := fun as w => match as with
  | [.int a0, .int a1] => M_X7_has fu a0 a1 w
  | _ => none
def K_X7_has (fu : Nat) (n : Nat) : Kont := fun pc ls st w => none
set_option maxRecDepth 100000 in
set_option maxHeartbeats 4000000 in
theorem E_X7_has (fu : Nat) (a0 : Int32) (a1 : Int32) (w : XW) : M_X7_has fu a0 a1 w = ev T_X7_has (op_X7_has fu) [] (K_X7_has fu fu) 12 0 (lv_args 0 [.int a0, .int a1]) [] w := by
  rfl
theorem D_X7_has (fu : Nat) : DS T_X7_has (op_X7_has fu) [] 12 (K_X7_has fu) := by
  refine ⟨fun pc ls st w => rfl, fun n pc ls st w o h => ?_⟩
  cases h
set_option maxRecDepth 100000 in
set_option maxHeartbeats 4000000 in
theorem S_X7_has (fu : Nat) {l : Launch} {D : va_G} {cA : Nat → ClassId} {base b : Nat} : CS l D cA base b 1 y_X7_has prog_1_method_47_code 2 (some .boolean) (U_X7_has fu) ∧ OM (U_X7_has fu) := by
  refine CS_of (d := 0) (y := y_X7_has) (cc := prog_1_method_47_code) (nL := 2) (ret := (some .boolean)) (F := U_X7_has fu) (fl := fl_BrookStones) (nl := nl_BrookStones) (kl := []) (k2 := k2_BrookStones) (mv := []) (ms := []) (mi := []) (ini := false) hI_w hZ_w fl_BrookStones_ok nl_BrookStones_ok nil_all k2_BrookStones_ok
    (nil_all)
    (nil_all)
    (nil_all)
    (T := T_X7_has) (by decide +kernel) (cut := []) (N := 12) (D_X7_has fu) (by decide +kernel) (fun h => absurd h (by decide)) (fun as w o h => ?_)
  unfold U_X7_has at h
  split at h
  next =>
    exact ⟨Nat.le_of_ble_eq_true rfl, fu, (E_X7_has fu _ _ w).symm.trans h⟩
  next => cases h
