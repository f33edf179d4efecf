def T_X7_ofStone : List (Nat × Instr) := [(0, .aload_n 0), (1, .getfield 12), (4, .iload_n 1), (5, .invokevirtual 119), (8, .ifCond .ne 5), (11, .iconst (-1)), (12, .ireturn), (13, .iload_n 2), (14, .tableswitch 115 0 5 #[38, 48, 58, 68, 78, 87]), (52, .aload_n 0), (53, .getfield 12), (56, .getfield 122), (59, .iload_n 1), (60, .iaload), (61, .ireturn), (62, .aload_n 0), (63, .getfield 12), (66, .getfield 125), (69, .iload_n 1), (70, .iaload), (71, .ireturn), (72, .aload_n 0), (73, .getfield 12), (76, .getfield 128), (79, .iload_n 1), (80, .iaload), (81, .ireturn), (82, .aload_n 0), (83, .getfield 12), (86, .getfield 131), (89, .iload_n 1), (90, .iaload), (91, .ireturn), (92, .aload_n 0), (93, .getfield 12), (96, .iload_n 1), (97, .invokevirtual 134), (100, .ireturn), (101, .aload_n 0), (102, .getfield 12), (105, .getfield 138), (108, .iload_n 1), (109, .invokestatic 94), (112, .ifCond .eq 8), (115, .bipush (-5)), (117, .goto 11), (120, .aload_n 0), (121, .getfield 12), (124, .iload_n 1), (125, .invokevirtual 141), (128, .ireturn), (129, .bipush (-2)), (131, .ireturn)]
def op_X7_ofStone (fu : Nat) : Nat → Kont → XL → List Value → XW → Instr → Option XO := opK 3 (rzOf (some .int)) fl_BrookStones nl_BrookStones [] [] [(119, 2, 1, (U_X0_isStone fu)), (134, 2, 1, (U_X0_holdOf fu)), (141, 2, 1, (U_X0_cellOf fu))] [(94, 2, 1, (U_X7_has fu))] []
def M_X7_ofStone (fu : Nat) (a0 : Nat) (a1 : Int32) (a2 : Int32) (w : XW) : Option XO :=
  (gR w a0 6 0).bind fun r1 =>
  cI (U_X0_isStone fu [.ref r1, .int a1] w) fun x3 w2 =>
  (if x3 = 0 then
    some (some (.int (-1 : Int32)), w2)
  else
    (if a2 = (0 : Int32) then
      (gR w2 a0 6 0).bind fun r4 =>
      (gR w2 r4 0 3).bind fun r5 =>
      (aI w2 r5 a1).bind fun x6 =>
      some (some (.int x6), w2)
    else
    (if a2 = (1 : Int32) then
      (gR w2 a0 6 0).bind fun r7 =>
      (gR w2 r7 0 4).bind fun r8 =>
      (aI w2 r8 a1).bind fun x9 =>
      some (some (.int x9), w2)
    else
    (if a2 = (2 : Int32) then
      (gR w2 a0 6 0).bind fun r10 =>
      (gR w2 r10 0 5).bind fun r11 =>
      (aI w2 r11 a1).bind fun x12 =>
      some (some (.int x12), w2)
    else
    (if a2 = (3 : Int32) then
      (gR w2 a0 6 0).bind fun r13 =>
      (gR w2 r13 0 6).bind fun r14 =>
      (aI w2 r14 a1).bind fun x15 =>
      some (some (.int x15), w2)
    else
    (if a2 = (4 : Int32) then
      (gR w2 a0 6 0).bind fun r16 =>
      cI (U_X0_holdOf fu [.ref r16, .int a1] w2) fun x18 w17 =>
      some (some (.int x18), w17)
    else
    (if a2 = (5 : Int32) then
      (gR w2 a0 6 0).bind fun r19 =>
      (gI w2 r19 0 13).bind fun x20 =>
      cI (U_X7_has fu [.int x20, .int a1] w2) fun x22 w21 =>
      (if x22 = 0 then
        (gR w21 a0 6 0).bind fun r23 =>
        cI (U_X0_cellOf fu [.ref r23, .int a1] w21) fun x25 w24 =>
        some (some (.int x25), w24)
      else
        some (some (.int (-5 : Int32)), w21))
    else
    some (some (.int (-2 : Int32)), w2))))))))
def U_X7_ofStone (fu : Nat) : Orc := fun as w => match as with
  | [.ref a0, .int a1, .int a2] => if isO w a0 6 = true then M_X7_ofStone fu a0 a1 a2 w else none
  | _ => none
def K_X7_ofStone (fu : Nat) (n : Nat) : Kont := fun pc ls st w => none
set_option maxRecDepth 100000 in
set_option maxHeartbeats 4000000 in
theorem E_X7_ofStone (fu : Nat) (a0 : Nat) (a1 : Int32) (a2 : Int32) (w : XW) : M_X7_ofStone fu a0 a1 a2 w = ev T_X7_ofStone (op_X7_ofStone fu) [] (K_X7_ofStone fu fu) 55 0 (lv_args 0 [.ref a0, .int a1, .int a2]) [] w := by
  rfl
theorem D_X7_ofStone (fu : Nat) : DS T_X7_ofStone (op_X7_ofStone fu) [] 55 (K_X7_ofStone fu) := by
  refine ⟨fun pc ls st w => rfl, fun n pc ls st w o h => ?_⟩
  cases h
theorem H_X7_ofStone (fu : Nat) : ∀ as w o, U_X7_ofStone fu as w = some o → ∃ a r, as = .ref a :: r ∧ r.length = 2 ∧ isO w a 6 = true := by
  intro as w o h
  unfold U_X7_ofStone at h
  split at h
  next =>
    split at h
    next hh => exact ⟨_, _, rfl, rfl, hh⟩
    next => cases h
  next => cases h
set_option maxRecDepth 100000 in
set_option maxHeartbeats 4000000 in
theorem S_X7_ofStone (fu : Nat) {l : Launch} {D : va_G} {cA : Nat → ClassId} {base b : Nat} : CS l D cA base b 2 y_X7_ofStone prog_1_method_7_code 3 (some .int) (U_X7_ofStone fu) ∧ OM (U_X7_ofStone fu) := by
  refine CS_of (d := 1) (y := y_X7_ofStone) (cc := prog_1_method_7_code) (nL := 3) (ret := (some .int)) (F := U_X7_ofStone fu) (fl := fl_BrookStones) (nl := nl_BrookStones) (kl := []) (k2 := []) (mv := [(119, 2, 1, (U_X0_isStone fu)), (134, 2, 1, (U_X0_holdOf fu)), (141, 2, 1, (U_X0_cellOf fu))]) (ms := [(94, 2, 1, (U_X7_has fu))]) (mi := []) (ini := false) hI_w fl_BrookStones_ok nl_BrookStones_ok nil_all nil_all
    (cons_all (⟨⟨show (1 : Nat) ≠ 3 by decide, y_X0_isStone, prog_2_method_5_code, 2, (some .boolean), 1, "BrookStones", 0, TX0, 15, 1, (S_X0_isStone fu (l := l) (D := D) (cA := cA) (base := base) (b := b)).1, by decide, by decide, rfl, H_X0_isStone fu, rfl, mi_X0_isStone.1, mi_X0_isStone.2.1, mi_X0_isStone.2.2.1, mi_X0_isStone.2.2.2.1, mi_X0_isStone.2.2.2.2, Or.inr (tblN_of (i := 313) rfl rfl)⟩, (S_X0_isStone fu (l := l) (D := D) (cA := cA) (base := base) (b := b)).2⟩) (cons_all (⟨⟨show (1 : Nat) ≠ 3 by decide, y_X0_holdOf, prog_2_method_10_code, 2, (some .int), 1, "BrookStones", 0, TX0, 15, 1, (S_X0_holdOf fu (l := l) (D := D) (cA := cA) (base := base) (b := b)).1, by decide, by decide, rfl, H_X0_holdOf fu, rfl, mi_X0_holdOf.1, mi_X0_holdOf.2.1, mi_X0_holdOf.2.2.1, mi_X0_holdOf.2.2.2.1, mi_X0_holdOf.2.2.2.2, Or.inr (tblN_of (i := 317) rfl rfl)⟩, (S_X0_holdOf fu (l := l) (D := D) (cA := cA) (base := base) (b := b)).2⟩) (cons_all (⟨⟨show (1 : Nat) ≠ 3 by decide, y_X0_cellOf, prog_2_method_14_code, 3, (some .int), 1, "BrookStones", 0, TX0, 15, 1, (S_X0_cellOf fu (l := l) (D := D) (cA := cA) (base := base) (b := b)).1, by decide, by decide, rfl, H_X0_cellOf fu, rfl, mi_X0_cellOf.1, mi_X0_cellOf.2.1, mi_X0_cellOf.2.2.1, mi_X0_cellOf.2.2.2.1, mi_X0_cellOf.2.2.2.2, Or.inr (tblN_of (i := 321) rfl rfl)⟩, (S_X0_cellOf fu (l := l) (D := D) (cA := cA) (base := base) (b := b)).2⟩) (nil_all))))
    (cons_all (⟨Or.inl ⟨show (1 : Nat) ≠ 3 by decide, y_X7_has, prog_1_method_47_code, 2, (some .boolean), 1, "BrookStones", (S_X7_has fu (l := l) (D := D) (cA := cA) (base := base) (b := b)).1, by decide, by decide, mi_X7_has.1, mi_X7_has.2.1, mi_X7_has.2.2.1, mi_X7_has.2.2.2, Or.inl (tblG_of (i := 293) rfl rfl)⟩, (S_X7_has fu (l := l) (D := D) (cA := cA) (base := base) (b := b)).2⟩) (nil_all))
    (nil_all)
    (T := T_X7_ofStone) (by decide +kernel) (cut := []) (N := 55) (D_X7_ofStone fu) (by decide +kernel) (fun h => absurd h (by decide)) (fun as w o h => ?_)
  unfold U_X7_ofStone at h
  split at h
  next =>
    split at h
    next => exact ⟨Nat.le_of_ble_eq_true rfl, fu, (E_X7_ofStone fu _ _ _ w).symm.trans h⟩
    next => cases h
  next => cases h
def T_X7_water : List (Nat × Instr) := [(0, .iload_n 1), (1, .iconst 0), (2, .bipush 9), (4, .invokestatic 105), (7, .ifCond .ne 6), (10, .bipush (-2)), (12, .ireturn), (13, .aload_n 0), (14, .getfield 12), (17, .invokevirtual 109), (20, .ifCond .ne 6), (23, .bipush (-3)), (25, .ireturn), (26, .aload_n 0), (27, .getfield 12), (30, .getfield 98), (33, .istore_n 2), (34, .aload_n 0), (35, .getfield 12), (38, .iload_n 1), (39, .putfield 98), (42, .iload_n 2), (43, .ireturn)]
def op_X7_water (fu : Nat) : Nat → Kont → XL → List Value → XW → Instr → Option XO := opK 3 (rzOf (some .int)) fl_BrookStones nl_BrookStones [] [] [(109, 1, 1, (U_X0_isThere fu))] [(105, 3, 1, (U_X7_isWithin fu))] []
def M_X7_water (fu : Nat) (a0 : Nat) (a1 : Int32) (w : XW) : Option XO :=
  cI (U_X7_isWithin fu [.int a1, .int (0 : Int32), .int (9 : Int32)] w) fun x2 w1 =>
  (if x2 = 0 then
    some (some (.int (-2 : Int32)), w1)
  else
    (gR w1 a0 6 0).bind fun r3 =>
    cI (U_X0_isThere fu [.ref r3] w1) fun x5 w4 =>
    (if x5 = 0 then
      some (some (.int (-3 : Int32)), w4)
    else
      (gR w4 a0 6 0).bind fun r6 =>
      (gI w4 r6 0 11).bind fun x7 =>
      (gR w4 a0 6 0).bind fun r8 =>
      (pF w4 r8 0 11 (.int a1)).bind fun w9 =>
      some (some (.int x7), w9)))
def U_X7_water (fu : Nat) : Orc := fun as w => match as with
  | [.ref a0, .int a1] => if isO w a0 6 = true then M_X7_water fu a0 a1 w else none
  | _ => none
def K_X7_water (fu : Nat) (n : Nat) : Kont := fun pc ls st w => none
set_option maxRecDepth 100000 in
set_option maxHeartbeats 4000000 in
theorem E_X7_water (fu : Nat) (a0 : Nat) (a1 : Int32) (w : XW) : M_X7_water fu a0 a1 w = ev T_X7_water (op_X7_water fu) [] (K_X7_water fu fu) 25 0 (lv_args 0 [.ref a0, .int a1]) [] w := by
  rfl
theorem D_X7_water (fu : Nat) : DS T_X7_water (op_X7_water fu) [] 25 (K_X7_water fu) := by
  refine ⟨fun pc ls st w => rfl, fun n pc ls st w o h => ?_⟩
  cases h
theorem H_X7_water (fu : Nat) : ∀ as w o, U_X7_water fu as w = some o → ∃ a r, as = .ref a :: r ∧ r.length = 1 ∧ isO w a 6 = true := by
  intro as w o h
  unfold U_X7_water at h
  split at h
  next =>
    split at h
    next hh => exact ⟨_, _, rfl, rfl, hh⟩
    next => cases h
  next => cases h
set_option maxRecDepth 100000 in
set_option maxHeartbeats 4000000 in
theorem S_X7_water (fu : Nat) {l : Launch} {D : va_G} {cA : Nat → ClassId} {base b : Nat} : CS l D cA base b 2 y_X7_water prog_1_method_5_code 3 (some .int) (U_X7_water fu) ∧ OM (U_X7_water fu) := by
  refine CS_of (d := 1) (y := y_X7_water) (cc := prog_1_method_5_code) (nL := 3) (ret := (some .int)) (F := U_X7_water fu) (fl := fl_BrookStones) (nl := nl_BrookStones) (kl := []) (k2 := []) (mv := [(109, 1, 1, (U_X0_isThere fu))]) (ms := [(105, 3, 1, (U_X7_isWithin fu))]) (mi := []) (ini := false) hI_w fl_BrookStones_ok nl_BrookStones_ok nil_all nil_all
    (cons_all (⟨⟨show (1 : Nat) ≠ 3 by decide, y_X0_isThere, prog_2_method_3_code, 1, (some .boolean), 1, "BrookStones", 0, TX0, 15, 0, (S_X0_isThere fu (l := l) (D := D) (cA := cA) (base := base) (b := b)).1, by decide, by decide, rfl, H_X0_isThere fu, rfl, mi_X0_isThere.1, mi_X0_isThere.2.1, mi_X0_isThere.2.2.1, mi_X0_isThere.2.2.2.1, mi_X0_isThere.2.2.2.2, Or.inr (tblN_of (i := 305) rfl rfl)⟩, (S_X0_isThere fu (l := l) (D := D) (cA := cA) (base := base) (b := b)).2⟩) (nil_all))
    (cons_all (⟨Or.inl ⟨show (1 : Nat) ≠ 3 by decide, y_X7_isWithin, prog_1_method_46_code, 3, (some .boolean), 1, "BrookStones", (S_X7_isWithin fu (l := l) (D := D) (cA := cA) (base := base) (b := b)).1, by decide, by decide, mi_X7_isWithin.1, mi_X7_isWithin.2.1, mi_X7_isWithin.2.2.1, mi_X7_isWithin.2.2.2, Or.inl (tblG_of (i := 304) rfl rfl)⟩, (S_X7_isWithin fu (l := l) (D := D) (cA := cA) (base := base) (b := b)).2⟩) (nil_all))
    (nil_all)
    (T := T_X7_water) (by decide +kernel) (cut := []) (N := 25) (D_X7_water fu) (by decide +kernel) (fun h => absurd h (by decide)) (fun as w o h => ?_)
  unfold U_X7_water at h
  split at h
  next =>
    split at h
    next => exact ⟨Nat.le_of_ble_eq_true rfl, fu, (E_X7_water fu _ _ w).symm.trans h⟩
    next => cases h
  next => cases h
def T_X0_topOf : List (Nat × Instr) := [(0, .aload_n 0), (1, .getfield 24), (4, .iload_n 1), (5, .iaload), (6, .aload_n 0), (7, .getfield 9), (10, .iload_n 2), (11, .iaload), (12, .isub), (13, .iload_n 3), (14, .isub), (15, .ireturn)]
def op_X0_topOf (fu : Nat) : Nat → Kont → XL → List Value → XW → Instr → Option XO := opK 4 (rzOf (some .int)) fl_BrookStones_Brook [] [] [] [] [] []
def M_X0_topOf (fu : Nat) (a0 : Nat) (a1 : Int32) (a2 : Int32) (a3 : Int32) (w : XW) : Option XO :=
  (gR w a0 0 4).bind fun r1 =>
  (aI w r1 a1).bind fun x2 =>
  (gR w a0 0 0).bind fun r3 =>
  (aI w r3 a2).bind fun x4 =>
  some (some (.int ((x2 - x4) - a3)), w)
def U_X0_topOf (fu : Nat) : Orc := fun as w => match as with
  | [.ref a0, .int a1, .int a2, .int a3] => if isO w a0 0 = true then M_X0_topOf fu a0 a1 a2 a3 w else none
  | _ => none
def K_X0_topOf (fu : Nat) (n : Nat) : Kont := fun pc ls st w => none
set_option maxRecDepth 100000 in
set_option maxHeartbeats 4000000 in
theorem E_X0_topOf (fu : Nat) (a0 : Nat) (a1 : Int32) (a2 : Int32) (a3 : Int32) (w : XW) : M_X0_topOf fu a0 a1 a2 a3 w = ev T_X0_topOf (op_X0_topOf fu) [] (K_X0_topOf fu fu) 14 0 (lv_args 0 [.ref a0, .int a1, .int a2, .int a3]) [] w := by
  rfl
theorem D_X0_topOf (fu : Nat) : DS T_X0_topOf (op_X0_topOf fu) [] 14 (K_X0_topOf fu) := by
  refine ⟨fun pc ls st w => rfl, fun n pc ls st w o h => ?_⟩
  cases h
theorem H_X0_topOf (fu : Nat) : ∀ as w o, U_X0_topOf fu as w = some o → ∃ a r, as = .ref a :: r ∧ r.length = 3 ∧ isO w a 0 = true := by
  intro as w o h
  unfold U_X0_topOf at h
  split at h
  next =>
    split at h
    next hh => exact ⟨_, _, rfl, rfl, hh⟩
    next => cases h
  next => cases h
set_option maxRecDepth 100000 in
set_option maxHeartbeats 4000000 in
theorem S_X0_topOf (fu : Nat) {l : Launch} {D : va_G} {cA : Nat → ClassId} {base b : Nat} : CS l D cA base b 1 y_X0_topOf prog_2_method_13_code 4 (some .int) (U_X0_topOf fu) ∧ OM (U_X0_topOf fu) := by
  refine CS_of (d := 0) (y := y_X0_topOf) (cc := prog_2_method_13_code) (nL := 4) (ret := (some .int)) (F := U_X0_topOf fu) (fl := fl_BrookStones_Brook) (nl := []) (kl := []) (k2 := []) (mv := []) (ms := []) (mi := []) (ini := false) hI_w fl_BrookStones_Brook_ok nil_all nil_all nil_all
    (nil_all)
    (nil_all)
    (nil_all)
    (T := T_X0_topOf) (by decide +kernel) (cut := []) (N := 14) (D_X0_topOf fu) (by decide +kernel) (fun h => absurd h (by decide)) (fun as w o h => ?_)
  unfold U_X0_topOf at h
  split at h
  next =>
    split at h
    next => exact ⟨Nat.le_of_ble_eq_true rfl, fu, (E_X0_topOf fu _ _ _ _ w).symm.trans h⟩
    next => cases h
  next => cases h
def T_X7_ofCell : List (Nat × Instr) := [(0, .aload_n 0), (1, .getfield 12), (4, .iload_n 1), (5, .invokevirtual 77), (8, .ifCond .ne 5), (11, .iconst (-1)), (12, .ireturn), (13, .aload_n 0), (14, .getfield 12), (17, .getfield 81), (20, .iload_n 1), (21, .iaload), (22, .istore_n 3), (23, .iload_n 2), (24, .tableswitch 106 0 4 #[36, 46, 56, 58, 78]), (60, .aload_n 0), (61, .getfield 12), (64, .getfield 85), (67, .iload_n 1), (68, .iaload), (69, .ireturn), (70, .aload_n 0), (71, .getfield 12), (74, .getfield 88), (77, .iload_n 1), (78, .iaload), (79, .ireturn), (80, .iload_n 3), (81, .ireturn), (82, .aload_n 0), (83, .getfield 12), (86, .getfield 91), (89, .iload_n 1), (90, .invokestatic 94), (93, .ifCond .eq 7), (96, .iconst 1), (97, .goto 4), (100, .iconst 0), (101, .ireturn), (102, .iload_n 3), (103, .bipush (-9)), (105, .if_icmp .ne 8), (108, .bipush (-99)), (110, .goto 19), (113, .aload_n 0), (114, .getfield 12), (117, .iload_n 3), (118, .iload_n 1), (119, .aload_n 0), (120, .getfield 12), (123, .getfield 98), (126, .invokevirtual 101), (129, .ireturn), (130, .bipush (-2)), (132, .ireturn)]
def op_X7_ofCell (fu : Nat) : Nat → Kont → XL → List Value → XW → Instr → Option XO := opK 4 (rzOf (some .int)) fl_BrookStones nl_BrookStones [] [] [(77, 2, 1, (U_X0_isCell fu)), (101, 4, 1, (U_X0_topOf fu))] [(94, 2, 1, (U_X7_has fu))] []
def M_X7_ofCell (fu : Nat) (a0 : Nat) (a1 : Int32) (a2 : Int32) (w : XW) : Option XO :=
  (gR w a0 6 0).bind fun r1 =>
  cI (U_X0_isCell fu [.ref r1, .int a1] w) fun x3 w2 =>
  (if x3 = 0 then
    some (some (.int (-1 : Int32)), w2)
  else
    (gR w2 a0 6 0).bind fun r4 =>
    (gR w2 r4 0 2).bind fun r5 =>
    (aI w2 r5 a1).bind fun x6 =>
    (if a2 = (0 : Int32) then
      (gR w2 a0 6 0).bind fun r7 =>
      (gR w2 r7 0 0).bind fun r8 =>
      (aI w2 r8 a1).bind fun x9 =>
      some (some (.int x9), w2)
    else
    (if a2 = (1 : Int32) then
      (gR w2 a0 6 0).bind fun r10 =>
      (gR w2 r10 0 1).bind fun r11 =>
      (aI w2 r11 a1).bind fun x12 =>
      some (some (.int x12), w2)
    else
    (if a2 = (2 : Int32) then
      some (some (.int x6), w2)
    else
    (if a2 = (3 : Int32) then
      (gR w2 a0 6 0).bind fun r13 =>
      (gI w2 r13 0 10).bind fun x14 =>
      cI (U_X7_has fu [.int x14, .int a1] w2) fun x16 w15 =>
      (if x16 = 0 then
        some (some (.int (0 : Int32)), w15)
      else
        some (some (.int (1 : Int32)), w15))
    else
    (if a2 = (4 : Int32) then
      (if x6 = (-9 : Int32) then
        some (some (.int (-99 : Int32)), w2)
      else
        (gR w2 a0 6 0).bind fun r17 =>
        (gR w2 a0 6 0).bind fun r18 =>
        (gI w2 r18 0 11).bind fun x19 =>
        cI (U_X0_topOf fu [.ref r17, .int x6, .int a1, .int x19] w2) fun x21 w20 =>
        some (some (.int x21), w20))
    else
    some (some (.int (-2 : Int32)), w2)))))))
def U_X7_ofCell (fu : Nat) : Orc := fun as w => match as with
  | [.ref a0, .int a1, .int a2] => if isO w a0 6 = true then M_X7_ofCell fu a0 a1 a2 w else none
  | _ => none
def K_X7_ofCell (fu : Nat) (n : Nat) : Kont := fun pc ls st w => none
set_option maxRecDepth 100000 in
set_option maxHeartbeats 4000000 in
theorem E_X7_ofCell (fu : Nat) (a0 : Nat) (a1 : Int32) (a2 : Int32) (w : XW) : M_X7_ofCell fu a0 a1 a2 w = ev T_X7_ofCell (op_X7_ofCell fu) [] (K_X7_ofCell fu fu) 57 0 (lv_args 0 [.ref a0, .int a1, .int a2]) [] w := by
  rfl
theorem D_X7_ofCell (fu : Nat) : DS T_X7_ofCell (op_X7_ofCell fu) [] 57 (K_X7_ofCell fu) := by
  refine ⟨fun pc ls st w => rfl, fun n pc ls st w o h => ?_⟩
  cases h
theorem H_X7_ofCell (fu : Nat) : ∀ as w o, U_X7_ofCell fu as w = some o → ∃ a r, as = .ref a :: r ∧ r.length = 2 ∧ isO w a 6 = true := by
  intro as w o h
  unfold U_X7_ofCell at h
  split at h
  next =>
    split at h
    next hh => exact ⟨_, _, rfl, rfl, hh⟩
    next => cases h
  next => cases h
set_option maxRecDepth 100000 in
set_option maxHeartbeats 4000000 in
theorem S_X7_ofCell (fu : Nat) {l : Launch} {D : va_G} {cA : Nat → ClassId} {base b : Nat} : CS l D cA base b 2 y_X7_ofCell prog_1_method_3_code 4 (some .int) (U_X7_ofCell fu) ∧ OM (U_X7_ofCell fu) := by
  refine CS_of (d := 1) (y := y_X7_ofCell) (cc := prog_1_method_3_code) (nL := 4) (ret := (some .int)) (F := U_X7_ofCell fu) (fl := fl_BrookStones) (nl := nl_BrookStones) (kl := []) (k2 := []) (mv := [(77, 2, 1, (U_X0_isCell fu)), (101, 4, 1, (U_X0_topOf fu))]) (ms := [(94, 2, 1, (U_X7_has fu))]) (mi := []) (ini := false) hI_w fl_BrookStones_ok nl_BrookStones_ok nil_all nil_all
    (cons_all (⟨⟨show (1 : Nat) ≠ 3 by decide, y_X0_isCell, prog_2_method_4_code, 2, (some .boolean), 1, "BrookStones", 0, TX0, 15, 1, (S_X0_isCell fu (l := l) (D := D) (cA := cA) (base := base) (b := b)).1, by decide, by decide, rfl, H_X0_isCell fu, rfl, mi_X0_isCell.1, mi_X0_isCell.2.1, mi_X0_isCell.2.2.1, mi_X0_isCell.2.2.2.1, mi_X0_isCell.2.2.2.2, Or.inr (tblN_of (i := 289) rfl rfl)⟩, (S_X0_isCell fu (l := l) (D := D) (cA := cA) (base := base) (b := b)).2⟩) (cons_all (⟨⟨show (1 : Nat) ≠ 3 by decide, y_X0_topOf, prog_2_method_13_code, 4, (some .int), 1, "BrookStones", 0, TX0, 15, 3, (S_X0_topOf fu (l := l) (D := D) (cA := cA) (base := base) (b := b)).1, by decide, by decide, rfl, H_X0_topOf fu, rfl, mi_X0_topOf.1, mi_X0_topOf.2.1, mi_X0_topOf.2.2.1, mi_X0_topOf.2.2.2.1, mi_X0_topOf.2.2.2.2, Or.inr (tblN_of (i := 296) rfl rfl)⟩, (S_X0_topOf fu (l := l) (D := D) (cA := cA) (base := base) (b := b)).2⟩) (nil_all)))
    (cons_all (⟨Or.inl ⟨show (1 : Nat) ≠ 3 by decide, y_X7_has, prog_1_method_47_code, 2, (some .boolean), 1, "BrookStones", (S_X7_has fu (l := l) (D := D) (cA := cA) (base := base) (b := b)).1, by decide, by decide, mi_X7_has.1, mi_X7_has.2.1, mi_X7_has.2.2.1, mi_X7_has.2.2.2, Or.inl (tblG_of (i := 293) rfl rfl)⟩, (S_X7_has fu (l := l) (D := D) (cA := cA) (base := base) (b := b)).2⟩) (nil_all))
    (nil_all)
    (T := T_X7_ofCell) (by decide +kernel) (cut := []) (N := 57) (D_X7_ofCell fu) (by decide +kernel) (fun h => absurd h (by decide)) (fun as w o h => ?_)
  unfold U_X7_ofCell at h
  split at h
  next =>
    split at h
    next => exact ⟨Nat.le_of_ble_eq_true rfl, fu, (E_X7_ofCell fu _ _ _ w).symm.trans h⟩
    next => cases h
  next => cases h
def T_X0_ofKind : List (Nat × Instr) := [(0, .iconst 0), (1, .istore_n 2), (2, .iconst 0), (3, .istore_n 3), (4, .iload_n 3), (5, .aload_n 0), (6, .getfield 58), (9, .if_icmp .ge 41), (12, .aload_n 0), (13, .getfield 18), (16, .iload_n 3), (17, .iaload), (18, .bipush (-9)), (20, .if_icmp .eq 24), (23, .aload_n 0), (24, .getfield 21), (27, .aload_n 0), (28, .getfield 18), (31, .iload_n 3), (32, .iaload), (33, .iaload), (34, .iload_n 1), (35, .if_icmp .lt 9), (38, .iload_n 2), (39, .iconst 1), (40, .iload_n 3), (41, .ishl), (42, .ior), (43, .istore_n 2), (44, .iinc 3 1), (47, .goto (-43)), (50, .iload_n 2), (51, .ireturn)]
def op_X0_ofKind (fu : Nat) : Nat → Kont → XL → List Value → XW → Instr → Option XO := opK 4 (rzOf (some .int)) fl_BrookStones_Brook [] [] [] [] [] []
def F_X0_ofKind (fu : Nat) : Nat → (Nat → Int32 → Int32 → Int32 → XW → Option XO)
  | 0 => fun _ _ _ _ _ => none
  | n + 1 => (fun a0 a1 a2 a3 w =>
    (gI w a0 0 8).bind fun x1 =>
    (if a3 < x1 then
      (gR w a0 0 2).bind fun r2 =>
      (aI w r2 a3).bind fun x3 =>
      (if x3 = (-9 : Int32) then
        (F_X0_ofKind fu n) a0 a1 a2 (a3 + (1 : Int32)) w
      else
        (gR w a0 0 3).bind fun r4 =>
        (gR w a0 0 2).bind fun r5 =>
        (aI w r5 a3).bind fun x6 =>
        (aI w r4 x6).bind fun x7 =>
        (if x7 < a1 then
          (F_X0_ofKind fu n) a0 a1 a2 (a3 + (1 : Int32)) w
        else
          (F_X0_ofKind fu n) a0 a1 (a2 ||| ((1 : Int32) <<< (a3 &&& 31))) (a3 + (1 : Int32)) w))
    else
      some (some (.int a2), w)))
def M_X0_ofKind (fu : Nat) (a0 : Nat) (a1 : Int32) (w : XW) : Option XO :=
  (F_X0_ofKind fu fu) a0 a1 (0 : Int32) (0 : Int32) w
def U_X0_ofKind (fu : Nat) : Orc := fun as w => match as with
  | [.ref a0, .int a1] => if isO w a0 0 = true then M_X0_ofKind fu a0 a1 w else none
  | _ => none
def K_X0_ofKind (fu : Nat) (n : Nat) : Kont := fun pc ls st w => bif pc == 4 then ((xr ls 0).bind fun a0 => (xi ls 1).bind fun a1 => (xi ls 2).bind fun a2 => (xi ls 3).bind fun a3 => skN st ((F_X0_ofKind fu n) a0 a1 a2 a3 w)) else none
set_option maxRecDepth 100000 in
set_option maxHeartbeats 4000000 in
theorem E_X0_ofKind_4 (fu : Nat) (n : Nat) (a0 : Nat) (a1 : Int32) (a2 : Int32) (a3 : Int32) (w : XW) : (F_X0_ofKind fu (n + 1)) a0 a1 a2 a3 w = ev T_X0_ofKind (op_X0_ofKind fu) [4] (K_X0_ofKind fu n) 35 4 [(0, .ref a0), (1, .int a1), (2, .int a2), (3, .int a3)] [] w := by
  rfl
set_option maxRecDepth 100000 in
set_option maxHeartbeats 4000000 in
theorem E_X0_ofKind (fu : Nat) (a0 : Nat) (a1 : Int32) (w : XW) : M_X0_ofKind fu a0 a1 w = ev T_X0_ofKind (op_X0_ofKind fu) [4] (K_X0_ofKind fu fu) 35 0 (lv_args 0 [.ref a0, .int a1]) [] w := by
  rfl
theorem D_X0_ofKind (fu : Nat) : DS T_X0_ofKind (op_X0_ofKind fu) [4] 35 (K_X0_ofKind fu) := by
  refine ⟨fun pc ls st w => c_none (b_none fun _ => b_none fun _ => b_none fun _ => b_none fun _ => skN_none rfl) (rfl), fun n pc ls st w o h => ?_⟩
  rcases c_some h with ⟨rfl, h⟩ | h
  · obtain ⟨a0, h0, h⟩ := some_of h; obtain ⟨a1, h1, h⟩ := some_of h; obtain ⟨a2, h2, h⟩ := some_of h; obtain ⟨a3, h3, h⟩ := some_of h;
    obtain ⟨e, g⟩ := skN_of h
    subst e
    exact ⟨[(0, .ref a0), (1, .int a1), (2, .int a2), (3, .int a3)], cons_all (xr_of h0) (cons_all (xi_of h1) (cons_all (xi_of h2) (cons_all (xi_of h3) (nil_all)))), (E_X0_ofKind_4 fu n a0 a1 a2 a3 w).symm.trans g⟩
  · cases h
theorem H_X0_ofKind (fu : Nat) : ∀ as w o, U_X0_ofKind fu as w = some o → ∃ a r, as = .ref a :: r ∧ r.length = 1 ∧ isO w a 0 = true := by
  intro as w o h
  unfold U_X0_ofKind at h
  split at h
  next =>
    split at h
    next hh => exact ⟨_, _, rfl, rfl, hh⟩
    next => cases h
  next => cases h
set_option maxRecDepth 100000 in
set_option maxHeartbeats 4000000 in
theorem S_X0_ofKind (fu : Nat) {l : Launch} {D : va_G} {cA : Nat → ClassId} {base b : Nat} : CS l D cA base b 1 y_X0_ofKind prog_2_method_18_code 4 (some .int) (U_X0_ofKind fu) ∧ OM (U_X0_ofKind fu) := by
  refine CS_of (d := 0) (y := y_X0_ofKind) (cc := prog_2_method_18_code) (nL := 4) (ret := (some .int)) (F := U_X0_ofKind fu) (fl := fl_BrookStones_Brook) (nl := []) (kl := []) (k2 := []) (mv := []) (ms := []) (mi := []) (ini := false) hI_w fl_BrookStones_Brook_ok nil_all nil_all nil_all
    (nil_all)
    (nil_all)
    (nil_all)
    (T := T_X0_ofKind) (by decide +kernel) (cut := [4]) (N := 35) (D_X0_ofKind fu) (by decide +kernel) (fun h => absurd h (by decide)) (fun as w o h => ?_)
  unfold U_X0_ofKind at h
  split at h
  next =>
    split at h
    next => exact ⟨Nat.le_of_ble_eq_true rfl, fu, (E_X0_ofKind fu _ _ w).symm.trans h⟩
    next => cases h
  next => cases h
def T_X0_filled : List (Nat × Instr) := [(0, .aload_n 0), (1, .iconst 0), (2, .invokevirtual 69), (5, .ireturn)]
def op_X0_filled (fu : Nat) : Nat → Kont → XL → List Value → XW → Instr → Option XO := opK 1 (rzOf (some .int)) fl_BrookStones_Brook [] [] [] [(69, 2, 1, (U_X0_ofKind fu))] [] []
def M_X0_filled (fu : Nat) (a0 : Nat) (w : XW) : Option XO :=
  cI (U_X0_ofKind fu [.ref a0, .int (0 : Int32)] w) fun x2 w1 =>
  some (some (.int x2), w1)
def U_X0_filled (fu : Nat) : Orc := fun as w => match as with
  | [.ref a0] => if isO w a0 0 = true then M_X0_filled fu a0 w else none
  | _ => none
def K_X0_filled (fu : Nat) (n : Nat) : Kont := fun pc ls st w => none
set_option maxRecDepth 100000 in
set_option maxHeartbeats 4000000 in
theorem E_X0_filled (fu : Nat) (a0 : Nat) (w : XW) : M_X0_filled fu a0 w = ev T_X0_filled (op_X0_filled fu) [] (K_X0_filled fu fu) 6 0 (lv_args 0 [.ref a0]) [] w := by
  rfl
theorem D_X0_filled (fu : Nat) : DS T_X0_filled (op_X0_filled fu) [] 6 (K_X0_filled fu) := by
  refine ⟨fun pc ls st w => rfl, fun n pc ls st w o h => ?_⟩
  cases h
theorem H_X0_filled (fu : Nat) : ∀ as w o, U_X0_filled fu as w = some o → ∃ a r, as = .ref a :: r ∧ r.length = 0 ∧ isO w a 0 = true := by
  intro as w o h
  unfold U_X0_filled at h
  split at h
  next =>
    split at h
    next hh => exact ⟨_, _, rfl, rfl, hh⟩
    next => cases h
  next => cases h
set_option maxRecDepth 100000 in
set_option maxHeartbeats 4000000 in
theorem S_X0_filled (fu : Nat) {l : Launch} {D : va_G} {cA : Nat → ClassId} {base b : Nat} : CS l D cA base b 2 y_X0_filled prog_2_method_17_code 1 (some .int) (U_X0_filled fu) ∧ OM (U_X0_filled fu) := by
  refine CS_of (d := 1) (y := y_X0_filled) (cc := prog_2_method_17_code) (nL := 1) (ret := (some .int)) (F := U_X0_filled fu) (fl := fl_BrookStones_Brook) (nl := []) (kl := []) (k2 := []) (mv := [(69, 2, 1, (U_X0_ofKind fu))]) (ms := []) (mi := []) (ini := false) hI_w fl_BrookStones_Brook_ok nil_all nil_all nil_all
    (cons_all (⟨⟨show (1 : Nat) ≠ 3 by decide, y_X0_ofKind, prog_2_method_18_code, 4, (some .int), 1, "BrookStones", 0, TX0, 15, 1, (S_X0_ofKind fu (l := l) (D := D) (cA := cA) (base := base) (b := b)).1, by decide, by decide, rfl, H_X0_ofKind fu, rfl, mi_X0_ofKind.1, mi_X0_ofKind.2.1, mi_X0_ofKind.2.2.1, mi_X0_ofKind.2.2.2.1, mi_X0_ofKind.2.2.2.2, Or.inl (tblG_of (i := 358) rfl rfl)⟩, (S_X0_ofKind fu (l := l) (D := D) (cA := cA) (base := base) (b := b)).2⟩) (nil_all))
    (nil_all)
    (nil_all)
    (T := T_X0_filled) (by decide +kernel) (cut := []) (N := 6) (D_X0_filled fu) (by decide +kernel) (fun h => absurd h (by decide)) (fun as w o h => ?_)
  unfold U_X0_filled at h
  split at h
  next =>
    split at h
    next => exact ⟨Nat.le_of_ble_eq_true rfl, fu, (E_X0_filled fu _ w).symm.trans h⟩
    next => cases h
  next => cases h
def T_J6_bitCount_0f7a4 : List (Nat × Instr) := [(0, .iload_n 0), (1, .iload_n 0), (2, .iconst 1), (3, .iushr), (4, .ldc_w 265), (7, .iand), (8, .isub), (9, .istore_n 0), (10, .iload_n 0), (11, .ldc_w 266), (14, .iand), (15, .iload_n 0), (16, .iconst 2), (17, .iushr), (18, .ldc_w 266), (21, .iand), (22, .iadd), (23, .istore_n 0), (24, .iload_n 0), (25, .iload_n 0), (26, .iconst 4), (27, .iushr), (28, .iadd), (29, .ldc_w 267), (32, .iand), (33, .istore_n 0), (34, .iload_n 0), (35, .iload_n 0), (36, .bipush 8), (38, .iushr), (39, .iadd), (40, .istore_n 0), (41, .iload_n 0), (42, .iload_n 0), (43, .bipush 16), (45, .iushr), (46, .iadd), (47, .istore_n 0), (48, .iload_n 0), (49, .bipush 63), (51, .iand), (52, .ireturn)]
def op_J6_bitCount_0f7a4 (fu : Nat) : Nat → Kont → XL → List Value → XW → Instr → Option XO := opK 1 (rzOf (some .int)) [] [] kl_java_lang_Integer [] [] [] []
def M_J6_bitCount_0f7a4 (fu : Nat) (a0 : Int32) (w : XW) : Option XO :=
  some (some (.int ((((((((a0 - ((Int32.toUInt32 a0 >>> (Int32.toUInt32 (1 : Int32) &&& Int32.toUInt32 31)).toInt32 &&& (1431655765 : Int32))) &&& (858993459 : Int32)) + ((Int32.toUInt32 (a0 - ((Int32.toUInt32 a0 >>> (Int32.toUInt32 (1 : Int32) &&& Int32.toUInt32 31)).toInt32 &&& (1431655765 : Int32))) >>> (Int32.toUInt32 (2 : Int32) &&& Int32.toUInt32 31)).toInt32 &&& (858993459 : Int32))) + (Int32.toUInt32 (((a0 - ((Int32.toUInt32 a0 >>> (Int32.toUInt32 (1 : Int32) &&& Int32.toUInt32 31)).toInt32 &&& (1431655765 : Int32))) &&& (858993459 : Int32)) + ((Int32.toUInt32 (a0 - ((Int32.toUInt32 a0 >>> (Int32.toUInt32 (1 : Int32) &&& Int32.toUInt32 31)).toInt32 &&& (1431655765 : Int32))) >>> (Int32.toUInt32 (2 : Int32) &&& Int32.toUInt32 31)).toInt32 &&& (858993459 : Int32))) >>> (Int32.toUInt32 (4 : Int32) &&& Int32.toUInt32 31)).toInt32) &&& (252645135 : Int32)) + (Int32.toUInt32 (((((a0 - ((Int32.toUInt32 a0 >>> (Int32.toUInt32 (1 : Int32) &&& Int32.toUInt32 31)).toInt32 &&& (1431655765 : Int32))) &&& (858993459 : Int32)) + ((Int32.toUInt32 (a0 - ((Int32.toUInt32 a0 >>> (Int32.toUInt32 (1 : Int32) &&& Int32.toUInt32 31)).toInt32 &&& (1431655765 : Int32))) >>> (Int32.toUInt32 (2 : Int32) &&& Int32.toUInt32 31)).toInt32 &&& (858993459 : Int32))) + (Int32.toUInt32 (((a0 - ((Int32.toUInt32 a0 >>> (Int32.toUInt32 (1 : Int32) &&& Int32.toUInt32 31)).toInt32 &&& (1431655765 : Int32))) &&& (858993459 : Int32)) + ((Int32.toUInt32 (a0 - ((Int32.toUInt32 a0 >>> (Int32.toUInt32 (1 : Int32) &&& Int32.toUInt32 31)).toInt32 &&& (1431655765 : Int32))) >>> (Int32.toUInt32 (2 : Int32) &&& Int32.toUInt32 31)).toInt32 &&& (858993459 : Int32))) >>> (Int32.toUInt32 (4 : Int32) &&& Int32.toUInt32 31)).toInt32) &&& (252645135 : Int32)) >>> (Int32.toUInt32 (8 : Int32) &&& Int32.toUInt32 31)).toInt32) + (Int32.toUInt32 ((((((a0 - ((Int32.toUInt32 a0 >>> (Int32.toUInt32 (1 : Int32) &&& Int32.toUInt32 31)).toInt32 &&& (1431655765 : Int32))) &&& (858993459 : Int32)) + ((Int32.toUInt32 (a0 - ((Int32.toUInt32 a0 >>> (Int32.toUInt32 (1 : Int32) &&& Int32.toUInt32 31)).toInt32 &&& (1431655765 : Int32))) >>> (Int32.toUInt32 (2 : Int32) &&& Int32.toUInt32 31)).toInt32 &&& (858993459 : Int32))) + (Int32.toUInt32 (((a0 - ((Int32.toUInt32 a0 >>> (Int32.toUInt32 (1 : Int32) &&& Int32.toUInt32 31)).toInt32 &&& (1431655765 : Int32))) &&& (858993459 : Int32)) + ((Int32.toUInt32 (a0 - ((Int32.toUInt32 a0 >>> (Int32.toUInt32 (1 : Int32) &&& Int32.toUInt32 31)).toInt32 &&& (1431655765 : Int32))) >>> (Int32.toUInt32 (2 : Int32) &&& Int32.toUInt32 31)).toInt32 &&& (858993459 : Int32))) >>> (Int32.toUInt32 (4 : Int32) &&& Int32.toUInt32 31)).toInt32) &&& (252645135 : Int32)) + (Int32.toUInt32 (((((a0 - ((Int32.toUInt32 a0 >>> (Int32.toUInt32 (1 : Int32) &&& Int32.toUInt32 31)).toInt32 &&& (1431655765 : Int32))) &&& (858993459 : Int32)) + ((Int32.toUInt32 (a0 - ((Int32.toUInt32 a0 >>> (Int32.toUInt32 (1 : Int32) &&& Int32.toUInt32 31)).toInt32 &&& (1431655765 : Int32))) >>> (Int32.toUInt32 (2 : Int32) &&& Int32.toUInt32 31)).toInt32 &&& (858993459 : Int32))) + (Int32.toUInt32 (((a0 - ((Int32.toUInt32 a0 >>> (Int32.toUInt32 (1 : Int32) &&& Int32.toUInt32 31)).toInt32 &&& (1431655765 : Int32))) &&& (858993459 : Int32)) + ((Int32.toUInt32 (a0 - ((Int32.toUInt32 a0 >>> (Int32.toUInt32 (1 : Int32) &&& Int32.toUInt32 31)).toInt32 &&& (1431655765 : Int32))) >>> (Int32.toUInt32 (2 : Int32) &&& Int32.toUInt32 31)).toInt32 &&& (858993459 : Int32))) >>> (Int32.toUInt32 (4 : Int32) &&& Int32.toUInt32 31)).toInt32) &&& (252645135 : Int32)) >>> (Int32.toUInt32 (8 : Int32) &&& Int32.toUInt32 31)).toInt32) >>> (Int32.toUInt32 (16 : Int32) &&& Int32.toUInt32 31)).toInt32) &&& (63 : Int32))), w)
def U_J6_bitCount_0f7a4 (fu : Nat) : Orc := fun as w => match as with
  | [.int a0] => M_J6_bitCount_0f7a4 fu a0 w
  | _ => none
def K_J6_bitCount_0f7a4 (fu : Nat) (n : Nat) : Kont := fun pc ls st w => none
set_option maxRecDepth 100000 in
set_option maxHeartbeats 4000000 in
theorem E_J6_bitCount_0f7a4 (fu : Nat) (a0 : Int32) (w : XW) : M_J6_bitCount_0f7a4 fu a0 w = ev T_J6_bitCount_0f7a4 (op_J6_bitCount_0f7a4 fu) [] (K_J6_bitCount_0f7a4 fu fu) 44 0 (lv_args 0 [.int a0]) [] w := by
  rfl
theorem D_J6_bitCount_0f7a4 (fu : Nat) : DS T_J6_bitCount_0f7a4 (op_J6_bitCount_0f7a4 fu) [] 44 (K_J6_bitCount_0f7a4 fu) := by
  refine ⟨fun pc ls st w => rfl, fun n pc ls st w o h => ?_⟩
  cases h
set_option maxRecDepth 100000 in
set_option maxHeartbeats 4000000 in
theorem S_J6_bitCount_0f7a4 (fu : Nat) {l : Launch} {D : va_G} {cA : Nat → ClassId} {base b : Nat} : CS l D cA base b 1 y_J6_bitCount_0f7a4 prog_11_method_49_code 1 (some .int) (U_J6_bitCount_0f7a4 fu) ∧ OM (U_J6_bitCount_0f7a4 fu) := by
  refine CS_of (d := 0) (y := y_J6_bitCount_0f7a4) (cc := prog_11_method_49_code) (nL := 1) (ret := (some .int)) (F := U_J6_bitCount_0f7a4 fu) (fl := []) (nl := []) (kl := kl_java_lang_Integer) (k2 := []) (mv := []) (ms := []) (mi := []) (ini := false) hI_w nil_all nil_all kl_java_lang_Integer_ok nil_all
    (nil_all)
    (nil_all)
    (nil_all)
    (T := T_J6_bitCount_0f7a4) (by decide +kernel) (cut := []) (N := 44) (D_J6_bitCount_0f7a4 fu) (by decide +kernel) (fun h => absurd h (by decide)) (fun as w o h => ?_)
  unfold U_J6_bitCount_0f7a4 at h
  split at h
  next =>
    exact ⟨Nat.le_of_ble_eq_true rfl, fu, (E_J6_bitCount_0f7a4 fu _ w).symm.trans h⟩
  next => cases h
def T_X7_many : List (Nat × Instr) := [(0, .iload_n 1), (1, .tableswitch 108 0 6 #[43, 51, 59, 67, 78, 89, 100]), (44, .aload_n 0), (45, .getfield 12), (48, .getfield 74), (51, .ireturn), (52, .aload_n 0), (53, .getfield 12), (56, .getfield 113), (59, .ireturn), (60, .aload_n 0), (61, .getfield 12), (64, .getfield 152), (67, .ireturn), (68, .aload_n 0), (69, .getfield 12), (72, .invokevirtual 164), (75, .invokestatic 219), (78, .ireturn), (79, .aload_n 0), (80, .getfield 12), (83, .getfield 138), (86, .invokestatic 219), (89, .ireturn), (90, .aload_n 0), (91, .getfield 12), (94, .getfield 91), (97, .invokestatic 219), (100, .ireturn), (101, .aload_n 0), (102, .getfield 12), (105, .getfield 98), (108, .ireturn), (109, .bipush (-2)), (111, .ireturn)]
def op_X7_many (fu : Nat) : Nat → Kont → XL → List Value → XW → Instr → Option XO := opK 2 (rzOf (some .int)) fl_BrookStones nl_BrookStones [] [] [(164, 1, 1, (U_X0_filled fu))] [(219, 1, 1, (U_J6_bitCount_0f7a4 fu))] []
def M_X7_many (fu : Nat) (a0 : Nat) (a1 : Int32) (w : XW) : Option XO :=
  (if a1 = (0 : Int32) then
    (gR w a0 6 0).bind fun r1 =>
    (gI w r1 0 8).bind fun x2 =>
    some (some (.int x2), w)
  else
  (if a1 = (1 : Int32) then
    (gR w a0 6 0).bind fun r3 =>
    (gI w r3 0 12).bind fun x4 =>
    some (some (.int x4), w)
  else
  (if a1 = (2 : Int32) then
    (gR w a0 6 0).bind fun r5 =>
    (gI w r5 0 14).bind fun x6 =>
    some (some (.int x6), w)
  else
  (if a1 = (3 : Int32) then
    (gR w a0 6 0).bind fun r7 =>
    cI (U_X0_filled fu [.ref r7] w) fun x9 w8 =>
    cI (U_J6_bitCount_0f7a4 fu [.int x9] w8) fun x11 w10 =>
    some (some (.int x11), w10)
  else
  (if a1 = (4 : Int32) then
    (gR w a0 6 0).bind fun r12 =>
    (gI w r12 0 13).bind fun x13 =>
    cI (U_J6_bitCount_0f7a4 fu [.int x13] w) fun x15 w14 =>
    some (some (.int x15), w14)
  else
  (if a1 = (5 : Int32) then
    (gR w a0 6 0).bind fun r16 =>
    (gI w r16 0 10).bind fun x17 =>
    cI (U_J6_bitCount_0f7a4 fu [.int x17] w) fun x19 w18 =>
    some (some (.int x19), w18)
  else
  (if a1 = (6 : Int32) then
    (gR w a0 6 0).bind fun r20 =>
    (gI w r20 0 11).bind fun x21 =>
    some (some (.int x21), w)
  else
  some (some (.int (-2 : Int32)), w))))))))
def U_X7_many (fu : Nat) : Orc := fun as w => match as with
  | [.ref a0, .int a1] => if isO w a0 6 = true then M_X7_many fu a0 a1 w else none
  | _ => none
def K_X7_many (fu : Nat) (n : Nat) : Kont := fun pc ls st w => none
set_option maxRecDepth 100000 in
set_option maxHeartbeats 4000000 in
theorem E_X7_many (fu : Nat) (a0 : Nat) (a1 : Int32) (w : XW) : M_X7_many fu a0 a1 w = ev T_X7_many (op_X7_many fu) [] (K_X7_many fu fu) 37 0 (lv_args 0 [.ref a0, .int a1]) [] w := by
  rfl
theorem D_X7_many (fu : Nat) : DS T_X7_many (op_X7_many fu) [] 37 (K_X7_many fu) := by
  refine ⟨fun pc ls st w => rfl, fun n pc ls st w o h => ?_⟩
  cases h
theorem H_X7_many (fu : Nat) : ∀ as w o, U_X7_many fu as w = some o → ∃ a r, as = .ref a :: r ∧ r.length = 1 ∧ isO w a 6 = true := by
  intro as w o h
  unfold U_X7_many at h
  split at h
  next =>
    split at h
    next hh => exact ⟨_, _, rfl, rfl, hh⟩
    next => cases h
  next => cases h
set_option maxRecDepth 100000 in
set_option maxHeartbeats 4000000 in
theorem S_X7_many (fu : Nat) {l : Launch} {D : va_G} {cA : Nat → ClassId} {base b : Nat} : CS l D cA base b 3 y_X7_many prog_1_method_38_code 2 (some .int) (U_X7_many fu) ∧ OM (U_X7_many fu) := by
  refine CS_of (d := 2) (y := y_X7_many) (cc := prog_1_method_38_code) (nL := 2) (ret := (some .int)) (F := U_X7_many fu) (fl := fl_BrookStones) (nl := nl_BrookStones) (kl := []) (k2 := []) (mv := [(164, 1, 1, (U_X0_filled fu))]) (ms := [(219, 1, 1, (U_J6_bitCount_0f7a4 fu))]) (mi := []) (ini := false) hI_w fl_BrookStones_ok nl_BrookStones_ok nil_all nil_all
    (cons_all (⟨⟨show (1 : Nat) ≠ 3 by decide, y_X0_filled, prog_2_method_17_code, 1, (some .int), 2, "BrookStones", 0, TX0, 15, 0, (S_X0_filled fu (l := l) (D := D) (cA := cA) (base := base) (b := b)).1, by decide, by decide, rfl, H_X0_filled fu, rfl, mi_X0_filled.1, mi_X0_filled.2.1, mi_X0_filled.2.2.1, mi_X0_filled.2.2.2.1, mi_X0_filled.2.2.2.2, Or.inr (tblN_of (i := 354) rfl rfl)⟩, (S_X0_filled fu (l := l) (D := D) (cA := cA) (base := base) (b := b)).2⟩) (nil_all))
    (cons_all (⟨Or.inl ⟨show (1 : Nat) ≠ 3 by decide, y_J6_bitCount_0f7a4, prog_11_method_49_code, 1, (some .int), 1, "BrookStones", (S_J6_bitCount_0f7a4 fu (l := l) (D := D) (cA := cA) (base := base) (b := b)).1, by decide, by decide, mi_J6_bitCount_0f7a4.1, mi_J6_bitCount_0f7a4.2.1, mi_J6_bitCount_0f7a4.2.2.1, mi_J6_bitCount_0f7a4.2.2.2, Or.inl (tblG_of (i := 453) rfl rfl)⟩, (S_J6_bitCount_0f7a4 fu (l := l) (D := D) (cA := cA) (base := base) (b := b)).2⟩) (nil_all))
    (nil_all)
    (T := T_X7_many) (by decide +kernel) (cut := []) (N := 37) (D_X7_many fu) (by decide +kernel) (fun h => absurd h (by decide)) (fun as w o h => ?_)
  unfold U_X7_many at h
  split at h
  next =>
    split at h
    next => exact ⟨Nat.le_of_ble_eq_true rfl, fu, (E_X7_many fu _ _ w).symm.trans h⟩
    next => cases h
  next => cases h
def T_X0_reachOf : List (Nat × Instr) := [(0, .iload_n 2), (1, .ifCond .eq 14), (4, .aload_n 0), (5, .getfield 33), (8, .iload_n 1), (9, .iaload), (10, .iconst 1), (11, .isub), (12, .goto 9), (15, .aload_n 0), (16, .getfield 33), (19, .iload_n 1), (20, .iaload), (21, .ireturn)]
def op_X0_reachOf (fu : Nat) : Nat → Kont → XL → List Value → XW → Instr → Option XO := opK 3 (rzOf (some .int)) fl_BrookStones_Brook [] [] [] [] [] []
def M_X0_reachOf (fu : Nat) (a0 : Nat) (a1 : Int32) (a2 : Int32) (w : XW) : Option XO :=
  (if a2 = 0 then
    (gR w a0 0 7).bind fun r1 =>
    (aI w r1 a1).bind fun x2 =>
    some (some (.int x2), w)
  else
    (gR w a0 0 7).bind fun r3 =>
    (aI w r3 a1).bind fun x4 =>
    some (some (.int (x4 - (1 : Int32))), w))
def U_X0_reachOf (fu : Nat) : Orc := fun as w => match as with
  | [.ref a0, .int a1, .int a2] => if isO w a0 0 = true then M_X0_reachOf fu a0 a1 a2 w else none
  | _ => none
def K_X0_reachOf (fu : Nat) (n : Nat) : Kont := fun pc ls st w => none
set_option maxRecDepth 100000 in
set_option maxHeartbeats 4000000 in
theorem E_X0_reachOf (fu : Nat) (a0 : Nat) (a1 : Int32) (a2 : Int32) (w : XW) : M_X0_reachOf fu a0 a1 a2 w = ev T_X0_reachOf (op_X0_reachOf fu) [] (K_X0_reachOf fu fu) 16 0 (lv_args 0 [.ref a0, .int a1, .int a2]) [] w := by
  rfl
theorem D_X0_reachOf (fu : Nat) : DS T_X0_reachOf (op_X0_reachOf fu) [] 16 (K_X0_reachOf fu) := by
  refine ⟨fun pc ls st w => rfl, fun n pc ls st w o h => ?_⟩
  cases h
theorem H_X0_reachOf (fu : Nat) : ∀ as w o, U_X0_reachOf fu as w = some o → ∃ a r, as = .ref a :: r ∧ r.length = 2 ∧ isO w a 0 = true := by
  intro as w o h
  unfold U_X0_reachOf at h
  split at h
  next =>
    split at h
    next hh => exact ⟨_, _, rfl, rfl, hh⟩
    next => cases h
  next => cases h
set_option maxRecDepth 100000 in
set_option maxHeartbeats 4000000 in
theorem S_X0_reachOf (fu : Nat) {l : Launch} {D : va_G} {cA : Nat → ClassId} {base b : Nat} : CS l D cA base b 1 y_X0_reachOf prog_2_method_9_code 3 (some .int) (U_X0_reachOf fu) ∧ OM (U_X0_reachOf fu) := by
  refine CS_of (d := 0) (y := y_X0_reachOf) (cc := prog_2_method_9_code) (nL := 3) (ret := (some .int)) (F := U_X0_reachOf fu) (fl := fl_BrookStones_Brook) (nl := []) (kl := []) (k2 := []) (mv := []) (ms := []) (mi := []) (ini := false) hI_w fl_BrookStones_Brook_ok nil_all nil_all nil_all
    (nil_all)
    (nil_all)
    (nil_all)
    (T := T_X0_reachOf) (by decide +kernel) (cut := []) (N := 16) (D_X0_reachOf fu) (by decide +kernel) (fun h => absurd h (by decide)) (fun as w o h => ?_)
  unfold U_X0_reachOf at h
  split at h
  next =>
    split at h
    next => exact ⟨Nat.le_of_ble_eq_true rfl, fu, (E_X0_reachOf fu _ _ _ w).symm.trans h⟩
    next => cases h
  next => cases h
def T_X0_dry : List (Nat × Instr) := [(0, .iconst 0), (1, .istore_n 2), (2, .iconst 0), (3, .istore_n 3), (4, .iload_n 3), (5, .aload_n 0), (6, .getfield 58), (9, .if_icmp .ge 42), (12, .aload_n 0), (13, .getfield 18), (16, .iload_n 3), (17, .iaload), (18, .bipush (-9)), (20, .if_icmp .eq 25), (23, .aload_n 0), (24, .aload_n 0), (25, .getfield 18), (28, .iload_n 3), (29, .iaload), (30, .iload_n 3), (31, .iload_n 1), (32, .invokevirtual 72), (35, .iconst 1), (36, .if_icmp .lt 9), (39, .iload_n 2), (40, .iconst 1), (41, .iload_n 3), (42, .ishl), (43, .ior), (44, .istore_n 2), (45, .iinc 3 1), (48, .goto (-44)), (51, .iload_n 2), (52, .ireturn)]
def op_X0_dry (fu : Nat) : Nat → Kont → XL → List Value → XW → Instr → Option XO := opK 4 (rzOf (some .int)) fl_BrookStones_Brook [] [] [] [(72, 4, 1, (U_X0_topOf fu))] [] []
def F_X0_dry (fu : Nat) : Nat → (Nat → Int32 → Int32 → Int32 → XW → Option XO)
  | 0 => fun _ _ _ _ _ => none
  | n + 1 => (fun a0 a1 a2 a3 w =>
    (gI w a0 0 8).bind fun x1 =>
    (if a3 < x1 then
      (gR w a0 0 2).bind fun r2 =>
      (aI w r2 a3).bind fun x3 =>
      (if x3 = (-9 : Int32) then
        (F_X0_dry fu n) a0 a1 a2 (a3 + (1 : Int32)) w
      else
        (gR w a0 0 2).bind fun r4 =>
        (aI w r4 a3).bind fun x5 =>
        cI (U_X0_topOf fu [.ref a0, .int x5, .int a3, .int a1] w) fun x7 w6 =>
        (if x7 < (1 : Int32) then
          (F_X0_dry fu n) a0 a1 a2 (a3 + (1 : Int32)) w6
        else
          (F_X0_dry fu n) a0 a1 (a2 ||| ((1 : Int32) <<< (a3 &&& 31))) (a3 + (1 : Int32)) w6))
    else
      some (some (.int a2), w)))
def M_X0_dry (fu : Nat) (a0 : Nat) (a1 : Int32) (w : XW) : Option XO :=
  (F_X0_dry fu fu) a0 a1 (0 : Int32) (0 : Int32) w
def U_X0_dry (fu : Nat) : Orc := fun as w => match as with
  | [.ref a0, .int a1] => if isO w a0 0 = true then M_X0_dry fu a0 a1 w else none
  | _ => none
def K_X0_dry (fu : Nat) (n : Nat) : Kont := fun pc ls st w => bif pc == 4 then ((xr ls 0).bind fun a0 => (xi ls 1).bind fun a1 => (xi ls 2).bind fun a2 => (xi ls 3).bind fun a3 => skN st ((F_X0_dry fu n) a0 a1 a2 a3 w)) else none
set_option maxRecDepth 100000 in
set_option maxHeartbeats 4000000 in
theorem E_X0_dry_4 (fu : Nat) (n : Nat) (a0 : Nat) (a1 : Int32) (a2 : Int32) (a3 : Int32) (w : XW) : (F_X0_dry fu (n + 1)) a0 a1 a2 a3 w = ev T_X0_dry (op_X0_dry fu) [4] (K_X0_dry fu n) 36 4 [(0, .ref a0), (1, .int a1), (2, .int a2), (3, .int a3)] [] w := by
  rfl
set_option maxRecDepth 100000 in
set_option maxHeartbeats 4000000 in
theorem E_X0_dry (fu : Nat) (a0 : Nat) (a1 : Int32) (w : XW) : M_X0_dry fu a0 a1 w = ev T_X0_dry (op_X0_dry fu) [4] (K_X0_dry fu fu) 36 0 (lv_args 0 [.ref a0, .int a1]) [] w := by
  rfl
theorem D_X0_dry (fu : Nat) : DS T_X0_dry (op_X0_dry fu) [4] 36 (K_X0_dry fu) := by
  refine ⟨fun pc ls st w => c_none (b_none fun _ => b_none fun _ => b_none fun _ => b_none fun _ => skN_none rfl) (rfl), fun n pc ls st w o h => ?_⟩
  rcases c_some h with ⟨rfl, h⟩ | h
  · obtain ⟨a0, h0, h⟩ := some_of h; obtain ⟨a1, h1, h⟩ := some_of h; obtain ⟨a2, h2, h⟩ := some_of h; obtain ⟨a3, h3, h⟩ := some_of h;
    obtain ⟨e, g⟩ := skN_of h
    subst e
    exact ⟨[(0, .ref a0), (1, .int a1), (2, .int a2), (3, .int a3)], cons_all (xr_of h0) (cons_all (xi_of h1) (cons_all (xi_of h2) (cons_all (xi_of h3) (nil_all)))), (E_X0_dry_4 fu n a0 a1 a2 a3 w).symm.trans g⟩
  · cases h
theorem H_X0_dry (fu : Nat) : ∀ as w o, U_X0_dry fu as w = some o → ∃ a r, as = .ref a :: r ∧ r.length = 1 ∧ isO w a 0 = true := by
  intro as w o h
  unfold U_X0_dry at h
  split at h
  next =>
    split at h
    next hh => exact ⟨_, _, rfl, rfl, hh⟩
    next => cases h
  next => cases h
set_option maxRecDepth 100000 in
set_option maxHeartbeats 4000000 in
theorem S_X0_dry (fu : Nat) {l : Launch} {D : va_G} {cA : Nat → ClassId} {base b : Nat} : CS l D cA base b 2 y_X0_dry prog_2_method_19_code 4 (some .int) (U_X0_dry fu) ∧ OM (U_X0_dry fu) := by
  refine CS_of (d := 1) (y := y_X0_dry) (cc := prog_2_method_19_code) (nL := 4) (ret := (some .int)) (F := U_X0_dry fu) (fl := fl_BrookStones_Brook) (nl := []) (kl := []) (k2 := []) (mv := [(72, 4, 1, (U_X0_topOf fu))]) (ms := []) (mi := []) (ini := false) hI_w fl_BrookStones_Brook_ok nil_all nil_all nil_all
    (cons_all (⟨⟨show (1 : Nat) ≠ 3 by decide, y_X0_topOf, prog_2_method_13_code, 4, (some .int), 1, "BrookStones", 0, TX0, 15, 3, (S_X0_topOf fu (l := l) (D := D) (cA := cA) (base := base) (b := b)).1, by decide, by decide, rfl, H_X0_topOf fu, rfl, mi_X0_topOf.1, mi_X0_topOf.2.1, mi_X0_topOf.2.2.1, mi_X0_topOf.2.2.2.1, mi_X0_topOf.2.2.2.2, Or.inl (tblG_of (i := 374) rfl rfl)⟩, (S_X0_topOf fu (l := l) (D := D) (cA := cA) (base := base) (b := b)).2⟩) (nil_all))
    (nil_all)
    (nil_all)
    (T := T_X0_dry) (by decide +kernel) (cut := [4]) (N := 36) (D_X0_dry fu) (by decide +kernel) (fun h => absurd h (by decide)) (fun as w o h => ?_)
  unfold U_X0_dry at h
  split at h
  next =>
    split at h
    next => exact ⟨Nat.le_of_ble_eq_true rfl, fu, (E_X0_dry fu _ _ w).symm.trans h⟩
    next => cases h
  next => cases h
def T_X7_farthest : List (Nat × Instr) := [(0, .iload_n 3), (1, .iconst 1), (2, .isub), (3, .istore 4), (5, .iconst 0), (6, .istore 5), (8, .iload 5), (10, .iload_n 2), (11, .if_icmp .ge 56), (14, .iload_n 0), (15, .iload 5), (17, .invokestatic 94), (20, .ifCond .eq 41), (23, .iload_n 1), (24, .iload 5), (26, .invokestatic 94), (29, .ifCond .eq 7), (32, .iconst 1), (33, .goto 4), (36, .iconst 0), (37, .istore 6), (39, .iload 5), (41, .iload 6), (43, .isub), (44, .iload 4), (46, .if_icmp .le 6), (49, .iload 4), (51, .ireturn), (52, .iload 5), (54, .iload 6), (56, .iadd), (57, .iload_n 3), (58, .iadd), (59, .istore 4), (61, .iinc 5 1), (64, .goto (-56)), (67, .iload 4), (69, .ireturn)]
def op_X7_farthest (fu : Nat) : Nat → Kont → XL → List Value → XW → Instr → Option XO := opK 7 (rzOf (some .int)) fl_BrookStones nl_BrookStones [] [] [] [(94, 2, 1, (U_X7_has fu))] []
def F_X7_farthest (fu : Nat) : Nat → (Int32 → Int32 → Int32 → Int32 → Int32 → Int32 → XW → Option XO) × (Int32 → Int32 → Int32 → Int32 → Int32 → Int32 → Int32 → XW → Option XO)
  | 0 => (fun _ _ _ _ _ _ _ => none, fun _ _ _ _ _ _ _ _ => none)
  | n + 1 => ((fun a0 a1 a2 a3 a4 a5 w =>
    (if a5 < a2 then
      cI (U_X7_has fu [.int a0, .int a5] w) fun x2 w1 =>
      (if x2 = 0 then
        (F_X7_farthest fu n).1 a0 a1 a2 a3 a4 (a5 + (1 : Int32)) w1
      else
        cI (U_X7_has fu [.int a1, .int a5] w1) fun x4 w3 =>
        (if x4 = 0 then
          (F_X7_farthest fu n).2 a0 a1 a2 a3 a4 a5 (0 : Int32) w3
        else
          (F_X7_farthest fu n).2 a0 a1 a2 a3 a4 a5 (1 : Int32) w3))
    else
      some (some (.int a4), w))),
   (fun a0 a1 a2 a3 a4 a5 s0 w =>
    (if a4 < (a5 - s0) then
      some (some (.int a4), w)
    else
      (F_X7_farthest fu n).1 a0 a1 a2 a3 ((a5 + s0) + a3) (a5 + (1 : Int32)) w)))
def M_X7_farthest (fu : Nat) (a0 : Int32) (a1 : Int32) (a2 : Int32) (a3 : Int32) (w : XW) : Option XO :=
  (F_X7_farthest fu fu).1 a0 a1 a2 a3 (a3 - (1 : Int32)) (0 : Int32) w
def U_X7_farthest (fu : Nat) : Orc := fun as w => match as with
  | [.int a0, .int a1, .int a2, .int a3] => M_X7_farthest fu a0 a1 a2 a3 w
  | _ => none
def K_X7_farthest (fu : Nat) (n : Nat) : Kont := fun pc ls st w => bif pc == 8 then ((xi ls 0).bind fun a0 => (xi ls 1).bind fun a1 => (xi ls 2).bind fun a2 => (xi ls 3).bind fun a3 => (xi ls 4).bind fun a4 => (xi ls 5).bind fun a5 => skN st ((F_X7_farthest fu n).1 a0 a1 a2 a3 a4 a5 w)) else bif pc == 37 then ((xi ls 0).bind fun a0 => (xi ls 1).bind fun a1 => (xi ls 2).bind fun a2 => (xi ls 3).bind fun a3 => (xi ls 4).bind fun a4 => (xi ls 5).bind fun a5 => skI st fun s0 st => skN st ((F_X7_farthest fu n).2 a0 a1 a2 a3 a4 a5 s0 w)) else none
set_option maxRecDepth 100000 in
set_option maxHeartbeats 4000000 in
theorem E_X7_farthest_8 (fu : Nat) (n : Nat) (a0 : Int32) (a1 : Int32) (a2 : Int32) (a3 : Int32) (a4 : Int32) (a5 : Int32) (w : XW) : (F_X7_farthest fu (n + 1)).1 a0 a1 a2 a3 a4 a5 w = ev T_X7_farthest (op_X7_farthest fu) [8, 37] (K_X7_farthest fu n) 40 8 [(0, .int a0), (1, .int a1), (2, .int a2), (3, .int a3), (4, .int a4), (5, .int a5)] [] w := by
  rfl
set_option maxRecDepth 100000 in
set_option maxHeartbeats 4000000 in
theorem E_X7_farthest_37 (fu : Nat) (n : Nat) (a0 : Int32) (a1 : Int32) (a2 : Int32) (a3 : Int32) (a4 : Int32) (a5 : Int32) (s0 : Int32) (w : XW) : (F_X7_farthest fu (n + 1)).2 a0 a1 a2 a3 a4 a5 s0 w = ev T_X7_farthest (op_X7_farthest fu) [8, 37] (K_X7_farthest fu n) 40 37 [(0, .int a0), (1, .int a1), (2, .int a2), (3, .int a3), (4, .int a4), (5, .int a5)] [.int s0] w := by
  rfl
set_option maxRecDepth 100000 in
set_option maxHeartbeats 4000000 in
theorem E_X7_farthest (fu : Nat) (a0 : Int32) (a1 : Int32) (a2 : Int32) (a3 : Int32) (w : XW) : M_X7_farthest fu a0 a1 a2 a3 w = ev T_X7_farthest (op_X7_farthest fu) [8, 37] (K_X7_farthest fu fu) 40 0 (lv_args 0 [.int a0, .int a1, .int a2, .int a3]) [] w := by
  rfl
theorem D_X7_farthest (fu : Nat) : DS T_X7_farthest (op_X7_farthest fu) [8, 37] 40 (K_X7_farthest fu) := by
  refine ⟨fun pc ls st w => c_none (b_none fun _ => b_none fun _ => b_none fun _ => b_none fun _ => b_none fun _ => b_none fun _ => skN_none rfl) (c_none (b_none fun _ => b_none fun _ => b_none fun _ => b_none fun _ => b_none fun _ => b_none fun _ => skI_none fun _ _ => skN_none rfl) (rfl)), fun n pc ls st w o h => ?_⟩
  rcases c_some h with ⟨rfl, h⟩ | h
  · obtain ⟨a0, h0, h⟩ := some_of h; obtain ⟨a1, h1, h⟩ := some_of h; obtain ⟨a2, h2, h⟩ := some_of h; obtain ⟨a3, h3, h⟩ := some_of h; obtain ⟨a4, h4, h⟩ := some_of h; obtain ⟨a5, h5, h⟩ := some_of h;
    obtain ⟨e, g⟩ := skN_of h
    subst e
    exact ⟨[(0, .int a0), (1, .int a1), (2, .int a2), (3, .int a3), (4, .int a4), (5, .int a5)], cons_all (xi_of h0) (cons_all (xi_of h1) (cons_all (xi_of h2) (cons_all (xi_of h3) (cons_all (xi_of h4) (cons_all (xi_of h5) (nil_all)))))), (E_X7_farthest_8 fu n a0 a1 a2 a3 a4 a5 w).symm.trans g⟩
  rcases c_some h with ⟨rfl, h⟩ | h
  · obtain ⟨a0, h0, h⟩ := some_of h; obtain ⟨a1, h1, h⟩ := some_of h; obtain ⟨a2, h2, h⟩ := some_of h; obtain ⟨a3, h3, h⟩ := some_of h; obtain ⟨a4, h4, h⟩ := some_of h; obtain ⟨a5, h5, h⟩ := some_of h;
    obtain ⟨s0, st0, e0, g0⟩ := skI_of h
    obtain ⟨e, g⟩ := skN_of g0
    subst e
    subst e0
    exact ⟨[(0, .int a0), (1, .int a1), (2, .int a2), (3, .int a3), (4, .int a4), (5, .int a5)], cons_all (xi_of h0) (cons_all (xi_of h1) (cons_all (xi_of h2) (cons_all (xi_of h3) (cons_all (xi_of h4) (cons_all (xi_of h5) (nil_all)))))), (E_X7_farthest_37 fu n a0 a1 a2 a3 a4 a5 s0 w).symm.trans g⟩
  · cases h
set_option maxRecDepth 100000 in
set_option maxHeartbeats 4000000 in
theorem S_X7_farthest (fu : Nat) {l : Launch} {D : va_G} {cA : Nat → ClassId} {base b : Nat} : CS l D cA base b 2 y_X7_farthest prog_1_method_49_code 7 (some .int) (U_X7_farthest fu) ∧ OM (U_X7_farthest fu) := by
  refine CS_of (d := 1) (y := y_X7_farthest) (cc := prog_1_method_49_code) (nL := 7) (ret := (some .int)) (F := U_X7_farthest fu) (fl := fl_BrookStones) (nl := nl_BrookStones) (kl := []) (k2 := []) (mv := []) (ms := [(94, 2, 1, (U_X7_has fu))]) (mi := []) (ini := false) hI_w fl_BrookStones_ok nl_BrookStones_ok nil_all nil_all
    (nil_all)
    (cons_all (⟨Or.inl ⟨show (1 : Nat) ≠ 3 by decide, y_X7_has, prog_1_method_47_code, 2, (some .boolean), 1, "BrookStones", (S_X7_has fu (l := l) (D := D) (cA := cA) (base := base) (b := b)).1, by decide, by decide, mi_X7_has.1, mi_X7_has.2.1, mi_X7_has.2.2.1, mi_X7_has.2.2.2, Or.inl (tblG_of (i := 293) rfl rfl)⟩, (S_X7_has fu (l := l) (D := D) (cA := cA) (base := base) (b := b)).2⟩) (nil_all))
    (nil_all)
    (T := T_X7_farthest) (by decide +kernel) (cut := [8, 37]) (N := 40) (D_X7_farthest fu) (by decide +kernel) (fun h => absurd h (by decide)) (fun as w o h => ?_)
  unfold U_X7_farthest at h
  split at h
  next =>
    exact ⟨Nat.le_of_ble_eq_true rfl, fu, (E_X7_farthest fu _ _ _ _ w).symm.trans h⟩
  next => cases h
def T_X0_isCrossed : List (Nat × Instr) := [(0, .aload_n 0), (1, .iload_n 2), (2, .invokevirtual 76), (5, .iload_n 1), (6, .iand), (7, .aload_n 0), (8, .iconst 2), (9, .invokevirtual 69), (12, .aload_n 0), (13, .getfield 58), (16, .iload_n 3), (17, .invokestatic 79), (20, .aload_n 0), (21, .getfield 58), (24, .if_icmp .lt 7), (27, .iconst 1), (28, .goto 4), (31, .iconst 0), (32, .ireturn)]
def op_X0_isCrossed (fu : Nat) : Nat → Kont → XL → List Value → XW → Instr → Option XO := opK 4 (rzOf (some .boolean)) fl_BrookStones_Brook [] [] [] [(76, 2, 1, (U_X0_dry fu)), (69, 2, 1, (U_X0_ofKind fu))] [(79, 4, 1, (U_X7_farthest fu))] []
def M_X0_isCrossed (fu : Nat) (a0 : Nat) (a1 : Int32) (a2 : Int32) (a3 : Int32) (w : XW) : Option XO :=
  cI (U_X0_dry fu [.ref a0, .int a2] w) fun x2 w1 =>
  cI (U_X0_ofKind fu [.ref a0, .int (2 : Int32)] w1) fun x4 w3 =>
  (gI w3 a0 0 8).bind fun x5 =>
  cI (U_X7_farthest fu [.int (x2 &&& a1), .int x4, .int x5, .int a3] w3) fun x7 w6 =>
  (gI w6 a0 0 8).bind fun x8 =>
  (if x7 < x8 then
    retZ (0 : Int32) w6
  else
    retZ (1 : Int32) w6)
def U_X0_isCrossed (fu : Nat) : Orc := fun as w => match as with
  | [.ref a0, .int a1, .int a2, .int a3] => if isO w a0 0 = true then M_X0_isCrossed fu a0 a1 a2 a3 w else none
  | _ => none
def K_X0_isCrossed (fu : Nat) (n : Nat) : Kont := fun pc ls st w => none
set_option maxRecDepth 100000 in
set_option maxHeartbeats 4000000 in
theorem E_X0_isCrossed (fu : Nat) (a0 : Nat) (a1 : Int32) (a2 : Int32) (a3 : Int32) (w : XW) : M_X0_isCrossed fu a0 a1 a2 a3 w = ev T_X0_isCrossed (op_X0_isCrossed fu) [] (K_X0_isCrossed fu fu) 21 0 (lv_args 0 [.ref a0, .int a1, .int a2, .int a3]) [] w := by
  rfl
theorem D_X0_isCrossed (fu : Nat) : DS T_X0_isCrossed (op_X0_isCrossed fu) [] 21 (K_X0_isCrossed fu) := by
  refine ⟨fun pc ls st w => rfl, fun n pc ls st w o h => ?_⟩
  cases h
theorem H_X0_isCrossed (fu : Nat) : ∀ as w o, U_X0_isCrossed fu as w = some o → ∃ a r, as = .ref a :: r ∧ r.length = 3 ∧ isO w a 0 = true := by
  intro as w o h
  unfold U_X0_isCrossed at h
  split at h
  next =>
    split at h
    next hh => exact ⟨_, _, rfl, rfl, hh⟩
    next => cases h
  next => cases h
set_option maxRecDepth 100000 in
set_option maxHeartbeats 4000000 in
theorem S_X0_isCrossed (fu : Nat) {l : Launch} {D : va_G} {cA : Nat → ClassId} {base b : Nat} : CS l D cA base b 3 y_X0_isCrossed prog_2_method_20_code 4 (some .boolean) (U_X0_isCrossed fu) ∧ OM (U_X0_isCrossed fu) := by
  refine CS_of (d := 2) (y := y_X0_isCrossed) (cc := prog_2_method_20_code) (nL := 4) (ret := (some .boolean)) (F := U_X0_isCrossed fu) (fl := fl_BrookStones_Brook) (nl := []) (kl := []) (k2 := []) (mv := [(76, 2, 1, (U_X0_dry fu)), (69, 2, 1, (U_X0_ofKind fu))]) (ms := [(79, 4, 1, (U_X7_farthest fu))]) (mi := []) (ini := false) hI_w fl_BrookStones_Brook_ok nil_all nil_all nil_all
    (cons_all (⟨⟨show (1 : Nat) ≠ 3 by decide, y_X0_dry, prog_2_method_19_code, 4, (some .int), 2, "BrookStones", 0, TX0, 15, 1, (S_X0_dry fu (l := l) (D := D) (cA := cA) (base := base) (b := b)).1, by decide, by decide, rfl, H_X0_dry fu, rfl, mi_X0_dry.1, mi_X0_dry.2.1, mi_X0_dry.2.2.1, mi_X0_dry.2.2.2.1, mi_X0_dry.2.2.2.2, Or.inl (tblG_of (i := 370) rfl rfl)⟩, (S_X0_dry fu (l := l) (D := D) (cA := cA) (base := base) (b := b)).2⟩) (cons_all (⟨⟨show (1 : Nat) ≠ 3 by decide, y_X0_ofKind, prog_2_method_18_code, 4, (some .int), 1, "BrookStones", 0, TX0, 15, 1, (S_X0_ofKind fu (l := l) (D := D) (cA := cA) (base := base) (b := b)).1, by decide, by decide, rfl, H_X0_ofKind fu, rfl, mi_X0_ofKind.1, mi_X0_ofKind.2.1, mi_X0_ofKind.2.2.1, mi_X0_ofKind.2.2.2.1, mi_X0_ofKind.2.2.2.2, Or.inl (tblG_of (i := 358) rfl rfl)⟩, (S_X0_ofKind fu (l := l) (D := D) (cA := cA) (base := base) (b := b)).2⟩) (nil_all)))
    (cons_all (⟨Or.inl ⟨show (1 : Nat) ≠ 3 by decide, y_X7_farthest, prog_1_method_49_code, 7, (some .int), 2, "BrookStones", (S_X7_farthest fu (l := l) (D := D) (cA := cA) (base := base) (b := b)).1, by decide, by decide, mi_X7_farthest.1, mi_X7_farthest.2.1, mi_X7_farthest.2.2.1, mi_X7_farthest.2.2.2, Or.inr (tblN_of (i := 375) rfl rfl)⟩, (S_X7_farthest fu (l := l) (D := D) (cA := cA) (base := base) (b := b)).2⟩) (nil_all))
    (nil_all)
    (T := T_X0_isCrossed) (by decide +kernel) (cut := []) (N := 21) (D_X0_isCrossed fu) (by decide +kernel) (fun h => absurd h (by decide)) (fun as w o h => ?_)
  unfold U_X0_isCrossed at h
  split at h
  next =>
    split at h
    next => exact ⟨Nat.le_of_ble_eq_true rfl, fu, (E_X0_isCrossed fu _ _ _ _ w).symm.trans h⟩
    next => cases h
  next => cases h
def T_X7_can : List (Nat × Instr) := [(0, .aload_n 0), (1, .getfield 12), (4, .iload_n 1), (5, .invokevirtual 158), (8, .ifCond .ne 5), (11, .iconst (-1)), (12, .ireturn), (13, .aload_n 0), (14, .getfield 12), (17, .aload_n 0), (18, .getfield 12), (21, .invokevirtual 164), (24, .aload_n 0), (25, .getfield 12), (28, .getfield 98), (31, .aload_n 0), (32, .getfield 12), (35, .iload_n 1), (36, .iload_n 2), (37, .invokevirtual 168), (40, .invokevirtual 172), (43, .ifCond .eq 7), (46, .iconst 1), (47, .goto 4), (50, .iconst 0), (51, .ireturn)]
def op_X7_can (fu : Nat) : Nat → Kont → XL → List Value → XW → Instr → Option XO := opK 3 (rzOf (some .int)) fl_BrookStones nl_BrookStones [] [] [(158, 2, 1, (U_X0_isWalker fu)), (164, 1, 1, (U_X0_filled fu)), (168, 3, 1, (U_X0_reachOf fu)), (172, 4, 1, (U_X0_isCrossed fu))] [] []
def M_X7_can (fu : Nat) (a0 : Nat) (a1 : Int32) (a2 : Int32) (w : XW) : Option XO :=
  (gR w a0 6 0).bind fun r1 =>
  cI (U_X0_isWalker fu [.ref r1, .int a1] w) fun x3 w2 =>
  (if x3 = 0 then
    some (some (.int (-1 : Int32)), w2)
  else
    (gR w2 a0 6 0).bind fun r4 =>
    (gR w2 a0 6 0).bind fun r5 =>
    cI (U_X0_filled fu [.ref r5] w2) fun x7 w6 =>
    (gR w6 a0 6 0).bind fun r8 =>
    (gI w6 r8 0 11).bind fun x9 =>
    (gR w6 a0 6 0).bind fun r10 =>
    cI (U_X0_reachOf fu [.ref r10, .int a1, .int a2] w6) fun x12 w11 =>
    cI (U_X0_isCrossed fu [.ref r4, .int x7, .int x9, .int x12] w11) fun x14 w13 =>
    (if x14 = 0 then
      some (some (.int (0 : Int32)), w13)
    else
      some (some (.int (1 : Int32)), w13)))
def U_X7_can (fu : Nat) : Orc := fun as w => match as with
  | [.ref a0, .int a1, .int a2] => if isO w a0 6 = true then M_X7_can fu a0 a1 a2 w else none
  | _ => none
def K_X7_can (fu : Nat) (n : Nat) : Kont := fun pc ls st w => none
set_option maxRecDepth 100000 in
set_option maxHeartbeats 4000000 in
theorem E_X7_can (fu : Nat) (a0 : Nat) (a1 : Int32) (a2 : Int32) (w : XW) : M_X7_can fu a0 a1 a2 w = ev T_X7_can (op_X7_can fu) [] (K_X7_can fu fu) 28 0 (lv_args 0 [.ref a0, .int a1, .int a2]) [] w := by
  rfl
theorem D_X7_can (fu : Nat) : DS T_X7_can (op_X7_can fu) [] 28 (K_X7_can fu) := by
  refine ⟨fun pc ls st w => rfl, fun n pc ls st w o h => ?_⟩
  cases h
theorem H_X7_can (fu : Nat) : ∀ as w o, U_X7_can fu as w = some o → ∃ a r, as = .ref a :: r ∧ r.length = 2 ∧ isO w a 6 = true := by
  intro as w o h
  unfold U_X7_can at h
  split at h
  next =>
    split at h
    next hh => exact ⟨_, _, rfl, rfl, hh⟩
    next => cases h
  next => cases h
set_option maxRecDepth 100000 in
set_option maxHeartbeats 4000000 in
theorem S_X7_can (fu : Nat) {l : Launch} {D : va_G} {cA : Nat → ClassId} {base b : Nat} : CS l D cA base b 4 y_X7_can prog_1_method_12_code 3 (some .int) (U_X7_can fu) ∧ OM (U_X7_can fu) := by
  refine CS_of (d := 3) (y := y_X7_can) (cc := prog_1_method_12_code) (nL := 3) (ret := (some .int)) (F := U_X7_can fu) (fl := fl_BrookStones) (nl := nl_BrookStones) (kl := []) (k2 := []) (mv := [(158, 2, 1, (U_X0_isWalker fu)), (164, 1, 1, (U_X0_filled fu)), (168, 3, 1, (U_X0_reachOf fu)), (172, 4, 1, (U_X0_isCrossed fu))]) (ms := []) (mi := []) (ini := false) hI_w fl_BrookStones_ok nl_BrookStones_ok nil_all nil_all
    (cons_all (⟨⟨show (1 : Nat) ≠ 3 by decide, y_X0_isWalker, prog_2_method_6_code, 2, (some .boolean), 1, "BrookStones", 0, TX0, 15, 1, (S_X0_isWalker fu (l := l) (D := D) (cA := cA) (base := base) (b := b)).1, by decide, by decide, rfl, H_X0_isWalker fu, rfl, mi_X0_isWalker.1, mi_X0_isWalker.2.1, mi_X0_isWalker.2.2.1, mi_X0_isWalker.2.2.2.1, mi_X0_isWalker.2.2.2.2, Or.inr (tblN_of (i := 346) rfl rfl)⟩, (S_X0_isWalker fu (l := l) (D := D) (cA := cA) (base := base) (b := b)).2⟩) (cons_all (⟨⟨show (1 : Nat) ≠ 3 by decide, y_X0_filled, prog_2_method_17_code, 1, (some .int), 2, "BrookStones", 0, TX0, 15, 0, (S_X0_filled fu (l := l) (D := D) (cA := cA) (base := base) (b := b)).1, by decide, by decide, rfl, H_X0_filled fu, rfl, mi_X0_filled.1, mi_X0_filled.2.1, mi_X0_filled.2.2.1, mi_X0_filled.2.2.2.1, mi_X0_filled.2.2.2.2, Or.inr (tblN_of (i := 354) rfl rfl)⟩, (S_X0_filled fu (l := l) (D := D) (cA := cA) (base := base) (b := b)).2⟩) (cons_all (⟨⟨show (1 : Nat) ≠ 3 by decide, y_X0_reachOf, prog_2_method_9_code, 3, (some .int), 1, "BrookStones", 0, TX0, 15, 2, (S_X0_reachOf fu (l := l) (D := D) (cA := cA) (base := base) (b := b)).1, by decide, by decide, rfl, H_X0_reachOf fu, rfl, mi_X0_reachOf.1, mi_X0_reachOf.2.1, mi_X0_reachOf.2.2.1, mi_X0_reachOf.2.2.2.1, mi_X0_reachOf.2.2.2.2, Or.inr (tblN_of (i := 362) rfl rfl)⟩, (S_X0_reachOf fu (l := l) (D := D) (cA := cA) (base := base) (b := b)).2⟩) (cons_all (⟨⟨show (1 : Nat) ≠ 3 by decide, y_X0_isCrossed, prog_2_method_20_code, 4, (some .boolean), 3, "BrookStones", 0, TX0, 15, 3, (S_X0_isCrossed fu (l := l) (D := D) (cA := cA) (base := base) (b := b)).1, by decide, by decide, rfl, H_X0_isCrossed fu, rfl, mi_X0_isCrossed.1, mi_X0_isCrossed.2.1, mi_X0_isCrossed.2.2.1, mi_X0_isCrossed.2.2.2.1, mi_X0_isCrossed.2.2.2.2, Or.inr (tblN_of (i := 366) rfl rfl)⟩, (S_X0_isCrossed fu (l := l) (D := D) (cA := cA) (base := base) (b := b)).2⟩) (nil_all)))))
    (nil_all)
    (nil_all)
    (T := T_X7_can) (by decide +kernel) (cut := []) (N := 28) (D_X7_can fu) (by decide +kernel) (fun h => absurd h (by decide)) (fun as w o h => ?_)
  unfold U_X7_can at h
  split at h
  next =>
    split at h
    next => exact ⟨Nat.le_of_ble_eq_true rfl, fu, (E_X7_can fu _ _ _ w).symm.trans h⟩
    next => cases h
  next => cases h
def T_L_stands : List (Nat × Instr) := [(0, .iload 4), (2, .ifCond .eq 13), (5, .iload 4), (7, .aload_n 0), (8, .iconst 0), (9, .iaload), (10, .iconst 1), (11, .iadd), (12, .if_icmp .ne 5), (15, .iconst 1), (16, .ireturn), (17, .aload_n 2), (18, .iload 4), (20, .iconst 1), (21, .isub), (22, .iaload), (23, .istore 5), (25, .iload 5), (27, .ifCond .lt 25), (30, .aload_n 1), (31, .bipush 6), (33, .iload 5), (35, .iadd), (36, .iaload), (37, .aload_n 0), (38, .iconst 1), (39, .iload 4), (41, .iadd), (42, .iaload), (43, .iload_n 3), (44, .iadd), (45, .if_icmp .le 7), (48, .iconst 1), (49, .goto 4), (52, .iconst 0), (53, .ireturn)]
def op_L_stands (fu : Nat) : Nat → Kont → XL → List Value → XW → Instr → Option XO := opK 6 (rzOf (some .boolean)) [] nl_BrookStonesLaw kl_BrookStonesLaw [] [] [] []
def M_L_stands (fu : Nat) (a0 : Nat) (a1 : Nat) (a2 : Nat) (a3 : Int32) (a4 : Int32) (w : XW) : Option XO :=
  (if a4 = 0 then
    retZ (1 : Int32) w
  else
    (aI w a0 (0 : Int32)).bind fun x1 =>
    (if a4 = (x1 + (1 : Int32)) then
      retZ (1 : Int32) w
    else
      (aI w a2 (a4 - (1 : Int32))).bind fun x2 =>
      (if x2 < 0 then
        retZ (0 : Int32) w
      else
        (aI w a1 ((6 : Int32) + x2)).bind fun x3 =>
        (aI w a0 ((1 : Int32) + a4)).bind fun x4 =>
        (if (x4 + a3) < x3 then
          retZ (1 : Int32) w
        else
          retZ (0 : Int32) w))))
def U_L_stands (fu : Nat) : Orc := fun as w => match as with
  | [.ref a0, .ref a1, .ref a2, .int a3, .int a4] => M_L_stands fu a0 a1 a2 a3 a4 w
  | _ => none
def K_L_stands (fu : Nat) (n : Nat) : Kont := fun pc ls st w => none
set_option maxRecDepth 100000 in
set_option maxHeartbeats 4000000 in
theorem E_L_stands (fu : Nat) (a0 : Nat) (a1 : Nat) (a2 : Nat) (a3 : Int32) (a4 : Int32) (w : XW) : M_L_stands fu a0 a1 a2 a3 a4 w = ev T_L_stands (op_L_stands fu) [] (K_L_stands fu fu) 38 0 (lv_args 0 [.ref a0, .ref a1, .ref a2, .int a3, .int a4]) [] w := by
  rfl
theorem D_L_stands (fu : Nat) : DS T_L_stands (op_L_stands fu) [] 38 (K_L_stands fu) := by
  refine ⟨fun pc ls st w => rfl, fun n pc ls st w o h => ?_⟩
  cases h
set_option maxRecDepth 100000 in
set_option maxHeartbeats 4000000 in
theorem S_L_stands (fu : Nat) {l : Launch} {D : va_G} {cA : Nat → ClassId} {base b : Nat} : CS l D cA base b 1 y_L_stands method_6_code 6 (some .boolean) (U_L_stands fu) ∧ OM (U_L_stands fu) := by
  refine CS_of (d := 0) (y := y_L_stands) (cc := method_6_code) (nL := 6) (ret := (some .boolean)) (F := U_L_stands fu) (fl := []) (nl := nl_BrookStonesLaw) (kl := kl_BrookStonesLaw) (k2 := []) (mv := []) (ms := []) (mi := []) (ini := false) hI_w nil_all nl_BrookStonesLaw_ok kl_BrookStonesLaw_ok nil_all
    (nil_all)
    (nil_all)
    (nil_all)
    (T := T_L_stands) (by decide +kernel) (cut := []) (N := 38) (D_L_stands fu) (by decide +kernel) (fun h => absurd h (by decide)) (fun as w o h => ?_)
  unfold U_L_stands at h
  split at h
  next =>
    exact ⟨Nat.le_of_ble_eq_true rfl, fu, (E_L_stands fu _ _ _ _ _ w).symm.trans h⟩
  next => cases h
def T_L_goes : List (Nat × Instr) := [(0, .iload 4), (2, .iload 5), (4, .if_icmp .ge 11), (7, .iload 5), (9, .iload 4), (11, .isub), (12, .goto 8), (15, .iload 4), (17, .iload 5), (19, .isub), (20, .istore 6), (22, .iload 4), (24, .ifCond .le 35), (27, .iload 4), (29, .aload_n 0), (30, .iconst 0), (31, .iaload), (32, .if_icmp .gt 27), (35, .aload_n 2), (36, .iload 4), (38, .iconst 1), (39, .isub), (40, .iaload), (41, .ifCond .lt 18), (44, .aload_n 1), (45, .aload_n 2), (46, .iload 4), (48, .iconst 1), (49, .isub), (50, .iaload), (51, .iaload), (52, .iconst 2), (53, .if_icmp .ne 6), (56, .iinc 6 (-1)), (59, .iload 5), (61, .ifCond .le 35), (64, .iload 5), (66, .aload_n 0), (67, .iconst 0), (68, .iaload), (69, .if_icmp .gt 27), (72, .aload_n 2), (73, .iload 5), (75, .iconst 1), (76, .isub), (77, .iaload), (78, .ifCond .lt 18), (81, .aload_n 1), (82, .aload_n 2), (83, .iload 5), (85, .iconst 1), (86, .isub), (87, .iaload), (88, .iaload), (89, .iconst 2), (90, .if_icmp .ne 6), (93, .iinc 6 (-1)), (96, .iload 6), (98, .iload_n 3), (99, .if_icmp .gt 7), (102, .iconst 1), (103, .goto 4), (106, .iconst 0), (107, .ireturn)]
def op_L_goes (fu : Nat) : Nat → Kont → XL → List Value → XW → Instr → Option XO := opK 7 (rzOf (some .boolean)) [] nl_BrookStonesLaw kl_BrookStonesLaw [] [] [] []
def F_L_goes (fu : Nat) : Nat → (Nat → Nat → Nat → Int32 → Int32 → Int32 → Int32 → XW → Option XO) × (Nat → Nat → Nat → Int32 → Int32 → Int32 → XW → Option XO) × (Int32 → Int32 → XW → Option XO)
  | 0 => (fun _ _ _ _ _ _ _ _ => none, fun _ _ _ _ _ _ _ => none, fun _ _ _ => none)
  | n + 1 => ((fun a0 a1 a2 a3 a4 a5 s0 w =>
    (if 0 < a4 then
      (aI w a0 (0 : Int32)).bind fun x1 =>
      (if x1 < a4 then
        (F_L_goes fu n).2.1 a0 a1 a2 a3 a5 s0 w
      else
        (aI w a2 (a4 - (1 : Int32))).bind fun x2 =>
        (if x2 < 0 then
          (F_L_goes fu n).2.1 a0 a1 a2 a3 a5 s0 w
        else
          (aI w a2 (a4 - (1 : Int32))).bind fun x3 =>
          (aI w a1 x3).bind fun x4 =>
          (if x4 = (2 : Int32) then
            (F_L_goes fu n).2.1 a0 a1 a2 a3 a5 (s0 + (-1 : Int32)) w
          else
            (F_L_goes fu n).2.1 a0 a1 a2 a3 a5 s0 w)))
    else
      (F_L_goes fu n).2.1 a0 a1 a2 a3 a5 s0 w)),
   (fun a0 a1 a2 a3 a5 a6 w =>
    (if 0 < a5 then
      (aI w a0 (0 : Int32)).bind fun x5 =>
      (if x5 < a5 then
        (F_L_goes fu n).2.2 a3 a6 w
      else
        (aI w a2 (a5 - (1 : Int32))).bind fun x6 =>
        (if x6 < 0 then
          (F_L_goes fu n).2.2 a3 a6 w
        else
          (aI w a2 (a5 - (1 : Int32))).bind fun x7 =>
          (aI w a1 x7).bind fun x8 =>
          (if x8 = (2 : Int32) then
            (F_L_goes fu n).2.2 a3 (a6 + (-1 : Int32)) w
          else
            (F_L_goes fu n).2.2 a3 a6 w)))
    else
      (F_L_goes fu n).2.2 a3 a6 w)),
   (fun a3 a6 w =>
    (if a3 < a6 then
      retZ (0 : Int32) w
    else
      retZ (1 : Int32) w)))
def M_L_goes (fu : Nat) (a0 : Nat) (a1 : Nat) (a2 : Nat) (a3 : Int32) (a4 : Int32) (a5 : Int32) (w : XW) : Option XO :=
  (if a4 < a5 then
    (F_L_goes fu fu).1 a0 a1 a2 a3 a4 a5 (a5 - a4) w
  else
    (F_L_goes fu fu).1 a0 a1 a2 a3 a4 a5 (a4 - a5) w)
def U_L_goes (fu : Nat) : Orc := fun as w => match as with
  | [.ref a0, .ref a1, .ref a2, .int a3, .int a4, .int a5] => M_L_goes fu a0 a1 a2 a3 a4 a5 w
  | _ => none
def K_L_goes (fu : Nat) (n : Nat) : Kont := fun pc ls st w => bif pc == 20 then ((xr ls 0).bind fun a0 => (xr ls 1).bind fun a1 => (xr ls 2).bind fun a2 => (xi ls 3).bind fun a3 => (xi ls 4).bind fun a4 => (xi ls 5).bind fun a5 => skI st fun s0 st => skN st ((F_L_goes fu n).1 a0 a1 a2 a3 a4 a5 s0 w)) else bif pc == 59 then ((xr ls 0).bind fun a0 => (xr ls 1).bind fun a1 => (xr ls 2).bind fun a2 => (xi ls 3).bind fun a3 => (xi ls 5).bind fun a5 => (xi ls 6).bind fun a6 => skN st ((F_L_goes fu n).2.1 a0 a1 a2 a3 a5 a6 w)) else bif pc == 96 then ((xi ls 3).bind fun a3 => (xi ls 6).bind fun a6 => skN st ((F_L_goes fu n).2.2 a3 a6 w)) else none
set_option maxRecDepth 100000 in
set_option maxHeartbeats 4000000 in
theorem E_L_goes_20 (fu : Nat) (n : Nat) (a0 : Nat) (a1 : Nat) (a2 : Nat) (a3 : Int32) (a4 : Int32) (a5 : Int32) (s0 : Int32) (w : XW) : (F_L_goes fu (n + 1)).1 a0 a1 a2 a3 a4 a5 s0 w = ev T_L_goes (op_L_goes fu) [20, 59, 96] (K_L_goes fu n) 66 20 [(0, .ref a0), (1, .ref a1), (2, .ref a2), (3, .int a3), (4, .int a4), (5, .int a5)] [.int s0] w := by
  rfl
set_option maxRecDepth 100000 in
set_option maxHeartbeats 4000000 in
theorem E_L_goes_59 (fu : Nat) (n : Nat) (a0 : Nat) (a1 : Nat) (a2 : Nat) (a3 : Int32) (a5 : Int32) (a6 : Int32) (w : XW) : (F_L_goes fu (n + 1)).2.1 a0 a1 a2 a3 a5 a6 w = ev T_L_goes (op_L_goes fu) [20, 59, 96] (K_L_goes fu n) 66 59 [(0, .ref a0), (1, .ref a1), (2, .ref a2), (3, .int a3), (5, .int a5), (6, .int a6)] [] w := by
  rfl
set_option maxRecDepth 100000 in
set_option maxHeartbeats 4000000 in
theorem E_L_goes_96 (fu : Nat) (n : Nat) (a3 : Int32) (a6 : Int32) (w : XW) : (F_L_goes fu (n + 1)).2.2 a3 a6 w = ev T_L_goes (op_L_goes fu) [20, 59, 96] (K_L_goes fu n) 66 96 [(3, .int a3), (6, .int a6)] [] w := by
  rfl
set_option maxRecDepth 100000 in
set_option maxHeartbeats 4000000 in
theorem E_L_goes (fu : Nat) (a0 : Nat) (a1 : Nat) (a2 : Nat) (a3 : Int32) (a4 : Int32) (a5 : Int32) (w : XW) : M_L_goes fu a0 a1 a2 a3 a4 a5 w = ev T_L_goes (op_L_goes fu) [20, 59, 96] (K_L_goes fu fu) 66 0 (lv_args 0 [.ref a0, .ref a1, .ref a2, .int a3, .int a4, .int a5]) [] w := by
  rfl
theorem D_L_goes (fu : Nat) : DS T_L_goes (op_L_goes fu) [20, 59, 96] 66 (K_L_goes fu) := by
  refine ⟨fun pc ls st w => c_none (b_none fun _ => b_none fun _ => b_none fun _ => b_none fun _ => b_none fun _ => b_none fun _ => skI_none fun _ _ => skN_none rfl) (c_none (b_none fun _ => b_none fun _ => b_none fun _ => b_none fun _ => b_none fun _ => b_none fun _ => skN_none rfl) (c_none (b_none fun _ => b_none fun _ => skN_none rfl) (rfl))), fun n pc ls st w o h => ?_⟩
  rcases c_some h with ⟨rfl, h⟩ | h
  · obtain ⟨a0, h0, h⟩ := some_of h; obtain ⟨a1, h1, h⟩ := some_of h; obtain ⟨a2, h2, h⟩ := some_of h; obtain ⟨a3, h3, h⟩ := some_of h; obtain ⟨a4, h4, h⟩ := some_of h; obtain ⟨a5, h5, h⟩ := some_of h;
    obtain ⟨s0, st0, e0, g0⟩ := skI_of h
    obtain ⟨e, g⟩ := skN_of g0
    subst e
    subst e0
    exact ⟨[(0, .ref a0), (1, .ref a1), (2, .ref a2), (3, .int a3), (4, .int a4), (5, .int a5)], cons_all (xr_of h0) (cons_all (xr_of h1) (cons_all (xr_of h2) (cons_all (xi_of h3) (cons_all (xi_of h4) (cons_all (xi_of h5) (nil_all)))))), (E_L_goes_20 fu n a0 a1 a2 a3 a4 a5 s0 w).symm.trans g⟩
  rcases c_some h with ⟨rfl, h⟩ | h
  · obtain ⟨a0, h0, h⟩ := some_of h; obtain ⟨a1, h1, h⟩ := some_of h; obtain ⟨a2, h2, h⟩ := some_of h; obtain ⟨a3, h3, h⟩ := some_of h; obtain ⟨a5, h5, h⟩ := some_of h; obtain ⟨a6, h6, h⟩ := some_of h;
    obtain ⟨e, g⟩ := skN_of h
    subst e
    exact ⟨[(0, .ref a0), (1, .ref a1), (2, .ref a2), (3, .int a3), (5, .int a5), (6, .int a6)], cons_all (xr_of h0) (cons_all (xr_of h1) (cons_all (xr_of h2) (cons_all (xi_of h3) (cons_all (xi_of h5) (cons_all (xi_of h6) (nil_all)))))), (E_L_goes_59 fu n a0 a1 a2 a3 a5 a6 w).symm.trans g⟩
  rcases c_some h with ⟨rfl, h⟩ | h
  · obtain ⟨a3, h3, h⟩ := some_of h; obtain ⟨a6, h6, h⟩ := some_of h;
    obtain ⟨e, g⟩ := skN_of h
    subst e
    exact ⟨[(3, .int a3), (6, .int a6)], cons_all (xi_of h3) (cons_all (xi_of h6) (nil_all)), (E_L_goes_96 fu n a3 a6 w).symm.trans g⟩
  · cases h
set_option maxRecDepth 100000 in
set_option maxHeartbeats 4000000 in
theorem S_L_goes (fu : Nat) {l : Launch} {D : va_G} {cA : Nat → ClassId} {base b : Nat} : CS l D cA base b 1 y_L_goes method_7_code 7 (some .boolean) (U_L_goes fu) ∧ OM (U_L_goes fu) := by
  refine CS_of (d := 0) (y := y_L_goes) (cc := method_7_code) (nL := 7) (ret := (some .boolean)) (F := U_L_goes fu) (fl := []) (nl := nl_BrookStonesLaw) (kl := kl_BrookStonesLaw) (k2 := []) (mv := []) (ms := []) (mi := []) (ini := false) hI_w nil_all nl_BrookStonesLaw_ok kl_BrookStonesLaw_ok nil_all
    (nil_all)
    (nil_all)
    (nil_all)
    (T := T_L_goes) (by decide +kernel) (cut := [20, 59, 96]) (N := 66) (D_L_goes fu) (by decide +kernel) (fun h => absurd h (by decide)) (fun as w o h => ?_)
  unfold U_L_goes at h
  split at h
  next =>
    exact ⟨Nat.le_of_ble_eq_true rfl, fu, (E_L_goes fu _ _ _ _ _ _ w).symm.trans h⟩
  next => cases h
def T_L_come : List (Nat × Instr) := [(0, .iconst 1), (1, .iload 5), (3, .ishl), (4, .istore 7), (6, .iconst 0), (7, .istore 8), (9, .iload 8), (11, .iload 6), (13, .if_icmp .ge 102), (16, .iload 7), (18, .istore 9), (20, .iconst 0), (21, .istore 10), (23, .iload 10), (25, .aload_n 0), (26, .iconst 0), (27, .iaload), (28, .iconst 2), (29, .iadd), (30, .if_icmp .ge 75), (33, .iconst 0), (34, .istore 11), (36, .iload 11), (38, .aload_n 0), (39, .iconst 0), (40, .iaload), (41, .iconst 2), (42, .iadd), (43, .if_icmp .ge 56), (46, .iload 7), (48, .iload 10), (50, .ishr), (51, .iconst 1), (52, .iand), (53, .iconst 1), (54, .if_icmp .ne 45), (57, .aload_n 0), (58, .aload_n 1), (59, .aload_n 2), (60, .iload_n 3), (61, .iload 11), (63, .invokestatic 32), (66, .ifCond .eq 27), (69, .aload_n 0), (70, .aload_n 1), (71, .aload_n 2), (72, .iload 4), (74, .iload 10), (76, .iload 11), (78, .invokestatic 36), (81, .ifCond .eq 12), (84, .iload 9), (86, .iconst 1), (87, .iload 11), (89, .ishl), (90, .ior), (91, .istore 9), (93, .iinc 11 1), (96, .goto (-60)), (99, .iinc 10 1), (102, .goto (-79)), (105, .iload 9), (107, .istore 7), (109, .iinc 8 1), (112, .goto (-103)), (115, .iload 7), (117, .ireturn)]
def op_L_come (fu : Nat) : Nat → Kont → XL → List Value → XW → Instr → Option XO := opK 12 (rzOf (some .int)) [] nl_BrookStonesLaw kl_BrookStonesLaw [] [] [(32, 5, 1, (U_L_stands fu)), (36, 6, 1, (U_L_goes fu))] []
def F_L_come (fu : Nat) : Nat → (Nat → Nat → Nat → Int32 → Int32 → Int32 → Int32 → Int32 → XW → Option XO) × (Nat → Nat → Nat → Int32 → Int32 → Int32 → Int32 → Int32 → Int32 → Int32 → XW → Option XO) × (Nat → Nat → Nat → Int32 → Int32 → Int32 → Int32 → Int32 → Int32 → Int32 → Int32 → XW → Option XO)
  | 0 => (fun _ _ _ _ _ _ _ _ _ => none, fun _ _ _ _ _ _ _ _ _ _ _ => none, fun _ _ _ _ _ _ _ _ _ _ _ _ => none)
  | n + 1 => ((fun a0 a1 a2 a3 a4 a6 a7 a8 w =>
    (if a8 < a6 then
      (F_L_come fu n).2.1 a0 a1 a2 a3 a4 a6 a7 a8 a7 (0 : Int32) w
    else
      some (some (.int a7), w))),
   (fun a0 a1 a2 a3 a4 a6 a7 a8 a9 a10 w =>
    (aI w a0 (0 : Int32)).bind fun x1 =>
    (if a10 < (x1 + (2 : Int32)) then
      (F_L_come fu n).2.2 a0 a1 a2 a3 a4 a6 a7 a8 a9 a10 (0 : Int32) w
    else
      (F_L_come fu n).1 a0 a1 a2 a3 a4 a6 a9 (a8 + (1 : Int32)) w)),
   (fun a0 a1 a2 a3 a4 a6 a7 a8 a9 a10 a11 w =>
    (aI w a0 (0 : Int32)).bind fun x2 =>
    (if a11 < (x2 + (2 : Int32)) then
      (if ((a7 >>> (a10 &&& 31)) &&& (1 : Int32)) = (1 : Int32) then
        cI (U_L_stands fu [.ref a0, .ref a1, .ref a2, .int a3, .int a11] w) fun x4 w3 =>
        (if x4 = 0 then
          (F_L_come fu n).2.2 a0 a1 a2 a3 a4 a6 a7 a8 a9 a10 (a11 + (1 : Int32)) w3
        else
          cI (U_L_goes fu [.ref a0, .ref a1, .ref a2, .int a4, .int a10, .int a11] w3) fun x6 w5 =>
          (if x6 = 0 then
            (F_L_come fu n).2.2 a0 a1 a2 a3 a4 a6 a7 a8 a9 a10 (a11 + (1 : Int32)) w5
          else
            (F_L_come fu n).2.2 a0 a1 a2 a3 a4 a6 a7 a8 (a9 ||| ((1 : Int32) <<< (a11 &&& 31))) a10 (a11 + (1 : Int32)) w5))
      else
        (F_L_come fu n).2.1 a0 a1 a2 a3 a4 a6 a7 a8 a9 (a10 + (1 : Int32)) w)
    else
      (F_L_come fu n).2.1 a0 a1 a2 a3 a4 a6 a7 a8 a9 (a10 + (1 : Int32)) w)))
def M_L_come (fu : Nat) (a0 : Nat) (a1 : Nat) (a2 : Nat) (a3 : Int32) (a4 : Int32) (a5 : Int32) (a6 : Int32) (w : XW) : Option XO :=
  (F_L_come fu fu).1 a0 a1 a2 a3 a4 a6 ((1 : Int32) <<< (a5 &&& 31)) (0 : Int32) w
def U_L_come (fu : Nat) : Orc := fun as w => match as with
  | [.ref a0, .ref a1, .ref a2, .int a3, .int a4, .int a5, .int a6] => M_L_come fu a0 a1 a2 a3 a4 a5 a6 w
  | _ => none
def K_L_come (fu : Nat) (n : Nat) : Kont := fun pc ls st w => bif pc == 9 then ((xr ls 0).bind fun a0 => (xr ls 1).bind fun a1 => (xr ls 2).bind fun a2 => (xi ls 3).bind fun a3 => (xi ls 4).bind fun a4 => (xi ls 6).bind fun a6 => (xi ls 7).bind fun a7 => (xi ls 8).bind fun a8 => skN st ((F_L_come fu n).1 a0 a1 a2 a3 a4 a6 a7 a8 w)) else bif pc == 23 then ((xr ls 0).bind fun a0 => (xr ls 1).bind fun a1 => (xr ls 2).bind fun a2 => (xi ls 3).bind fun a3 => (xi ls 4).bind fun a4 => (xi ls 6).bind fun a6 => (xi ls 7).bind fun a7 => (xi ls 8).bind fun a8 => (xi ls 9).bind fun a9 => (xi ls 10).bind fun a10 => skN st ((F_L_come fu n).2.1 a0 a1 a2 a3 a4 a6 a7 a8 a9 a10 w)) else bif pc == 36 then ((xr ls 0).bind fun a0 => (xr ls 1).bind fun a1 => (xr ls 2).bind fun a2 => (xi ls 3).bind fun a3 => (xi ls 4).bind fun a4 => (xi ls 6).bind fun a6 => (xi ls 7).bind fun a7 => (xi ls 8).bind fun a8 => (xi ls 9).bind fun a9 => (xi ls 10).bind fun a10 => (xi ls 11).bind fun a11 => skN st ((F_L_come fu n).2.2 a0 a1 a2 a3 a4 a6 a7 a8 a9 a10 a11 w)) else none
set_option maxRecDepth 100000 in
set_option maxHeartbeats 4000000 in
theorem E_L_come_9 (fu : Nat) (n : Nat) (a0 : Nat) (a1 : Nat) (a2 : Nat) (a3 : Int32) (a4 : Int32) (a6 : Int32) (a7 : Int32) (a8 : Int32) (w : XW) : (F_L_come fu (n + 1)).1 a0 a1 a2 a3 a4 a6 a7 a8 w = ev T_L_come (op_L_come fu) [9, 23, 36] (K_L_come fu n) 69 9 [(0, .ref a0), (1, .ref a1), (2, .ref a2), (3, .int a3), (4, .int a4), (6, .int a6), (7, .int a7), (8, .int a8)] [] w := by
  rfl
set_option maxRecDepth 100000 in
set_option maxHeartbeats 4000000 in
theorem E_L_come_23 (fu : Nat) (n : Nat) (a0 : Nat) (a1 : Nat) (a2 : Nat) (a3 : Int32) (a4 : Int32) (a6 : Int32) (a7 : Int32) (a8 : Int32) (a9 : Int32) (a10 : Int32) (w : XW) : (F_L_come fu (n + 1)).2.1 a0 a1 a2 a3 a4 a6 a7 a8 a9 a10 w = ev T_L_come (op_L_come fu) [9, 23, 36] (K_L_come fu n) 69 23 [(0, .ref a0), (1, .ref a1), (2, .ref a2), (3, .int a3), (4, .int a4), (6, .int a6), (7, .int a7), (8, .int a8), (9, .int a9), (10, .int a10)] [] w := by
  rfl
set_option maxRecDepth 100000 in
set_option maxHeartbeats 4000000 in
theorem E_L_come_36 (fu : Nat) (n : Nat) (a0 : Nat) (a1 : Nat) (a2 : Nat) (a3 : Int32) (a4 : Int32) (a6 : Int32) (a7 : Int32) (a8 : Int32) (a9 : Int32) (a10 : Int32) (a11 : Int32) (w : XW) : (F_L_come fu (n + 1)).2.2 a0 a1 a2 a3 a4 a6 a7 a8 a9 a10 a11 w = ev T_L_come (op_L_come fu) [9, 23, 36] (K_L_come fu n) 69 36 [(0, .ref a0), (1, .ref a1), (2, .ref a2), (3, .int a3), (4, .int a4), (6, .int a6), (7, .int a7), (8, .int a8), (9, .int a9), (10, .int a10), (11, .int a11)] [] w := by
  rfl
set_option maxRecDepth 100000 in
set_option maxHeartbeats 4000000 in
theorem E_L_come (fu : Nat) (a0 : Nat) (a1 : Nat) (a2 : Nat) (a3 : Int32) (a4 : Int32) (a5 : Int32) (a6 : Int32) (w : XW) : M_L_come fu a0 a1 a2 a3 a4 a5 a6 w = ev T_L_come (op_L_come fu) [9, 23, 36] (K_L_come fu fu) 69 0 (lv_args 0 [.ref a0, .ref a1, .ref a2, .int a3, .int a4, .int a5, .int a6]) [] w := by
  rfl
theorem D_L_come (fu : Nat) : DS T_L_come (op_L_come fu) [9, 23, 36] 69 (K_L_come fu) := by
  refine ⟨fun pc ls st w => c_none (b_none fun _ => b_none fun _ => b_none fun _ => b_none fun _ => b_none fun _ => b_none fun _ => b_none fun _ => b_none fun _ => skN_none rfl) (c_none (b_none fun _ => b_none fun _ => b_none fun _ => b_none fun _ => b_none fun _ => b_none fun _ => b_none fun _ => b_none fun _ => b_none fun _ => b_none fun _ => skN_none rfl) (c_none (b_none fun _ => b_none fun _ => b_none fun _ => b_none fun _ => b_none fun _ => b_none fun _ => b_none fun _ => b_none fun _ => b_none fun _ => b_none fun _ => b_none fun _ => skN_none rfl) (rfl))), fun n pc ls st w o h => ?_⟩
  rcases c_some h with ⟨rfl, h⟩ | h
  · obtain ⟨a0, h0, h⟩ := some_of h; obtain ⟨a1, h1, h⟩ := some_of h; obtain ⟨a2, h2, h⟩ := some_of h; obtain ⟨a3, h3, h⟩ := some_of h; obtain ⟨a4, h4, h⟩ := some_of h; obtain ⟨a6, h6, h⟩ := some_of h; obtain ⟨a7, h7, h⟩ := some_of h; obtain ⟨a8, h8, h⟩ := some_of h;
    obtain ⟨e, g⟩ := skN_of h
    subst e
    exact ⟨[(0, .ref a0), (1, .ref a1), (2, .ref a2), (3, .int a3), (4, .int a4), (6, .int a6), (7, .int a7), (8, .int a8)], cons_all (xr_of h0) (cons_all (xr_of h1) (cons_all (xr_of h2) (cons_all (xi_of h3) (cons_all (xi_of h4) (cons_all (xi_of h6) (cons_all (xi_of h7) (cons_all (xi_of h8) (nil_all)))))))), (E_L_come_9 fu n a0 a1 a2 a3 a4 a6 a7 a8 w).symm.trans g⟩
  rcases c_some h with ⟨rfl, h⟩ | h
  · obtain ⟨a0, h0, h⟩ := some_of h; obtain ⟨a1, h1, h⟩ := some_of h; obtain ⟨a2, h2, h⟩ := some_of h; obtain ⟨a3, h3, h⟩ := some_of h; obtain ⟨a4, h4, h⟩ := some_of h; obtain ⟨a6, h6, h⟩ := some_of h; obtain ⟨a7, h7, h⟩ := some_of h; obtain ⟨a8, h8, h⟩ := some_of h; obtain ⟨a9, h9, h⟩ := some_of h; obtain ⟨a10, h10, h⟩ := some_of h;
    obtain ⟨e, g⟩ := skN_of h
    subst e
    exact ⟨[(0, .ref a0), (1, .ref a1), (2, .ref a2), (3, .int a3), (4, .int a4), (6, .int a6), (7, .int a7), (8, .int a8), (9, .int a9), (10, .int a10)], cons_all (xr_of h0) (cons_all (xr_of h1) (cons_all (xr_of h2) (cons_all (xi_of h3) (cons_all (xi_of h4) (cons_all (xi_of h6) (cons_all (xi_of h7) (cons_all (xi_of h8) (cons_all (xi_of h9) (cons_all (xi_of h10) (nil_all)))))))))), (E_L_come_23 fu n a0 a1 a2 a3 a4 a6 a7 a8 a9 a10 w).symm.trans g⟩
  rcases c_some h with ⟨rfl, h⟩ | h
  · obtain ⟨a0, h0, h⟩ := some_of h; obtain ⟨a1, h1, h⟩ := some_of h; obtain ⟨a2, h2, h⟩ := some_of h; obtain ⟨a3, h3, h⟩ := some_of h; obtain ⟨a4, h4, h⟩ := some_of h; obtain ⟨a6, h6, h⟩ := some_of h; obtain ⟨a7, h7, h⟩ := some_of h; obtain ⟨a8, h8, h⟩ := some_of h; obtain ⟨a9, h9, h⟩ := some_of h; obtain ⟨a10, h10, h⟩ := some_of h; obtain ⟨a11, h11, h⟩ := some_of h;
    obtain ⟨e, g⟩ := skN_of h
    subst e
    exact ⟨[(0, .ref a0), (1, .ref a1), (2, .ref a2), (3, .int a3), (4, .int a4), (6, .int a6), (7, .int a7), (8, .int a8), (9, .int a9), (10, .int a10), (11, .int a11)], cons_all (xr_of h0) (cons_all (xr_of h1) (cons_all (xr_of h2) (cons_all (xi_of h3) (cons_all (xi_of h4) (cons_all (xi_of h6) (cons_all (xi_of h7) (cons_all (xi_of h8) (cons_all (xi_of h9) (cons_all (xi_of h10) (cons_all (xi_of h11) (nil_all))))))))))), (E_L_come_36 fu n a0 a1 a2 a3 a4 a6 a7 a8 a9 a10 a11 w).symm.trans g⟩
  · cases h
set_option maxRecDepth 100000 in
set_option maxHeartbeats 4000000 in
theorem S_L_come (fu : Nat) {l : Launch} {D : va_G} {cA : Nat → ClassId} {base b : Nat} : CS l D cA base b 2 y_L_come method_8_code 12 (some .int) (U_L_come fu) ∧ OM (U_L_come fu) := by
  refine CS_of (d := 1) (y := y_L_come) (cc := method_8_code) (nL := 12) (ret := (some .int)) (F := U_L_come fu) (fl := []) (nl := nl_BrookStonesLaw) (kl := kl_BrookStonesLaw) (k2 := []) (mv := []) (ms := [(32, 5, 1, (U_L_stands fu)), (36, 6, 1, (U_L_goes fu))]) (mi := []) (ini := false) hI_w nil_all nl_BrookStonesLaw_ok kl_BrookStonesLaw_ok nil_all
    (nil_all)
    (cons_all (⟨Or.inl ⟨show (1 : Nat) ≠ 3 by decide, y_L_stands, method_6_code, 6, (some .boolean), 1, "BrookStones", (S_L_stands fu (l := l) (D := D) (cA := cA) (base := base) (b := b)).1, by decide, by decide, mi_L_stands.1, mi_L_stands.2.1, mi_L_stands.2.2.1, mi_L_stands.2.2.2, Or.inl (tblG_of (i := 481) rfl rfl)⟩, (S_L_stands fu (l := l) (D := D) (cA := cA) (base := base) (b := b)).2⟩) (cons_all (⟨Or.inl ⟨show (1 : Nat) ≠ 3 by decide, y_L_goes, method_7_code, 7, (some .boolean), 1, "BrookStones", (S_L_goes fu (l := l) (D := D) (cA := cA) (base := base) (b := b)).1, by decide, by decide, mi_L_goes.1, mi_L_goes.2.1, mi_L_goes.2.2.1, mi_L_goes.2.2.2, Or.inl (tblG_of (i := 484) rfl rfl)⟩, (S_L_goes fu (l := l) (D := D) (cA := cA) (base := base) (b := b)).2⟩) (nil_all)))
    (nil_all)
    (T := T_L_come) (by decide +kernel) (cut := [9, 23, 36]) (N := 69) (D_L_come fu) (by decide +kernel) (fun h => absurd h (by decide)) (fun as w o h => ?_)
  unfold U_L_come at h
  split at h
  next =>
    exact ⟨Nat.le_of_ble_eq_true rfl, fu, (E_L_come fu _ _ _ _ _ _ _ w).symm.trans h⟩
  next => cases h
def T_L_can : List (Nat × Instr) := [(0, .aload_n 0), (1, .aload_n 1), (2, .aload_n 2), (3, .iload_n 3), (4, .iload 4), (6, .iconst 0), (7, .bipush 9), (9, .invokestatic 40), (12, .aload_n 0), (13, .iconst 0), (14, .iaload), (15, .iconst 1), (16, .iadd), (17, .ishr), (18, .iconst 1), (19, .iand), (20, .iconst 1), (21, .if_icmp .ne 7), (24, .iconst 1), (25, .goto 4), (28, .iconst 0), (29, .ireturn)]
def op_L_can (fu : Nat) : Nat → Kont → XL → List Value → XW → Instr → Option XO := opK 5 (rzOf (some .boolean)) [] nl_BrookStonesLaw kl_BrookStonesLaw [] [] [(40, 7, 1, (U_L_come fu))] []
def M_L_can (fu : Nat) (a0 : Nat) (a1 : Nat) (a2 : Nat) (a3 : Int32) (a4 : Int32) (w : XW) : Option XO :=
  cI (U_L_come fu [.ref a0, .ref a1, .ref a2, .int a3, .int a4, .int (0 : Int32), .int (9 : Int32)] w) fun x2 w1 =>
  (aI w1 a0 (0 : Int32)).bind fun x3 =>
  (if ((x2 >>> ((x3 + (1 : Int32)) &&& 31)) &&& (1 : Int32)) = (1 : Int32) then
    retZ (1 : Int32) w1
  else
    retZ (0 : Int32) w1)
def U_L_can (fu : Nat) : Orc := fun as w => match as with
  | [.ref a0, .ref a1, .ref a2, .int a3, .int a4] => M_L_can fu a0 a1 a2 a3 a4 w
  | _ => none
def K_L_can (fu : Nat) (n : Nat) : Kont := fun pc ls st w => none
set_option maxRecDepth 100000 in
set_option maxHeartbeats 4000000 in
theorem E_L_can (fu : Nat) (a0 : Nat) (a1 : Nat) (a2 : Nat) (a3 : Int32) (a4 : Int32) (w : XW) : M_L_can fu a0 a1 a2 a3 a4 w = ev T_L_can (op_L_can fu) [] (K_L_can fu fu) 24 0 (lv_args 0 [.ref a0, .ref a1, .ref a2, .int a3, .int a4]) [] w := by
  rfl
theorem D_L_can (fu : Nat) : DS T_L_can (op_L_can fu) [] 24 (K_L_can fu) := by
  refine ⟨fun pc ls st w => rfl, fun n pc ls st w o h => ?_⟩
  cases h
set_option maxRecDepth 100000 in
set_option maxHeartbeats 4000000 in
theorem S_L_can (fu : Nat) {l : Launch} {D : va_G} {cA : Nat → ClassId} {base b : Nat} : CS l D cA base b 3 y_L_can method_9_code 5 (some .boolean) (U_L_can fu) ∧ OM (U_L_can fu) := by
  refine CS_of (d := 2) (y := y_L_can) (cc := method_9_code) (nL := 5) (ret := (some .boolean)) (F := U_L_can fu) (fl := []) (nl := nl_BrookStonesLaw) (kl := kl_BrookStonesLaw) (k2 := []) (mv := []) (ms := [(40, 7, 1, (U_L_come fu))]) (mi := []) (ini := false) hI_w nil_all nl_BrookStonesLaw_ok kl_BrookStonesLaw_ok nil_all
    (nil_all)
    (cons_all (⟨Or.inl ⟨show (1 : Nat) ≠ 3 by decide, y_L_come, method_8_code, 12, (some .int), 2, "BrookStones", (S_L_come fu (l := l) (D := D) (cA := cA) (base := base) (b := b)).1, by decide, by decide, mi_L_come.1, mi_L_come.2.1, mi_L_come.2.2.1, mi_L_come.2.2.2, Or.inl (tblG_of (i := 487) rfl rfl)⟩, (S_L_come fu (l := l) (D := D) (cA := cA) (base := base) (b := b)).2⟩) (nil_all))
    (nil_all)
    (T := T_L_can) (by decide +kernel) (cut := []) (N := 24) (D_L_can fu) (by decide +kernel) (fun h => absurd h (by decide)) (fun as w o h => ?_)
  unfold U_L_can at h
  split at h
  next =>
    exact ⟨Nat.le_of_ble_eq_true rfl, fu, (E_L_can fu _ _ _ _ _ w).symm.trans h⟩
  next => cases h
def T_X7_highest : List (Nat × Instr) := [(0, .aload_n 0), (1, .getfield 12), (4, .iload_n 1), (5, .invokevirtual 158), (8, .ifCond .ne 5), (11, .iconst (-1)), (12, .ireturn), (13, .bipush 9), (15, .istore_n 3), (16, .iload_n 3), (17, .ifCond .lt 38), (20, .aload_n 0), (21, .getfield 12), (24, .aload_n 0), (25, .getfield 12), (28, .invokevirtual 164), (31, .iload_n 3), (32, .aload_n 0), (33, .getfield 12), (36, .iload_n 1), (37, .iload_n 2), (38, .invokevirtual 168), (41, .invokevirtual 172), (44, .ifCond .eq 5), (47, .iload_n 3), (48, .ireturn), (49, .iinc 3 (-1)), (52, .goto (-36)), (55, .bipush (-9)), (57, .ireturn)]
def op_X7_highest (fu : Nat) : Nat → Kont → XL → List Value → XW → Instr → Option XO := opK 4 (rzOf (some .int)) fl_BrookStones nl_BrookStones [] [] [(158, 2, 1, (U_X0_isWalker fu)), (164, 1, 1, (U_X0_filled fu)), (168, 3, 1, (U_X0_reachOf fu)), (172, 4, 1, (U_X0_isCrossed fu))] [] []
def F_X7_highest (fu : Nat) : Nat → (Nat → Int32 → Int32 → Int32 → XW → Option XO)
  | 0 => fun _ _ _ _ _ => none
  | n + 1 => (fun a0 a1 a2 a3 w =>
    (if a3 < 0 then
      some (some (.int (-9 : Int32)), w)
    else
      (gR w a0 6 0).bind fun r1 =>
      (gR w a0 6 0).bind fun r2 =>
      cI (U_X0_filled fu [.ref r2] w) fun x4 w3 =>
      (gR w3 a0 6 0).bind fun r5 =>
      cI (U_X0_reachOf fu [.ref r5, .int a1, .int a2] w3) fun x7 w6 =>
      cI (U_X0_isCrossed fu [.ref r1, .int x4, .int a3, .int x7] w6) fun x9 w8 =>
      (if x9 = 0 then
        (F_X7_highest fu n) a0 a1 a2 (a3 + (-1 : Int32)) w8
      else
        some (some (.int a3), w8))))
def M_X7_highest (fu : Nat) (a0 : Nat) (a1 : Int32) (a2 : Int32) (w : XW) : Option XO :=
  (gR w a0 6 0).bind fun r10 =>
  cI (U_X0_isWalker fu [.ref r10, .int a1] w) fun x12 w11 =>
  (if x12 = 0 then
    some (some (.int (-1 : Int32)), w11)
  else
    (F_X7_highest fu fu) a0 a1 a2 (9 : Int32) w11)
def U_X7_highest (fu : Nat) : Orc := fun as w => match as with
  | [.ref a0, .int a1, .int a2] => if isO w a0 6 = true then M_X7_highest fu a0 a1 a2 w else none
  | _ => none
def K_X7_highest (fu : Nat) (n : Nat) : Kont := fun pc ls st w => bif pc == 16 then ((xr ls 0).bind fun a0 => (xi ls 1).bind fun a1 => (xi ls 2).bind fun a2 => (xi ls 3).bind fun a3 => skN st ((F_X7_highest fu n) a0 a1 a2 a3 w)) else none
set_option maxRecDepth 100000 in
set_option maxHeartbeats 4000000 in
theorem E_X7_highest_16 (fu : Nat) (n : Nat) (a0 : Nat) (a1 : Int32) (a2 : Int32) (a3 : Int32) (w : XW) : (F_X7_highest fu (n + 1)) a0 a1 a2 a3 w = ev T_X7_highest (op_X7_highest fu) [16] (K_X7_highest fu n) 32 16 [(0, .ref a0), (1, .int a1), (2, .int a2), (3, .int a3)] [] w := by
  rfl
set_option maxRecDepth 100000 in
set_option maxHeartbeats 4000000 in
theorem E_X7_highest (fu : Nat) (a0 : Nat) (a1 : Int32) (a2 : Int32) (w : XW) : M_X7_highest fu a0 a1 a2 w = ev T_X7_highest (op_X7_highest fu) [16] (K_X7_highest fu fu) 32 0 (lv_args 0 [.ref a0, .int a1, .int a2]) [] w := by
  rfl
theorem D_X7_highest (fu : Nat) : DS T_X7_highest (op_X7_highest fu) [16] 32 (K_X7_highest fu) := by
  refine ⟨fun pc ls st w => c_none (b_none fun _ => b_none fun _ => b_none fun _ => b_none fun _ => skN_none rfl) (rfl), fun n pc ls st w o h => ?_⟩
  rcases c_some h with ⟨rfl, h⟩ | h
  · obtain ⟨a0, h0, h⟩ := some_of h; obtain ⟨a1, h1, h⟩ := some_of h; obtain ⟨a2, h2, h⟩ := some_of h; obtain ⟨a3, h3, h⟩ := some_of h;
    obtain ⟨e, g⟩ := skN_of h
    subst e
    exact ⟨[(0, .ref a0), (1, .int a1), (2, .int a2), (3, .int a3)], cons_all (xr_of h0) (cons_all (xi_of h1) (cons_all (xi_of h2) (cons_all (xi_of h3) (nil_all)))), (E_X7_highest_16 fu n a0 a1 a2 a3 w).symm.trans g⟩
  · cases h
theorem H_X7_highest (fu : Nat) : ∀ as w o, U_X7_highest fu as w = some o → ∃ a r, as = .ref a :: r ∧ r.length = 2 ∧ isO w a 6 = true := by
  intro as w o h
  unfold U_X7_highest at h
  split at h
  next =>
    split at h
    next hh => exact ⟨_, _, rfl, rfl, hh⟩
    next => cases h
  next => cases h
set_option maxRecDepth 100000 in
set_option maxHeartbeats 4000000 in
theorem S_X7_highest (fu : Nat) {l : Launch} {D : va_G} {cA : Nat → ClassId} {base b : Nat} : CS l D cA base b 4 y_X7_highest prog_1_method_14_code 4 (some .int) (U_X7_highest fu) ∧ OM (U_X7_highest fu) := by
  refine CS_of (d := 3) (y := y_X7_highest) (cc := prog_1_method_14_code) (nL := 4) (ret := (some .int)) (F := U_X7_highest fu) (fl := fl_BrookStones) (nl := nl_BrookStones) (kl := []) (k2 := []) (mv := [(158, 2, 1, (U_X0_isWalker fu)), (164, 1, 1, (U_X0_filled fu)), (168, 3, 1, (U_X0_reachOf fu)), (172, 4, 1, (U_X0_isCrossed fu))]) (ms := []) (mi := []) (ini := false) hI_w fl_BrookStones_ok nl_BrookStones_ok nil_all nil_all
    (cons_all (⟨⟨show (1 : Nat) ≠ 3 by decide, y_X0_isWalker, prog_2_method_6_code, 2, (some .boolean), 1, "BrookStones", 0, TX0, 15, 1, (S_X0_isWalker fu (l := l) (D := D) (cA := cA) (base := base) (b := b)).1, by decide, by decide, rfl, H_X0_isWalker fu, rfl, mi_X0_isWalker.1, mi_X0_isWalker.2.1, mi_X0_isWalker.2.2.1, mi_X0_isWalker.2.2.2.1, mi_X0_isWalker.2.2.2.2, Or.inr (tblN_of (i := 346) rfl rfl)⟩, (S_X0_isWalker fu (l := l) (D := D) (cA := cA) (base := base) (b := b)).2⟩) (cons_all (⟨⟨show (1 : Nat) ≠ 3 by decide, y_X0_filled, prog_2_method_17_code, 1, (some .int), 2, "BrookStones", 0, TX0, 15, 0, (S_X0_filled fu (l := l) (D := D) (cA := cA) (base := base) (b := b)).1, by decide, by decide, rfl, H_X0_filled fu, rfl, mi_X0_filled.1, mi_X0_filled.2.1, mi_X0_filled.2.2.1, mi_X0_filled.2.2.2.1, mi_X0_filled.2.2.2.2, Or.inr (tblN_of (i := 354) rfl rfl)⟩, (S_X0_filled fu (l := l) (D := D) (cA := cA) (base := base) (b := b)).2⟩) (cons_all (⟨⟨show (1 : Nat) ≠ 3 by decide, y_X0_reachOf, prog_2_method_9_code, 3, (some .int), 1, "BrookStones", 0, TX0, 15, 2, (S_X0_reachOf fu (l := l) (D := D) (cA := cA) (base := base) (b := b)).1, by decide, by decide, rfl, H_X0_reachOf fu, rfl, mi_X0_reachOf.1, mi_X0_reachOf.2.1, mi_X0_reachOf.2.2.1, mi_X0_reachOf.2.2.2.1, mi_X0_reachOf.2.2.2.2, Or.inr (tblN_of (i := 362) rfl rfl)⟩, (S_X0_reachOf fu (l := l) (D := D) (cA := cA) (base := base) (b := b)).2⟩) (cons_all (⟨⟨show (1 : Nat) ≠ 3 by decide, y_X0_isCrossed, prog_2_method_20_code, 4, (some .boolean), 3, "BrookStones", 0, TX0, 15, 3, (S_X0_isCrossed fu (l := l) (D := D) (cA := cA) (base := base) (b := b)).1, by decide, by decide, rfl, H_X0_isCrossed fu, rfl, mi_X0_isCrossed.1, mi_X0_isCrossed.2.1, mi_X0_isCrossed.2.2.1, mi_X0_isCrossed.2.2.2.1, mi_X0_isCrossed.2.2.2.2, Or.inr (tblN_of (i := 366) rfl rfl)⟩, (S_X0_isCrossed fu (l := l) (D := D) (cA := cA) (base := base) (b := b)).2⟩) (nil_all)))))
    (nil_all)
    (nil_all)
    (T := T_X7_highest) (by decide +kernel) (cut := [16]) (N := 32) (D_X7_highest fu) (by decide +kernel) (fun h => absurd h (by decide)) (fun as w o h => ?_)
  unfold U_X7_highest at h
  split at h
  next =>
    split at h
    next => exact ⟨Nat.le_of_ble_eq_true rfl, fu, (E_X7_highest fu _ _ _ w).symm.trans h⟩
    next => cases h
  next => cases h
def T_X6_isStride : List (Nat × Instr) := [(0, .iload_n 2), (1, .iload_n 1), (2, .isub), (3, .aload_n 0), (4, .getfield 43), (7, .iload_n 1), (8, .ishr), (9, .iconst 1), (10, .iand), (11, .isub), (12, .aload_n 0), (13, .getfield 43), (16, .iload_n 2), (17, .ishr), (18, .iconst 1), (19, .iand), (20, .isub), (21, .istore_n 3), (22, .aload_n 0), (23, .getfield 37), (26, .iload_n 1), (27, .invokestatic 62), (30, .ifCond .eq 26), (33, .aload_n 0), (34, .getfield 37), (37, .iload_n 2), (38, .invokestatic 62), (41, .ifCond .eq 15), (44, .iload_n 3), (45, .aload_n 0), (46, .getfield 18), (49, .if_icmp .gt 7), (52, .iconst 1), (53, .goto 4), (56, .iconst 0), (57, .ireturn)]
def op_X6_isStride (fu : Nat) : Nat → Kont → XL → List Value → XW → Instr → Option XO := opK 4 (rzOf (some .boolean)) fl_BrookStones_Way [] [] [] [] [(62, 2, 1, (U_X7_has fu))] []
def M_X6_isStride (fu : Nat) (a0 : Nat) (a1 : Int32) (a2 : Int32) (w : XW) : Option XO :=
  (gI w a0 5 3).bind fun x1 =>
  (gI w a0 5 3).bind fun x2 =>
  (gI w a0 5 2).bind fun x3 =>
  cI (U_X7_has fu [.int x3, .int a1] w) fun x5 w4 =>
  (if x5 = 0 then
    retZ (0 : Int32) w4
  else
    (gI w4 a0 5 2).bind fun x6 =>
    cI (U_X7_has fu [.int x6, .int a2] w4) fun x8 w7 =>
    (if x8 = 0 then
      retZ (0 : Int32) w7
    else
      (gI w7 a0 5 5).bind fun x9 =>
      (if x9 < (((a2 - a1) - ((x1 >>> (a1 &&& 31)) &&& (1 : Int32))) - ((x2 >>> (a2 &&& 31)) &&& (1 : Int32))) then
        retZ (0 : Int32) w7
      else
        retZ (1 : Int32) w7)))
def U_X6_isStride (fu : Nat) : Orc := fun as w => match as with
  | [.ref a0, .int a1, .int a2] => if isO w a0 5 = true then M_X6_isStride fu a0 a1 a2 w else none
  | _ => none
def K_X6_isStride (fu : Nat) (n : Nat) : Kont := fun pc ls st w => none
set_option maxRecDepth 100000 in
set_option maxHeartbeats 4000000 in
theorem E_X6_isStride (fu : Nat) (a0 : Nat) (a1 : Int32) (a2 : Int32) (w : XW) : M_X6_isStride fu a0 a1 a2 w = ev T_X6_isStride (op_X6_isStride fu) [] (K_X6_isStride fu fu) 38 0 (lv_args 0 [.ref a0, .int a1, .int a2]) [] w := by
  rfl
theorem D_X6_isStride (fu : Nat) : DS T_X6_isStride (op_X6_isStride fu) [] 38 (K_X6_isStride fu) := by
  refine ⟨fun pc ls st w => rfl, fun n pc ls st w o h => ?_⟩
  cases h
theorem H_X6_isStride (fu : Nat) : ∀ as w o, U_X6_isStride fu as w = some o → ∃ a r, as = .ref a :: r ∧ r.length = 2 ∧ isO w a 5 = true := by
  intro as w o h
  unfold U_X6_isStride at h
  split at h
  next =>
    split at h
    next hh => exact ⟨_, _, rfl, rfl, hh⟩
    next => cases h
  next => cases h
set_option maxRecDepth 100000 in
set_option maxHeartbeats 4000000 in
theorem S_X6_isStride (fu : Nat) {l : Launch} {D : va_G} {cA : Nat → ClassId} {base b : Nat} : CS l D cA base b 2 y_X6_isStride prog_8_method_5_code 4 (some .boolean) (U_X6_isStride fu) ∧ OM (U_X6_isStride fu) := by
  refine CS_of (d := 1) (y := y_X6_isStride) (cc := prog_8_method_5_code) (nL := 4) (ret := (some .boolean)) (F := U_X6_isStride fu) (fl := fl_BrookStones_Way) (nl := []) (kl := []) (k2 := []) (mv := []) (ms := [(62, 2, 1, (U_X7_has fu))]) (mi := []) (ini := false) hI_w fl_BrookStones_Way_ok nil_all nil_all nil_all
    (nil_all)
    (cons_all (⟨Or.inl ⟨show (1 : Nat) ≠ 3 by decide, y_X7_has, prog_1_method_47_code, 2, (some .boolean), 1, "BrookStones", (S_X7_has fu (l := l) (D := D) (cA := cA) (base := base) (b := b)).1, by decide, by decide, mi_X7_has.1, mi_X7_has.2.1, mi_X7_has.2.2.1, mi_X7_has.2.2.2, Or.inr (tblN_of (i := 396) rfl rfl)⟩, (S_X7_has fu (l := l) (D := D) (cA := cA) (base := base) (b := b)).2⟩) (nil_all))
    (nil_all)
    (T := T_X6_isStride) (by decide +kernel) (cut := []) (N := 38) (D_X6_isStride fu) (by decide +kernel) (fun h => absurd h (by decide)) (fun as w o h => ?_)
  unfold U_X6_isStride at h
  split at h
  next =>
    split at h
    next => exact ⟨Nat.le_of_ble_eq_true rfl, fu, (E_X6_isStride fu _ _ _ w).symm.trans h⟩
    next => cases h
  next => cases h
def T_X6_fewestFrom : List (Nat × Instr) := [(0, .bipush 99), (2, .istore_n 2), (3, .iload_n 1), (4, .iconst 1), (5, .iadd), (6, .istore_n 3), (7, .iload_n 3), (8, .aload_n 0), (9, .getfield 27), (12, .if_icmp .gt 31), (15, .aload_n 0), (16, .iload_n 1), (17, .iload_n 3), (18, .invokevirtual 52), (21, .ifCond .eq 16), (24, .iload_n 2), (25, .aload_n 0), (26, .getfield 15), (29, .iload_n 3), (30, .iaload), (31, .iconst 1), (32, .iadd), (33, .invokestatic 56), (36, .istore_n 2), (37, .iinc 3 1), (40, .goto (-33)), (43, .iload_n 2), (44, .ireturn)]
def op_X6_fewestFrom (fu : Nat) : Nat → Kont → XL → List Value → XW → Instr → Option XO := opK 4 (rzOf (some .int)) fl_BrookStones_Way [] [] [] [(52, 3, 1, (U_X6_isStride fu))] [(56, 2, 3, oMin)] []
def F_X6_fewestFrom (fu : Nat) : Nat → (Nat → Int32 → Int32 → Int32 → XW → Option XO)
  | 0 => fun _ _ _ _ _ => none
  | n + 1 => (fun a0 a1 a2 a3 w =>
    (gI w a0 5 4).bind fun x1 =>
    (if x1 < a3 then
      some (some (.int a2), w)
    else
      cI (U_X6_isStride fu [.ref a0, .int a1, .int a3] w) fun x3 w2 =>
      (if x3 = 0 then
        (F_X6_fewestFrom fu n) a0 a1 a2 (a3 + (1 : Int32)) w2
      else
        (gR w2 a0 5 1).bind fun r4 =>
        (aI w2 r4 a3).bind fun x5 =>
        cI (oMin [.int a2, .int (x5 + (1 : Int32))] w2) fun x7 w6 =>
        (F_X6_fewestFrom fu n) a0 a1 x7 (a3 + (1 : Int32)) w6)))
def M_X6_fewestFrom (fu : Nat) (a0 : Nat) (a1 : Int32) (w : XW) : Option XO :=
  (F_X6_fewestFrom fu fu) a0 a1 (99 : Int32) (a1 + (1 : Int32)) w
def U_X6_fewestFrom (fu : Nat) : Orc := fun as w => match as with
  | [.ref a0, .int a1] => if isO w a0 5 = true then M_X6_fewestFrom fu a0 a1 w else none
  | _ => none
def K_X6_fewestFrom (fu : Nat) (n : Nat) : Kont := fun pc ls st w => bif pc == 7 then ((xr ls 0).bind fun a0 => (xi ls 1).bind fun a1 => (xi ls 2).bind fun a2 => (xi ls 3).bind fun a3 => skN st ((F_X6_fewestFrom fu n) a0 a1 a2 a3 w)) else none
set_option maxRecDepth 100000 in
set_option maxHeartbeats 4000000 in
theorem E_X6_fewestFrom_7 (fu : Nat) (n : Nat) (a0 : Nat) (a1 : Int32) (a2 : Int32) (a3 : Int32) (w : XW) : (F_X6_fewestFrom fu (n + 1)) a0 a1 a2 a3 w = ev T_X6_fewestFrom (op_X6_fewestFrom fu) [7] (K_X6_fewestFrom fu n) 30 7 [(0, .ref a0), (1, .int a1), (2, .int a2), (3, .int a3)] [] w := by
  rfl
set_option maxRecDepth 100000 in
set_option maxHeartbeats 4000000 in
theorem E_X6_fewestFrom (fu : Nat) (a0 : Nat) (a1 : Int32) (w : XW) : M_X6_fewestFrom fu a0 a1 w = ev T_X6_fewestFrom (op_X6_fewestFrom fu) [7] (K_X6_fewestFrom fu fu) 30 0 (lv_args 0 [.ref a0, .int a1]) [] w := by
  rfl
theorem D_X6_fewestFrom (fu : Nat) : DS T_X6_fewestFrom (op_X6_fewestFrom fu) [7] 30 (K_X6_fewestFrom fu) := by
  refine ⟨fun pc ls st w => c_none (b_none fun _ => b_none fun _ => b_none fun _ => b_none fun _ => skN_none rfl) (rfl), fun n pc ls st w o h => ?_⟩
  rcases c_some h with ⟨rfl, h⟩ | h
  · obtain ⟨a0, h0, h⟩ := some_of h; obtain ⟨a1, h1, h⟩ := some_of h; obtain ⟨a2, h2, h⟩ := some_of h; obtain ⟨a3, h3, h⟩ := some_of h;
    obtain ⟨e, g⟩ := skN_of h
    subst e
    exact ⟨[(0, .ref a0), (1, .int a1), (2, .int a2), (3, .int a3)], cons_all (xr_of h0) (cons_all (xi_of h1) (cons_all (xi_of h2) (cons_all (xi_of h3) (nil_all)))), (E_X6_fewestFrom_7 fu n a0 a1 a2 a3 w).symm.trans g⟩
  · cases h
theorem H_X6_fewestFrom (fu : Nat) : ∀ as w o, U_X6_fewestFrom fu as w = some o → ∃ a r, as = .ref a :: r ∧ r.length = 1 ∧ isO w a 5 = true := by
  intro as w o h
  unfold U_X6_fewestFrom at h
  split at h
  next =>
    split at h
    next hh => exact ⟨_, _, rfl, rfl, hh⟩
    next => cases h
  next => cases h
set_option maxRecDepth 100000 in
set_option maxHeartbeats 4000000 in
theorem S_X6_fewestFrom (fu : Nat) {l : Launch} {D : va_G} {cA : Nat → ClassId} {base b : Nat} : CS l D cA base b 3 y_X6_fewestFrom prog_8_method_3_code 4 (some .int) (U_X6_fewestFrom fu) ∧ OM (U_X6_fewestFrom fu) := by
  refine CS_of (d := 2) (y := y_X6_fewestFrom) (cc := prog_8_method_3_code) (nL := 4) (ret := (some .int)) (F := U_X6_fewestFrom fu) (fl := fl_BrookStones_Way) (nl := []) (kl := []) (k2 := []) (mv := [(52, 3, 1, (U_X6_isStride fu))]) (ms := [(56, 2, 3, oMin)]) (mi := []) (ini := false) hI_w fl_BrookStones_Way_ok nil_all nil_all nil_all
    (cons_all (⟨⟨show (1 : Nat) ≠ 3 by decide, y_X6_isStride, prog_8_method_5_code, 4, (some .boolean), 2, "BrookStones", 5, TX6, 6, 2, (S_X6_isStride fu (l := l) (D := D) (cA := cA) (base := base) (b := b)).1, by decide, by decide, rfl, H_X6_isStride fu, rfl, mi_X6_isStride.1, mi_X6_isStride.2.1, mi_X6_isStride.2.2.1, mi_X6_isStride.2.2.2.1, mi_X6_isStride.2.2.2.2, Or.inl (tblG_of (i := 392) rfl rfl)⟩, (S_X6_isStride fu (l := l) (D := D) (cA := cA) (base := base) (b := b)).2⟩) (nil_all))
    (cons_all (⟨Or.inr (Or.inr (Or.inr ⟨rfl, rfl, rfl, tblG_of (i := 397) rfl rfl, tblG_of (i := 276) rfl rfl, tblG_of (i := 10) rfl rfl, tblG_of (i := 277) rfl rfl⟩)), om_min⟩) (nil_all))
    (nil_all)
    (T := T_X6_fewestFrom) (by decide +kernel) (cut := [7]) (N := 30) (D_X6_fewestFrom fu) (by decide +kernel) (fun h => absurd h (by decide)) (fun as w o h => ?_)
  unfold U_X6_fewestFrom at h
  split at h
  next =>
    split at h
    next => exact ⟨Nat.le_of_ble_eq_true rfl, fu, (E_X6_fewestFrom fu _ _ w).symm.trans h⟩
    next => cases h
  next => cases h
def T_X6_firstBehind : List (Nat × Instr) := [(0, .iload_n 1), (1, .iconst 1), (2, .iadd), (3, .istore_n 2), (4, .iload_n 2), (5, .aload_n 0), (6, .getfield 27), (9, .if_icmp .ge 37), (12, .aload_n 0), (13, .iload_n 1), (14, .iload_n 2), (15, .invokevirtual 52), (18, .ifCond .eq 22), (21, .aload_n 0), (22, .getfield 15), (25, .iload_n 2), (26, .iaload), (27, .aload_n 0), (28, .getfield 15), (31, .iload_n 1), (32, .iaload), (33, .iconst 1), (34, .isub), (35, .if_icmp .ne 5), (38, .iload_n 2), (39, .ireturn), (40, .iinc 2 1), (43, .goto (-39)), (46, .aload_n 0), (47, .getfield 27), (50, .ireturn)]
def op_X6_firstBehind (fu : Nat) : Nat → Kont → XL → List Value → XW → Instr → Option XO := opK 3 (rzOf (some .int)) fl_BrookStones_Way [] [] [] [(52, 3, 1, (U_X6_isStride fu))] [] []
def F_X6_firstBehind (fu : Nat) : Nat → (Nat → Int32 → Int32 → XW → Option XO)
  | 0 => fun _ _ _ _ => none
  | n + 1 => (fun a0 a1 a2 w =>
    (gI w a0 5 4).bind fun x1 =>
    (if a2 < x1 then
      cI (U_X6_isStride fu [.ref a0, .int a1, .int a2] w) fun x4 w3 =>
      (if x4 = 0 then
        (F_X6_firstBehind fu n) a0 a1 (a2 + (1 : Int32)) w3
      else
        (gR w3 a0 5 1).bind fun r5 =>
        (aI w3 r5 a2).bind fun x6 =>
        (gR w3 a0 5 1).bind fun r7 =>
        (aI w3 r7 a1).bind fun x8 =>
        (if x6 = (x8 - (1 : Int32)) then
          some (some (.int a2), w3)
        else
          (F_X6_firstBehind fu n) a0 a1 (a2 + (1 : Int32)) w3))
    else
      (gI w a0 5 4).bind fun x2 =>
      some (some (.int x2), w)))
def M_X6_firstBehind (fu : Nat) (a0 : Nat) (a1 : Int32) (w : XW) : Option XO :=
  (F_X6_firstBehind fu fu) a0 a1 (a1 + (1 : Int32)) w
def U_X6_firstBehind (fu : Nat) : Orc := fun as w => match as with
  | [.ref a0, .int a1] => if isO w a0 5 = true then M_X6_firstBehind fu a0 a1 w else none
  | _ => none
def K_X6_firstBehind (fu : Nat) (n : Nat) : Kont := fun pc ls st w => bif pc == 4 then ((xr ls 0).bind fun a0 => (xi ls 1).bind fun a1 => (xi ls 2).bind fun a2 => skN st ((F_X6_firstBehind fu n) a0 a1 a2 w)) else none
set_option maxRecDepth 100000 in
set_option maxHeartbeats 4000000 in
theorem E_X6_firstBehind_4 (fu : Nat) (n : Nat) (a0 : Nat) (a1 : Int32) (a2 : Int32) (w : XW) : (F_X6_firstBehind fu (n + 1)) a0 a1 a2 w = ev T_X6_firstBehind (op_X6_firstBehind fu) [4] (K_X6_firstBehind fu n) 33 4 [(0, .ref a0), (1, .int a1), (2, .int a2)] [] w := by
  rfl
set_option maxRecDepth 100000 in
set_option maxHeartbeats 4000000 in
theorem E_X6_firstBehind (fu : Nat) (a0 : Nat) (a1 : Int32) (w : XW) : M_X6_firstBehind fu a0 a1 w = ev T_X6_firstBehind (op_X6_firstBehind fu) [4] (K_X6_firstBehind fu fu) 33 0 (lv_args 0 [.ref a0, .int a1]) [] w := by
  rfl
theorem D_X6_firstBehind (fu : Nat) : DS T_X6_firstBehind (op_X6_firstBehind fu) [4] 33 (K_X6_firstBehind fu) := by
  refine ⟨fun pc ls st w => c_none (b_none fun _ => b_none fun _ => b_none fun _ => skN_none rfl) (rfl), fun n pc ls st w o h => ?_⟩
  rcases c_some h with ⟨rfl, h⟩ | h
  · obtain ⟨a0, h0, h⟩ := some_of h; obtain ⟨a1, h1, h⟩ := some_of h; obtain ⟨a2, h2, h⟩ := some_of h;
    obtain ⟨e, g⟩ := skN_of h
    subst e
    exact ⟨[(0, .ref a0), (1, .int a1), (2, .int a2)], cons_all (xr_of h0) (cons_all (xi_of h1) (cons_all (xi_of h2) (nil_all))), (E_X6_firstBehind_4 fu n a0 a1 a2 w).symm.trans g⟩
  · cases h
theorem H_X6_firstBehind (fu : Nat) : ∀ as w o, U_X6_firstBehind fu as w = some o → ∃ a r, as = .ref a :: r ∧ r.length = 1 ∧ isO w a 5 = true := by
  intro as w o h
  unfold U_X6_firstBehind at h
  split at h
  next =>
    split at h
    next hh => exact ⟨_, _, rfl, rfl, hh⟩
    next => cases h
  next => cases h
set_option maxRecDepth 100000 in
set_option maxHeartbeats 4000000 in
theorem S_X6_firstBehind (fu : Nat) {l : Launch} {D : va_G} {cA : Nat → ClassId} {base b : Nat} : CS l D cA base b 3 y_X6_firstBehind prog_8_method_4_code 3 (some .int) (U_X6_firstBehind fu) ∧ OM (U_X6_firstBehind fu) := by
  refine CS_of (d := 2) (y := y_X6_firstBehind) (cc := prog_8_method_4_code) (nL := 3) (ret := (some .int)) (F := U_X6_firstBehind fu) (fl := fl_BrookStones_Way) (nl := []) (kl := []) (k2 := []) (mv := [(52, 3, 1, (U_X6_isStride fu))]) (ms := []) (mi := []) (ini := false) hI_w fl_BrookStones_Way_ok nil_all nil_all nil_all
    (cons_all (⟨⟨show (1 : Nat) ≠ 3 by decide, y_X6_isStride, prog_8_method_5_code, 4, (some .boolean), 2, "BrookStones", 5, TX6, 6, 2, (S_X6_isStride fu (l := l) (D := D) (cA := cA) (base := base) (b := b)).1, by decide, by decide, rfl, H_X6_isStride fu, rfl, mi_X6_isStride.1, mi_X6_isStride.2.1, mi_X6_isStride.2.2.1, mi_X6_isStride.2.2.2.1, mi_X6_isStride.2.2.2.2, Or.inl (tblG_of (i := 392) rfl rfl)⟩, (S_X6_isStride fu (l := l) (D := D) (cA := cA) (base := base) (b := b)).2⟩) (nil_all))
    (nil_all)
    (nil_all)
    (T := T_X6_firstBehind) (by decide +kernel) (cut := [4]) (N := 33) (D_X6_firstBehind fu) (by decide +kernel) (fun h => absurd h (by decide)) (fun as w o h => ?_)
  unfold U_X6_firstBehind at h
  split at h
  next =>
    split at h
    next => exact ⟨Nat.le_of_ble_eq_true rfl, fu, (E_X6_firstBehind fu _ _ w).symm.trans h⟩
    next => cases h
  next => cases h
def T_X6_find : List (Nat × Instr) := [(0, .aload_n 0), (1, .iload_n 2), (2, .putfield 18), (5, .aload_n 0), (6, .aload_n 1), (7, .getfield 22), (10, .iconst 1), (11, .iadd), (12, .putfield 27), (15, .aload_n 0), (16, .iconst 1), (17, .aload_n 1), (18, .aload_n 1), (19, .getfield 30), (22, .invokevirtual 33), (25, .iconst 1), (26, .ishl), (27, .ior), (28, .iconst 1), (29, .aload_n 0), (30, .getfield 27), (33, .ishl), (34, .ior), (35, .putfield 37), (38, .aload_n 0), (39, .aload_n 1), (40, .iconst 2), (41, .invokevirtual 40), (44, .iconst 1), (45, .ishl), (46, .putfield 43), (49, .aload_n 0), (50, .getfield 15), (53, .aload_n 0), (54, .getfield 27), (57, .iconst 0), (58, .iastore), (59, .aload_n 0), (60, .getfield 27), (63, .iconst 1), (64, .isub), (65, .istore_n 3), (66, .iload_n 3), (67, .ifCond .lt 20), (70, .aload_n 0), (71, .getfield 15), (74, .iload_n 3), (75, .aload_n 0), (76, .iload_n 3), (77, .invokevirtual 46), (80, .iastore), (81, .iinc 3 (-1)), (84, .goto (-18)), (87, .aload_n 0), (88, .getfield 15), (91, .iconst 0), (92, .iaload), (93, .bipush 99), (95, .if_icmp .lt 6), (98, .bipush (-9)), (100, .ireturn), (101, .iconst 0), (102, .istore_n 3), (103, .iconst 0), (104, .istore 4), (106, .iload 4), (108, .aload_n 0), (109, .getfield 15), (112, .iconst 0), (113, .iaload), (114, .if_icmp .ge 25), (117, .aload_n 0), (118, .iload_n 3), (119, .invokevirtual 49), (122, .istore_n 3), (123, .aload_n 0), (124, .getfield 9), (127, .iload 4), (129, .iload_n 3), (130, .iconst 1), (131, .isub), (132, .iastore), (133, .iinc 4 1), (136, .goto (-30)), (139, .aload_n 0), (140, .getfield 15), (143, .iconst 0), (144, .iaload), (145, .ireturn)]
def op_X6_find (fu : Nat) : Nat → Kont → XL → List Value → XW → Instr → Option XO := opK 5 (rzOf (some .int)) fl_BrookStones_Way [] [] [] [(33, 2, 1, (U_X0_dry fu)), (40, 2, 1, (U_X0_ofKind fu)), (46, 2, 1, (U_X6_fewestFrom fu)), (49, 2, 1, (U_X6_firstBehind fu))] [] []
def F_X6_find (fu : Nat) : Nat → (Nat → Int32 → XW → Option XO) × (Nat → Int32 → Int32 → XW → Option XO)
  | 0 => (fun _ _ _ => none, fun _ _ _ _ => none)
  | n + 1 => ((fun a0 a3 w =>
    (if a3 < 0 then
      (gR w a0 5 1).bind fun r1 =>
      (aI w r1 (0 : Int32)).bind fun x2 =>
      (if x2 < (99 : Int32) then
        (F_X6_find fu n).2 a0 (0 : Int32) (0 : Int32) w
      else
        some (some (.int (-9 : Int32)), w))
    else
      (gR w a0 5 1).bind fun r3 =>
      cI (U_X6_fewestFrom fu [.ref a0, .int a3] w) fun x5 w4 =>
      (sI w4 r3 a3 x5).bind fun w6 =>
      (F_X6_find fu n).1 a0 (a3 + (-1 : Int32)) w6)),
   (fun a0 a3 a4 w =>
    (gR w a0 5 1).bind fun r7 =>
    (aI w r7 (0 : Int32)).bind fun x8 =>
    (if a4 < x8 then
      cI (U_X6_firstBehind fu [.ref a0, .int a3] w) fun x12 w11 =>
      (gR w11 a0 5 0).bind fun r13 =>
      (sI w11 r13 a4 (x12 - (1 : Int32))).bind fun w14 =>
      (F_X6_find fu n).2 a0 x12 (a4 + (1 : Int32)) w14
    else
      (gR w a0 5 1).bind fun r9 =>
      (aI w r9 (0 : Int32)).bind fun x10 =>
      some (some (.int x10), w))))
def M_X6_find (fu : Nat) (a0 : Nat) (a1 : Nat) (a2 : Int32) (w : XW) : Option XO :=
  (pF w a0 5 5 (.int a2)).bind fun w15 =>
  (gI w15 a1 0 8).bind fun x16 =>
  (pF w15 a0 5 4 (.int (x16 + (1 : Int32)))).bind fun w17 =>
  (gI w17 a1 0 11).bind fun x18 =>
  cI (U_X0_dry fu [.ref a1, .int x18] w17) fun x20 w19 =>
  (gI w19 a0 5 4).bind fun x21 =>
  (pF w19 a0 5 2 (.int (((1 : Int32) ||| (x20 <<< ((1 : Int32) &&& 31))) ||| ((1 : Int32) <<< (x21 &&& 31))))).bind fun w22 =>
  cI (U_X0_ofKind fu [.ref a1, .int (2 : Int32)] w22) fun x24 w23 =>
  (pF w23 a0 5 3 (.int (x24 <<< ((1 : Int32) &&& 31)))).bind fun w25 =>
  (gR w25 a0 5 1).bind fun r26 =>
  (gI w25 a0 5 4).bind fun x27 =>
  (sI w25 r26 x27 (0 : Int32)).bind fun w28 =>
  (gI w28 a0 5 4).bind fun x29 =>
  (F_X6_find fu fu).1 a0 (x29 - (1 : Int32)) w28
def U_X6_find (fu : Nat) : Orc := fun as w => match as with
  | [.ref a0, .ref a1, .int a2] => if isO w a0 5 = true then M_X6_find fu a0 a1 a2 w else none
  | _ => none
def K_X6_find (fu : Nat) (n : Nat) : Kont := fun pc ls st w => bif pc == 66 then ((xr ls 0).bind fun a0 => (xi ls 3).bind fun a3 => skN st ((F_X6_find fu n).1 a0 a3 w)) else bif pc == 106 then ((xr ls 0).bind fun a0 => (xi ls 3).bind fun a3 => (xi ls 4).bind fun a4 => skN st ((F_X6_find fu n).2 a0 a3 a4 w)) else none
set_option maxRecDepth 100000 in
set_option maxHeartbeats 4000000 in
theorem E_X6_find_66 (fu : Nat) (n : Nat) (a0 : Nat) (a3 : Int32) (w : XW) : (F_X6_find fu (n + 1)).1 a0 a3 w = ev T_X6_find (op_X6_find fu) [66, 106] (K_X6_find fu n) 91 66 [(0, .ref a0), (3, .int a3)] [] w := by
  rfl
set_option maxRecDepth 100000 in
set_option maxHeartbeats 4000000 in
theorem E_X6_find_106 (fu : Nat) (n : Nat) (a0 : Nat) (a3 : Int32) (a4 : Int32) (w : XW) : (F_X6_find fu (n + 1)).2 a0 a3 a4 w = ev T_X6_find (op_X6_find fu) [66, 106] (K_X6_find fu n) 91 106 [(0, .ref a0), (3, .int a3), (4, .int a4)] [] w := by
  rfl
set_option maxRecDepth 100000 in
set_option maxHeartbeats 4000000 in
theorem E_X6_find (fu : Nat) (a0 : Nat) (a1 : Nat) (a2 : Int32) (w : XW) : M_X6_find fu a0 a1 a2 w = ev T_X6_find (op_X6_find fu) [66, 106] (K_X6_find fu fu) 91 0 (lv_args 0 [.ref a0, .ref a1, .int a2]) [] w := by
  rfl
theorem D_X6_find (fu : Nat) : DS T_X6_find (op_X6_find fu) [66, 106] 91 (K_X6_find fu) := by
  refine ⟨fun pc ls st w => c_none (b_none fun _ => b_none fun _ => skN_none rfl) (c_none (b_none fun _ => b_none fun _ => b_none fun _ => skN_none rfl) (rfl)), fun n pc ls st w o h => ?_⟩
  rcases c_some h with ⟨rfl, h⟩ | h
  · obtain ⟨a0, h0, h⟩ := some_of h; obtain ⟨a3, h3, h⟩ := some_of h;
    obtain ⟨e, g⟩ := skN_of h
    subst e
    exact ⟨[(0, .ref a0), (3, .int a3)], cons_all (xr_of h0) (cons_all (xi_of h3) (nil_all)), (E_X6_find_66 fu n a0 a3 w).symm.trans g⟩
  rcases c_some h with ⟨rfl, h⟩ | h
  · obtain ⟨a0, h0, h⟩ := some_of h; obtain ⟨a3, h3, h⟩ := some_of h; obtain ⟨a4, h4, h⟩ := some_of h;
    obtain ⟨e, g⟩ := skN_of h
    subst e
    exact ⟨[(0, .ref a0), (3, .int a3), (4, .int a4)], cons_all (xr_of h0) (cons_all (xi_of h3) (cons_all (xi_of h4) (nil_all))), (E_X6_find_106 fu n a0 a3 a4 w).symm.trans g⟩
  · cases h
theorem H_X6_find (fu : Nat) : ∀ as w o, U_X6_find fu as w = some o → ∃ a r, as = .ref a :: r ∧ r.length = 2 ∧ isO w a 5 = true := by
  intro as w o h
  unfold U_X6_find at h
  split at h
  next =>
    split at h
    next hh => exact ⟨_, _, rfl, rfl, hh⟩
    next => cases h
  next => cases h
set_option maxRecDepth 100000 in
set_option maxHeartbeats 4000000 in
theorem S_X6_find (fu : Nat) {l : Launch} {D : va_G} {cA : Nat → ClassId} {base b : Nat} : CS l D cA base b 4 y_X6_find prog_8_method_2_code 5 (some .int) (U_X6_find fu) ∧ OM (U_X6_find fu) := by
  refine CS_of (d := 3) (y := y_X6_find) (cc := prog_8_method_2_code) (nL := 5) (ret := (some .int)) (F := U_X6_find fu) (fl := fl_BrookStones_Way) (nl := []) (kl := []) (k2 := []) (mv := [(33, 2, 1, (U_X0_dry fu)), (40, 2, 1, (U_X0_ofKind fu)), (46, 2, 1, (U_X6_fewestFrom fu)), (49, 2, 1, (U_X6_firstBehind fu))]) (ms := []) (mi := []) (ini := false) hI_w fl_BrookStones_Way_ok nil_all nil_all nil_all
    (cons_all (⟨⟨show (1 : Nat) ≠ 3 by decide, y_X0_dry, prog_2_method_19_code, 4, (some .int), 2, "BrookStones", 0, TX0, 15, 1, (S_X0_dry fu (l := l) (D := D) (cA := cA) (base := base) (b := b)).1, by decide, by decide, rfl, H_X0_dry fu, rfl, mi_X0_dry.1, mi_X0_dry.2.1, mi_X0_dry.2.2.1, mi_X0_dry.2.2.2.1, mi_X0_dry.2.2.2.2, Or.inr (tblN_of (i := 386) rfl rfl)⟩, (S_X0_dry fu (l := l) (D := D) (cA := cA) (base := base) (b := b)).2⟩) (cons_all (⟨⟨show (1 : Nat) ≠ 3 by decide, y_X0_ofKind, prog_2_method_18_code, 4, (some .int), 1, "BrookStones", 0, TX0, 15, 1, (S_X0_ofKind fu (l := l) (D := D) (cA := cA) (base := base) (b := b)).1, by decide, by decide, rfl, H_X0_ofKind fu, rfl, mi_X0_ofKind.1, mi_X0_ofKind.2.1, mi_X0_ofKind.2.2.1, mi_X0_ofKind.2.2.2.1, mi_X0_ofKind.2.2.2.2, Or.inr (tblN_of (i := 387) rfl rfl)⟩, (S_X0_ofKind fu (l := l) (D := D) (cA := cA) (base := base) (b := b)).2⟩) (cons_all (⟨⟨show (1 : Nat) ≠ 3 by decide, y_X6_fewestFrom, prog_8_method_3_code, 4, (some .int), 3, "BrookStones", 5, TX6, 6, 1, (S_X6_fewestFrom fu (l := l) (D := D) (cA := cA) (base := base) (b := b)).1, by decide, by decide, rfl, H_X6_fewestFrom fu, rfl, mi_X6_fewestFrom.1, mi_X6_fewestFrom.2.1, mi_X6_fewestFrom.2.2.1, mi_X6_fewestFrom.2.2.2.1, mi_X6_fewestFrom.2.2.2.2, Or.inl (tblG_of (i := 388) rfl rfl)⟩, (S_X6_fewestFrom fu (l := l) (D := D) (cA := cA) (base := base) (b := b)).2⟩) (cons_all (⟨⟨show (1 : Nat) ≠ 3 by decide, y_X6_firstBehind, prog_8_method_4_code, 3, (some .int), 3, "BrookStones", 5, TX6, 6, 1, (S_X6_firstBehind fu (l := l) (D := D) (cA := cA) (base := base) (b := b)).1, by decide, by decide, rfl, H_X6_firstBehind fu, rfl, mi_X6_firstBehind.1, mi_X6_firstBehind.2.1, mi_X6_firstBehind.2.2.1, mi_X6_firstBehind.2.2.2.1, mi_X6_firstBehind.2.2.2.2, Or.inl (tblG_of (i := 398) rfl rfl)⟩, (S_X6_firstBehind fu (l := l) (D := D) (cA := cA) (base := base) (b := b)).2⟩) (nil_all)))))
    (nil_all)
    (nil_all)
    (T := T_X6_find) (by decide +kernel) (cut := [66, 106]) (N := 91) (D_X6_find fu) (by decide +kernel) (fun h => absurd h (by decide)) (fun as w o h => ?_)
  unfold U_X6_find at h
  split at h
  next =>
    split at h
    next => exact ⟨Nat.le_of_ble_eq_true rfl, fu, (E_X6_find fu _ _ _ w).symm.trans h⟩
    next => cases h
  next => cases h
def T_X7_way : List (Nat × Instr) := [(0, .aload_n 0), (1, .getfield 12), (4, .iload_n 1), (5, .invokevirtual 158), (8, .ifCond .eq 8), (11, .iload_n 2), (12, .iconst (-1)), (13, .if_icmp .ge 5), (16, .iconst (-1)), (17, .ireturn), (18, .aload_n 0), (19, .getfield 28), (22, .aload_n 0), (23, .getfield 12), (26, .aload_n 0), (27, .getfield 12), (30, .iload_n 1), (31, .iconst 0), (32, .invokevirtual 168), (35, .invokevirtual 175), (38, .istore_n 3), (39, .iload_n 2), (40, .iconst (-1)), (41, .if_icmp .ne 5), (44, .iload_n 3), (45, .ireturn), (46, .iload_n 2), (47, .iload_n 3), (48, .if_icmp .ge 27), (51, .iload_n 2), (52, .aload_n 0), (53, .getfield 28), (56, .getfield 179), (59, .arraylength), (60, .if_icmp .ge 15), (63, .aload_n 0), (64, .getfield 28), (67, .getfield 179), (70, .iload_n 2), (71, .iaload), (72, .goto 5), (75, .bipush (-9)), (77, .ireturn)]
def op_X7_way (fu : Nat) : Nat → Kont → XL → List Value → XW → Instr → Option XO := opK 4 (rzOf (some .int)) fl_BrookStones nl_BrookStones [] [] [(158, 2, 1, (U_X0_isWalker fu)), (168, 3, 1, (U_X0_reachOf fu)), (175, 3, 1, (U_X6_find fu))] [] []
def M_X7_way (fu : Nat) (a0 : Nat) (a1 : Int32) (a2 : Int32) (w : XW) : Option XO :=
  (gR w a0 6 0).bind fun r1 =>
  cI (U_X0_isWalker fu [.ref r1, .int a1] w) fun x3 w2 =>
  (if x3 = 0 then
    some (some (.int (-1 : Int32)), w2)
  else
    (if a2 < (-1 : Int32) then
      some (some (.int (-1 : Int32)), w2)
    else
      (gR w2 a0 6 2).bind fun r4 =>
      (gR w2 a0 6 0).bind fun r5 =>
      (gR w2 a0 6 0).bind fun r6 =>
      cI (U_X0_reachOf fu [.ref r6, .int a1, .int (0 : Int32)] w2) fun x8 w7 =>
      cI (U_X6_find fu [.ref r4, .ref r5, .int x8] w7) fun x10 w9 =>
      (if a2 = (-1 : Int32) then
        some (some (.int x10), w9)
      else
        (if a2 < x10 then
          (gR w9 a0 6 2).bind fun r11 =>
          (gR w9 r11 5 0).bind fun r12 =>
          (aL w9 r12).bind fun x13 =>
          (if a2 < x13 then
            (gR w9 a0 6 2).bind fun r14 =>
            (gR w9 r14 5 0).bind fun r15 =>
            (aI w9 r15 a2).bind fun x16 =>
            some (some (.int x16), w9)
          else
            some (some (.int (-9 : Int32)), w9))
        else
          some (some (.int (-9 : Int32)), w9)))))
def U_X7_way (fu : Nat) : Orc := fun as w => match as with
  | [.ref a0, .int a1, .int a2] => if isO w a0 6 = true then M_X7_way fu a0 a1 a2 w else none
  | _ => none
def K_X7_way (fu : Nat) (n : Nat) : Kont := fun pc ls st w => none
set_option maxRecDepth 100000 in
set_option maxHeartbeats 4000000 in
theorem E_X7_way (fu : Nat) (a0 : Nat) (a1 : Int32) (a2 : Int32) (w : XW) : M_X7_way fu a0 a1 a2 w = ev T_X7_way (op_X7_way fu) [] (K_X7_way fu fu) 45 0 (lv_args 0 [.ref a0, .int a1, .int a2]) [] w := by
  rfl
theorem D_X7_way (fu : Nat) : DS T_X7_way (op_X7_way fu) [] 45 (K_X7_way fu) := by
  refine ⟨fun pc ls st w => rfl, fun n pc ls st w o h => ?_⟩
  cases h
theorem H_X7_way (fu : Nat) : ∀ as w o, U_X7_way fu as w = some o → ∃ a r, as = .ref a :: r ∧ r.length = 2 ∧ isO w a 6 = true := by
  intro as w o h
  unfold U_X7_way at h
  split at h
  next =>
    split at h
    next hh => exact ⟨_, _, rfl, rfl, hh⟩
    next => cases h
  next => cases h
set_option maxRecDepth 100000 in
set_option maxHeartbeats 4000000 in
theorem S_X7_way (fu : Nat) {l : Launch} {D : va_G} {cA : Nat → ClassId} {base b : Nat} : CS l D cA base b 5 y_X7_way prog_1_method_13_code 4 (some .int) (U_X7_way fu) ∧ OM (U_X7_way fu) := by
  refine CS_of (d := 4) (y := y_X7_way) (cc := prog_1_method_13_code) (nL := 4) (ret := (some .int)) (F := U_X7_way fu) (fl := fl_BrookStones) (nl := nl_BrookStones) (kl := []) (k2 := []) (mv := [(158, 2, 1, (U_X0_isWalker fu)), (168, 3, 1, (U_X0_reachOf fu)), (175, 3, 1, (U_X6_find fu))]) (ms := []) (mi := []) (ini := false) hI_w fl_BrookStones_ok nl_BrookStones_ok nil_all nil_all
    (cons_all (⟨⟨show (1 : Nat) ≠ 3 by decide, y_X0_isWalker, prog_2_method_6_code, 2, (some .boolean), 1, "BrookStones", 0, TX0, 15, 1, (S_X0_isWalker fu (l := l) (D := D) (cA := cA) (base := base) (b := b)).1, by decide, by decide, rfl, H_X0_isWalker fu, rfl, mi_X0_isWalker.1, mi_X0_isWalker.2.1, mi_X0_isWalker.2.2.1, mi_X0_isWalker.2.2.2.1, mi_X0_isWalker.2.2.2.2, Or.inr (tblN_of (i := 346) rfl rfl)⟩, (S_X0_isWalker fu (l := l) (D := D) (cA := cA) (base := base) (b := b)).2⟩) (cons_all (⟨⟨show (1 : Nat) ≠ 3 by decide, y_X0_reachOf, prog_2_method_9_code, 3, (some .int), 1, "BrookStones", 0, TX0, 15, 2, (S_X0_reachOf fu (l := l) (D := D) (cA := cA) (base := base) (b := b)).1, by decide, by decide, rfl, H_X0_reachOf fu, rfl, mi_X0_reachOf.1, mi_X0_reachOf.2.1, mi_X0_reachOf.2.2.1, mi_X0_reachOf.2.2.2.1, mi_X0_reachOf.2.2.2.2, Or.inr (tblN_of (i := 362) rfl rfl)⟩, (S_X0_reachOf fu (l := l) (D := D) (cA := cA) (base := base) (b := b)).2⟩) (cons_all (⟨⟨show (1 : Nat) ≠ 3 by decide, y_X6_find, prog_8_method_2_code, 5, (some .int), 4, "BrookStones", 5, TX6, 6, 2, (S_X6_find fu (l := l) (D := D) (cA := cA) (base := base) (b := b)).1, by decide, by decide, rfl, H_X6_find fu, rfl, mi_X6_find.1, mi_X6_find.2.1, mi_X6_find.2.2.1, mi_X6_find.2.2.2.1, mi_X6_find.2.2.2.2, Or.inr (tblN_of (i := 382) rfl rfl)⟩, (S_X6_find fu (l := l) (D := D) (cA := cA) (base := base) (b := b)).2⟩) (nil_all))))
    (nil_all)
    (nil_all)
    (T := T_X7_way) (by decide +kernel) (cut := []) (N := 45) (D_X7_way fu) (by decide +kernel) (fun h => absurd h (by decide)) (fun as w o h => ?_)
  unfold U_X7_way at h
  split at h
  next =>
    split at h
    next => exact ⟨Nat.le_of_ble_eq_true rfl, fu, (E_X7_way fu _ _ _ w).symm.trans h⟩
    next => cases h
  next => cases h
def T_X7_pass : List (Nat × Instr) := [(0, .aload_n 0), (1, .getfield 12), (4, .iload_n 1), (5, .invokevirtual 158), (8, .ifCond .eq 14), (11, .aload_n 0), (12, .getfield 12), (15, .iload_n 2), (16, .invokevirtual 158), (19, .ifCond .ne 5), (22, .iconst (-1)), (23, .ireturn), (24, .aload_n 0), (25, .getfield 12), (28, .iload_n 1), (29, .iconst 0), (30, .invokevirtual 168), (33, .aload_n 0), (34, .getfield 12), (37, .iload_n 2), (38, .iconst 0), (39, .invokevirtual 168), (42, .invokestatic 182), (45, .istore_n 3), (46, .aload_n 0), (47, .getfield 12), (50, .aload_n 0), (51, .getfield 12), (54, .invokevirtual 164), (57, .aload_n 0), (58, .getfield 12), (61, .getfield 98), (64, .iload_n 3), (65, .invokevirtual 172), (68, .ifCond .ne 5), (71, .iconst 0), (72, .ireturn), (73, .aload_n 0), (74, .getfield 12), (77, .aload_n 0), (78, .getfield 12), (81, .getfield 98), (84, .invokevirtual 187), (87, .aload_n 0), (88, .getfield 12), (91, .iconst 1), (92, .invokevirtual 190), (95, .iand), (96, .ireturn)]
def op_X7_pass (fu : Nat) : Nat → Kont → XL → List Value → XW → Instr → Option XO := opK 4 (rzOf (some .int)) fl_BrookStones nl_BrookStones [] [] [(158, 2, 1, (U_X0_isWalker fu)), (168, 3, 1, (U_X0_reachOf fu)), (164, 1, 1, (U_X0_filled fu)), (172, 4, 1, (U_X0_isCrossed fu)), (187, 2, 1, (U_X0_dry fu)), (190, 2, 1, (U_X0_ofKind fu))] [(182, 2, 3, oMin)] []
def M_X7_pass (fu : Nat) (a0 : Nat) (a1 : Int32) (a2 : Int32) (w : XW) : Option XO :=
  (gR w a0 6 0).bind fun r1 =>
  cI (U_X0_isWalker fu [.ref r1, .int a1] w) fun x3 w2 =>
  (if x3 = 0 then
    some (some (.int (-1 : Int32)), w2)
  else
    (gR w2 a0 6 0).bind fun r4 =>
    cI (U_X0_isWalker fu [.ref r4, .int a2] w2) fun x6 w5 =>
    (if x6 = 0 then
      some (some (.int (-1 : Int32)), w5)
    else
      (gR w5 a0 6 0).bind fun r7 =>
      cI (U_X0_reachOf fu [.ref r7, .int a1, .int (0 : Int32)] w5) fun x9 w8 =>
      (gR w8 a0 6 0).bind fun r10 =>
      cI (U_X0_reachOf fu [.ref r10, .int a2, .int (0 : Int32)] w8) fun x12 w11 =>
      cI (oMin [.int x9, .int x12] w11) fun x14 w13 =>
      (gR w13 a0 6 0).bind fun r15 =>
      (gR w13 a0 6 0).bind fun r16 =>
      cI (U_X0_filled fu [.ref r16] w13) fun x18 w17 =>
      (gR w17 a0 6 0).bind fun r19 =>
      (gI w17 r19 0 11).bind fun x20 =>
      cI (U_X0_isCrossed fu [.ref r15, .int x18, .int x20, .int x14] w17) fun x22 w21 =>
      (if x22 = 0 then
        some (some (.int (0 : Int32)), w21)
      else
        (gR w21 a0 6 0).bind fun r23 =>
        (gR w21 a0 6 0).bind fun r24 =>
        (gI w21 r24 0 11).bind fun x25 =>
        cI (U_X0_dry fu [.ref r23, .int x25] w21) fun x27 w26 =>
        (gR w26 a0 6 0).bind fun r28 =>
        cI (U_X0_ofKind fu [.ref r28, .int (1 : Int32)] w26) fun x30 w29 =>
        some (some (.int (x27 &&& x30)), w29))))
def U_X7_pass (fu : Nat) : Orc := fun as w => match as with
  | [.ref a0, .int a1, .int a2] => if isO w a0 6 = true then M_X7_pass fu a0 a1 a2 w else none
  | _ => none
def K_X7_pass (fu : Nat) (n : Nat) : Kont := fun pc ls st w => none
set_option maxRecDepth 100000 in
set_option maxHeartbeats 4000000 in
theorem E_X7_pass (fu : Nat) (a0 : Nat) (a1 : Int32) (a2 : Int32) (w : XW) : M_X7_pass fu a0 a1 a2 w = ev T_X7_pass (op_X7_pass fu) [] (K_X7_pass fu fu) 51 0 (lv_args 0 [.ref a0, .int a1, .int a2]) [] w := by
  rfl
theorem D_X7_pass (fu : Nat) : DS T_X7_pass (op_X7_pass fu) [] 51 (K_X7_pass fu) := by
  refine ⟨fun pc ls st w => rfl, fun n pc ls st w o h => ?_⟩
  cases h
theorem H_X7_pass (fu : Nat) : ∀ as w o, U_X7_pass fu as w = some o → ∃ a r, as = .ref a :: r ∧ r.length = 2 ∧ isO w a 6 = true := by
  intro as w o h
  unfold U_X7_pass at h
  split at h
  next =>
    split at h
    next hh => exact ⟨_, _, rfl, rfl, hh⟩
    next => cases h
  next => cases h
set_option maxRecDepth 100000 in
set_option maxHeartbeats 4000000 in
theorem S_X7_pass (fu : Nat) {l : Launch} {D : va_G} {cA : Nat → ClassId} {base b : Nat} : CS l D cA base b 4 y_X7_pass prog_1_method_15_code 4 (some .int) (U_X7_pass fu) ∧ OM (U_X7_pass fu) := by
  refine CS_of (d := 3) (y := y_X7_pass) (cc := prog_1_method_15_code) (nL := 4) (ret := (some .int)) (F := U_X7_pass fu) (fl := fl_BrookStones) (nl := nl_BrookStones) (kl := []) (k2 := []) (mv := [(158, 2, 1, (U_X0_isWalker fu)), (168, 3, 1, (U_X0_reachOf fu)), (164, 1, 1, (U_X0_filled fu)), (172, 4, 1, (U_X0_isCrossed fu)), (187, 2, 1, (U_X0_dry fu)), (190, 2, 1, (U_X0_ofKind fu))]) (ms := [(182, 2, 3, oMin)]) (mi := []) (ini := false) hI_w fl_BrookStones_ok nl_BrookStones_ok nil_all nil_all
    (cons_all (⟨⟨show (1 : Nat) ≠ 3 by decide, y_X0_isWalker, prog_2_method_6_code, 2, (some .boolean), 1, "BrookStones", 0, TX0, 15, 1, (S_X0_isWalker fu (l := l) (D := D) (cA := cA) (base := base) (b := b)).1, by decide, by decide, rfl, H_X0_isWalker fu, rfl, mi_X0_isWalker.1, mi_X0_isWalker.2.1, mi_X0_isWalker.2.2.1, mi_X0_isWalker.2.2.2.1, mi_X0_isWalker.2.2.2.2, Or.inr (tblN_of (i := 346) rfl rfl)⟩, (S_X0_isWalker fu (l := l) (D := D) (cA := cA) (base := base) (b := b)).2⟩) (cons_all (⟨⟨show (1 : Nat) ≠ 3 by decide, y_X0_reachOf, prog_2_method_9_code, 3, (some .int), 1, "BrookStones", 0, TX0, 15, 2, (S_X0_reachOf fu (l := l) (D := D) (cA := cA) (base := base) (b := b)).1, by decide, by decide, rfl, H_X0_reachOf fu, rfl, mi_X0_reachOf.1, mi_X0_reachOf.2.1, mi_X0_reachOf.2.2.1, mi_X0_reachOf.2.2.2.1, mi_X0_reachOf.2.2.2.2, Or.inr (tblN_of (i := 362) rfl rfl)⟩, (S_X0_reachOf fu (l := l) (D := D) (cA := cA) (base := base) (b := b)).2⟩) (cons_all (⟨⟨show (1 : Nat) ≠ 3 by decide, y_X0_filled, prog_2_method_17_code, 1, (some .int), 2, "BrookStones", 0, TX0, 15, 0, (S_X0_filled fu (l := l) (D := D) (cA := cA) (base := base) (b := b)).1, by decide, by decide, rfl, H_X0_filled fu, rfl, mi_X0_filled.1, mi_X0_filled.2.1, mi_X0_filled.2.2.1, mi_X0_filled.2.2.2.1, mi_X0_filled.2.2.2.2, Or.inr (tblN_of (i := 354) rfl rfl)⟩, (S_X0_filled fu (l := l) (D := D) (cA := cA) (base := base) (b := b)).2⟩) (cons_all (⟨⟨show (1 : Nat) ≠ 3 by decide, y_X0_isCrossed, prog_2_method_20_code, 4, (some .boolean), 3, "BrookStones", 0, TX0, 15, 3, (S_X0_isCrossed fu (l := l) (D := D) (cA := cA) (base := base) (b := b)).1, by decide, by decide, rfl, H_X0_isCrossed fu, rfl, mi_X0_isCrossed.1, mi_X0_isCrossed.2.1, mi_X0_isCrossed.2.2.1, mi_X0_isCrossed.2.2.2.1, mi_X0_isCrossed.2.2.2.2, Or.inr (tblN_of (i := 366) rfl rfl)⟩, (S_X0_isCrossed fu (l := l) (D := D) (cA := cA) (base := base) (b := b)).2⟩) (cons_all (⟨⟨show (1 : Nat) ≠ 3 by decide, y_X0_dry, prog_2_method_19_code, 4, (some .int), 2, "BrookStones", 0, TX0, 15, 1, (S_X0_dry fu (l := l) (D := D) (cA := cA) (base := base) (b := b)).1, by decide, by decide, rfl, H_X0_dry fu, rfl, mi_X0_dry.1, mi_X0_dry.2.1, mi_X0_dry.2.2.1, mi_X0_dry.2.2.2.1, mi_X0_dry.2.2.2.2, Or.inr (tblN_of (i := 411) rfl rfl)⟩, (S_X0_dry fu (l := l) (D := D) (cA := cA) (base := base) (b := b)).2⟩) (cons_all (⟨⟨show (1 : Nat) ≠ 3 by decide, y_X0_ofKind, prog_2_method_18_code, 4, (some .int), 1, "BrookStones", 0, TX0, 15, 1, (S_X0_ofKind fu (l := l) (D := D) (cA := cA) (base := base) (b := b)).1, by decide, by decide, rfl, H_X0_ofKind fu, rfl, mi_X0_ofKind.1, mi_X0_ofKind.2.1, mi_X0_ofKind.2.2.1, mi_X0_ofKind.2.2.2.1, mi_X0_ofKind.2.2.2.2, Or.inr (tblN_of (i := 412) rfl rfl)⟩, (S_X0_ofKind fu (l := l) (D := D) (cA := cA) (base := base) (b := b)).2⟩) (nil_all)))))))
    (cons_all (⟨Or.inr (Or.inr (Or.inr ⟨rfl, rfl, rfl, tblG_of (i := 410) rfl rfl, tblG_of (i := 276) rfl rfl, tblG_of (i := 10) rfl rfl, tblG_of (i := 277) rfl rfl⟩)), om_min⟩) (nil_all))
    (nil_all)
    (T := T_X7_pass) (by decide +kernel) (cut := []) (N := 51) (D_X7_pass fu) (by decide +kernel) (fun h => absurd h (by decide)) (fun as w o h => ?_)
  unfold U_X7_pass at h
  split at h
  next =>
    split at h
    next => exact ⟨Nat.le_of_ble_eq_true rfl, fu, (E_X7_pass fu _ _ _ w).symm.trans h⟩
    next => cases h
  next => cases h
def T_X4_areWithin : List (Nat × Instr) := [(0, .iload_n 2), (1, .istore 5), (3, .iload 5), (5, .iload_n 2), (6, .iload_n 3), (7, .iadd), (8, .if_icmp .ge 27), (11, .aload_n 0), (12, .iload_n 1), (13, .iload 5), (15, .invokevirtual 51), (18, .iconst 0), (19, .iload 4), (21, .invokestatic 27), (24, .ifCond .ne 5), (27, .iconst 0), (28, .ireturn), (29, .iinc 5 1), (32, .goto (-29)), (35, .iconst 1), (36, .ireturn)]
def op_X4_areWithin (fu : Nat) : Nat → Kont → XL → List Value → XW → Instr → Option XO := opK 6 (rzOf (some .boolean)) fl_BrookStones_Sheets [] [] [] [(51, 3, 1, (U_X4_at fu))] [(27, 3, 1, (U_X7_isWithin fu))] []
def F_X4_areWithin (fu : Nat) : Nat → (Nat → Int32 → Int32 → Int32 → Int32 → Int32 → XW → Option XO)
  | 0 => fun _ _ _ _ _ _ _ => none
  | n + 1 => (fun a0 a1 a2 a3 a4 a5 w =>
    (if a5 < (a2 + a3) then
      cI (U_X4_at fu [.ref a0, .int a1, .int a5] w) fun x2 w1 =>
      cI (U_X7_isWithin fu [.int x2, .int (0 : Int32), .int a4] w1) fun x4 w3 =>
      (if x4 = 0 then
        retZ (0 : Int32) w3
      else
        (F_X4_areWithin fu n) a0 a1 a2 a3 a4 (a5 + (1 : Int32)) w3)
    else
      retZ (1 : Int32) w))
def M_X4_areWithin (fu : Nat) (a0 : Nat) (a1 : Int32) (a2 : Int32) (a3 : Int32) (a4 : Int32) (w : XW) : Option XO :=
  (F_X4_areWithin fu fu) a0 a1 a2 a3 a4 a2 w
def U_X4_areWithin (fu : Nat) : Orc := fun as w => match as with
  | [.ref a0, .int a1, .int a2, .int a3, .int a4] => if isO w a0 4 = true then M_X4_areWithin fu a0 a1 a2 a3 a4 w else none
  | _ => none
def K_X4_areWithin (fu : Nat) (n : Nat) : Kont := fun pc ls st w => bif pc == 3 then ((xr ls 0).bind fun a0 => (xi ls 1).bind fun a1 => (xi ls 2).bind fun a2 => (xi ls 3).bind fun a3 => (xi ls 4).bind fun a4 => (xi ls 5).bind fun a5 => skN st ((F_X4_areWithin fu n) a0 a1 a2 a3 a4 a5 w)) else none
set_option maxRecDepth 100000 in
set_option maxHeartbeats 4000000 in
theorem E_X4_areWithin_3 (fu : Nat) (n : Nat) (a0 : Nat) (a1 : Int32) (a2 : Int32) (a3 : Int32) (a4 : Int32) (a5 : Int32) (w : XW) : (F_X4_areWithin fu (n + 1)) a0 a1 a2 a3 a4 a5 w = ev T_X4_areWithin (op_X4_areWithin fu) [3] (K_X4_areWithin fu n) 23 3 [(0, .ref a0), (1, .int a1), (2, .int a2), (3, .int a3), (4, .int a4), (5, .int a5)] [] w := by
  rfl
set_option maxRecDepth 100000 in
set_option maxHeartbeats 4000000 in
theorem E_X4_areWithin (fu : Nat) (a0 : Nat) (a1 : Int32) (a2 : Int32) (a3 : Int32) (a4 : Int32) (w : XW) : M_X4_areWithin fu a0 a1 a2 a3 a4 w = ev T_X4_areWithin (op_X4_areWithin fu) [3] (K_X4_areWithin fu fu) 23 0 (lv_args 0 [.ref a0, .int a1, .int a2, .int a3, .int a4]) [] w := by
  rfl
theorem D_X4_areWithin (fu : Nat) : DS T_X4_areWithin (op_X4_areWithin fu) [3] 23 (K_X4_areWithin fu) := by
  refine ⟨fun pc ls st w => c_none (b_none fun _ => b_none fun _ => b_none fun _ => b_none fun _ => b_none fun _ => b_none fun _ => skN_none rfl) (rfl), fun n pc ls st w o h => ?_⟩
  rcases c_some h with ⟨rfl, h⟩ | h
  · obtain ⟨a0, h0, h⟩ := some_of h; obtain ⟨a1, h1, h⟩ := some_of h; obtain ⟨a2, h2, h⟩ := some_of h; obtain ⟨a3, h3, h⟩ := some_of h; obtain ⟨a4, h4, h⟩ := some_of h; obtain ⟨a5, h5, h⟩ := some_of h;
    obtain ⟨e, g⟩ := skN_of h
    subst e
    exact ⟨[(0, .ref a0), (1, .int a1), (2, .int a2), (3, .int a3), (4, .int a4), (5, .int a5)], cons_all (xr_of h0) (cons_all (xi_of h1) (cons_all (xi_of h2) (cons_all (xi_of h3) (cons_all (xi_of h4) (cons_all (xi_of h5) (nil_all)))))), (E_X4_areWithin_3 fu n a0 a1 a2 a3 a4 a5 w).symm.trans g⟩
  · cases h
theorem H_X4_areWithin (fu : Nat) : ∀ as w o, U_X4_areWithin fu as w = some o → ∃ a r, as = .ref a :: r ∧ r.length = 4 ∧ isO w a 4 = true := by
  intro as w o h
  unfold U_X4_areWithin at h
  split at h
  next =>
    split at h
    next hh => exact ⟨_, _, rfl, rfl, hh⟩
    next => cases h
  next => cases h
set_option maxRecDepth 100000 in
set_option maxHeartbeats 4000000 in
theorem S_X4_areWithin (fu : Nat) {l : Launch} {D : va_G} {cA : Nat → ClassId} {base b : Nat} : CS l D cA base b 2 y_X4_areWithin prog_6_method_13_code 6 (some .boolean) (U_X4_areWithin fu) ∧ OM (U_X4_areWithin fu) := by
  refine CS_of (d := 1) (y := y_X4_areWithin) (cc := prog_6_method_13_code) (nL := 6) (ret := (some .boolean)) (F := U_X4_areWithin fu) (fl := fl_BrookStones_Sheets) (nl := []) (kl := []) (k2 := []) (mv := [(51, 3, 1, (U_X4_at fu))]) (ms := [(27, 3, 1, (U_X7_isWithin fu))]) (mi := []) (ini := false) hI_w fl_BrookStones_Sheets_ok nil_all nil_all nil_all
    (cons_all (⟨⟨show (1 : Nat) ≠ 3 by decide, y_X4_at, prog_6_method_7_code, 3, (some .int), 1, "BrookStones", 4, TX4, 3, 2, (S_X4_at fu (l := l) (D := D) (cA := cA) (base := base) (b := b)).1, by decide, by decide, rfl, H_X4_at fu, rfl, mi_X4_at.1, mi_X4_at.2.1, mi_X4_at.2.2.1, mi_X4_at.2.2.2.1, mi_X4_at.2.2.2.2, Or.inl (tblG_of (i := 421) rfl rfl)⟩, (S_X4_at fu (l := l) (D := D) (cA := cA) (base := base) (b := b)).2⟩) (nil_all))
    (cons_all (⟨Or.inl ⟨show (1 : Nat) ≠ 3 by decide, y_X7_isWithin, prog_1_method_46_code, 3, (some .boolean), 1, "BrookStones", (S_X7_isWithin fu (l := l) (D := D) (cA := cA) (base := base) (b := b)).1, by decide, by decide, mi_X7_isWithin.1, mi_X7_isWithin.2.1, mi_X7_isWithin.2.2.1, mi_X7_isWithin.2.2.2, Or.inr (tblN_of (i := 230) rfl rfl)⟩, (S_X7_isWithin fu (l := l) (D := D) (cA := cA) (base := base) (b := b)).2⟩) (nil_all))
    (nil_all)
    (T := T_X4_areWithin) (by decide +kernel) (cut := [3]) (N := 23) (D_X4_areWithin fu) (by decide +kernel) (fun h => absurd h (by decide)) (fun as w o h => ?_)
  unfold U_X4_areWithin at h
  split at h
  next =>
    split at h
    next => exact ⟨Nat.le_of_ble_eq_true rfl, fu, (E_X4_areWithin fu _ _ _ _ _ w).symm.trans h⟩
    next => cases h
  next => cases h
def T_X7_days : List (Nat × Instr) := [(0, .aload_n 0), (1, .iconst 0), (2, .putfield 53), (5, .aload_n 0), (6, .getfield 12), (9, .iload_n 1), (10, .invokevirtual 158), (13, .ifCond .ne 5), (16, .iconst (-1)), (17, .ireturn), (18, .aload_n 0), (19, .iload_n 2), (20, .iload_n 3), (21, .iload 4), (23, .iload 5), (25, .invokevirtual 57), (28, .istore 6), (30, .iload 6), (32, .ifCond .eq 6), (35, .iload 6), (37, .ireturn), (38, .aload_n 0), (39, .getfield 21), (42, .iload_n 2), (43, .iload 4), (45, .iload 5), (47, .bipush 9), (49, .invokevirtual 193), (52, .ifCond .ne 6), (55, .bipush (-2)), (57, .ireturn), (58, .iconst 0), (59, .istore 7), (61, .iconst 0), (62, .istore 8), (64, .iload 8), (66, .iload 5), (68, .if_icmp .ge 55), (71, .aload_n 0), (72, .getfield 21), (75, .iload_n 2), (76, .iload 4), (78, .iload 8), (80, .iadd), (81, .invokevirtual 197), (84, .istore 9), (86, .aload_n 0), (87, .getfield 12), (90, .aload_n 0), (91, .getfield 12), (94, .invokevirtual 164), (97, .iload 9), (99, .aload_n 0), (100, .getfield 12), (103, .iload_n 1), (104, .iconst 0), (105, .invokevirtual 168), (108, .invokevirtual 172), (111, .ifCond .eq 6), (114, .iinc 7 1), (117, .iinc 8 1), (120, .goto (-56)), (123, .iload 7), (125, .ireturn)]
def op_X7_days (fu : Nat) : Nat → Kont → XL → List Value → XW → Instr → Option XO := opK 10 (rzOf (some .int)) fl_BrookStones nl_BrookStones [] [] [(158, 2, 1, (U_X0_isWalker fu)), (57, 5, 1, (U_X7_refusalOfCells fu)), (193, 5, 1, (U_X4_areWithin fu)), (197, 3, 1, (U_X4_at fu)), (164, 1, 1, (U_X0_filled fu)), (168, 3, 1, (U_X0_reachOf fu)), (172, 4, 1, (U_X0_isCrossed fu))] [] []
def F_X7_days (fu : Nat) : Nat → (Nat → Int32 → Int32 → Int32 → Int32 → Int32 → Int32 → XW → Option XO)
  | 0 => fun _ _ _ _ _ _ _ _ => none
  | n + 1 => (fun a0 a1 a2 a4 a5 a7 a8 w =>
    (if a8 < a5 then
      (gR w a0 6 1).bind fun r1 =>
      cI (U_X4_at fu [.ref r1, .int a2, .int (a4 + a8)] w) fun x3 w2 =>
      (gR w2 a0 6 0).bind fun r4 =>
      (gR w2 a0 6 0).bind fun r5 =>
      cI (U_X0_filled fu [.ref r5] w2) fun x7 w6 =>
      (gR w6 a0 6 0).bind fun r8 =>
      cI (U_X0_reachOf fu [.ref r8, .int a1, .int (0 : Int32)] w6) fun x10 w9 =>
      cI (U_X0_isCrossed fu [.ref r4, .int x7, .int x3, .int x10] w9) fun x12 w11 =>
      (if x12 = 0 then
        (F_X7_days fu n) a0 a1 a2 a4 a5 a7 (a8 + (1 : Int32)) w11
      else
        (F_X7_days fu n) a0 a1 a2 a4 a5 (a7 + (1 : Int32)) (a8 + (1 : Int32)) w11)
    else
      some (some (.int a7), w)))
def M_X7_days (fu : Nat) (a0 : Nat) (a1 : Int32) (a2 : Int32) (a3 : Int32) (a4 : Int32) (a5 : Int32) (w : XW) : Option XO :=
  (pF w a0 6 7 (.int (0 : Int32))).bind fun w13 =>
  (gR w13 a0 6 0).bind fun r14 =>
  cI (U_X0_isWalker fu [.ref r14, .int a1] w13) fun x16 w15 =>
  (if x16 = 0 then
    some (some (.int (-1 : Int32)), w15)
  else
    cI (U_X7_refusalOfCells fu [.ref a0, .int a2, .int a3, .int a4, .int a5] w15) fun x18 w17 =>
    (if x18 = 0 then
      (gR w17 a0 6 1).bind fun r19 =>
      cI (U_X4_areWithin fu [.ref r19, .int a2, .int a4, .int a5, .int (9 : Int32)] w17) fun x21 w20 =>
      (if x21 = 0 then
        some (some (.int (-2 : Int32)), w20)
      else
        (F_X7_days fu fu) a0 a1 a2 a4 a5 (0 : Int32) (0 : Int32) w20)
    else
      some (some (.int x18), w17)))
def U_X7_days (fu : Nat) : Orc := fun as w => match as with
  | [.ref a0, .int a1, .int a2, .int a3, .int a4, .int a5] => if isO w a0 6 = true then M_X7_days fu a0 a1 a2 a3 a4 a5 w else none
  | _ => none
def K_X7_days (fu : Nat) (n : Nat) : Kont := fun pc ls st w => bif pc == 64 then ((xr ls 0).bind fun a0 => (xi ls 1).bind fun a1 => (xi ls 2).bind fun a2 => (xi ls 4).bind fun a4 => (xi ls 5).bind fun a5 => (xi ls 7).bind fun a7 => (xi ls 8).bind fun a8 => skN st ((F_X7_days fu n) a0 a1 a2 a4 a5 a7 a8 w)) else none
set_option maxRecDepth 100000 in
set_option maxHeartbeats 4000000 in
theorem E_X7_days_64 (fu : Nat) (n : Nat) (a0 : Nat) (a1 : Int32) (a2 : Int32) (a4 : Int32) (a5 : Int32) (a7 : Int32) (a8 : Int32) (w : XW) : (F_X7_days fu (n + 1)) a0 a1 a2 a4 a5 a7 a8 w = ev T_X7_days (op_X7_days fu) [64] (K_X7_days fu n) 66 64 [(0, .ref a0), (1, .int a1), (2, .int a2), (4, .int a4), (5, .int a5), (7, .int a7), (8, .int a8)] [] w := by
  rfl
set_option maxRecDepth 100000 in
set_option maxHeartbeats 4000000 in
theorem E_X7_days (fu : Nat) (a0 : Nat) (a1 : Int32) (a2 : Int32) (a3 : Int32) (a4 : Int32) (a5 : Int32) (w : XW) : M_X7_days fu a0 a1 a2 a3 a4 a5 w = ev T_X7_days (op_X7_days fu) [64] (K_X7_days fu fu) 66 0 (lv_args 0 [.ref a0, .int a1, .int a2, .int a3, .int a4, .int a5]) [] w := by
  rfl
theorem D_X7_days (fu : Nat) : DS T_X7_days (op_X7_days fu) [64] 66 (K_X7_days fu) := by
  refine ⟨fun pc ls st w => c_none (b_none fun _ => b_none fun _ => b_none fun _ => b_none fun _ => b_none fun _ => b_none fun _ => b_none fun _ => skN_none rfl) (rfl), fun n pc ls st w o h => ?_⟩
  rcases c_some h with ⟨rfl, h⟩ | h
  · obtain ⟨a0, h0, h⟩ := some_of h; obtain ⟨a1, h1, h⟩ := some_of h; obtain ⟨a2, h2, h⟩ := some_of h; obtain ⟨a4, h4, h⟩ := some_of h; obtain ⟨a5, h5, h⟩ := some_of h; obtain ⟨a7, h7, h⟩ := some_of h; obtain ⟨a8, h8, h⟩ := some_of h;
    obtain ⟨e, g⟩ := skN_of h
    subst e
    exact ⟨[(0, .ref a0), (1, .int a1), (2, .int a2), (4, .int a4), (5, .int a5), (7, .int a7), (8, .int a8)], cons_all (xr_of h0) (cons_all (xi_of h1) (cons_all (xi_of h2) (cons_all (xi_of h4) (cons_all (xi_of h5) (cons_all (xi_of h7) (cons_all (xi_of h8) (nil_all))))))), (E_X7_days_64 fu n a0 a1 a2 a4 a5 a7 a8 w).symm.trans g⟩
  · cases h
theorem H_X7_days (fu : Nat) : ∀ as w o, U_X7_days fu as w = some o → ∃ a r, as = .ref a :: r ∧ r.length = 5 ∧ isO w a 6 = true := by
  intro as w o h
  unfold U_X7_days at h
  split at h
  next =>
    split at h
    next hh => exact ⟨_, _, rfl, rfl, hh⟩
    next => cases h
  next => cases h
set_option maxRecDepth 100000 in
set_option maxHeartbeats 4000000 in
theorem S_X7_days (fu : Nat) {l : Launch} {D : va_G} {cA : Nat → ClassId} {base b : Nat} : CS l D cA base b 4 y_X7_days prog_1_method_16_code 10 (some .int) (U_X7_days fu) ∧ OM (U_X7_days fu) := by
  refine CS_of (d := 3) (y := y_X7_days) (cc := prog_1_method_16_code) (nL := 10) (ret := (some .int)) (F := U_X7_days fu) (fl := fl_BrookStones) (nl := nl_BrookStones) (kl := []) (k2 := []) (mv := [(158, 2, 1, (U_X0_isWalker fu)), (57, 5, 1, (U_X7_refusalOfCells fu)), (193, 5, 1, (U_X4_areWithin fu)), (197, 3, 1, (U_X4_at fu)), (164, 1, 1, (U_X0_filled fu)), (168, 3, 1, (U_X0_reachOf fu)), (172, 4, 1, (U_X0_isCrossed fu))]) (ms := []) (mi := []) (ini := false) hI_w fl_BrookStones_ok nl_BrookStones_ok nil_all nil_all
    (cons_all (⟨⟨show (1 : Nat) ≠ 3 by decide, y_X0_isWalker, prog_2_method_6_code, 2, (some .boolean), 1, "BrookStones", 0, TX0, 15, 1, (S_X0_isWalker fu (l := l) (D := D) (cA := cA) (base := base) (b := b)).1, by decide, by decide, rfl, H_X0_isWalker fu, rfl, mi_X0_isWalker.1, mi_X0_isWalker.2.1, mi_X0_isWalker.2.2.1, mi_X0_isWalker.2.2.2.1, mi_X0_isWalker.2.2.2.2, Or.inr (tblN_of (i := 346) rfl rfl)⟩, (S_X0_isWalker fu (l := l) (D := D) (cA := cA) (base := base) (b := b)).2⟩) (cons_all (⟨⟨show (1 : Nat) ≠ 3 by decide, y_X7_refusalOfCells, prog_1_method_39_code, 6, (some .int), 3, "BrookStones", 6, TX7, 8, 4, (S_X7_refusalOfCells fu (l := l) (D := D) (cA := cA) (base := base) (b := b)).1, by decide, by decide, rfl, H_X7_refusalOfCells fu, rfl, mi_X7_refusalOfCells.1, mi_X7_refusalOfCells.2.1, mi_X7_refusalOfCells.2.2.1, mi_X7_refusalOfCells.2.2.2.1, mi_X7_refusalOfCells.2.2.2.2, Or.inl (tblG_of (i := 223) rfl rfl)⟩, (S_X7_refusalOfCells fu (l := l) (D := D) (cA := cA) (base := base) (b := b)).2⟩) (cons_all (⟨⟨show (1 : Nat) ≠ 3 by decide, y_X4_areWithin, prog_6_method_13_code, 6, (some .boolean), 2, "BrookStones", 4, TX4, 3, 4, (S_X4_areWithin fu (l := l) (D := D) (cA := cA) (base := base) (b := b)).1, by decide, by decide, rfl, H_X4_areWithin fu, rfl, mi_X4_areWithin.1, mi_X4_areWithin.2.1, mi_X4_areWithin.2.2.1, mi_X4_areWithin.2.2.2.1, mi_X4_areWithin.2.2.2.2, Or.inr (tblN_of (i := 417) rfl rfl)⟩, (S_X4_areWithin fu (l := l) (D := D) (cA := cA) (base := base) (b := b)).2⟩) (cons_all (⟨⟨show (1 : Nat) ≠ 3 by decide, y_X4_at, prog_6_method_7_code, 3, (some .int), 1, "BrookStones", 4, TX4, 3, 2, (S_X4_at fu (l := l) (D := D) (cA := cA) (base := base) (b := b)).1, by decide, by decide, rfl, H_X4_at fu, rfl, mi_X4_at.1, mi_X4_at.2.1, mi_X4_at.2.2.1, mi_X4_at.2.2.2.1, mi_X4_at.2.2.2.2, Or.inr (tblN_of (i := 422) rfl rfl)⟩, (S_X4_at fu (l := l) (D := D) (cA := cA) (base := base) (b := b)).2⟩) (cons_all (⟨⟨show (1 : Nat) ≠ 3 by decide, y_X0_filled, prog_2_method_17_code, 1, (some .int), 2, "BrookStones", 0, TX0, 15, 0, (S_X0_filled fu (l := l) (D := D) (cA := cA) (base := base) (b := b)).1, by decide, by decide, rfl, H_X0_filled fu, rfl, mi_X0_filled.1, mi_X0_filled.2.1, mi_X0_filled.2.2.1, mi_X0_filled.2.2.2.1, mi_X0_filled.2.2.2.2, Or.inr (tblN_of (i := 354) rfl rfl)⟩, (S_X0_filled fu (l := l) (D := D) (cA := cA) (base := base) (b := b)).2⟩) (cons_all (⟨⟨show (1 : Nat) ≠ 3 by decide, y_X0_reachOf, prog_2_method_9_code, 3, (some .int), 1, "BrookStones", 0, TX0, 15, 2, (S_X0_reachOf fu (l := l) (D := D) (cA := cA) (base := base) (b := b)).1, by decide, by decide, rfl, H_X0_reachOf fu, rfl, mi_X0_reachOf.1, mi_X0_reachOf.2.1, mi_X0_reachOf.2.2.1, mi_X0_reachOf.2.2.2.1, mi_X0_reachOf.2.2.2.2, Or.inr (tblN_of (i := 362) rfl rfl)⟩, (S_X0_reachOf fu (l := l) (D := D) (cA := cA) (base := base) (b := b)).2⟩) (cons_all (⟨⟨show (1 : Nat) ≠ 3 by decide, y_X0_isCrossed, prog_2_method_20_code, 4, (some .boolean), 3, "BrookStones", 0, TX0, 15, 3, (S_X0_isCrossed fu (l := l) (D := D) (cA := cA) (base := base) (b := b)).1, by decide, by decide, rfl, H_X0_isCrossed fu, rfl, mi_X0_isCrossed.1, mi_X0_isCrossed.2.1, mi_X0_isCrossed.2.2.1, mi_X0_isCrossed.2.2.2.1, mi_X0_isCrossed.2.2.2.2, Or.inr (tblN_of (i := 366) rfl rfl)⟩, (S_X0_isCrossed fu (l := l) (D := D) (cA := cA) (base := base) (b := b)).2⟩) (nil_all))))))))
    (nil_all)
    (nil_all)
    (T := T_X7_days) (by decide +kernel) (cut := [64]) (N := 66) (D_X7_days fu) (by decide +kernel) (fun h => absurd h (by decide)) (fun as w o h => ?_)
  unfold U_X7_days at h
  split at h
  next =>
    split at h
    next => exact ⟨Nat.le_of_ble_eq_true rfl, fu, (E_X7_days fu _ _ _ _ _ _ w).symm.trans h⟩
    next => cases h
  next => cases h
