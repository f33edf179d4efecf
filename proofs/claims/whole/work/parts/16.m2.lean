def T_X7_stone : List (Nat × Instr) := [(0, .iload_n 1), (1, .iconst 0), (2, .iconst 2), (3, .invokestatic 105), (6, .ifCond .eq 13), (9, .iload_n 2), (10, .iconst 1), (11, .bipush 20), (13, .invokestatic 105), (16, .ifCond .ne 6), (19, .bipush (-2)), (21, .ireturn), (22, .iload_n 3), (23, .iconst 1), (24, .bipush 9), (26, .invokestatic 105), (29, .ifCond .eq 14), (32, .iload 4), (34, .iconst 0), (35, .bipush 9), (37, .invokestatic 105), (40, .ifCond .ne 6), (43, .bipush (-2)), (45, .ireturn), (46, .aload_n 0), (47, .getfield 12), (50, .invokevirtual 109), (53, .ifCond .ne 6), (56, .bipush (-3)), (58, .ireturn), (59, .aload_n 0), (60, .getfield 12), (63, .getfield 113), (66, .bipush 6), (68, .if_icmp .lt 6), (71, .bipush (-4)), (73, .ireturn), (74, .aload_n 0), (75, .getfield 12), (78, .iload_n 1), (79, .iload_n 2), (80, .iload_n 3), (81, .iload 4), (83, .invokevirtual 116), (86, .ireturn)]
def op_X7_stone (fu : Nat) : Nat → Kont → XL → List Value → XW → Instr → Option XO := opK 5 (rzOf (some .int)) fl_BrookStones nl_BrookStones [] k2_BrookStones [(109, 1, 1, (U_X0_isThere fu)), (116, 5, 1, (U_X0_addStone fu))] [(105, 3, 1, (U_X7_isWithin fu))] []
def M_X7_stone (fu : Nat) (a0 : Nat) (a1 : Int32) (a2 : Int32) (a3 : Int32) (a4 : Int32) (w : XW) : Option XO :=
  cI (U_X7_isWithin fu [.int a1, .int (0 : Int32), .int (2 : Int32)] w) fun x2 w1 =>
  (if x2 = 0 then
    some (some (.int (-2 : Int32)), w1)
  else
    cI (U_X7_isWithin fu [.int a2, .int (1 : Int32), .int (20 : Int32)] w1) fun x4 w3 =>
    (if x4 = 0 then
      some (some (.int (-2 : Int32)), w3)
    else
      cI (U_X7_isWithin fu [.int a3, .int (1 : Int32), .int (9 : Int32)] w3) fun x6 w5 =>
      (if x6 = 0 then
        some (some (.int (-2 : Int32)), w5)
      else
        cI (U_X7_isWithin fu [.int a4, .int (0 : Int32), .int (9 : Int32)] w5) fun x8 w7 =>
        (if x8 = 0 then
          some (some (.int (-2 : Int32)), w7)
        else
          (gR w7 a0 6 0).bind fun r9 =>
          cI (U_X0_isThere fu [.ref r9] w7) fun x11 w10 =>
          (if x11 = 0 then
            some (some (.int (-3 : Int32)), w10)
          else
            (gR w10 a0 6 0).bind fun r12 =>
            (gI w10 r12 0 12).bind fun x13 =>
            (if x13 < (6 : Int32) then
              (gR w10 a0 6 0).bind fun r14 =>
              cI (U_X0_addStone fu [.ref r14, .int a1, .int a2, .int a3, .int a4] w10) fun x16 w15 =>
              some (some (.int x16), w15)
            else
              some (some (.int (-4 : Int32)), w10)))))))
def U_X7_stone (fu : Nat) : Orc := fun as w => match as with
  | [.ref a0, .int a1, .int a2, .int a3, .int a4] => if isO w a0 6 = true then M_X7_stone fu a0 a1 a2 a3 a4 w else none
  | _ => none
def K_X7_stone (fu : Nat) (n : Nat) : Kont := fun pc ls st w => none
set_option maxRecDepth 100000 in
set_option maxHeartbeats 4000000 in
theorem E_X7_stone (fu : Nat) (a0 : Nat) (a1 : Int32) (a2 : Int32) (a3 : Int32) (a4 : Int32) (w : XW) : M_X7_stone fu a0 a1 a2 a3 a4 w = ev T_X7_stone (op_X7_stone fu) [] (K_X7_stone fu fu) 47 0 (lv_args 0 [.ref a0, .int a1, .int a2, .int a3, .int a4]) [] w := by
  rfl
theorem D_X7_stone (fu : Nat) : DS T_X7_stone (op_X7_stone fu) [] 47 (K_X7_stone fu) := by
  refine ⟨fun pc ls st w => rfl, fun n pc ls st w o h => ?_⟩
  cases h
theorem H_X7_stone (fu : Nat) : ∀ as w o, U_X7_stone fu as w = some o → ∃ a r, as = .ref a :: r ∧ r.length = 4 ∧ isO w a 6 = true := by
  intro as w o h
  unfold U_X7_stone at h
  split at h
  next =>
    split at h
    next hh => exact ⟨_, _, rfl, rfl, hh⟩
    next => cases h
  next => cases h
set_option maxRecDepth 100000 in
set_option maxHeartbeats 4000000 in
theorem S_X7_stone (fu : Nat) {l : Launch} {D : va_G} {cA : Nat → ClassId} {base b : Nat} : CS l D cA base b 2 y_X7_stone prog_1_method_6_code 5 (some .int) (U_X7_stone fu) ∧ OM (U_X7_stone fu) := by
  refine CS_of (d := 1) (y := y_X7_stone) (cc := prog_1_method_6_code) (nL := 5) (ret := (some .int)) (F := U_X7_stone fu) (fl := fl_BrookStones) (nl := nl_BrookStones) (kl := []) (k2 := k2_BrookStones) (mv := [(109, 1, 1, (U_X0_isThere fu)), (116, 5, 1, (U_X0_addStone fu))]) (ms := [(105, 3, 1, (U_X7_isWithin fu))]) (mi := []) (ini := false) hI_w hZ_w fl_BrookStones_ok nl_BrookStones_ok nil_all k2_BrookStones_ok
    (cons_all (⟨⟨show (1 : Nat) ≠ 3 by decide, y_X0_isThere, prog_2_method_3_code, 1, (some .boolean), 1, "BrookStones", 0, TX0, 15, 0, (S_X0_isThere fu (l := l) (D := D) (cA := cA) (base := base) (b := b)).1, by decide, by decide, rfl, H_X0_isThere fu, rfl, mi_X0_isThere.1, mi_X0_isThere.2.1, mi_X0_isThere.2.2.1, mi_X0_isThere.2.2.2.1, mi_X0_isThere.2.2.2.2, Or.inr (tblN_of (i := 334) rfl rfl)⟩, (S_X0_isThere fu (l := l) (D := D) (cA := cA) (base := base) (b := b)).2⟩) (cons_all (⟨⟨show (1 : Nat) ≠ 3 by decide, y_X0_addStone, prog_2_method_7_code, 5, (some .int), 1, "BrookStones", 0, TX0, 15, 4, (S_X0_addStone fu (l := l) (D := D) (cA := cA) (base := base) (b := b)).1, by decide, by decide, rfl, H_X0_addStone fu, rfl, mi_X0_addStone.1, mi_X0_addStone.2.1, mi_X0_addStone.2.2.1, mi_X0_addStone.2.2.2.1, mi_X0_addStone.2.2.2.2, Or.inr (tblN_of (i := 342) rfl rfl)⟩, (S_X0_addStone fu (l := l) (D := D) (cA := cA) (base := base) (b := b)).2⟩) (nil_all)))
    (cons_all (⟨Or.inl ⟨show (1 : Nat) ≠ 3 by decide, y_X7_isWithin, prog_1_method_46_code, 3, (some .boolean), 1, "BrookStones", (S_X7_isWithin fu (l := l) (D := D) (cA := cA) (base := base) (b := b)).1, by decide, by decide, mi_X7_isWithin.1, mi_X7_isWithin.2.1, mi_X7_isWithin.2.2.1, mi_X7_isWithin.2.2.2, Or.inl (tblG_of (i := 333) rfl rfl)⟩, (S_X7_isWithin fu (l := l) (D := D) (cA := cA) (base := base) (b := b)).2⟩) (nil_all))
    (nil_all)
    (T := T_X7_stone) (by decide +kernel) (cut := []) (N := 47) (D_X7_stone fu) (by decide +kernel) (fun h => absurd h (by decide)) (fun as w o h => ?_)
  unfold U_X7_stone at h
  split at h
  next =>
    split at h
    next => exact ⟨Nat.le_of_ble_eq_true rfl, fu, (E_X7_stone fu _ _ _ _ _ w).symm.trans h⟩
    next => cases h
  next => cases h
def T_X8_stone : List (Nat × Instr) := [(0, .iload_n 1), (1, .iconst 0), (2, .iconst 2), (3, .invokestatic 89), (6, .ifCond .eq 34), (9, .iload_n 2), (10, .iconst 1), (11, .bipush 20), (13, .invokestatic 89), (16, .ifCond .eq 24), (19, .iload_n 3), (20, .iconst 1), (21, .bipush 9), (23, .invokestatic 89), (26, .ifCond .eq 14), (29, .iload 4), (31, .iconst 0), (32, .bipush 9), (34, .invokestatic 89), (37, .ifCond .ne 6), (40, .bipush (-2)), (42, .ireturn), (43, .aload_n 0), (44, .getfield 93), (47, .ifCond .ne 6), (50, .bipush (-3)), (52, .ireturn), (53, .aload_n 0), (54, .getfield 129), (57, .bipush 6), (59, .if_icmp .ne 6), (62, .bipush (-4)), (64, .ireturn), (65, .aload_n 0), (66, .getfield 38), (69, .aload_n 0), (70, .getfield 129), (73, .iload_n 1), (74, .iastore), (75, .aload_n 0), (76, .getfield 41), (79, .aload_n 0), (80, .getfield 129), (83, .iload_n 2), (84, .iastore), (85, .aload_n 0), (86, .getfield 44), (89, .aload_n 0), (90, .getfield 129), (93, .iload_n 3), (94, .iastore), (95, .aload_n 0), (96, .getfield 47), (99, .aload_n 0), (100, .getfield 129), (103, .iload 4), (105, .iastore), (106, .aload_n 0), (107, .getfield 50), (110, .aload_n 0), (111, .getfield 129), (114, .bipush (-9)), (116, .iastore), (117, .aload_n 0), (118, .dup), (119, .getfield 129), (122, .iconst 1), (123, .iadd), (124, .putfield 129), (127, .aload_n 0), (128, .getfield 129), (131, .iconst 1), (132, .isub), (133, .ireturn)]
def op_X8_stone (fu : Nat) : Nat → Kont → XL → List Value → XW → Instr → Option XO := opK 5 (rzOf (some .int)) fl_BrookStonesModel [] kl_BrookStonesModel k2_BrookStonesModel [] [(89, 3, 1, (U_X8_within fu))] []
def M_X8_stone (fu : Nat) (a0 : Nat) (a1 : Int32) (a2 : Int32) (a3 : Int32) (a4 : Int32) (w : XW) : Option XO :=
  cI (U_X8_within fu [.int a1, .int (0 : Int32), .int (2 : Int32)] w) fun x2 w1 =>
  (if x2 = 0 then
    some (some (.int (-2 : Int32)), w1)
  else
    cI (U_X8_within fu [.int a2, .int (1 : Int32), .int (20 : Int32)] w1) fun x4 w3 =>
    (if x4 = 0 then
      some (some (.int (-2 : Int32)), w3)
    else
      cI (U_X8_within fu [.int a3, .int (1 : Int32), .int (9 : Int32)] w3) fun x6 w5 =>
      (if x6 = 0 then
        some (some (.int (-2 : Int32)), w5)
      else
        cI (U_X8_within fu [.int a4, .int (0 : Int32), .int (9 : Int32)] w5) fun x8 w7 =>
        (if x8 = 0 then
          some (some (.int (-2 : Int32)), w7)
        else
          (gI w7 a0 7 5).bind fun x9 =>
          (if x9 = 0 then
            some (some (.int (-3 : Int32)), w7)
          else
            (gI w7 a0 7 17).bind fun x10 =>
            (if x10 = (6 : Int32) then
              some (some (.int (-4 : Int32)), w7)
            else
              (gR w7 a0 7 18).bind fun r11 =>
              (gI w7 a0 7 17).bind fun x12 =>
              (sI w7 r11 x12 a1).bind fun w13 =>
              (gR w13 a0 7 19).bind fun r14 =>
              (gI w13 a0 7 17).bind fun x15 =>
              (sI w13 r14 x15 a2).bind fun w16 =>
              (gR w16 a0 7 20).bind fun r17 =>
              (gI w16 a0 7 17).bind fun x18 =>
              (sI w16 r17 x18 a3).bind fun w19 =>
              (gR w19 a0 7 21).bind fun r20 =>
              (gI w19 a0 7 17).bind fun x21 =>
              (sI w19 r20 x21 a4).bind fun w22 =>
              (gR w22 a0 7 22).bind fun r23 =>
              (gI w22 a0 7 17).bind fun x24 =>
              (sI w22 r23 x24 (-9 : Int32)).bind fun w25 =>
              (gI w25 a0 7 17).bind fun x26 =>
              (pF w25 a0 7 17 (.int (x26 + (1 : Int32)))).bind fun w27 =>
              (gI w27 a0 7 17).bind fun x28 =>
              some (some (.int (x28 - (1 : Int32))), w27)))))))
def U_X8_stone (fu : Nat) : Orc := fun as w => match as with
  | [.ref a0, .int a1, .int a2, .int a3, .int a4] => if isO w a0 7 = true then M_X8_stone fu a0 a1 a2 a3 a4 w else none
  | _ => none
def K_X8_stone (fu : Nat) (n : Nat) : Kont := fun pc ls st w => none
set_option maxRecDepth 100000 in
set_option maxHeartbeats 4000000 in
theorem E_X8_stone (fu : Nat) (a0 : Nat) (a1 : Int32) (a2 : Int32) (a3 : Int32) (a4 : Int32) (w : XW) : M_X8_stone fu a0 a1 a2 a3 a4 w = ev T_X8_stone (op_X8_stone fu) [] (K_X8_stone fu fu) 76 0 (lv_args 0 [.ref a0, .int a1, .int a2, .int a3, .int a4]) [] w := by
  rfl
theorem D_X8_stone (fu : Nat) : DS T_X8_stone (op_X8_stone fu) [] 76 (K_X8_stone fu) := by
  refine ⟨fun pc ls st w => rfl, fun n pc ls st w o h => ?_⟩
  cases h
theorem H_X8_stone (fu : Nat) : ∀ as w o, U_X8_stone fu as w = some o → ∃ a r, as = .ref a :: r ∧ r.length = 4 ∧ isO w a 7 = true := by
  intro as w o h
  unfold U_X8_stone at h
  split at h
  next =>
    split at h
    next hh => exact ⟨_, _, rfl, rfl, hh⟩
    next => cases h
  next => cases h
set_option maxRecDepth 100000 in
set_option maxHeartbeats 4000000 in
theorem S_X8_stone (fu : Nat) {l : Launch} {D : va_G} {cA : Nat → ClassId} {base b : Nat} : CS l D cA base b 2 y_X8_stone prog_10_method_20_code 5 (some .int) (U_X8_stone fu) ∧ OM (U_X8_stone fu) := by
  refine CS_of (d := 1) (y := y_X8_stone) (cc := prog_10_method_20_code) (nL := 5) (ret := (some .int)) (F := U_X8_stone fu) (fl := fl_BrookStonesModel) (nl := []) (kl := kl_BrookStonesModel) (k2 := k2_BrookStonesModel) (mv := []) (ms := [(89, 3, 1, (U_X8_within fu))]) (mi := []) (ini := false) hI_w hZ_w fl_BrookStonesModel_ok nil_all kl_BrookStonesModel_ok k2_BrookStonesModel_ok
    (nil_all)
    (cons_all (⟨Or.inl ⟨show (1 : Nat) ≠ 3 by decide, y_X8_within, prog_10_method_5_code, 3, (some .boolean), 1, "BrookStones", (S_X8_within fu (l := l) (D := D) (cA := cA) (base := base) (b := b)).1, by decide, by decide, mi_X8_within.1, mi_X8_within.2.1, mi_X8_within.2.2.1, mi_X8_within.2.2.2, Or.inl (tblG_of (i := 861) rfl rfl)⟩, (S_X8_within fu (l := l) (D := D) (cA := cA) (base := base) (b := b)).2⟩) (nil_all))
    (nil_all)
    (T := T_X8_stone) (by decide +kernel) (cut := []) (N := 76) (D_X8_stone fu) (by decide +kernel) (fun h => absurd h (by decide)) (fun as w o h => ?_)
  unfold U_X8_stone at h
  split at h
  next =>
    split at h
    next => exact ⟨Nat.le_of_ble_eq_true rfl, fu, (E_X8_stone fu _ _ _ _ _ w).symm.trans h⟩
    next => cases h
  next => cases h
def T_X0_isStone : List (Nat × Instr) := [(0, .iload_n 1), (1, .ifCond .lt 15), (4, .iload_n 1), (5, .aload_n 0), (6, .getfield 49), (9, .if_icmp .ge 7), (12, .iconst 1), (13, .goto 4), (16, .iconst 0), (17, .ireturn)]
def op_X0_isStone (fu : Nat) : Nat → Kont → XL → List Value → XW → Instr → Option XO := opK 2 (rzOf (some .boolean)) fl_BrookStones_Brook [] [] [] [] [] []
def M_X0_isStone (fu : Nat) (a0 : Nat) (a1 : Int32) (w : XW) : Option XO :=
  (if a1 < 0 then
    retZ (0 : Int32) w
  else
    (gI w a0 0 12).bind fun x1 =>
    (if a1 < x1 then
      retZ (1 : Int32) w
    else
      retZ (0 : Int32) w))
def U_X0_isStone (fu : Nat) : Orc := fun as w => match as with
  | [.ref a0, .int a1] => if isO w a0 0 = true then M_X0_isStone fu a0 a1 w else none
  | _ => none
def K_X0_isStone (fu : Nat) (n : Nat) : Kont := fun pc ls st w => none
set_option maxRecDepth 100000 in
set_option maxHeartbeats 4000000 in
theorem E_X0_isStone (fu : Nat) (a0 : Nat) (a1 : Int32) (w : XW) : M_X0_isStone fu a0 a1 w = ev T_X0_isStone (op_X0_isStone fu) [] (K_X0_isStone fu fu) 12 0 (lv_args 0 [.ref a0, .int a1]) [] w := by
  rfl
theorem D_X0_isStone (fu : Nat) : DS T_X0_isStone (op_X0_isStone fu) [] 12 (K_X0_isStone fu) := by
  refine ⟨fun pc ls st w => rfl, fun n pc ls st w o h => ?_⟩
  cases h
theorem H_X0_isStone (fu : Nat) : ∀ as w o, U_X0_isStone fu as w = some o → ∃ a r, as = .ref a :: r ∧ r.length = 1 ∧ isO w a 0 = true := by
  intro as w o h
  unfold U_X0_isStone at h
  split at h
  next =>
    split at h
    next hh => exact ⟨_, _, rfl, rfl, hh⟩
    next => cases h
  next => cases h
set_option maxRecDepth 100000 in
set_option maxHeartbeats 4000000 in
theorem S_X0_isStone (fu : Nat) {l : Launch} {D : va_G} {cA : Nat → ClassId} {base b : Nat} : CS l D cA base b 1 y_X0_isStone prog_2_method_5_code 2 (some .boolean) (U_X0_isStone fu) ∧ OM (U_X0_isStone fu) := by
  refine CS_of (d := 0) (y := y_X0_isStone) (cc := prog_2_method_5_code) (nL := 2) (ret := (some .boolean)) (F := U_X0_isStone fu) (fl := fl_BrookStones_Brook) (nl := []) (kl := []) (k2 := []) (mv := []) (ms := []) (mi := []) (ini := false) hI_w hZ_w fl_BrookStones_Brook_ok nil_all nil_all nil_all
    (nil_all)
    (nil_all)
    (nil_all)
    (T := T_X0_isStone) (by decide +kernel) (cut := []) (N := 12) (D_X0_isStone fu) (by decide +kernel) (fun h => absurd h (by decide)) (fun as w o h => ?_)
  unfold U_X0_isStone at h
  split at h
  next =>
    split at h
    next => exact ⟨Nat.le_of_ble_eq_true rfl, fu, (E_X0_isStone fu _ _ w).symm.trans h⟩
    next => cases h
  next => cases h
def T_X0_holdOf : List (Nat × Instr) := [(0, .aload_n 0), (1, .getfield 21), (4, .iload_n 1), (5, .iaload), (6, .iconst 1), (7, .if_icmp .lt 14), (10, .aload_n 0), (11, .getfield 27), (14, .iload_n 1), (15, .iaload), (16, .iconst 3), (17, .iadd), (18, .goto 9), (21, .aload_n 0), (22, .getfield 27), (25, .iload_n 1), (26, .iaload), (27, .ireturn)]
def op_X0_holdOf (fu : Nat) : Nat → Kont → XL → List Value → XW → Instr → Option XO := opK 2 (rzOf (some .int)) fl_BrookStones_Brook [] [] [] [] [] []
def M_X0_holdOf (fu : Nat) (a0 : Nat) (a1 : Int32) (w : XW) : Option XO :=
  (gR w a0 0 3).bind fun r1 =>
  (aI w r1 a1).bind fun x2 =>
  (if x2 < (1 : Int32) then
    (gR w a0 0 5).bind fun r3 =>
    (aI w r3 a1).bind fun x4 =>
    some (some (.int x4), w)
  else
    (gR w a0 0 5).bind fun r5 =>
    (aI w r5 a1).bind fun x6 =>
    some (some (.int (x6 + (3 : Int32))), w))
def U_X0_holdOf (fu : Nat) : Orc := fun as w => match as with
  | [.ref a0, .int a1] => if isO w a0 0 = true then M_X0_holdOf fu a0 a1 w else none
  | _ => none
def K_X0_holdOf (fu : Nat) (n : Nat) : Kont := fun pc ls st w => none
set_option maxRecDepth 100000 in
set_option maxHeartbeats 4000000 in
theorem E_X0_holdOf (fu : Nat) (a0 : Nat) (a1 : Int32) (w : XW) : M_X0_holdOf fu a0 a1 w = ev T_X0_holdOf (op_X0_holdOf fu) [] (K_X0_holdOf fu fu) 20 0 (lv_args 0 [.ref a0, .int a1]) [] w := by
  rfl
theorem D_X0_holdOf (fu : Nat) : DS T_X0_holdOf (op_X0_holdOf fu) [] 20 (K_X0_holdOf fu) := by
  refine ⟨fun pc ls st w => rfl, fun n pc ls st w o h => ?_⟩
  cases h
theorem H_X0_holdOf (fu : Nat) : ∀ as w o, U_X0_holdOf fu as w = some o → ∃ a r, as = .ref a :: r ∧ r.length = 1 ∧ isO w a 0 = true := by
  intro as w o h
  unfold U_X0_holdOf at h
  split at h
  next =>
    split at h
    next hh => exact ⟨_, _, rfl, rfl, hh⟩
    next => cases h
  next => cases h
set_option maxRecDepth 100000 in
set_option maxHeartbeats 4000000 in
theorem S_X0_holdOf (fu : Nat) {l : Launch} {D : va_G} {cA : Nat → ClassId} {base b : Nat} : CS l D cA base b 1 y_X0_holdOf prog_2_method_10_code 2 (some .int) (U_X0_holdOf fu) ∧ OM (U_X0_holdOf fu) := by
  refine CS_of (d := 0) (y := y_X0_holdOf) (cc := prog_2_method_10_code) (nL := 2) (ret := (some .int)) (F := U_X0_holdOf fu) (fl := fl_BrookStones_Brook) (nl := []) (kl := []) (k2 := []) (mv := []) (ms := []) (mi := []) (ini := false) hI_w hZ_w fl_BrookStones_Brook_ok nil_all nil_all nil_all
    (nil_all)
    (nil_all)
    (nil_all)
    (T := T_X0_holdOf) (by decide +kernel) (cut := []) (N := 20) (D_X0_holdOf fu) (by decide +kernel) (fun h => absurd h (by decide)) (fun as w o h => ?_)
  unfold U_X0_holdOf at h
  split at h
  next =>
    split at h
    next => exact ⟨Nat.le_of_ble_eq_true rfl, fu, (E_X0_holdOf fu _ _ w).symm.trans h⟩
    next => cases h
  next => cases h
def T_X0_cellOf : List (Nat × Instr) := [(0, .iconst 0), (1, .istore_n 2), (2, .iload_n 2), (3, .aload_n 0), (4, .getfield 58), (7, .if_icmp .ge 21), (10, .aload_n 0), (11, .getfield 18), (14, .iload_n 2), (15, .iaload), (16, .iload_n 1), (17, .if_icmp .ne 5), (20, .iload_n 2), (21, .ireturn), (22, .iinc 2 1), (25, .goto (-23)), (28, .bipush (-9)), (30, .ireturn)]
def op_X0_cellOf (fu : Nat) : Nat → Kont → XL → List Value → XW → Instr → Option XO := opK 3 (rzOf (some .int)) fl_BrookStones_Brook [] [] [] [] [] []
def F_X0_cellOf (fu : Nat) : Nat → (Nat → Int32 → Int32 → XW → Option XO)
  | 0 => fun _ _ _ _ => none
  | n + 1 => (fun a0 a1 a2 w =>
    (gI w a0 0 8).bind fun x1 =>
    (if a2 < x1 then
      (gR w a0 0 2).bind fun r2 =>
      (aI w r2 a2).bind fun x3 =>
      (if x3 = a1 then
        some (some (.int a2), w)
      else
        (F_X0_cellOf fu n) a0 a1 (a2 + (1 : Int32)) w)
    else
      some (some (.int (-9 : Int32)), w)))
def M_X0_cellOf (fu : Nat) (a0 : Nat) (a1 : Int32) (w : XW) : Option XO :=
  (F_X0_cellOf fu fu) a0 a1 (0 : Int32) w
def U_X0_cellOf (fu : Nat) : Orc := fun as w => match as with
  | [.ref a0, .int a1] => if isO w a0 0 = true then M_X0_cellOf fu a0 a1 w else none
  | _ => none
def K_X0_cellOf (fu : Nat) (n : Nat) : Kont := fun pc ls st w => bif pc == 2 then ((xr ls 0).bind fun a0 => (xi ls 1).bind fun a1 => (xi ls 2).bind fun a2 => skN st ((F_X0_cellOf fu n) a0 a1 a2 w)) else none
set_option maxRecDepth 100000 in
set_option maxHeartbeats 4000000 in
theorem E_X0_cellOf_2 (fu : Nat) (n : Nat) (a0 : Nat) (a1 : Int32) (a2 : Int32) (w : XW) : (F_X0_cellOf fu (n + 1)) a0 a1 a2 w = ev T_X0_cellOf (op_X0_cellOf fu) [2] (K_X0_cellOf fu n) 20 2 [(0, .ref a0), (1, .int a1), (2, .int a2)] [] w := by
  rfl
set_option maxRecDepth 100000 in
set_option maxHeartbeats 4000000 in
theorem E_X0_cellOf (fu : Nat) (a0 : Nat) (a1 : Int32) (w : XW) : M_X0_cellOf fu a0 a1 w = ev T_X0_cellOf (op_X0_cellOf fu) [2] (K_X0_cellOf fu fu) 20 0 (lv_args 0 [.ref a0, .int a1]) [] w := by
  rfl
theorem D_X0_cellOf (fu : Nat) : DS T_X0_cellOf (op_X0_cellOf fu) [2] 20 (K_X0_cellOf fu) := by
  refine ⟨fun pc ls st w => c_none (b_none fun _ => b_none fun _ => b_none fun _ => skN_none rfl) (rfl), fun n pc ls st w o h => ?_⟩
  rcases c_some h with ⟨rfl, h⟩ | h
  · obtain ⟨a0, h0, h⟩ := some_of h; obtain ⟨a1, h1, h⟩ := some_of h; obtain ⟨a2, h2, h⟩ := some_of h;
    obtain ⟨e, g⟩ := skN_of h
    subst e
    exact ⟨[(0, .ref a0), (1, .int a1), (2, .int a2)], cons_all (xr_of h0) (cons_all (xi_of h1) (cons_all (xi_of h2) (nil_all))), (E_X0_cellOf_2 fu n a0 a1 a2 w).symm.trans g⟩
  · cases h
theorem H_X0_cellOf (fu : Nat) : ∀ as w o, U_X0_cellOf fu as w = some o → ∃ a r, as = .ref a :: r ∧ r.length = 1 ∧ isO w a 0 = true := by
  intro as w o h
  unfold U_X0_cellOf at h
  split at h
  next =>
    split at h
    next hh => exact ⟨_, _, rfl, rfl, hh⟩
    next => cases h
  next => cases h
set_option maxRecDepth 100000 in
set_option maxHeartbeats 4000000 in
theorem S_X0_cellOf (fu : Nat) {l : Launch} {D : va_G} {cA : Nat → ClassId} {base b : Nat} : CS l D cA base b 1 y_X0_cellOf prog_2_method_14_code 3 (some .int) (U_X0_cellOf fu) ∧ OM (U_X0_cellOf fu) := by
  refine CS_of (d := 0) (y := y_X0_cellOf) (cc := prog_2_method_14_code) (nL := 3) (ret := (some .int)) (F := U_X0_cellOf fu) (fl := fl_BrookStones_Brook) (nl := []) (kl := []) (k2 := []) (mv := []) (ms := []) (mi := []) (ini := false) hI_w hZ_w fl_BrookStones_Brook_ok nil_all nil_all nil_all
    (nil_all)
    (nil_all)
    (nil_all)
    (T := T_X0_cellOf) (by decide +kernel) (cut := [2]) (N := 20) (D_X0_cellOf fu) (by decide +kernel) (fun h => absurd h (by decide)) (fun as w o h => ?_)
  unfold U_X0_cellOf at h
  split at h
  next =>
    split at h
    next => exact ⟨Nat.le_of_ble_eq_true rfl, fu, (E_X0_cellOf fu _ _ w).symm.trans h⟩
    next => cases h
  next => cases h
def T_X7_ofStone : List (Nat × Instr) := [(0, .aload_n 0), (1, .getfield 12), (4, .iload_n 1), (5, .invokevirtual 119), (8, .ifCond .ne 5), (11, .iconst (-1)), (12, .ireturn), (13, .iload_n 2), (14, .tableswitch 115 0 5 #[38, 48, 58, 68, 78, 87]), (52, .aload_n 0), (53, .getfield 12), (56, .getfield 122), (59, .iload_n 1), (60, .iaload), (61, .ireturn), (62, .aload_n 0), (63, .getfield 12), (66, .getfield 125), (69, .iload_n 1), (70, .iaload), (71, .ireturn), (72, .aload_n 0), (73, .getfield 12), (76, .getfield 128), (79, .iload_n 1), (80, .iaload), (81, .ireturn), (82, .aload_n 0), (83, .getfield 12), (86, .getfield 131), (89, .iload_n 1), (90, .iaload), (91, .ireturn), (92, .aload_n 0), (93, .getfield 12), (96, .iload_n 1), (97, .invokevirtual 134), (100, .ireturn), (101, .aload_n 0), (102, .getfield 12), (105, .getfield 138), (108, .iload_n 1), (109, .invokestatic 94), (112, .ifCond .eq 8), (115, .bipush (-5)), (117, .goto 11), (120, .aload_n 0), (121, .getfield 12), (124, .iload_n 1), (125, .invokevirtual 141), (128, .ireturn), (129, .bipush (-2)), (131, .ireturn)]
def op_X7_ofStone (fu : Nat) : Nat → Kont → XL → List Value → XW → Instr → Option XO := opK 3 (rzOf (some .int)) fl_BrookStones nl_BrookStones [] k2_BrookStones [(119, 2, 1, (U_X0_isStone fu)), (134, 2, 1, (U_X0_holdOf fu)), (141, 2, 1, (U_X0_cellOf fu))] [(94, 2, 1, (U_X7_has fu))] []
def M_X7_ofStone (fu : Nat) (a0 : Nat) (a1 : Int32) (a2 : Int32) (w : XW) : Option XO :=
  (gR w a0 6 0).bind fun r1 =>
  cI (U_X0_isStone fu [.ref r1, .int a1] w) fun x3 w2 =>
  (if x3 = 0 then
    some (some (.int (-1 : Int32)), w2)
  else
    (if a2 = (0 : Int32) then
      (gR w2 a0 6 0).bind fun r4 =>
      (gR w2 r4 0 3).bind fun r5 =>
      (aI w2 r5 a1).bind fun x6 =>
      some (some (.int x6), w2)
    else
    (if a2 = (1 : Int32) then
      (gR w2 a0 6 0).bind fun r7 =>
      (gR w2 r7 0 4).bind fun r8 =>
      (aI w2 r8 a1).bind fun x9 =>
      some (some (.int x9), w2)
    else
    (if a2 = (2 : Int32) then
      (gR w2 a0 6 0).bind fun r10 =>
      (gR w2 r10 0 5).bind fun r11 =>
      (aI w2 r11 a1).bind fun x12 =>
      some (some (.int x12), w2)
    else
    (if a2 = (3 : Int32) then
      (gR w2 a0 6 0).bind fun r13 =>
      (gR w2 r13 0 6).bind fun r14 =>
      (aI w2 r14 a1).bind fun x15 =>
      some (some (.int x15), w2)
    else
    (if a2 = (4 : Int32) then
      (gR w2 a0 6 0).bind fun r16 =>
      cI (U_X0_holdOf fu [.ref r16, .int a1] w2) fun x18 w17 =>
      some (some (.int x18), w17)
    else
    (if a2 = (5 : Int32) then
      (gR w2 a0 6 0).bind fun r19 =>
      (gI w2 r19 0 13).bind fun x20 =>
      cI (U_X7_has fu [.int x20, .int a1] w2) fun x22 w21 =>
      (if x22 = 0 then
        (gR w21 a0 6 0).bind fun r23 =>
        cI (U_X0_cellOf fu [.ref r23, .int a1] w21) fun x25 w24 =>
        some (some (.int x25), w24)
      else
        some (some (.int (-5 : Int32)), w21))
    else
    some (some (.int (-2 : Int32)), w2))))))))
def U_X7_ofStone (fu : Nat) : Orc := fun as w => match as with
  | [.ref a0, .int a1, .int a2] => if isO w a0 6 = true then M_X7_ofStone fu a0 a1 a2 w else none
  | _ => none
def K_X7_ofStone (fu : Nat) (n : Nat) : Kont := fun pc ls st w => none
set_option maxRecDepth 100000 in
set_option maxHeartbeats 4000000 in
theorem E_X7_ofStone (fu : Nat) (a0 : Nat) (a1 : Int32) (a2 : Int32) (w : XW) : M_X7_ofStone fu a0 a1 a2 w = ev T_X7_ofStone (op_X7_ofStone fu) [] (K_X7_ofStone fu fu) 55 0 (lv_args 0 [.ref a0, .int a1, .int a2]) [] w := by
  rfl
theorem D_X7_ofStone (fu : Nat) : DS T_X7_ofStone (op_X7_ofStone fu) [] 55 (K_X7_ofStone fu) := by
  refine ⟨fun pc ls st w => rfl, fun n pc ls st w o h => ?_⟩
  cases h
theorem H_X7_ofStone (fu : Nat) : ∀ as w o, U_X7_ofStone fu as w = some o → ∃ a r, as = .ref a :: r ∧ r.length = 2 ∧ isO w a 6 = true := by
  intro as w o h
  unfold U_X7_ofStone at h
  split at h
  next =>
    split at h
    next hh => exact ⟨_, _, rfl, rfl, hh⟩
    next => cases h
  next => cases h
set_option maxRecDepth 100000 in
set_option maxHeartbeats 4000000 in
theorem S_X7_ofStone (fu : Nat) {l : Launch} {D : va_G} {cA : Nat → ClassId} {base b : Nat} : CS l D cA base b 2 y_X7_ofStone prog_1_method_7_code 3 (some .int) (U_X7_ofStone fu) ∧ OM (U_X7_ofStone fu) := by
  refine CS_of (d := 1) (y := y_X7_ofStone) (cc := prog_1_method_7_code) (nL := 3) (ret := (some .int)) (F := U_X7_ofStone fu) (fl := fl_BrookStones) (nl := nl_BrookStones) (kl := []) (k2 := k2_BrookStones) (mv := [(119, 2, 1, (U_X0_isStone fu)), (134, 2, 1, (U_X0_holdOf fu)), (141, 2, 1, (U_X0_cellOf fu))]) (ms := [(94, 2, 1, (U_X7_has fu))]) (mi := []) (ini := false) hI_w hZ_w fl_BrookStones_ok nl_BrookStones_ok nil_all k2_BrookStones_ok
    (cons_all (⟨⟨show (1 : Nat) ≠ 3 by decide, y_X0_isStone, prog_2_method_5_code, 2, (some .boolean), 1, "BrookStones", 0, TX0, 15, 1, (S_X0_isStone fu (l := l) (D := D) (cA := cA) (base := base) (b := b)).1, by decide, by decide, rfl, H_X0_isStone fu, rfl, mi_X0_isStone.1, mi_X0_isStone.2.1, mi_X0_isStone.2.2.1, mi_X0_isStone.2.2.2.1, mi_X0_isStone.2.2.2.2, Or.inr (tblN_of (i := 350) rfl rfl)⟩, (S_X0_isStone fu (l := l) (D := D) (cA := cA) (base := base) (b := b)).2⟩) (cons_all (⟨⟨show (1 : Nat) ≠ 3 by decide, y_X0_holdOf, prog_2_method_10_code, 2, (some .int), 1, "BrookStones", 0, TX0, 15, 1, (S_X0_holdOf fu (l := l) (D := D) (cA := cA) (base := base) (b := b)).1, by decide, by decide, rfl, H_X0_holdOf fu, rfl, mi_X0_holdOf.1, mi_X0_holdOf.2.1, mi_X0_holdOf.2.2.1, mi_X0_holdOf.2.2.2.1, mi_X0_holdOf.2.2.2.2, Or.inr (tblN_of (i := 354) rfl rfl)⟩, (S_X0_holdOf fu (l := l) (D := D) (cA := cA) (base := base) (b := b)).2⟩) (cons_all (⟨⟨show (1 : Nat) ≠ 3 by decide, y_X0_cellOf, prog_2_method_14_code, 3, (some .int), 1, "BrookStones", 0, TX0, 15, 1, (S_X0_cellOf fu (l := l) (D := D) (cA := cA) (base := base) (b := b)).1, by decide, by decide, rfl, H_X0_cellOf fu, rfl, mi_X0_cellOf.1, mi_X0_cellOf.2.1, mi_X0_cellOf.2.2.1, mi_X0_cellOf.2.2.2.1, mi_X0_cellOf.2.2.2.2, Or.inr (tblN_of (i := 358) rfl rfl)⟩, (S_X0_cellOf fu (l := l) (D := D) (cA := cA) (base := base) (b := b)).2⟩) (nil_all))))
    (cons_all (⟨Or.inl ⟨show (1 : Nat) ≠ 3 by decide, y_X7_has, prog_1_method_47_code, 2, (some .boolean), 1, "BrookStones", (S_X7_has fu (l := l) (D := D) (cA := cA) (base := base) (b := b)).1, by decide, by decide, mi_X7_has.1, mi_X7_has.2.1, mi_X7_has.2.2.1, mi_X7_has.2.2.2, Or.inl (tblG_of (i := 318) rfl rfl)⟩, (S_X7_has fu (l := l) (D := D) (cA := cA) (base := base) (b := b)).2⟩) (nil_all))
    (nil_all)
    (T := T_X7_ofStone) (by decide +kernel) (cut := []) (N := 55) (D_X7_ofStone fu) (by decide +kernel) (fun h => absurd h (by decide)) (fun as w o h => ?_)
  unfold U_X7_ofStone at h
  split at h
  next =>
    split at h
    next => exact ⟨Nat.le_of_ble_eq_true rfl, fu, (E_X7_ofStone fu _ _ _ w).symm.trans h⟩
    next => cases h
  next => cases h
def T_X8_isStone : List (Nat × Instr) := [(0, .iload_n 1), (1, .ifCond .lt 15), (4, .iload_n 1), (5, .aload_n 0), (6, .getfield 129), (9, .if_icmp .ge 7), (12, .iconst 1), (13, .goto 4), (16, .iconst 0), (17, .ireturn)]
def op_X8_isStone (fu : Nat) : Nat → Kont → XL → List Value → XW → Instr → Option XO := opK 2 (rzOf (some .boolean)) fl_BrookStonesModel [] kl_BrookStonesModel k2_BrookStonesModel [] [] []
def M_X8_isStone (fu : Nat) (a0 : Nat) (a1 : Int32) (w : XW) : Option XO :=
  (if a1 < 0 then
    retZ (0 : Int32) w
  else
    (gI w a0 7 17).bind fun x1 =>
    (if a1 < x1 then
      retZ (1 : Int32) w
    else
      retZ (0 : Int32) w))
def U_X8_isStone (fu : Nat) : Orc := fun as w => match as with
  | [.ref a0, .int a1] => if isO w a0 7 = true then M_X8_isStone fu a0 a1 w else none
  | _ => none
def K_X8_isStone (fu : Nat) (n : Nat) : Kont := fun pc ls st w => none
set_option maxRecDepth 100000 in
set_option maxHeartbeats 4000000 in
theorem E_X8_isStone (fu : Nat) (a0 : Nat) (a1 : Int32) (w : XW) : M_X8_isStone fu a0 a1 w = ev T_X8_isStone (op_X8_isStone fu) [] (K_X8_isStone fu fu) 12 0 (lv_args 0 [.ref a0, .int a1]) [] w := by
  rfl
theorem D_X8_isStone (fu : Nat) : DS T_X8_isStone (op_X8_isStone fu) [] 12 (K_X8_isStone fu) := by
  refine ⟨fun pc ls st w => rfl, fun n pc ls st w o h => ?_⟩
  cases h
theorem H_X8_isStone (fu : Nat) : ∀ as w o, U_X8_isStone fu as w = some o → ∃ a r, as = .ref a :: r ∧ r.length = 1 ∧ isO w a 7 = true := by
  intro as w o h
  unfold U_X8_isStone at h
  split at h
  next =>
    split at h
    next hh => exact ⟨_, _, rfl, rfl, hh⟩
    next => cases h
  next => cases h
set_option maxRecDepth 100000 in
set_option maxHeartbeats 4000000 in
theorem S_X8_isStone (fu : Nat) {l : Launch} {D : va_G} {cA : Nat → ClassId} {base b : Nat} : CS l D cA base b 1 y_X8_isStone prog_10_method_19_code 2 (some .boolean) (U_X8_isStone fu) ∧ OM (U_X8_isStone fu) := by
  refine CS_of (d := 0) (y := y_X8_isStone) (cc := prog_10_method_19_code) (nL := 2) (ret := (some .boolean)) (F := U_X8_isStone fu) (fl := fl_BrookStonesModel) (nl := []) (kl := kl_BrookStonesModel) (k2 := k2_BrookStonesModel) (mv := []) (ms := []) (mi := []) (ini := false) hI_w hZ_w fl_BrookStonesModel_ok nil_all kl_BrookStonesModel_ok k2_BrookStonesModel_ok
    (nil_all)
    (nil_all)
    (nil_all)
    (T := T_X8_isStone) (by decide +kernel) (cut := []) (N := 12) (D_X8_isStone fu) (by decide +kernel) (fun h => absurd h (by decide)) (fun as w o h => ?_)
  unfold U_X8_isStone at h
  split at h
  next =>
    split at h
    next => exact ⟨Nat.le_of_ble_eq_true rfl, fu, (E_X8_isStone fu _ _ w).symm.trans h⟩
    next => cases h
  next => cases h
def T_X8_holdOf : List (Nat × Instr) := [(0, .aload_n 0), (1, .getfield 38), (4, .iload_n 1), (5, .iaload), (6, .ifCond .le 14), (9, .aload_n 0), (10, .getfield 44), (13, .iload_n 1), (14, .iaload), (15, .iconst 3), (16, .iadd), (17, .goto 9), (20, .aload_n 0), (21, .getfield 44), (24, .iload_n 1), (25, .iaload), (26, .ireturn)]
def op_X8_holdOf (fu : Nat) : Nat → Kont → XL → List Value → XW → Instr → Option XO := opK 2 (rzOf (some .int)) fl_BrookStonesModel [] kl_BrookStonesModel k2_BrookStonesModel [] [] []
def M_X8_holdOf (fu : Nat) (a0 : Nat) (a1 : Int32) (w : XW) : Option XO :=
  (gR w a0 7 18).bind fun r1 =>
  (aI w r1 a1).bind fun x2 =>
  (if 0 < x2 then
    (gR w a0 7 20).bind fun r5 =>
    (aI w r5 a1).bind fun x6 =>
    some (some (.int (x6 + (3 : Int32))), w)
  else
    (gR w a0 7 20).bind fun r3 =>
    (aI w r3 a1).bind fun x4 =>
    some (some (.int x4), w))
def U_X8_holdOf (fu : Nat) : Orc := fun as w => match as with
  | [.ref a0, .int a1] => if isO w a0 7 = true then M_X8_holdOf fu a0 a1 w else none
  | _ => none
def K_X8_holdOf (fu : Nat) (n : Nat) : Kont := fun pc ls st w => none
set_option maxRecDepth 100000 in
set_option maxHeartbeats 4000000 in
theorem E_X8_holdOf (fu : Nat) (a0 : Nat) (a1 : Int32) (w : XW) : M_X8_holdOf fu a0 a1 w = ev T_X8_holdOf (op_X8_holdOf fu) [] (K_X8_holdOf fu fu) 19 0 (lv_args 0 [.ref a0, .int a1]) [] w := by
  rfl
theorem D_X8_holdOf (fu : Nat) : DS T_X8_holdOf (op_X8_holdOf fu) [] 19 (K_X8_holdOf fu) := by
  refine ⟨fun pc ls st w => rfl, fun n pc ls st w o h => ?_⟩
  cases h
theorem H_X8_holdOf (fu : Nat) : ∀ as w o, U_X8_holdOf fu as w = some o → ∃ a r, as = .ref a :: r ∧ r.length = 1 ∧ isO w a 7 = true := by
  intro as w o h
  unfold U_X8_holdOf at h
  split at h
  next =>
    split at h
    next hh => exact ⟨_, _, rfl, rfl, hh⟩
    next => cases h
  next => cases h
set_option maxRecDepth 100000 in
set_option maxHeartbeats 4000000 in
theorem S_X8_holdOf (fu : Nat) {l : Launch} {D : va_G} {cA : Nat → ClassId} {base b : Nat} : CS l D cA base b 1 y_X8_holdOf prog_10_method_21_code 2 (some .int) (U_X8_holdOf fu) ∧ OM (U_X8_holdOf fu) := by
  refine CS_of (d := 0) (y := y_X8_holdOf) (cc := prog_10_method_21_code) (nL := 2) (ret := (some .int)) (F := U_X8_holdOf fu) (fl := fl_BrookStonesModel) (nl := []) (kl := kl_BrookStonesModel) (k2 := k2_BrookStonesModel) (mv := []) (ms := []) (mi := []) (ini := false) hI_w hZ_w fl_BrookStonesModel_ok nil_all kl_BrookStonesModel_ok k2_BrookStonesModel_ok
    (nil_all)
    (nil_all)
    (nil_all)
    (T := T_X8_holdOf) (by decide +kernel) (cut := []) (N := 19) (D_X8_holdOf fu) (by decide +kernel) (fun h => absurd h (by decide)) (fun as w o h => ?_)
  unfold U_X8_holdOf at h
  split at h
  next =>
    split at h
    next => exact ⟨Nat.le_of_ble_eq_true rfl, fu, (E_X8_holdOf fu _ _ w).symm.trans h⟩
    next => cases h
  next => cases h
def T_X8_ofStone : List (Nat × Instr) := [(0, .aload_n 0), (1, .iload_n 1), (2, .invokevirtual 149), (5, .ifCond .ne 5), (8, .iconst (-1)), (9, .ireturn), (10, .iload_n 2), (11, .tableswitch 78 0 5 #[37, 44, 51, 58, 65, 71]), (48, .aload_n 0), (49, .getfield 38), (52, .iload_n 1), (53, .iaload), (54, .ireturn), (55, .aload_n 0), (56, .getfield 41), (59, .iload_n 1), (60, .iaload), (61, .ireturn), (62, .aload_n 0), (63, .getfield 44), (66, .iload_n 1), (67, .iaload), (68, .ireturn), (69, .aload_n 0), (70, .getfield 47), (73, .iload_n 1), (74, .iaload), (75, .ireturn), (76, .aload_n 0), (77, .iload_n 1), (78, .invokevirtual 152), (81, .ireturn), (82, .aload_n 0), (83, .getfield 50), (86, .iload_n 1), (87, .iaload), (88, .ireturn), (89, .bipush (-2)), (91, .ireturn)]
def op_X8_ofStone (fu : Nat) : Nat → Kont → XL → List Value → XW → Instr → Option XO := opK 3 (rzOf (some .int)) fl_BrookStonesModel [] kl_BrookStonesModel k2_BrookStonesModel [(149, 2, 1, (U_X8_isStone fu)), (152, 2, 1, (U_X8_holdOf fu))] [] []
def M_X8_ofStone (fu : Nat) (a0 : Nat) (a1 : Int32) (a2 : Int32) (w : XW) : Option XO :=
  cI (U_X8_isStone fu [.ref a0, .int a1] w) fun x2 w1 =>
  (if x2 = 0 then
    some (some (.int (-1 : Int32)), w1)
  else
    (if a2 = (0 : Int32) then
      (gR w1 a0 7 18).bind fun r3 =>
      (aI w1 r3 a1).bind fun x4 =>
      some (some (.int x4), w1)
    else
    (if a2 = (1 : Int32) then
      (gR w1 a0 7 19).bind fun r5 =>
      (aI w1 r5 a1).bind fun x6 =>
      some (some (.int x6), w1)
    else
    (if a2 = (2 : Int32) then
      (gR w1 a0 7 20).bind fun r7 =>
      (aI w1 r7 a1).bind fun x8 =>
      some (some (.int x8), w1)
    else
    (if a2 = (3 : Int32) then
      (gR w1 a0 7 21).bind fun r9 =>
      (aI w1 r9 a1).bind fun x10 =>
      some (some (.int x10), w1)
    else
    (if a2 = (4 : Int32) then
      cI (U_X8_holdOf fu [.ref a0, .int a1] w1) fun x12 w11 =>
      some (some (.int x12), w11)
    else
    (if a2 = (5 : Int32) then
      (gR w1 a0 7 22).bind fun r13 =>
      (aI w1 r13 a1).bind fun x14 =>
      some (some (.int x14), w1)
    else
    some (some (.int (-2 : Int32)), w1))))))))
def U_X8_ofStone (fu : Nat) : Orc := fun as w => match as with
  | [.ref a0, .int a1, .int a2] => if isO w a0 7 = true then M_X8_ofStone fu a0 a1 a2 w else none
  | _ => none
def K_X8_ofStone (fu : Nat) (n : Nat) : Kont := fun pc ls st w => none
set_option maxRecDepth 100000 in
set_option maxHeartbeats 4000000 in
theorem E_X8_ofStone (fu : Nat) (a0 : Nat) (a1 : Int32) (a2 : Int32) (w : XW) : M_X8_ofStone fu a0 a1 a2 w = ev T_X8_ofStone (op_X8_ofStone fu) [] (K_X8_ofStone fu fu) 41 0 (lv_args 0 [.ref a0, .int a1, .int a2]) [] w := by
  rfl
theorem D_X8_ofStone (fu : Nat) : DS T_X8_ofStone (op_X8_ofStone fu) [] 41 (K_X8_ofStone fu) := by
  refine ⟨fun pc ls st w => rfl, fun n pc ls st w o h => ?_⟩
  cases h
theorem H_X8_ofStone (fu : Nat) : ∀ as w o, U_X8_ofStone fu as w = some o → ∃ a r, as = .ref a :: r ∧ r.length = 2 ∧ isO w a 7 = true := by
  intro as w o h
  unfold U_X8_ofStone at h
  split at h
  next =>
    split at h
    next hh => exact ⟨_, _, rfl, rfl, hh⟩
    next => cases h
  next => cases h
set_option maxRecDepth 100000 in
set_option maxHeartbeats 4000000 in
theorem S_X8_ofStone (fu : Nat) {l : Launch} {D : va_G} {cA : Nat → ClassId} {base b : Nat} : CS l D cA base b 2 y_X8_ofStone prog_10_method_22_code 3 (some .int) (U_X8_ofStone fu) ∧ OM (U_X8_ofStone fu) := by
  refine CS_of (d := 1) (y := y_X8_ofStone) (cc := prog_10_method_22_code) (nL := 3) (ret := (some .int)) (F := U_X8_ofStone fu) (fl := fl_BrookStonesModel) (nl := []) (kl := kl_BrookStonesModel) (k2 := k2_BrookStonesModel) (mv := [(149, 2, 1, (U_X8_isStone fu)), (152, 2, 1, (U_X8_holdOf fu))]) (ms := []) (mi := []) (ini := false) hI_w hZ_w fl_BrookStonesModel_ok nil_all kl_BrookStonesModel_ok k2_BrookStonesModel_ok
    (cons_all (⟨⟨show (1 : Nat) ≠ 3 by decide, y_X8_isStone, prog_10_method_19_code, 2, (some .boolean), 1, "BrookStones", 7, TX8, 37, 1, (S_X8_isStone fu (l := l) (D := D) (cA := cA) (base := base) (b := b)).1, by decide, by decide, rfl, H_X8_isStone fu, rfl, mi_X8_isStone.1, mi_X8_isStone.2.1, mi_X8_isStone.2.2.1, mi_X8_isStone.2.2.2.1, mi_X8_isStone.2.2.2.2, Or.inl (tblG_of (i := 915) rfl rfl)⟩, (S_X8_isStone fu (l := l) (D := D) (cA := cA) (base := base) (b := b)).2⟩) (cons_all (⟨⟨show (1 : Nat) ≠ 3 by decide, y_X8_holdOf, prog_10_method_21_code, 2, (some .int), 1, "BrookStones", 7, TX8, 37, 1, (S_X8_holdOf fu (l := l) (D := D) (cA := cA) (base := base) (b := b)).1, by decide, by decide, rfl, H_X8_holdOf fu, rfl, mi_X8_holdOf.1, mi_X8_holdOf.2.1, mi_X8_holdOf.2.2.1, mi_X8_holdOf.2.2.2.1, mi_X8_holdOf.2.2.2.2, Or.inl (tblG_of (i := 919) rfl rfl)⟩, (S_X8_holdOf fu (l := l) (D := D) (cA := cA) (base := base) (b := b)).2⟩) (nil_all)))
    (nil_all)
    (nil_all)
    (T := T_X8_ofStone) (by decide +kernel) (cut := []) (N := 41) (D_X8_ofStone fu) (by decide +kernel) (fun h => absurd h (by decide)) (fun as w o h => ?_)
  unfold U_X8_ofStone at h
  split at h
  next =>
    split at h
    next => exact ⟨Nat.le_of_ble_eq_true rfl, fu, (E_X8_ofStone fu _ _ _ w).symm.trans h⟩
    next => cases h
  next => cases h
def T_X0_takeUp : List (Nat × Instr) := [(0, .aload_n 0), (1, .iload_n 1), (2, .invokevirtual 61), (5, .istore_n 2), (6, .iload_n 2), (7, .bipush (-9)), (9, .if_icmp .eq 11), (12, .aload_n 0), (13, .getfield 18), (16, .iload_n 2), (17, .bipush (-9)), (19, .iastore), (20, .return_)]
def op_X0_takeUp (fu : Nat) : Nat → Kont → XL → List Value → XW → Instr → Option XO := opK 3 (rzOf (none)) fl_BrookStones_Brook [] [] [] [(61, 2, 1, (U_X0_cellOf fu))] [] []
def M_X0_takeUp (fu : Nat) (a0 : Nat) (a1 : Int32) (w : XW) : Option XO :=
  cI (U_X0_cellOf fu [.ref a0, .int a1] w) fun x2 w1 =>
  (if x2 = (-9 : Int32) then
    some (none, w1)
  else
    (gR w1 a0 0 2).bind fun r3 =>
    (sI w1 r3 x2 (-9 : Int32)).bind fun w4 =>
    some (none, w4))
def U_X0_takeUp (fu : Nat) : Orc := fun as w => match as with
  | [.ref a0, .int a1] => if isO w a0 0 = true then M_X0_takeUp fu a0 a1 w else none
  | _ => none
def K_X0_takeUp (fu : Nat) (n : Nat) : Kont := fun pc ls st w => none
set_option maxRecDepth 100000 in
set_option maxHeartbeats 4000000 in
theorem E_X0_takeUp (fu : Nat) (a0 : Nat) (a1 : Int32) (w : XW) : M_X0_takeUp fu a0 a1 w = ev T_X0_takeUp (op_X0_takeUp fu) [] (K_X0_takeUp fu fu) 15 0 (lv_args 0 [.ref a0, .int a1]) [] w := by
  rfl
theorem D_X0_takeUp (fu : Nat) : DS T_X0_takeUp (op_X0_takeUp fu) [] 15 (K_X0_takeUp fu) := by
  refine ⟨fun pc ls st w => rfl, fun n pc ls st w o h => ?_⟩
  cases h
theorem H_X0_takeUp (fu : Nat) : ∀ as w o, U_X0_takeUp fu as w = some o → ∃ a r, as = .ref a :: r ∧ r.length = 1 ∧ isO w a 0 = true := by
  intro as w o h
  unfold U_X0_takeUp at h
  split at h
  next =>
    split at h
    next hh => exact ⟨_, _, rfl, rfl, hh⟩
    next => cases h
  next => cases h
set_option maxRecDepth 100000 in
set_option maxHeartbeats 4000000 in
theorem S_X0_takeUp (fu : Nat) {l : Launch} {D : va_G} {cA : Nat → ClassId} {base b : Nat} : CS l D cA base b 2 y_X0_takeUp prog_2_method_15_code 3 (none) (U_X0_takeUp fu) ∧ OM (U_X0_takeUp fu) := by
  refine CS_of (d := 1) (y := y_X0_takeUp) (cc := prog_2_method_15_code) (nL := 3) (ret := (none)) (F := U_X0_takeUp fu) (fl := fl_BrookStones_Brook) (nl := []) (kl := []) (k2 := []) (mv := [(61, 2, 1, (U_X0_cellOf fu))]) (ms := []) (mi := []) (ini := false) hI_w hZ_w fl_BrookStones_Brook_ok nil_all nil_all nil_all
    (cons_all (⟨⟨show (1 : Nat) ≠ 3 by decide, y_X0_cellOf, prog_2_method_14_code, 3, (some .int), 1, "BrookStones", 0, TX0, 15, 1, (S_X0_cellOf fu (l := l) (D := D) (cA := cA) (base := base) (b := b)).1, by decide, by decide, rfl, H_X0_cellOf fu, rfl, mi_X0_cellOf.1, mi_X0_cellOf.2.1, mi_X0_cellOf.2.2.1, mi_X0_cellOf.2.2.2.1, mi_X0_cellOf.2.2.2.2, Or.inl (tblG_of (i := 370) rfl rfl)⟩, (S_X0_cellOf fu (l := l) (D := D) (cA := cA) (base := base) (b := b)).2⟩) (nil_all))
    (nil_all)
    (nil_all)
    (T := T_X0_takeUp) (by decide +kernel) (cut := []) (N := 15) (D_X0_takeUp fu) (by decide +kernel) (fun h => absurd h (by decide)) (fun as w o h => ?_)
  unfold U_X0_takeUp at h
  split at h
  next =>
    split at h
    next => exact ⟨Nat.le_of_ble_eq_true rfl, fu, (E_X0_takeUp fu _ _ w).symm.trans h⟩
    next => cases h
  next => cases h
def T_X7_set : List (Nat × Instr) := [(0, .aload_n 0), (1, .getfield 12), (4, .iload_n 1), (5, .invokevirtual 119), (8, .ifCond .eq 20), (11, .iload_n 2), (12, .bipush (-9)), (14, .if_icmp .eq 16), (17, .aload_n 0), (18, .getfield 12), (21, .iload_n 2), (22, .invokevirtual 77), (25, .ifCond .ne 5), (28, .iconst (-1)), (29, .ireturn), (30, .aload_n 0), (31, .getfield 12), (34, .getfield 138), (37, .iload_n 1), (38, .invokestatic 94), (41, .ifCond .ne 23), (44, .iload_n 2), (45, .bipush (-9)), (47, .if_icmp .eq 20), (50, .aload_n 0), (51, .getfield 12), (54, .getfield 81), (57, .iload_n 2), (58, .iaload), (59, .bipush (-9)), (61, .if_icmp .eq 6), (64, .bipush (-3)), (66, .ireturn), (67, .aload_n 0), (68, .getfield 12), (71, .iload_n 1), (72, .invokevirtual 144), (75, .iload_n 2), (76, .bipush (-9)), (78, .if_icmp .eq 13), (81, .aload_n 0), (82, .getfield 12), (85, .getfield 81), (88, .iload_n 2), (89, .iload_n 1), (90, .iastore), (91, .iconst 1), (92, .ireturn)]
def op_X7_set (fu : Nat) : Nat → Kont → XL → List Value → XW → Instr → Option XO := opK 3 (rzOf (some .int)) fl_BrookStones nl_BrookStones [] k2_BrookStones [(119, 2, 1, (U_X0_isStone fu)), (77, 2, 1, (U_X0_isCell fu)), (144, 2, 0, (U_X0_takeUp fu))] [(94, 2, 1, (U_X7_has fu))] []
def F_X7_set (fu : Nat) : Nat → (Nat → Int32 → Int32 → XW → Option XO) × (Nat → Int32 → Int32 → XW → Option XO)
  | 0 => (fun _ _ _ _ => none, fun _ _ _ _ => none)
  | n + 1 => ((fun a0 a1 a2 w =>
    (gR w a0 6 0).bind fun r1 =>
    (gI w r1 0 13).bind fun x2 =>
    cI (U_X7_has fu [.int x2, .int a1] w) fun x4 w3 =>
    (if x4 = 0 then
      (if a2 = (-9 : Int32) then
        (F_X7_set fu n).2 a0 a1 a2 w3
      else
        (gR w3 a0 6 0).bind fun r5 =>
        (gR w3 r5 0 2).bind fun r6 =>
        (aI w3 r6 a2).bind fun x7 =>
        (if x7 = (-9 : Int32) then
          (F_X7_set fu n).2 a0 a1 a2 w3
        else
          some (some (.int (-3 : Int32)), w3)))
    else
      some (some (.int (-3 : Int32)), w3))),
   (fun a0 a1 a2 w =>
    (gR w a0 6 0).bind fun r8 =>
    cV (U_X0_takeUp fu [.ref r8, .int a1] w) fun w9 =>
    (if a2 = (-9 : Int32) then
      some (some (.int (1 : Int32)), w9)
    else
      (gR w9 a0 6 0).bind fun r10 =>
      (gR w9 r10 0 2).bind fun r11 =>
      (sI w9 r11 a2 a1).bind fun w12 =>
      some (some (.int (1 : Int32)), w12))))
def M_X7_set (fu : Nat) (a0 : Nat) (a1 : Int32) (a2 : Int32) (w : XW) : Option XO :=
  (gR w a0 6 0).bind fun r13 =>
  cI (U_X0_isStone fu [.ref r13, .int a1] w) fun x15 w14 =>
  (if x15 = 0 then
    some (some (.int (-1 : Int32)), w14)
  else
    (if a2 = (-9 : Int32) then
      (F_X7_set fu fu).1 a0 a1 a2 w14
    else
      (gR w14 a0 6 0).bind fun r16 =>
      cI (U_X0_isCell fu [.ref r16, .int a2] w14) fun x18 w17 =>
      (if x18 = 0 then
        some (some (.int (-1 : Int32)), w17)
      else
        (F_X7_set fu fu).1 a0 a1 a2 w17)))
def U_X7_set (fu : Nat) : Orc := fun as w => match as with
  | [.ref a0, .int a1, .int a2] => if isO w a0 6 = true then M_X7_set fu a0 a1 a2 w else none
  | _ => none
def K_X7_set (fu : Nat) (n : Nat) : Kont := fun pc ls st w => bif pc == 30 then ((xr ls 0).bind fun a0 => (xi ls 1).bind fun a1 => (xi ls 2).bind fun a2 => skN st ((F_X7_set fu n).1 a0 a1 a2 w)) else bif pc == 67 then ((xr ls 0).bind fun a0 => (xi ls 1).bind fun a1 => (xi ls 2).bind fun a2 => skN st ((F_X7_set fu n).2 a0 a1 a2 w)) else none
set_option maxRecDepth 100000 in
set_option maxHeartbeats 4000000 in
theorem E_X7_set_30 (fu : Nat) (n : Nat) (a0 : Nat) (a1 : Int32) (a2 : Int32) (w : XW) : (F_X7_set fu (n + 1)).1 a0 a1 a2 w = ev T_X7_set (op_X7_set fu) [30, 67] (K_X7_set fu n) 50 30 [(0, .ref a0), (1, .int a1), (2, .int a2)] [] w := by
  rfl
set_option maxRecDepth 100000 in
set_option maxHeartbeats 4000000 in
theorem E_X7_set_67 (fu : Nat) (n : Nat) (a0 : Nat) (a1 : Int32) (a2 : Int32) (w : XW) : (F_X7_set fu (n + 1)).2 a0 a1 a2 w = ev T_X7_set (op_X7_set fu) [30, 67] (K_X7_set fu n) 50 67 [(0, .ref a0), (1, .int a1), (2, .int a2)] [] w := by
  rfl
set_option maxRecDepth 100000 in
set_option maxHeartbeats 4000000 in
theorem E_X7_set (fu : Nat) (a0 : Nat) (a1 : Int32) (a2 : Int32) (w : XW) : M_X7_set fu a0 a1 a2 w = ev T_X7_set (op_X7_set fu) [30, 67] (K_X7_set fu fu) 50 0 (lv_args 0 [.ref a0, .int a1, .int a2]) [] w := by
  rfl
theorem D_X7_set (fu : Nat) : DS T_X7_set (op_X7_set fu) [30, 67] 50 (K_X7_set fu) := by
  refine ⟨fun pc ls st w => c_none (b_none fun _ => b_none fun _ => b_none fun _ => skN_none rfl) (c_none (b_none fun _ => b_none fun _ => b_none fun _ => skN_none rfl) (rfl)), fun n pc ls st w o h => ?_⟩
  rcases c_some h with ⟨rfl, h⟩ | h
  · obtain ⟨a0, h0, h⟩ := some_of h; obtain ⟨a1, h1, h⟩ := some_of h; obtain ⟨a2, h2, h⟩ := some_of h;
    obtain ⟨e, g⟩ := skN_of h
    subst e
    exact ⟨[(0, .ref a0), (1, .int a1), (2, .int a2)], cons_all (xr_of h0) (cons_all (xi_of h1) (cons_all (xi_of h2) (nil_all))), (E_X7_set_30 fu n a0 a1 a2 w).symm.trans g⟩
  rcases c_some h with ⟨rfl, h⟩ | h
  · obtain ⟨a0, h0, h⟩ := some_of h; obtain ⟨a1, h1, h⟩ := some_of h; obtain ⟨a2, h2, h⟩ := some_of h;
    obtain ⟨e, g⟩ := skN_of h
    subst e
    exact ⟨[(0, .ref a0), (1, .int a1), (2, .int a2)], cons_all (xr_of h0) (cons_all (xi_of h1) (cons_all (xi_of h2) (nil_all))), (E_X7_set_67 fu n a0 a1 a2 w).symm.trans g⟩
  · cases h
theorem H_X7_set (fu : Nat) : ∀ as w o, U_X7_set fu as w = some o → ∃ a r, as = .ref a :: r ∧ r.length = 2 ∧ isO w a 6 = true := by
  intro as w o h
  unfold U_X7_set at h
  split at h
  next =>
    split at h
    next hh => exact ⟨_, _, rfl, rfl, hh⟩
    next => cases h
  next => cases h
set_option maxRecDepth 100000 in
set_option maxHeartbeats 4000000 in
theorem S_X7_set (fu : Nat) {l : Launch} {D : va_G} {cA : Nat → ClassId} {base b : Nat} : CS l D cA base b 3 y_X7_set prog_1_method_8_code 3 (some .int) (U_X7_set fu) ∧ OM (U_X7_set fu) := by
  refine CS_of (d := 2) (y := y_X7_set) (cc := prog_1_method_8_code) (nL := 3) (ret := (some .int)) (F := U_X7_set fu) (fl := fl_BrookStones) (nl := nl_BrookStones) (kl := []) (k2 := k2_BrookStones) (mv := [(119, 2, 1, (U_X0_isStone fu)), (77, 2, 1, (U_X0_isCell fu)), (144, 2, 0, (U_X0_takeUp fu))]) (ms := [(94, 2, 1, (U_X7_has fu))]) (mi := []) (ini := false) hI_w hZ_w fl_BrookStones_ok nl_BrookStones_ok nil_all k2_BrookStones_ok
    (cons_all (⟨⟨show (1 : Nat) ≠ 3 by decide, y_X0_isStone, prog_2_method_5_code, 2, (some .boolean), 1, "BrookStones", 0, TX0, 15, 1, (S_X0_isStone fu (l := l) (D := D) (cA := cA) (base := base) (b := b)).1, by decide, by decide, rfl, H_X0_isStone fu, rfl, mi_X0_isStone.1, mi_X0_isStone.2.1, mi_X0_isStone.2.2.1, mi_X0_isStone.2.2.2.1, mi_X0_isStone.2.2.2.2, Or.inr (tblN_of (i := 350) rfl rfl)⟩, (S_X0_isStone fu (l := l) (D := D) (cA := cA) (base := base) (b := b)).2⟩) (cons_all (⟨⟨show (1 : Nat) ≠ 3 by decide, y_X0_isCell, prog_2_method_4_code, 2, (some .boolean), 1, "BrookStones", 0, TX0, 15, 1, (S_X0_isCell fu (l := l) (D := D) (cA := cA) (base := base) (b := b)).1, by decide, by decide, rfl, H_X0_isCell fu, rfl, mi_X0_isCell.1, mi_X0_isCell.2.1, mi_X0_isCell.2.2.1, mi_X0_isCell.2.2.2.1, mi_X0_isCell.2.2.2.2, Or.inr (tblN_of (i := 314) rfl rfl)⟩, (S_X0_isCell fu (l := l) (D := D) (cA := cA) (base := base) (b := b)).2⟩) (cons_all (⟨⟨show (0 : Nat) ≠ 3 by decide, y_X0_takeUp, prog_2_method_15_code, 3, (none), 2, "BrookStones", 0, TX0, 15, 1, (S_X0_takeUp fu (l := l) (D := D) (cA := cA) (base := base) (b := b)).1, by decide, by decide, rfl, H_X0_takeUp fu, rfl, mi_X0_takeUp.1, mi_X0_takeUp.2.1, mi_X0_takeUp.2.2.1, mi_X0_takeUp.2.2.2.1, mi_X0_takeUp.2.2.2.2, Or.inr (tblN_of (i := 366) rfl rfl)⟩, (S_X0_takeUp fu (l := l) (D := D) (cA := cA) (base := base) (b := b)).2⟩) (nil_all))))
    (cons_all (⟨Or.inl ⟨show (1 : Nat) ≠ 3 by decide, y_X7_has, prog_1_method_47_code, 2, (some .boolean), 1, "BrookStones", (S_X7_has fu (l := l) (D := D) (cA := cA) (base := base) (b := b)).1, by decide, by decide, mi_X7_has.1, mi_X7_has.2.1, mi_X7_has.2.2.1, mi_X7_has.2.2.2, Or.inl (tblG_of (i := 318) rfl rfl)⟩, (S_X7_has fu (l := l) (D := D) (cA := cA) (base := base) (b := b)).2⟩) (nil_all))
    (nil_all)
    (T := T_X7_set) (by decide +kernel) (cut := [30, 67]) (N := 50) (D_X7_set fu) (by decide +kernel) (fun h => absurd h (by decide)) (fun as w o h => ?_)
  unfold U_X7_set at h
  split at h
  next =>
    split at h
    next => exact ⟨Nat.le_of_ble_eq_true rfl, fu, (E_X7_set fu _ _ _ w).symm.trans h⟩
    next => cases h
  next => cases h
def T_X8_set : List (Nat × Instr) := [(0, .aload_n 0), (1, .iload_n 1), (2, .invokevirtual 149), (5, .ifCond .eq 17), (8, .iload_n 2), (9, .bipush (-9)), (11, .if_icmp .eq 13), (14, .aload_n 0), (15, .iload_n 2), (16, .invokevirtual 142), (19, .ifCond .ne 5), (22, .iconst (-1)), (23, .ireturn), (24, .aload_n 0), (25, .getfield 50), (28, .iload_n 1), (29, .iaload), (30, .bipush (-5)), (32, .if_icmp .eq 20), (35, .iload_n 2), (36, .bipush (-9)), (38, .if_icmp .eq 17), (41, .aload_n 0), (42, .getfield 29), (45, .iload_n 2), (46, .iaload), (47, .bipush (-9)), (49, .if_icmp .eq 6), (52, .bipush (-3)), (54, .ireturn), (55, .aload_n 0), (56, .getfield 50), (59, .iload_n 1), (60, .iaload), (61, .bipush (-9)), (63, .if_icmp .eq 16), (66, .aload_n 0), (67, .getfield 29), (70, .aload_n 0), (71, .getfield 50), (74, .iload_n 1), (75, .iaload), (76, .bipush (-9)), (78, .iastore), (79, .aload_n 0), (80, .getfield 50), (83, .iload_n 1), (84, .iload_n 2), (85, .iastore), (86, .iload_n 2), (87, .bipush (-9)), (89, .if_icmp .eq 10), (92, .aload_n 0), (93, .getfield 29), (96, .iload_n 2), (97, .iload_n 1), (98, .iastore), (99, .iconst 1), (100, .ireturn)]
def op_X8_set (fu : Nat) : Nat → Kont → XL → List Value → XW → Instr → Option XO := opK 3 (rzOf (some .int)) fl_BrookStonesModel [] kl_BrookStonesModel k2_BrookStonesModel [(149, 2, 1, (U_X8_isStone fu)), (142, 2, 1, (U_X8_isCell fu))] [] []
def F_X8_set (fu : Nat) : Nat → (Nat → Int32 → Int32 → XW → Option XO) × (Nat → Int32 → Int32 → XW → Option XO) × (Nat → Int32 → Int32 → XW → Option XO)
  | 0 => (fun _ _ _ _ => none, fun _ _ _ _ => none, fun _ _ _ _ => none)
  | n + 1 => ((fun a0 a1 a2 w =>
    (gR w a0 7 22).bind fun r1 =>
    (aI w r1 a1).bind fun x2 =>
    (if x2 = (-5 : Int32) then
      some (some (.int (-3 : Int32)), w)
    else
      (if a2 = (-9 : Int32) then
        (F_X8_set fu n).2.1 a0 a1 a2 w
      else
        (gR w a0 7 11).bind fun r3 =>
        (aI w r3 a2).bind fun x4 =>
        (if x4 = (-9 : Int32) then
          (F_X8_set fu n).2.1 a0 a1 a2 w
        else
          some (some (.int (-3 : Int32)), w))))),
   (fun a0 a1 a2 w =>
    (gR w a0 7 22).bind fun r5 =>
    (aI w r5 a1).bind fun x6 =>
    (if x6 = (-9 : Int32) then
      (F_X8_set fu n).2.2 a0 a1 a2 w
    else
      (gR w a0 7 11).bind fun r7 =>
      (gR w a0 7 22).bind fun r8 =>
      (aI w r8 a1).bind fun x9 =>
      (sI w r7 x9 (-9 : Int32)).bind fun w10 =>
      (F_X8_set fu n).2.2 a0 a1 a2 w10)),
   (fun a0 a1 a2 w =>
    (gR w a0 7 22).bind fun r11 =>
    (sI w r11 a1 a2).bind fun w12 =>
    (if a2 = (-9 : Int32) then
      some (some (.int (1 : Int32)), w12)
    else
      (gR w12 a0 7 11).bind fun r13 =>
      (sI w12 r13 a2 a1).bind fun w14 =>
      some (some (.int (1 : Int32)), w14))))
def M_X8_set (fu : Nat) (a0 : Nat) (a1 : Int32) (a2 : Int32) (w : XW) : Option XO :=
  cI (U_X8_isStone fu [.ref a0, .int a1] w) fun x16 w15 =>
  (if x16 = 0 then
    some (some (.int (-1 : Int32)), w15)
  else
    (if a2 = (-9 : Int32) then
      (F_X8_set fu fu).1 a0 a1 a2 w15
    else
      cI (U_X8_isCell fu [.ref a0, .int a2] w15) fun x18 w17 =>
      (if x18 = 0 then
        some (some (.int (-1 : Int32)), w17)
      else
        (F_X8_set fu fu).1 a0 a1 a2 w17)))
def U_X8_set (fu : Nat) : Orc := fun as w => match as with
  | [.ref a0, .int a1, .int a2] => if isO w a0 7 = true then M_X8_set fu a0 a1 a2 w else none
  | _ => none
def K_X8_set (fu : Nat) (n : Nat) : Kont := fun pc ls st w => bif pc == 24 then ((xr ls 0).bind fun a0 => (xi ls 1).bind fun a1 => (xi ls 2).bind fun a2 => skN st ((F_X8_set fu n).1 a0 a1 a2 w)) else bif pc == 55 then ((xr ls 0).bind fun a0 => (xi ls 1).bind fun a1 => (xi ls 2).bind fun a2 => skN st ((F_X8_set fu n).2.1 a0 a1 a2 w)) else bif pc == 79 then ((xr ls 0).bind fun a0 => (xi ls 1).bind fun a1 => (xi ls 2).bind fun a2 => skN st ((F_X8_set fu n).2.2 a0 a1 a2 w)) else none
set_option maxRecDepth 100000 in
set_option maxHeartbeats 4000000 in
theorem E_X8_set_24 (fu : Nat) (n : Nat) (a0 : Nat) (a1 : Int32) (a2 : Int32) (w : XW) : (F_X8_set fu (n + 1)).1 a0 a1 a2 w = ev T_X8_set (op_X8_set fu) [24, 55, 79] (K_X8_set fu n) 61 24 [(0, .ref a0), (1, .int a1), (2, .int a2)] [] w := by
  rfl
set_option maxRecDepth 100000 in
set_option maxHeartbeats 4000000 in
theorem E_X8_set_55 (fu : Nat) (n : Nat) (a0 : Nat) (a1 : Int32) (a2 : Int32) (w : XW) : (F_X8_set fu (n + 1)).2.1 a0 a1 a2 w = ev T_X8_set (op_X8_set fu) [24, 55, 79] (K_X8_set fu n) 61 55 [(0, .ref a0), (1, .int a1), (2, .int a2)] [] w := by
  rfl
set_option maxRecDepth 100000 in
set_option maxHeartbeats 4000000 in
theorem E_X8_set_79 (fu : Nat) (n : Nat) (a0 : Nat) (a1 : Int32) (a2 : Int32) (w : XW) : (F_X8_set fu (n + 1)).2.2 a0 a1 a2 w = ev T_X8_set (op_X8_set fu) [24, 55, 79] (K_X8_set fu n) 61 79 [(0, .ref a0), (1, .int a1), (2, .int a2)] [] w := by
  rfl
set_option maxRecDepth 100000 in
set_option maxHeartbeats 4000000 in
theorem E_X8_set (fu : Nat) (a0 : Nat) (a1 : Int32) (a2 : Int32) (w : XW) : M_X8_set fu a0 a1 a2 w = ev T_X8_set (op_X8_set fu) [24, 55, 79] (K_X8_set fu fu) 61 0 (lv_args 0 [.ref a0, .int a1, .int a2]) [] w := by
  rfl
theorem D_X8_set (fu : Nat) : DS T_X8_set (op_X8_set fu) [24, 55, 79] 61 (K_X8_set fu) := by
  refine ⟨fun pc ls st w => c_none (b_none fun _ => b_none fun _ => b_none fun _ => skN_none rfl) (c_none (b_none fun _ => b_none fun _ => b_none fun _ => skN_none rfl) (c_none (b_none fun _ => b_none fun _ => b_none fun _ => skN_none rfl) (rfl))), fun n pc ls st w o h => ?_⟩
  rcases c_some h with ⟨rfl, h⟩ | h
  · obtain ⟨a0, h0, h⟩ := some_of h; obtain ⟨a1, h1, h⟩ := some_of h; obtain ⟨a2, h2, h⟩ := some_of h;
    obtain ⟨e, g⟩ := skN_of h
    subst e
    exact ⟨[(0, .ref a0), (1, .int a1), (2, .int a2)], cons_all (xr_of h0) (cons_all (xi_of h1) (cons_all (xi_of h2) (nil_all))), (E_X8_set_24 fu n a0 a1 a2 w).symm.trans g⟩
  rcases c_some h with ⟨rfl, h⟩ | h
  · obtain ⟨a0, h0, h⟩ := some_of h; obtain ⟨a1, h1, h⟩ := some_of h; obtain ⟨a2, h2, h⟩ := some_of h;
    obtain ⟨e, g⟩ := skN_of h
    subst e
    exact ⟨[(0, .ref a0), (1, .int a1), (2, .int a2)], cons_all (xr_of h0) (cons_all (xi_of h1) (cons_all (xi_of h2) (nil_all))), (E_X8_set_55 fu n a0 a1 a2 w).symm.trans g⟩
  rcases c_some h with ⟨rfl, h⟩ | h
  · obtain ⟨a0, h0, h⟩ := some_of h; obtain ⟨a1, h1, h⟩ := some_of h; obtain ⟨a2, h2, h⟩ := some_of h;
    obtain ⟨e, g⟩ := skN_of h
    subst e
    exact ⟨[(0, .ref a0), (1, .int a1), (2, .int a2)], cons_all (xr_of h0) (cons_all (xi_of h1) (cons_all (xi_of h2) (nil_all))), (E_X8_set_79 fu n a0 a1 a2 w).symm.trans g⟩
  · cases h
theorem H_X8_set (fu : Nat) : ∀ as w o, U_X8_set fu as w = some o → ∃ a r, as = .ref a :: r ∧ r.length = 2 ∧ isO w a 7 = true := by
  intro as w o h
  unfold U_X8_set at h
  split at h
  next =>
    split at h
    next hh => exact ⟨_, _, rfl, rfl, hh⟩
    next => cases h
  next => cases h
set_option maxRecDepth 100000 in
set_option maxHeartbeats 4000000 in
theorem S_X8_set (fu : Nat) {l : Launch} {D : va_G} {cA : Nat → ClassId} {base b : Nat} : CS l D cA base b 2 y_X8_set prog_10_method_23_code 3 (some .int) (U_X8_set fu) ∧ OM (U_X8_set fu) := by
  refine CS_of (d := 1) (y := y_X8_set) (cc := prog_10_method_23_code) (nL := 3) (ret := (some .int)) (F := U_X8_set fu) (fl := fl_BrookStonesModel) (nl := []) (kl := kl_BrookStonesModel) (k2 := k2_BrookStonesModel) (mv := [(149, 2, 1, (U_X8_isStone fu)), (142, 2, 1, (U_X8_isCell fu))]) (ms := []) (mi := []) (ini := false) hI_w hZ_w fl_BrookStonesModel_ok nil_all kl_BrookStonesModel_ok k2_BrookStonesModel_ok
    (cons_all (⟨⟨show (1 : Nat) ≠ 3 by decide, y_X8_isStone, prog_10_method_19_code, 2, (some .boolean), 1, "BrookStones", 7, TX8, 37, 1, (S_X8_isStone fu (l := l) (D := D) (cA := cA) (base := base) (b := b)).1, by decide, by decide, rfl, H_X8_isStone fu, rfl, mi_X8_isStone.1, mi_X8_isStone.2.1, mi_X8_isStone.2.2.1, mi_X8_isStone.2.2.2.1, mi_X8_isStone.2.2.2.2, Or.inl (tblG_of (i := 915) rfl rfl)⟩, (S_X8_isStone fu (l := l) (D := D) (cA := cA) (base := base) (b := b)).2⟩) (cons_all (⟨⟨show (1 : Nat) ≠ 3 by decide, y_X8_isCell, prog_10_method_10_code, 2, (some .boolean), 1, "BrookStones", 7, TX8, 37, 1, (S_X8_isCell fu (l := l) (D := D) (cA := cA) (base := base) (b := b)).1, by decide, by decide, rfl, H_X8_isCell fu, rfl, mi_X8_isCell.1, mi_X8_isCell.2.1, mi_X8_isCell.2.2.1, mi_X8_isCell.2.2.2.1, mi_X8_isCell.2.2.2.2, Or.inl (tblG_of (i := 891) rfl rfl)⟩, (S_X8_isCell fu (l := l) (D := D) (cA := cA) (base := base) (b := b)).2⟩) (nil_all)))
    (nil_all)
    (nil_all)
    (T := T_X8_set) (by decide +kernel) (cut := [24, 55, 79]) (N := 61) (D_X8_set fu) (by decide +kernel) (fun h => absurd h (by decide)) (fun as w o h => ?_)
  unfold U_X8_set at h
  split at h
  next =>
    split at h
    next => exact ⟨Nat.le_of_ble_eq_true rfl, fu, (E_X8_set fu _ _ _ w).symm.trans h⟩
    next => cases h
  next => cases h
def T_X0_workOf : List (Nat × Instr) := [(0, .aload_n 0), (1, .getfield 27), (4, .iload_n 1), (5, .iaload), (6, .aload_n 0), (7, .getfield 30), (10, .iload_n 1), (11, .iaload), (12, .iload_n 2), (13, .iadd), (14, .iconst 1), (15, .iadd), (16, .imul), (17, .istore_n 3), (18, .aload_n 0), (19, .getfield 21), (22, .iload_n 1), (23, .iaload), (24, .iconst 2), (25, .if_icmp .ne 9), (28, .iconst 3), (29, .iload_n 3), (30, .imul), (31, .goto 4), (34, .iload_n 3), (35, .ireturn)]
def op_X0_workOf (fu : Nat) : Nat → Kont → XL → List Value → XW → Instr → Option XO := opK 4 (rzOf (some .int)) fl_BrookStones_Brook [] [] [] [] [] []
def M_X0_workOf (fu : Nat) (a0 : Nat) (a1 : Int32) (a2 : Int32) (w : XW) : Option XO :=
  (gR w a0 0 5).bind fun r1 =>
  (aI w r1 a1).bind fun x2 =>
  (gR w a0 0 6).bind fun r3 =>
  (aI w r3 a1).bind fun x4 =>
  (gR w a0 0 3).bind fun r5 =>
  (aI w r5 a1).bind fun x6 =>
  (if x6 = (2 : Int32) then
    some (some (.int ((3 : Int32) * (x2 * ((x4 + a2) + (1 : Int32))))), w)
  else
    some (some (.int (x2 * ((x4 + a2) + (1 : Int32)))), w))
def U_X0_workOf (fu : Nat) : Orc := fun as w => match as with
  | [.ref a0, .int a1, .int a2] => if isO w a0 0 = true then M_X0_workOf fu a0 a1 a2 w else none
  | _ => none
def K_X0_workOf (fu : Nat) (n : Nat) : Kont := fun pc ls st w => none
set_option maxRecDepth 100000 in
set_option maxHeartbeats 4000000 in
theorem E_X0_workOf (fu : Nat) (a0 : Nat) (a1 : Int32) (a2 : Int32) (w : XW) : M_X0_workOf fu a0 a1 a2 w = ev T_X0_workOf (op_X0_workOf fu) [] (K_X0_workOf fu fu) 28 0 (lv_args 0 [.ref a0, .int a1, .int a2]) [] w := by
  rfl
theorem D_X0_workOf (fu : Nat) : DS T_X0_workOf (op_X0_workOf fu) [] 28 (K_X0_workOf fu) := by
  refine ⟨fun pc ls st w => rfl, fun n pc ls st w o h => ?_⟩
  cases h
theorem H_X0_workOf (fu : Nat) : ∀ as w o, U_X0_workOf fu as w = some o → ∃ a r, as = .ref a :: r ∧ r.length = 2 ∧ isO w a 0 = true := by
  intro as w o h
  unfold U_X0_workOf at h
  split at h
  next =>
    split at h
    next hh => exact ⟨_, _, rfl, rfl, hh⟩
    next => cases h
  next => cases h
set_option maxRecDepth 100000 in
set_option maxHeartbeats 4000000 in
theorem S_X0_workOf (fu : Nat) {l : Launch} {D : va_G} {cA : Nat → ClassId} {base b : Nat} : CS l D cA base b 1 y_X0_workOf prog_2_method_12_code 4 (some .int) (U_X0_workOf fu) ∧ OM (U_X0_workOf fu) := by
  refine CS_of (d := 0) (y := y_X0_workOf) (cc := prog_2_method_12_code) (nL := 4) (ret := (some .int)) (F := U_X0_workOf fu) (fl := fl_BrookStones_Brook) (nl := []) (kl := []) (k2 := []) (mv := []) (ms := []) (mi := []) (ini := false) hI_w hZ_w fl_BrookStones_Brook_ok nil_all nil_all nil_all
    (nil_all)
    (nil_all)
    (nil_all)
    (T := T_X0_workOf) (by decide +kernel) (cut := []) (N := 28) (D_X0_workOf fu) (by decide +kernel) (fun h => absurd h (by decide)) (fun as w o h => ?_)
  unfold U_X0_workOf at h
  split at h
  next =>
    split at h
    next => exact ⟨Nat.le_of_ble_eq_true rfl, fu, (E_X0_workOf fu _ _ _ w).symm.trans h⟩
    next => cases h
  next => cases h
def T_X7_work : List (Nat × Instr) := [(0, .aload_n 0), (1, .getfield 12), (4, .iload_n 1), (5, .invokevirtual 119), (8, .ifCond .eq 14), (11, .aload_n 0), (12, .getfield 12), (15, .iload_n 2), (16, .invokevirtual 77), (19, .ifCond .ne 5), (22, .iconst (-1)), (23, .ireturn), (24, .aload_n 0), (25, .getfield 12), (28, .iload_n 1), (29, .iload_n 2), (30, .invokevirtual 148), (33, .ireturn)]
def op_X7_work (fu : Nat) : Nat → Kont → XL → List Value → XW → Instr → Option XO := opK 3 (rzOf (some .int)) fl_BrookStones nl_BrookStones [] k2_BrookStones [(119, 2, 1, (U_X0_isStone fu)), (77, 2, 1, (U_X0_isCell fu)), (148, 3, 1, (U_X0_workOf fu))] [] []
def M_X7_work (fu : Nat) (a0 : Nat) (a1 : Int32) (a2 : Int32) (w : XW) : Option XO :=
  (gR w a0 6 0).bind fun r1 =>
  cI (U_X0_isStone fu [.ref r1, .int a1] w) fun x3 w2 =>
  (if x3 = 0 then
    some (some (.int (-1 : Int32)), w2)
  else
    (gR w2 a0 6 0).bind fun r4 =>
    cI (U_X0_isCell fu [.ref r4, .int a2] w2) fun x6 w5 =>
    (if x6 = 0 then
      some (some (.int (-1 : Int32)), w5)
    else
      (gR w5 a0 6 0).bind fun r7 =>
      cI (U_X0_workOf fu [.ref r7, .int a1, .int a2] w5) fun x9 w8 =>
      some (some (.int x9), w8)))
def U_X7_work (fu : Nat) : Orc := fun as w => match as with
  | [.ref a0, .int a1, .int a2] => if isO w a0 6 = true then M_X7_work fu a0 a1 a2 w else none
  | _ => none
def K_X7_work (fu : Nat) (n : Nat) : Kont := fun pc ls st w => none
set_option maxRecDepth 100000 in
set_option maxHeartbeats 4000000 in
theorem E_X7_work (fu : Nat) (a0 : Nat) (a1 : Int32) (a2 : Int32) (w : XW) : M_X7_work fu a0 a1 a2 w = ev T_X7_work (op_X7_work fu) [] (K_X7_work fu fu) 20 0 (lv_args 0 [.ref a0, .int a1, .int a2]) [] w := by
  rfl
theorem D_X7_work (fu : Nat) : DS T_X7_work (op_X7_work fu) [] 20 (K_X7_work fu) := by
  refine ⟨fun pc ls st w => rfl, fun n pc ls st w o h => ?_⟩
  cases h
theorem H_X7_work (fu : Nat) : ∀ as w o, U_X7_work fu as w = some o → ∃ a r, as = .ref a :: r ∧ r.length = 2 ∧ isO w a 6 = true := by
  intro as w o h
  unfold U_X7_work at h
  split at h
  next =>
    split at h
    next hh => exact ⟨_, _, rfl, rfl, hh⟩
    next => cases h
  next => cases h
set_option maxRecDepth 100000 in
set_option maxHeartbeats 4000000 in
theorem S_X7_work (fu : Nat) {l : Launch} {D : va_G} {cA : Nat → ClassId} {base b : Nat} : CS l D cA base b 2 y_X7_work prog_1_method_9_code 3 (some .int) (U_X7_work fu) ∧ OM (U_X7_work fu) := by
  refine CS_of (d := 1) (y := y_X7_work) (cc := prog_1_method_9_code) (nL := 3) (ret := (some .int)) (F := U_X7_work fu) (fl := fl_BrookStones) (nl := nl_BrookStones) (kl := []) (k2 := k2_BrookStones) (mv := [(119, 2, 1, (U_X0_isStone fu)), (77, 2, 1, (U_X0_isCell fu)), (148, 3, 1, (U_X0_workOf fu))]) (ms := []) (mi := []) (ini := false) hI_w hZ_w fl_BrookStones_ok nl_BrookStones_ok nil_all k2_BrookStones_ok
    (cons_all (⟨⟨show (1 : Nat) ≠ 3 by decide, y_X0_isStone, prog_2_method_5_code, 2, (some .boolean), 1, "BrookStones", 0, TX0, 15, 1, (S_X0_isStone fu (l := l) (D := D) (cA := cA) (base := base) (b := b)).1, by decide, by decide, rfl, H_X0_isStone fu, rfl, mi_X0_isStone.1, mi_X0_isStone.2.1, mi_X0_isStone.2.2.1, mi_X0_isStone.2.2.2.1, mi_X0_isStone.2.2.2.2, Or.inr (tblN_of (i := 350) rfl rfl)⟩, (S_X0_isStone fu (l := l) (D := D) (cA := cA) (base := base) (b := b)).2⟩) (cons_all (⟨⟨show (1 : Nat) ≠ 3 by decide, y_X0_isCell, prog_2_method_4_code, 2, (some .boolean), 1, "BrookStones", 0, TX0, 15, 1, (S_X0_isCell fu (l := l) (D := D) (cA := cA) (base := base) (b := b)).1, by decide, by decide, rfl, H_X0_isCell fu, rfl, mi_X0_isCell.1, mi_X0_isCell.2.1, mi_X0_isCell.2.2.1, mi_X0_isCell.2.2.2.1, mi_X0_isCell.2.2.2.2, Or.inr (tblN_of (i := 314) rfl rfl)⟩, (S_X0_isCell fu (l := l) (D := D) (cA := cA) (base := base) (b := b)).2⟩) (cons_all (⟨⟨show (1 : Nat) ≠ 3 by decide, y_X0_workOf, prog_2_method_12_code, 4, (some .int), 1, "BrookStones", 0, TX0, 15, 2, (S_X0_workOf fu (l := l) (D := D) (cA := cA) (base := base) (b := b)).1, by decide, by decide, rfl, H_X0_workOf fu, rfl, mi_X0_workOf.1, mi_X0_workOf.2.1, mi_X0_workOf.2.2.1, mi_X0_workOf.2.2.2.1, mi_X0_workOf.2.2.2.2, Or.inr (tblN_of (i := 375) rfl rfl)⟩, (S_X0_workOf fu (l := l) (D := D) (cA := cA) (base := base) (b := b)).2⟩) (nil_all))))
    (nil_all)
    (nil_all)
    (T := T_X7_work) (by decide +kernel) (cut := []) (N := 20) (D_X7_work fu) (by decide +kernel) (fun h => absurd h (by decide)) (fun as w o h => ?_)
  unfold U_X7_work at h
  split at h
  next =>
    split at h
    next => exact ⟨Nat.le_of_ble_eq_true rfl, fu, (E_X7_work fu _ _ _ w).symm.trans h⟩
    next => cases h
  next => cases h
def T_X8_workOf : List (Nat × Instr) := [(0, .aload_n 0), (1, .getfield 44), (4, .iload_n 1), (5, .iaload), (6, .aload_n 0), (7, .getfield 47), (10, .iload_n 1), (11, .iaload), (12, .iload_n 2), (13, .iadd), (14, .iconst 1), (15, .iadd), (16, .imul), (17, .istore_n 3), (18, .aload_n 0), (19, .getfield 38), (22, .iload_n 1), (23, .iaload), (24, .iconst 2), (25, .if_icmp .ne 9), (28, .iconst 3), (29, .iload_n 3), (30, .imul), (31, .goto 4), (34, .iload_n 3), (35, .ireturn)]
def op_X8_workOf (fu : Nat) : Nat → Kont → XL → List Value → XW → Instr → Option XO := opK 4 (rzOf (some .int)) fl_BrookStonesModel [] kl_BrookStonesModel k2_BrookStonesModel [] [] []
def M_X8_workOf (fu : Nat) (a0 : Nat) (a1 : Int32) (a2 : Int32) (w : XW) : Option XO :=
  (gR w a0 7 20).bind fun r1 =>
  (aI w r1 a1).bind fun x2 =>
  (gR w a0 7 21).bind fun r3 =>
  (aI w r3 a1).bind fun x4 =>
  (gR w a0 7 18).bind fun r5 =>
  (aI w r5 a1).bind fun x6 =>
  (if x6 = (2 : Int32) then
    some (some (.int ((3 : Int32) * (x2 * ((x4 + a2) + (1 : Int32))))), w)
  else
    some (some (.int (x2 * ((x4 + a2) + (1 : Int32)))), w))
def U_X8_workOf (fu : Nat) : Orc := fun as w => match as with
  | [.ref a0, .int a1, .int a2] => if isO w a0 7 = true then M_X8_workOf fu a0 a1 a2 w else none
  | _ => none
def K_X8_workOf (fu : Nat) (n : Nat) : Kont := fun pc ls st w => none
set_option maxRecDepth 100000 in
set_option maxHeartbeats 4000000 in
theorem E_X8_workOf (fu : Nat) (a0 : Nat) (a1 : Int32) (a2 : Int32) (w : XW) : M_X8_workOf fu a0 a1 a2 w = ev T_X8_workOf (op_X8_workOf fu) [] (K_X8_workOf fu fu) 28 0 (lv_args 0 [.ref a0, .int a1, .int a2]) [] w := by
  rfl
theorem D_X8_workOf (fu : Nat) : DS T_X8_workOf (op_X8_workOf fu) [] 28 (K_X8_workOf fu) := by
  refine ⟨fun pc ls st w => rfl, fun n pc ls st w o h => ?_⟩
  cases h
theorem H_X8_workOf (fu : Nat) : ∀ as w o, U_X8_workOf fu as w = some o → ∃ a r, as = .ref a :: r ∧ r.length = 2 ∧ isO w a 7 = true := by
  intro as w o h
  unfold U_X8_workOf at h
  split at h
  next =>
    split at h
    next hh => exact ⟨_, _, rfl, rfl, hh⟩
    next => cases h
  next => cases h
set_option maxRecDepth 100000 in
set_option maxHeartbeats 4000000 in
theorem S_X8_workOf (fu : Nat) {l : Launch} {D : va_G} {cA : Nat → ClassId} {base b : Nat} : CS l D cA base b 1 y_X8_workOf prog_10_method_24_code 4 (some .int) (U_X8_workOf fu) ∧ OM (U_X8_workOf fu) := by
  refine CS_of (d := 0) (y := y_X8_workOf) (cc := prog_10_method_24_code) (nL := 4) (ret := (some .int)) (F := U_X8_workOf fu) (fl := fl_BrookStonesModel) (nl := []) (kl := kl_BrookStonesModel) (k2 := k2_BrookStonesModel) (mv := []) (ms := []) (mi := []) (ini := false) hI_w hZ_w fl_BrookStonesModel_ok nil_all kl_BrookStonesModel_ok k2_BrookStonesModel_ok
    (nil_all)
    (nil_all)
    (nil_all)
    (T := T_X8_workOf) (by decide +kernel) (cut := []) (N := 28) (D_X8_workOf fu) (by decide +kernel) (fun h => absurd h (by decide)) (fun as w o h => ?_)
  unfold U_X8_workOf at h
  split at h
  next =>
    split at h
    next => exact ⟨Nat.le_of_ble_eq_true rfl, fu, (E_X8_workOf fu _ _ _ w).symm.trans h⟩
    next => cases h
  next => cases h
def T_X8_work : List (Nat × Instr) := [(0, .aload_n 0), (1, .iload_n 1), (2, .invokevirtual 149), (5, .ifCond .eq 20), (8, .aload_n 0), (9, .iload_n 2), (10, .invokevirtual 142), (13, .ifCond .eq 12), (16, .aload_n 0), (17, .iload_n 1), (18, .iload_n 2), (19, .invokevirtual 155), (22, .goto 4), (25, .iconst (-1)), (26, .ireturn)]
def op_X8_work (fu : Nat) : Nat → Kont → XL → List Value → XW → Instr → Option XO := opK 3 (rzOf (some .int)) fl_BrookStonesModel [] kl_BrookStonesModel k2_BrookStonesModel [(149, 2, 1, (U_X8_isStone fu)), (142, 2, 1, (U_X8_isCell fu)), (155, 3, 1, (U_X8_workOf fu))] [] []
def M_X8_work (fu : Nat) (a0 : Nat) (a1 : Int32) (a2 : Int32) (w : XW) : Option XO :=
  cI (U_X8_isStone fu [.ref a0, .int a1] w) fun x2 w1 =>
  (if x2 = 0 then
    some (some (.int (-1 : Int32)), w1)
  else
    cI (U_X8_isCell fu [.ref a0, .int a2] w1) fun x4 w3 =>
    (if x4 = 0 then
      some (some (.int (-1 : Int32)), w3)
    else
      cI (U_X8_workOf fu [.ref a0, .int a1, .int a2] w3) fun x6 w5 =>
      some (some (.int x6), w5)))
def U_X8_work (fu : Nat) : Orc := fun as w => match as with
  | [.ref a0, .int a1, .int a2] => if isO w a0 7 = true then M_X8_work fu a0 a1 a2 w else none
  | _ => none
def K_X8_work (fu : Nat) (n : Nat) : Kont := fun pc ls st w => none
set_option maxRecDepth 100000 in
set_option maxHeartbeats 4000000 in
theorem E_X8_work (fu : Nat) (a0 : Nat) (a1 : Int32) (a2 : Int32) (w : XW) : M_X8_work fu a0 a1 a2 w = ev T_X8_work (op_X8_work fu) [] (K_X8_work fu fu) 17 0 (lv_args 0 [.ref a0, .int a1, .int a2]) [] w := by
  rfl
theorem D_X8_work (fu : Nat) : DS T_X8_work (op_X8_work fu) [] 17 (K_X8_work fu) := by
  refine ⟨fun pc ls st w => rfl, fun n pc ls st w o h => ?_⟩
  cases h
theorem H_X8_work (fu : Nat) : ∀ as w o, U_X8_work fu as w = some o → ∃ a r, as = .ref a :: r ∧ r.length = 2 ∧ isO w a 7 = true := by
  intro as w o h
  unfold U_X8_work at h
  split at h
  next =>
    split at h
    next hh => exact ⟨_, _, rfl, rfl, hh⟩
    next => cases h
  next => cases h
set_option maxRecDepth 100000 in
set_option maxHeartbeats 4000000 in
theorem S_X8_work (fu : Nat) {l : Launch} {D : va_G} {cA : Nat → ClassId} {base b : Nat} : CS l D cA base b 2 y_X8_work prog_10_method_25_code 3 (some .int) (U_X8_work fu) ∧ OM (U_X8_work fu) := by
  refine CS_of (d := 1) (y := y_X8_work) (cc := prog_10_method_25_code) (nL := 3) (ret := (some .int)) (F := U_X8_work fu) (fl := fl_BrookStonesModel) (nl := []) (kl := kl_BrookStonesModel) (k2 := k2_BrookStonesModel) (mv := [(149, 2, 1, (U_X8_isStone fu)), (142, 2, 1, (U_X8_isCell fu)), (155, 3, 1, (U_X8_workOf fu))]) (ms := []) (mi := []) (ini := false) hI_w hZ_w fl_BrookStonesModel_ok nil_all kl_BrookStonesModel_ok k2_BrookStonesModel_ok
    (cons_all (⟨⟨show (1 : Nat) ≠ 3 by decide, y_X8_isStone, prog_10_method_19_code, 2, (some .boolean), 1, "BrookStones", 7, TX8, 37, 1, (S_X8_isStone fu (l := l) (D := D) (cA := cA) (base := base) (b := b)).1, by decide, by decide, rfl, H_X8_isStone fu, rfl, mi_X8_isStone.1, mi_X8_isStone.2.1, mi_X8_isStone.2.2.1, mi_X8_isStone.2.2.2.1, mi_X8_isStone.2.2.2.2, Or.inl (tblG_of (i := 915) rfl rfl)⟩, (S_X8_isStone fu (l := l) (D := D) (cA := cA) (base := base) (b := b)).2⟩) (cons_all (⟨⟨show (1 : Nat) ≠ 3 by decide, y_X8_isCell, prog_10_method_10_code, 2, (some .boolean), 1, "BrookStones", 7, TX8, 37, 1, (S_X8_isCell fu (l := l) (D := D) (cA := cA) (base := base) (b := b)).1, by decide, by decide, rfl, H_X8_isCell fu, rfl, mi_X8_isCell.1, mi_X8_isCell.2.1, mi_X8_isCell.2.2.1, mi_X8_isCell.2.2.2.1, mi_X8_isCell.2.2.2.2, Or.inl (tblG_of (i := 891) rfl rfl)⟩, (S_X8_isCell fu (l := l) (D := D) (cA := cA) (base := base) (b := b)).2⟩) (cons_all (⟨⟨show (1 : Nat) ≠ 3 by decide, y_X8_workOf, prog_10_method_24_code, 4, (some .int), 1, "BrookStones", 7, TX8, 37, 2, (S_X8_workOf fu (l := l) (D := D) (cA := cA) (base := base) (b := b)).1, by decide, by decide, rfl, H_X8_workOf fu, rfl, mi_X8_workOf.1, mi_X8_workOf.2.1, mi_X8_workOf.2.2.1, mi_X8_workOf.2.2.2.1, mi_X8_workOf.2.2.2.2, Or.inl (tblG_of (i := 931) rfl rfl)⟩, (S_X8_workOf fu (l := l) (D := D) (cA := cA) (base := base) (b := b)).2⟩) (nil_all))))
    (nil_all)
    (nil_all)
    (T := T_X8_work) (by decide +kernel) (cut := []) (N := 17) (D_X8_work fu) (by decide +kernel) (fun h => absurd h (by decide)) (fun as w o h => ?_)
  unfold U_X8_work at h
  split at h
  next =>
    split at h
    next => exact ⟨Nat.le_of_ble_eq_true rfl, fu, (E_X8_work fu _ _ _ w).symm.trans h⟩
    next => cases h
  next => cases h
def T_X0_addWalker : List (Nat × Instr) := [(0, .aload_n 0), (1, .getfield 33), (4, .aload_n 0), (5, .getfield 55), (8, .iload_n 1), (9, .iastore), (10, .aload_n 0), (11, .dup), (12, .getfield 55), (15, .iconst 1), (16, .iadd), (17, .putfield 55), (20, .aload_n 0), (21, .getfield 55), (24, .iconst 1), (25, .isub), (26, .ireturn)]
def op_X0_addWalker (fu : Nat) : Nat → Kont → XL → List Value → XW → Instr → Option XO := opK 2 (rzOf (some .int)) fl_BrookStones_Brook [] [] [] [] [] []
def M_X0_addWalker (fu : Nat) (a0 : Nat) (a1 : Int32) (w : XW) : Option XO :=
  (gR w a0 0 7).bind fun r1 =>
  (gI w a0 0 14).bind fun x2 =>
  (sI w r1 x2 a1).bind fun w3 =>
  (gI w3 a0 0 14).bind fun x4 =>
  (pF w3 a0 0 14 (.int (x4 + (1 : Int32)))).bind fun w5 =>
  (gI w5 a0 0 14).bind fun x6 =>
  some (some (.int (x6 - (1 : Int32))), w5)
def U_X0_addWalker (fu : Nat) : Orc := fun as w => match as with
  | [.ref a0, .int a1] => if isO w a0 0 = true then M_X0_addWalker fu a0 a1 w else none
  | _ => none
def K_X0_addWalker (fu : Nat) (n : Nat) : Kont := fun pc ls st w => none
set_option maxRecDepth 100000 in
set_option maxHeartbeats 4000000 in
theorem E_X0_addWalker (fu : Nat) (a0 : Nat) (a1 : Int32) (w : XW) : M_X0_addWalker fu a0 a1 w = ev T_X0_addWalker (op_X0_addWalker fu) [] (K_X0_addWalker fu fu) 19 0 (lv_args 0 [.ref a0, .int a1]) [] w := by
  rfl
theorem D_X0_addWalker (fu : Nat) : DS T_X0_addWalker (op_X0_addWalker fu) [] 19 (K_X0_addWalker fu) := by
  refine ⟨fun pc ls st w => rfl, fun n pc ls st w o h => ?_⟩
  cases h
theorem H_X0_addWalker (fu : Nat) : ∀ as w o, U_X0_addWalker fu as w = some o → ∃ a r, as = .ref a :: r ∧ r.length = 1 ∧ isO w a 0 = true := by
  intro as w o h
  unfold U_X0_addWalker at h
  split at h
  next =>
    split at h
    next hh => exact ⟨_, _, rfl, rfl, hh⟩
    next => cases h
  next => cases h
set_option maxRecDepth 100000 in
set_option maxHeartbeats 4000000 in
theorem S_X0_addWalker (fu : Nat) {l : Launch} {D : va_G} {cA : Nat → ClassId} {base b : Nat} : CS l D cA base b 1 y_X0_addWalker prog_2_method_8_code 2 (some .int) (U_X0_addWalker fu) ∧ OM (U_X0_addWalker fu) := by
  refine CS_of (d := 0) (y := y_X0_addWalker) (cc := prog_2_method_8_code) (nL := 2) (ret := (some .int)) (F := U_X0_addWalker fu) (fl := fl_BrookStones_Brook) (nl := []) (kl := []) (k2 := []) (mv := []) (ms := []) (mi := []) (ini := false) hI_w hZ_w fl_BrookStones_Brook_ok nil_all nil_all nil_all
    (nil_all)
    (nil_all)
    (nil_all)
    (T := T_X0_addWalker) (by decide +kernel) (cut := []) (N := 19) (D_X0_addWalker fu) (by decide +kernel) (fun h => absurd h (by decide)) (fun as w o h => ?_)
  unfold U_X0_addWalker at h
  split at h
  next =>
    split at h
    next => exact ⟨Nat.le_of_ble_eq_true rfl, fu, (E_X0_addWalker fu _ _ w).symm.trans h⟩
    next => cases h
  next => cases h
def T_X7_walker : List (Nat × Instr) := [(0, .iload_n 1), (1, .iconst 1), (2, .bipush 9), (4, .invokestatic 105), (7, .ifCond .ne 6), (10, .bipush (-2)), (12, .ireturn), (13, .aload_n 0), (14, .getfield 12), (17, .invokevirtual 109), (20, .ifCond .ne 6), (23, .bipush (-3)), (25, .ireturn), (26, .aload_n 0), (27, .getfield 12), (30, .getfield 152), (33, .bipush 6), (35, .if_icmp .lt 6), (38, .bipush (-4)), (40, .ireturn), (41, .aload_n 0), (42, .getfield 12), (45, .iload_n 1), (46, .invokevirtual 155), (49, .ireturn)]
def op_X7_walker (fu : Nat) : Nat → Kont → XL → List Value → XW → Instr → Option XO := opK 2 (rzOf (some .int)) fl_BrookStones nl_BrookStones [] k2_BrookStones [(109, 1, 1, (U_X0_isThere fu)), (155, 2, 1, (U_X0_addWalker fu))] [(105, 3, 1, (U_X7_isWithin fu))] []
def M_X7_walker (fu : Nat) (a0 : Nat) (a1 : Int32) (w : XW) : Option XO :=
  cI (U_X7_isWithin fu [.int a1, .int (1 : Int32), .int (9 : Int32)] w) fun x2 w1 =>
  (if x2 = 0 then
    some (some (.int (-2 : Int32)), w1)
  else
    (gR w1 a0 6 0).bind fun r3 =>
    cI (U_X0_isThere fu [.ref r3] w1) fun x5 w4 =>
    (if x5 = 0 then
      some (some (.int (-3 : Int32)), w4)
    else
      (gR w4 a0 6 0).bind fun r6 =>
      (gI w4 r6 0 14).bind fun x7 =>
      (if x7 < (6 : Int32) then
        (gR w4 a0 6 0).bind fun r8 =>
        cI (U_X0_addWalker fu [.ref r8, .int a1] w4) fun x10 w9 =>
        some (some (.int x10), w9)
      else
        some (some (.int (-4 : Int32)), w4))))
def U_X7_walker (fu : Nat) : Orc := fun as w => match as with
  | [.ref a0, .int a1] => if isO w a0 6 = true then M_X7_walker fu a0 a1 w else none
  | _ => none
def K_X7_walker (fu : Nat) (n : Nat) : Kont := fun pc ls st w => none
set_option maxRecDepth 100000 in
set_option maxHeartbeats 4000000 in
theorem E_X7_walker (fu : Nat) (a0 : Nat) (a1 : Int32) (w : XW) : M_X7_walker fu a0 a1 w = ev T_X7_walker (op_X7_walker fu) [] (K_X7_walker fu fu) 27 0 (lv_args 0 [.ref a0, .int a1]) [] w := by
  rfl
theorem D_X7_walker (fu : Nat) : DS T_X7_walker (op_X7_walker fu) [] 27 (K_X7_walker fu) := by
  refine ⟨fun pc ls st w => rfl, fun n pc ls st w o h => ?_⟩
  cases h
theorem H_X7_walker (fu : Nat) : ∀ as w o, U_X7_walker fu as w = some o → ∃ a r, as = .ref a :: r ∧ r.length = 1 ∧ isO w a 6 = true := by
  intro as w o h
  unfold U_X7_walker at h
  split at h
  next =>
    split at h
    next hh => exact ⟨_, _, rfl, rfl, hh⟩
    next => cases h
  next => cases h
set_option maxRecDepth 100000 in
set_option maxHeartbeats 4000000 in
theorem S_X7_walker (fu : Nat) {l : Launch} {D : va_G} {cA : Nat → ClassId} {base b : Nat} : CS l D cA base b 2 y_X7_walker prog_1_method_10_code 2 (some .int) (U_X7_walker fu) ∧ OM (U_X7_walker fu) := by
  refine CS_of (d := 1) (y := y_X7_walker) (cc := prog_1_method_10_code) (nL := 2) (ret := (some .int)) (F := U_X7_walker fu) (fl := fl_BrookStones) (nl := nl_BrookStones) (kl := []) (k2 := k2_BrookStones) (mv := [(109, 1, 1, (U_X0_isThere fu)), (155, 2, 1, (U_X0_addWalker fu))]) (ms := [(105, 3, 1, (U_X7_isWithin fu))]) (mi := []) (ini := false) hI_w hZ_w fl_BrookStones_ok nl_BrookStones_ok nil_all k2_BrookStones_ok
    (cons_all (⟨⟨show (1 : Nat) ≠ 3 by decide, y_X0_isThere, prog_2_method_3_code, 1, (some .boolean), 1, "BrookStones", 0, TX0, 15, 0, (S_X0_isThere fu (l := l) (D := D) (cA := cA) (base := base) (b := b)).1, by decide, by decide, rfl, H_X0_isThere fu, rfl, mi_X0_isThere.1, mi_X0_isThere.2.1, mi_X0_isThere.2.2.1, mi_X0_isThere.2.2.2.1, mi_X0_isThere.2.2.2.2, Or.inr (tblN_of (i := 334) rfl rfl)⟩, (S_X0_isThere fu (l := l) (D := D) (cA := cA) (base := base) (b := b)).2⟩) (cons_all (⟨⟨show (1 : Nat) ≠ 3 by decide, y_X0_addWalker, prog_2_method_8_code, 2, (some .int), 1, "BrookStones", 0, TX0, 15, 1, (S_X0_addWalker fu (l := l) (D := D) (cA := cA) (base := base) (b := b)).1, by decide, by decide, rfl, H_X0_addWalker fu, rfl, mi_X0_addWalker.1, mi_X0_addWalker.2.1, mi_X0_addWalker.2.2.1, mi_X0_addWalker.2.2.2.1, mi_X0_addWalker.2.2.2.2, Or.inr (tblN_of (i := 383) rfl rfl)⟩, (S_X0_addWalker fu (l := l) (D := D) (cA := cA) (base := base) (b := b)).2⟩) (nil_all)))
    (cons_all (⟨Or.inl ⟨show (1 : Nat) ≠ 3 by decide, y_X7_isWithin, prog_1_method_46_code, 3, (some .boolean), 1, "BrookStones", (S_X7_isWithin fu (l := l) (D := D) (cA := cA) (base := base) (b := b)).1, by decide, by decide, mi_X7_isWithin.1, mi_X7_isWithin.2.1, mi_X7_isWithin.2.2.1, mi_X7_isWithin.2.2.2, Or.inl (tblG_of (i := 333) rfl rfl)⟩, (S_X7_isWithin fu (l := l) (D := D) (cA := cA) (base := base) (b := b)).2⟩) (nil_all))
    (nil_all)
    (T := T_X7_walker) (by decide +kernel) (cut := []) (N := 27) (D_X7_walker fu) (by decide +kernel) (fun h => absurd h (by decide)) (fun as w o h => ?_)
  unfold U_X7_walker at h
  split at h
  next =>
    split at h
    next => exact ⟨Nat.le_of_ble_eq_true rfl, fu, (E_X7_walker fu _ _ w).symm.trans h⟩
    next => cases h
  next => cases h
def T_X8_walker : List (Nat × Instr) := [(0, .iload_n 1), (1, .iconst 1), (2, .bipush 9), (4, .invokestatic 89), (7, .ifCond .ne 6), (10, .bipush (-2)), (12, .ireturn), (13, .aload_n 0), (14, .getfield 93), (17, .ifCond .ne 6), (20, .bipush (-3)), (22, .ireturn), (23, .aload_n 0), (24, .getfield 132), (27, .bipush 6), (29, .if_icmp .ne 6), (32, .bipush (-4)), (34, .ireturn), (35, .aload_n 0), (36, .getfield 53), (39, .aload_n 0), (40, .getfield 132), (43, .iload_n 1), (44, .iastore), (45, .aload_n 0), (46, .dup), (47, .getfield 132), (50, .iconst 1), (51, .iadd), (52, .putfield 132), (55, .aload_n 0), (56, .getfield 132), (59, .iconst 1), (60, .isub), (61, .ireturn)]
def op_X8_walker (fu : Nat) : Nat → Kont → XL → List Value → XW → Instr → Option XO := opK 2 (rzOf (some .int)) fl_BrookStonesModel [] kl_BrookStonesModel k2_BrookStonesModel [] [(89, 3, 1, (U_X8_within fu))] []
def M_X8_walker (fu : Nat) (a0 : Nat) (a1 : Int32) (w : XW) : Option XO :=
  cI (U_X8_within fu [.int a1, .int (1 : Int32), .int (9 : Int32)] w) fun x2 w1 =>
  (if x2 = 0 then
    some (some (.int (-2 : Int32)), w1)
  else
    (gI w1 a0 7 5).bind fun x3 =>
    (if x3 = 0 then
      some (some (.int (-3 : Int32)), w1)
    else
      (gI w1 a0 7 23).bind fun x4 =>
      (if x4 = (6 : Int32) then
        some (some (.int (-4 : Int32)), w1)
      else
        (gR w1 a0 7 24).bind fun r5 =>
        (gI w1 a0 7 23).bind fun x6 =>
        (sI w1 r5 x6 a1).bind fun w7 =>
        (gI w7 a0 7 23).bind fun x8 =>
        (pF w7 a0 7 23 (.int (x8 + (1 : Int32)))).bind fun w9 =>
        (gI w9 a0 7 23).bind fun x10 =>
        some (some (.int (x10 - (1 : Int32))), w9))))
def U_X8_walker (fu : Nat) : Orc := fun as w => match as with
  | [.ref a0, .int a1] => if isO w a0 7 = true then M_X8_walker fu a0 a1 w else none
  | _ => none
def K_X8_walker (fu : Nat) (n : Nat) : Kont := fun pc ls st w => none
set_option maxRecDepth 100000 in
set_option maxHeartbeats 4000000 in
theorem E_X8_walker (fu : Nat) (a0 : Nat) (a1 : Int32) (w : XW) : M_X8_walker fu a0 a1 w = ev T_X8_walker (op_X8_walker fu) [] (K_X8_walker fu fu) 37 0 (lv_args 0 [.ref a0, .int a1]) [] w := by
  rfl
theorem D_X8_walker (fu : Nat) : DS T_X8_walker (op_X8_walker fu) [] 37 (K_X8_walker fu) := by
  refine ⟨fun pc ls st w => rfl, fun n pc ls st w o h => ?_⟩
  cases h
theorem H_X8_walker (fu : Nat) : ∀ as w o, U_X8_walker fu as w = some o → ∃ a r, as = .ref a :: r ∧ r.length = 1 ∧ isO w a 7 = true := by
  intro as w o h
  unfold U_X8_walker at h
  split at h
  next =>
    split at h
    next hh => exact ⟨_, _, rfl, rfl, hh⟩
    next => cases h
  next => cases h
set_option maxRecDepth 100000 in
set_option maxHeartbeats 4000000 in
theorem S_X8_walker (fu : Nat) {l : Launch} {D : va_G} {cA : Nat → ClassId} {base b : Nat} : CS l D cA base b 2 y_X8_walker prog_10_method_27_code 2 (some .int) (U_X8_walker fu) ∧ OM (U_X8_walker fu) := by
  refine CS_of (d := 1) (y := y_X8_walker) (cc := prog_10_method_27_code) (nL := 2) (ret := (some .int)) (F := U_X8_walker fu) (fl := fl_BrookStonesModel) (nl := []) (kl := kl_BrookStonesModel) (k2 := k2_BrookStonesModel) (mv := []) (ms := [(89, 3, 1, (U_X8_within fu))]) (mi := []) (ini := false) hI_w hZ_w fl_BrookStonesModel_ok nil_all kl_BrookStonesModel_ok k2_BrookStonesModel_ok
    (nil_all)
    (cons_all (⟨Or.inl ⟨show (1 : Nat) ≠ 3 by decide, y_X8_within, prog_10_method_5_code, 3, (some .boolean), 1, "BrookStones", (S_X8_within fu (l := l) (D := D) (cA := cA) (base := base) (b := b)).1, by decide, by decide, mi_X8_within.1, mi_X8_within.2.1, mi_X8_within.2.2.1, mi_X8_within.2.2.2, Or.inl (tblG_of (i := 861) rfl rfl)⟩, (S_X8_within fu (l := l) (D := D) (cA := cA) (base := base) (b := b)).2⟩) (nil_all))
    (nil_all)
    (T := T_X8_walker) (by decide +kernel) (cut := []) (N := 37) (D_X8_walker fu) (by decide +kernel) (fun h => absurd h (by decide)) (fun as w o h => ?_)
  unfold U_X8_walker at h
  split at h
  next =>
    split at h
    next => exact ⟨Nat.le_of_ble_eq_true rfl, fu, (E_X8_walker fu _ _ w).symm.trans h⟩
    next => cases h
  next => cases h
def T_X0_isWalker : List (Nat × Instr) := [(0, .iload_n 1), (1, .ifCond .lt 15), (4, .iload_n 1), (5, .aload_n 0), (6, .getfield 55), (9, .if_icmp .ge 7), (12, .iconst 1), (13, .goto 4), (16, .iconst 0), (17, .ireturn)]
def op_X0_isWalker (fu : Nat) : Nat → Kont → XL → List Value → XW → Instr → Option XO := opK 2 (rzOf (some .boolean)) fl_BrookStones_Brook [] [] [] [] [] []
def M_X0_isWalker (fu : Nat) (a0 : Nat) (a1 : Int32) (w : XW) : Option XO :=
  (if a1 < 0 then
    retZ (0 : Int32) w
  else
    (gI w a0 0 14).bind fun x1 =>
    (if a1 < x1 then
      retZ (1 : Int32) w
    else
      retZ (0 : Int32) w))
def U_X0_isWalker (fu : Nat) : Orc := fun as w => match as with
  | [.ref a0, .int a1] => if isO w a0 0 = true then M_X0_isWalker fu a0 a1 w else none
  | _ => none
def K_X0_isWalker (fu : Nat) (n : Nat) : Kont := fun pc ls st w => none
set_option maxRecDepth 100000 in
set_option maxHeartbeats 4000000 in
theorem E_X0_isWalker (fu : Nat) (a0 : Nat) (a1 : Int32) (w : XW) : M_X0_isWalker fu a0 a1 w = ev T_X0_isWalker (op_X0_isWalker fu) [] (K_X0_isWalker fu fu) 12 0 (lv_args 0 [.ref a0, .int a1]) [] w := by
  rfl
theorem D_X0_isWalker (fu : Nat) : DS T_X0_isWalker (op_X0_isWalker fu) [] 12 (K_X0_isWalker fu) := by
  refine ⟨fun pc ls st w => rfl, fun n pc ls st w o h => ?_⟩
  cases h
theorem H_X0_isWalker (fu : Nat) : ∀ as w o, U_X0_isWalker fu as w = some o → ∃ a r, as = .ref a :: r ∧ r.length = 1 ∧ isO w a 0 = true := by
  intro as w o h
  unfold U_X0_isWalker at h
  split at h
  next =>
    split at h
    next hh => exact ⟨_, _, rfl, rfl, hh⟩
    next => cases h
  next => cases h
set_option maxRecDepth 100000 in
set_option maxHeartbeats 4000000 in
theorem S_X0_isWalker (fu : Nat) {l : Launch} {D : va_G} {cA : Nat → ClassId} {base b : Nat} : CS l D cA base b 1 y_X0_isWalker prog_2_method_6_code 2 (some .boolean) (U_X0_isWalker fu) ∧ OM (U_X0_isWalker fu) := by
  refine CS_of (d := 0) (y := y_X0_isWalker) (cc := prog_2_method_6_code) (nL := 2) (ret := (some .boolean)) (F := U_X0_isWalker fu) (fl := fl_BrookStones_Brook) (nl := []) (kl := []) (k2 := []) (mv := []) (ms := []) (mi := []) (ini := false) hI_w hZ_w fl_BrookStones_Brook_ok nil_all nil_all nil_all
    (nil_all)
    (nil_all)
    (nil_all)
    (T := T_X0_isWalker) (by decide +kernel) (cut := []) (N := 12) (D_X0_isWalker fu) (by decide +kernel) (fun h => absurd h (by decide)) (fun as w o h => ?_)
  unfold U_X0_isWalker at h
  split at h
  next =>
    split at h
    next => exact ⟨Nat.le_of_ble_eq_true rfl, fu, (E_X0_isWalker fu _ _ w).symm.trans h⟩
    next => cases h
  next => cases h
def T_X7_stride : List (Nat × Instr) := [(0, .aload_n 0), (1, .getfield 12), (4, .iload_n 1), (5, .invokevirtual 158), (8, .ifCond .eq 15), (11, .aload_n 0), (12, .getfield 12), (15, .getfield 161), (18, .iload_n 1), (19, .iaload), (20, .goto 4), (23, .iconst (-1)), (24, .ireturn)]
def op_X7_stride (fu : Nat) : Nat → Kont → XL → List Value → XW → Instr → Option XO := opK 2 (rzOf (some .int)) fl_BrookStones nl_BrookStones [] k2_BrookStones [(158, 2, 1, (U_X0_isWalker fu))] [] []
def M_X7_stride (fu : Nat) (a0 : Nat) (a1 : Int32) (w : XW) : Option XO :=
  (gR w a0 6 0).bind fun r1 =>
  cI (U_X0_isWalker fu [.ref r1, .int a1] w) fun x3 w2 =>
  (if x3 = 0 then
    some (some (.int (-1 : Int32)), w2)
  else
    (gR w2 a0 6 0).bind fun r4 =>
    (gR w2 r4 0 7).bind fun r5 =>
    (aI w2 r5 a1).bind fun x6 =>
    some (some (.int x6), w2))
def U_X7_stride (fu : Nat) : Orc := fun as w => match as with
  | [.ref a0, .int a1] => if isO w a0 6 = true then M_X7_stride fu a0 a1 w else none
  | _ => none
def K_X7_stride (fu : Nat) (n : Nat) : Kont := fun pc ls st w => none
set_option maxRecDepth 100000 in
set_option maxHeartbeats 4000000 in
theorem E_X7_stride (fu : Nat) (a0 : Nat) (a1 : Int32) (w : XW) : M_X7_stride fu a0 a1 w = ev T_X7_stride (op_X7_stride fu) [] (K_X7_stride fu fu) 15 0 (lv_args 0 [.ref a0, .int a1]) [] w := by
  rfl
theorem D_X7_stride (fu : Nat) : DS T_X7_stride (op_X7_stride fu) [] 15 (K_X7_stride fu) := by
  refine ⟨fun pc ls st w => rfl, fun n pc ls st w o h => ?_⟩
  cases h
theorem H_X7_stride (fu : Nat) : ∀ as w o, U_X7_stride fu as w = some o → ∃ a r, as = .ref a :: r ∧ r.length = 1 ∧ isO w a 6 = true := by
  intro as w o h
  unfold U_X7_stride at h
  split at h
  next =>
    split at h
    next hh => exact ⟨_, _, rfl, rfl, hh⟩
    next => cases h
  next => cases h
set_option maxRecDepth 100000 in
set_option maxHeartbeats 4000000 in
theorem S_X7_stride (fu : Nat) {l : Launch} {D : va_G} {cA : Nat → ClassId} {base b : Nat} : CS l D cA base b 2 y_X7_stride prog_1_method_11_code 2 (some .int) (U_X7_stride fu) ∧ OM (U_X7_stride fu) := by
  refine CS_of (d := 1) (y := y_X7_stride) (cc := prog_1_method_11_code) (nL := 2) (ret := (some .int)) (F := U_X7_stride fu) (fl := fl_BrookStones) (nl := nl_BrookStones) (kl := []) (k2 := k2_BrookStones) (mv := [(158, 2, 1, (U_X0_isWalker fu))]) (ms := []) (mi := []) (ini := false) hI_w hZ_w fl_BrookStones_ok nl_BrookStones_ok nil_all k2_BrookStones_ok
    (cons_all (⟨⟨show (1 : Nat) ≠ 3 by decide, y_X0_isWalker, prog_2_method_6_code, 2, (some .boolean), 1, "BrookStones", 0, TX0, 15, 1, (S_X0_isWalker fu (l := l) (D := D) (cA := cA) (base := base) (b := b)).1, by decide, by decide, rfl, H_X0_isWalker fu, rfl, mi_X0_isWalker.1, mi_X0_isWalker.2.1, mi_X0_isWalker.2.2.1, mi_X0_isWalker.2.2.2.1, mi_X0_isWalker.2.2.2.2, Or.inr (tblN_of (i := 391) rfl rfl)⟩, (S_X0_isWalker fu (l := l) (D := D) (cA := cA) (base := base) (b := b)).2⟩) (nil_all))
    (nil_all)
    (nil_all)
    (T := T_X7_stride) (by decide +kernel) (cut := []) (N := 15) (D_X7_stride fu) (by decide +kernel) (fun h => absurd h (by decide)) (fun as w o h => ?_)
  unfold U_X7_stride at h
  split at h
  next =>
    split at h
    next => exact ⟨Nat.le_of_ble_eq_true rfl, fu, (E_X7_stride fu _ _ w).symm.trans h⟩
    next => cases h
  next => cases h
def T_X8_isWalker : List (Nat × Instr) := [(0, .iload_n 1), (1, .ifCond .lt 15), (4, .iload_n 1), (5, .aload_n 0), (6, .getfield 132), (9, .if_icmp .ge 7), (12, .iconst 1), (13, .goto 4), (16, .iconst 0), (17, .ireturn)]
def op_X8_isWalker (fu : Nat) : Nat → Kont → XL → List Value → XW → Instr → Option XO := opK 2 (rzOf (some .boolean)) fl_BrookStonesModel [] kl_BrookStonesModel k2_BrookStonesModel [] [] []
def M_X8_isWalker (fu : Nat) (a0 : Nat) (a1 : Int32) (w : XW) : Option XO :=
  (if a1 < 0 then
    retZ (0 : Int32) w
  else
    (gI w a0 7 23).bind fun x1 =>
    (if a1 < x1 then
      retZ (1 : Int32) w
    else
      retZ (0 : Int32) w))
def U_X8_isWalker (fu : Nat) : Orc := fun as w => match as with
  | [.ref a0, .int a1] => if isO w a0 7 = true then M_X8_isWalker fu a0 a1 w else none
  | _ => none
def K_X8_isWalker (fu : Nat) (n : Nat) : Kont := fun pc ls st w => none
set_option maxRecDepth 100000 in
set_option maxHeartbeats 4000000 in
theorem E_X8_isWalker (fu : Nat) (a0 : Nat) (a1 : Int32) (w : XW) : M_X8_isWalker fu a0 a1 w = ev T_X8_isWalker (op_X8_isWalker fu) [] (K_X8_isWalker fu fu) 12 0 (lv_args 0 [.ref a0, .int a1]) [] w := by
  rfl
theorem D_X8_isWalker (fu : Nat) : DS T_X8_isWalker (op_X8_isWalker fu) [] 12 (K_X8_isWalker fu) := by
  refine ⟨fun pc ls st w => rfl, fun n pc ls st w o h => ?_⟩
  cases h
theorem H_X8_isWalker (fu : Nat) : ∀ as w o, U_X8_isWalker fu as w = some o → ∃ a r, as = .ref a :: r ∧ r.length = 1 ∧ isO w a 7 = true := by
  intro as w o h
  unfold U_X8_isWalker at h
  split at h
  next =>
    split at h
    next hh => exact ⟨_, _, rfl, rfl, hh⟩
    next => cases h
  next => cases h
set_option maxRecDepth 100000 in
set_option maxHeartbeats 4000000 in
theorem S_X8_isWalker (fu : Nat) {l : Launch} {D : va_G} {cA : Nat → ClassId} {base b : Nat} : CS l D cA base b 1 y_X8_isWalker prog_10_method_26_code 2 (some .boolean) (U_X8_isWalker fu) ∧ OM (U_X8_isWalker fu) := by
  refine CS_of (d := 0) (y := y_X8_isWalker) (cc := prog_10_method_26_code) (nL := 2) (ret := (some .boolean)) (F := U_X8_isWalker fu) (fl := fl_BrookStonesModel) (nl := []) (kl := kl_BrookStonesModel) (k2 := k2_BrookStonesModel) (mv := []) (ms := []) (mi := []) (ini := false) hI_w hZ_w fl_BrookStonesModel_ok nil_all kl_BrookStonesModel_ok k2_BrookStonesModel_ok
    (nil_all)
    (nil_all)
    (nil_all)
    (T := T_X8_isWalker) (by decide +kernel) (cut := []) (N := 12) (D_X8_isWalker fu) (by decide +kernel) (fun h => absurd h (by decide)) (fun as w o h => ?_)
  unfold U_X8_isWalker at h
  split at h
  next =>
    split at h
    next => exact ⟨Nat.le_of_ble_eq_true rfl, fu, (E_X8_isWalker fu _ _ w).symm.trans h⟩
    next => cases h
  next => cases h
def T_X8_stride : List (Nat × Instr) := [(0, .aload_n 0), (1, .iload_n 1), (2, .invokevirtual 158), (5, .ifCond .eq 12), (8, .aload_n 0), (9, .getfield 53), (12, .iload_n 1), (13, .iaload), (14, .goto 4), (17, .iconst (-1)), (18, .ireturn)]
def op_X8_stride (fu : Nat) : Nat → Kont → XL → List Value → XW → Instr → Option XO := opK 2 (rzOf (some .int)) fl_BrookStonesModel [] kl_BrookStonesModel k2_BrookStonesModel [(158, 2, 1, (U_X8_isWalker fu))] [] []
def M_X8_stride (fu : Nat) (a0 : Nat) (a1 : Int32) (w : XW) : Option XO :=
  cI (U_X8_isWalker fu [.ref a0, .int a1] w) fun x2 w1 =>
  (if x2 = 0 then
    some (some (.int (-1 : Int32)), w1)
  else
    (gR w1 a0 7 24).bind fun r3 =>
    (aI w1 r3 a1).bind fun x4 =>
    some (some (.int x4), w1))
def U_X8_stride (fu : Nat) : Orc := fun as w => match as with
  | [.ref a0, .int a1] => if isO w a0 7 = true then M_X8_stride fu a0 a1 w else none
  | _ => none
def K_X8_stride (fu : Nat) (n : Nat) : Kont := fun pc ls st w => none
set_option maxRecDepth 100000 in
set_option maxHeartbeats 4000000 in
theorem E_X8_stride (fu : Nat) (a0 : Nat) (a1 : Int32) (w : XW) : M_X8_stride fu a0 a1 w = ev T_X8_stride (op_X8_stride fu) [] (K_X8_stride fu fu) 13 0 (lv_args 0 [.ref a0, .int a1]) [] w := by
  rfl
theorem D_X8_stride (fu : Nat) : DS T_X8_stride (op_X8_stride fu) [] 13 (K_X8_stride fu) := by
  refine ⟨fun pc ls st w => rfl, fun n pc ls st w o h => ?_⟩
  cases h
theorem H_X8_stride (fu : Nat) : ∀ as w o, U_X8_stride fu as w = some o → ∃ a r, as = .ref a :: r ∧ r.length = 1 ∧ isO w a 7 = true := by
  intro as w o h
  unfold U_X8_stride at h
  split at h
  next =>
    split at h
    next hh => exact ⟨_, _, rfl, rfl, hh⟩
    next => cases h
  next => cases h
set_option maxRecDepth 100000 in
set_option maxHeartbeats 4000000 in
theorem S_X8_stride (fu : Nat) {l : Launch} {D : va_G} {cA : Nat → ClassId} {base b : Nat} : CS l D cA base b 2 y_X8_stride prog_10_method_28_code 2 (some .int) (U_X8_stride fu) ∧ OM (U_X8_stride fu) := by
  refine CS_of (d := 1) (y := y_X8_stride) (cc := prog_10_method_28_code) (nL := 2) (ret := (some .int)) (F := U_X8_stride fu) (fl := fl_BrookStonesModel) (nl := []) (kl := kl_BrookStonesModel) (k2 := k2_BrookStonesModel) (mv := [(158, 2, 1, (U_X8_isWalker fu))]) (ms := []) (mi := []) (ini := false) hI_w hZ_w fl_BrookStonesModel_ok nil_all kl_BrookStonesModel_ok k2_BrookStonesModel_ok
    (cons_all (⟨⟨show (1 : Nat) ≠ 3 by decide, y_X8_isWalker, prog_10_method_26_code, 2, (some .boolean), 1, "BrookStones", 7, TX8, 37, 1, (S_X8_isWalker fu (l := l) (D := D) (cA := cA) (base := base) (b := b)).1, by decide, by decide, rfl, H_X8_isWalker fu, rfl, mi_X8_isWalker.1, mi_X8_isWalker.2.1, mi_X8_isWalker.2.2.1, mi_X8_isWalker.2.2.2.1, mi_X8_isWalker.2.2.2.2, Or.inl (tblG_of (i := 943) rfl rfl)⟩, (S_X8_isWalker fu (l := l) (D := D) (cA := cA) (base := base) (b := b)).2⟩) (nil_all))
    (nil_all)
    (nil_all)
    (T := T_X8_stride) (by decide +kernel) (cut := []) (N := 13) (D_X8_stride fu) (by decide +kernel) (fun h => absurd h (by decide)) (fun as w o h => ?_)
  unfold U_X8_stride at h
  split at h
  next =>
    split at h
    next => exact ⟨Nat.le_of_ble_eq_true rfl, fu, (E_X8_stride fu _ _ w).symm.trans h⟩
    next => cases h
  next => cases h
def T_X0_ofKind : List (Nat × Instr) := [(0, .iconst 0), (1, .istore_n 2), (2, .iconst 0), (3, .istore_n 3), (4, .iload_n 3), (5, .aload_n 0), (6, .getfield 58), (9, .if_icmp .ge 41), (12, .aload_n 0), (13, .getfield 18), (16, .iload_n 3), (17, .iaload), (18, .bipush (-9)), (20, .if_icmp .eq 24), (23, .aload_n 0), (24, .getfield 21), (27, .aload_n 0), (28, .getfield 18), (31, .iload_n 3), (32, .iaload), (33, .iaload), (34, .iload_n 1), (35, .if_icmp .lt 9), (38, .iload_n 2), (39, .iconst 1), (40, .iload_n 3), (41, .ishl), (42, .ior), (43, .istore_n 2), (44, .iinc 3 1), (47, .goto (-43)), (50, .iload_n 2), (51, .ireturn)]
def op_X0_ofKind (fu : Nat) : Nat → Kont → XL → List Value → XW → Instr → Option XO := opK 4 (rzOf (some .int)) fl_BrookStones_Brook [] [] [] [] [] []
def F_X0_ofKind (fu : Nat) : Nat → (Nat → Int32 → Int32 → Int32 → XW → Option XO)
  | 0 => fun _ _ _ _ _ => none
  | n + 1 => (fun a0 a1 a2 a3 w =>
    (gI w a0 0 8).bind fun x1 =>
    (if a3 < x1 then
      (gR w a0 0 2).bind fun r2 =>
      (aI w r2 a3).bind fun x3 =>
      (if x3 = (-9 : Int32) then
        (F_X0_ofKind fu n) a0 a1 a2 (a3 + (1 : Int32)) w
      else
        (gR w a0 0 3).bind fun r4 =>
        (gR w a0 0 2).bind fun r5 =>
        (aI w r5 a3).bind fun x6 =>
        (aI w r4 x6).bind fun x7 =>
        (if x7 < a1 then
          (F_X0_ofKind fu n) a0 a1 a2 (a3 + (1 : Int32)) w
        else
          (F_X0_ofKind fu n) a0 a1 (a2 ||| ((1 : Int32) <<< (a3 &&& 31))) (a3 + (1 : Int32)) w))
    else
      some (some (.int a2), w)))
def M_X0_ofKind (fu : Nat) (a0 : Nat) (a1 : Int32) (w : XW) : Option XO :=
  (F_X0_ofKind fu fu) a0 a1 (0 : Int32) (0 : Int32) w
def U_X0_ofKind (fu : Nat) : Orc := fun as w => match as with
  | [.ref a0, .int a1] => if isO w a0 0 = true then M_X0_ofKind fu a0 a1 w else none
  | _ => none
def K_X0_ofKind (fu : Nat) (n : Nat) : Kont := fun pc ls st w => bif pc == 4 then ((xr ls 0).bind fun a0 => (xi ls 1).bind fun a1 => (xi ls 2).bind fun a2 => (xi ls 3).bind fun a3 => skN st ((F_X0_ofKind fu n) a0 a1 a2 a3 w)) else none
set_option maxRecDepth 100000 in
set_option maxHeartbeats 4000000 in
theorem E_X0_ofKind_4 (fu : Nat) (n : Nat) (a0 : Nat) (a1 : Int32) (a2 : Int32) (a3 : Int32) (w : XW) : (F_X0_ofKind fu (n + 1)) a0 a1 a2 a3 w = ev T_X0_ofKind (op_X0_ofKind fu) [4] (K_X0_ofKind fu n) 35 4 [(0, .ref a0), (1, .int a1), (2, .int a2), (3, .int a3)] [] w := by
  rfl
set_option maxRecDepth 100000 in
set_option maxHeartbeats 4000000 in
theorem E_X0_ofKind (fu : Nat) (a0 : Nat) (a1 : Int32) (w : XW) : M_X0_ofKind fu a0 a1 w = ev T_X0_ofKind (op_X0_ofKind fu) [4] (K_X0_ofKind fu fu) 35 0 (lv_args 0 [.ref a0, .int a1]) [] w := by
  rfl
theorem D_X0_ofKind (fu : Nat) : DS T_X0_ofKind (op_X0_ofKind fu) [4] 35 (K_X0_ofKind fu) := by
  refine ⟨fun pc ls st w => c_none (b_none fun _ => b_none fun _ => b_none fun _ => b_none fun _ => skN_none rfl) (rfl), fun n pc ls st w o h => ?_⟩
  rcases c_some h with ⟨rfl, h⟩ | h
  · obtain ⟨a0, h0, h⟩ := some_of h; obtain ⟨a1, h1, h⟩ := some_of h; obtain ⟨a2, h2, h⟩ := some_of h; obtain ⟨a3, h3, h⟩ := some_of h;
    obtain ⟨e, g⟩ := skN_of h
    subst e
    exact ⟨[(0, .ref a0), (1, .int a1), (2, .int a2), (3, .int a3)], cons_all (xr_of h0) (cons_all (xi_of h1) (cons_all (xi_of h2) (cons_all (xi_of h3) (nil_all)))), (E_X0_ofKind_4 fu n a0 a1 a2 a3 w).symm.trans g⟩
  · cases h
theorem H_X0_ofKind (fu : Nat) : ∀ as w o, U_X0_ofKind fu as w = some o → ∃ a r, as = .ref a :: r ∧ r.length = 1 ∧ isO w a 0 = true := by
  intro as w o h
  unfold U_X0_ofKind at h
  split at h
  next =>
    split at h
    next hh => exact ⟨_, _, rfl, rfl, hh⟩
    next => cases h
  next => cases h
set_option maxRecDepth 100000 in
set_option maxHeartbeats 4000000 in
theorem S_X0_ofKind (fu : Nat) {l : Launch} {D : va_G} {cA : Nat → ClassId} {base b : Nat} : CS l D cA base b 1 y_X0_ofKind prog_2_method_18_code 4 (some .int) (U_X0_ofKind fu) ∧ OM (U_X0_ofKind fu) := by
  refine CS_of (d := 0) (y := y_X0_ofKind) (cc := prog_2_method_18_code) (nL := 4) (ret := (some .int)) (F := U_X0_ofKind fu) (fl := fl_BrookStones_Brook) (nl := []) (kl := []) (k2 := []) (mv := []) (ms := []) (mi := []) (ini := false) hI_w hZ_w fl_BrookStones_Brook_ok nil_all nil_all nil_all
    (nil_all)
    (nil_all)
    (nil_all)
    (T := T_X0_ofKind) (by decide +kernel) (cut := [4]) (N := 35) (D_X0_ofKind fu) (by decide +kernel) (fun h => absurd h (by decide)) (fun as w o h => ?_)
  unfold U_X0_ofKind at h
  split at h
  next =>
    split at h
    next => exact ⟨Nat.le_of_ble_eq_true rfl, fu, (E_X0_ofKind fu _ _ w).symm.trans h⟩
    next => cases h
  next => cases h
def T_X0_filled : List (Nat × Instr) := [(0, .aload_n 0), (1, .iconst 0), (2, .invokevirtual 69), (5, .ireturn)]
def op_X0_filled (fu : Nat) : Nat → Kont → XL → List Value → XW → Instr → Option XO := opK 1 (rzOf (some .int)) fl_BrookStones_Brook [] [] [] [(69, 2, 1, (U_X0_ofKind fu))] [] []
def M_X0_filled (fu : Nat) (a0 : Nat) (w : XW) : Option XO :=
  cI (U_X0_ofKind fu [.ref a0, .int (0 : Int32)] w) fun x2 w1 =>
  some (some (.int x2), w1)
def U_X0_filled (fu : Nat) : Orc := fun as w => match as with
  | [.ref a0] => if isO w a0 0 = true then M_X0_filled fu a0 w else none
  | _ => none
def K_X0_filled (fu : Nat) (n : Nat) : Kont := fun pc ls st w => none
set_option maxRecDepth 100000 in
set_option maxHeartbeats 4000000 in
theorem E_X0_filled (fu : Nat) (a0 : Nat) (w : XW) : M_X0_filled fu a0 w = ev T_X0_filled (op_X0_filled fu) [] (K_X0_filled fu fu) 6 0 (lv_args 0 [.ref a0]) [] w := by
  rfl
theorem D_X0_filled (fu : Nat) : DS T_X0_filled (op_X0_filled fu) [] 6 (K_X0_filled fu) := by
  refine ⟨fun pc ls st w => rfl, fun n pc ls st w o h => ?_⟩
  cases h
theorem H_X0_filled (fu : Nat) : ∀ as w o, U_X0_filled fu as w = some o → ∃ a r, as = .ref a :: r ∧ r.length = 0 ∧ isO w a 0 = true := by
  intro as w o h
  unfold U_X0_filled at h
  split at h
  next =>
    split at h
    next hh => exact ⟨_, _, rfl, rfl, hh⟩
    next => cases h
  next => cases h
set_option maxRecDepth 100000 in
set_option maxHeartbeats 4000000 in
theorem S_X0_filled (fu : Nat) {l : Launch} {D : va_G} {cA : Nat → ClassId} {base b : Nat} : CS l D cA base b 2 y_X0_filled prog_2_method_17_code 1 (some .int) (U_X0_filled fu) ∧ OM (U_X0_filled fu) := by
  refine CS_of (d := 1) (y := y_X0_filled) (cc := prog_2_method_17_code) (nL := 1) (ret := (some .int)) (F := U_X0_filled fu) (fl := fl_BrookStones_Brook) (nl := []) (kl := []) (k2 := []) (mv := [(69, 2, 1, (U_X0_ofKind fu))]) (ms := []) (mi := []) (ini := false) hI_w hZ_w fl_BrookStones_Brook_ok nil_all nil_all nil_all
    (cons_all (⟨⟨show (1 : Nat) ≠ 3 by decide, y_X0_ofKind, prog_2_method_18_code, 4, (some .int), 1, "BrookStones", 0, TX0, 15, 1, (S_X0_ofKind fu (l := l) (D := D) (cA := cA) (base := base) (b := b)).1, by decide, by decide, rfl, H_X0_ofKind fu, rfl, mi_X0_ofKind.1, mi_X0_ofKind.2.1, mi_X0_ofKind.2.2.1, mi_X0_ofKind.2.2.2.1, mi_X0_ofKind.2.2.2.2, Or.inl (tblG_of (i := 403) rfl rfl)⟩, (S_X0_ofKind fu (l := l) (D := D) (cA := cA) (base := base) (b := b)).2⟩) (nil_all))
    (nil_all)
    (nil_all)
    (T := T_X0_filled) (by decide +kernel) (cut := []) (N := 6) (D_X0_filled fu) (by decide +kernel) (fun h => absurd h (by decide)) (fun as w o h => ?_)
  unfold U_X0_filled at h
  split at h
  next =>
    split at h
    next => exact ⟨Nat.le_of_ble_eq_true rfl, fu, (E_X0_filled fu _ w).symm.trans h⟩
    next => cases h
  next => cases h
def T_X0_reachOf : List (Nat × Instr) := [(0, .iload_n 2), (1, .ifCond .eq 14), (4, .aload_n 0), (5, .getfield 33), (8, .iload_n 1), (9, .iaload), (10, .iconst 1), (11, .isub), (12, .goto 9), (15, .aload_n 0), (16, .getfield 33), (19, .iload_n 1), (20, .iaload), (21, .ireturn)]
def op_X0_reachOf (fu : Nat) : Nat → Kont → XL → List Value → XW → Instr → Option XO := opK 3 (rzOf (some .int)) fl_BrookStones_Brook [] [] [] [] [] []
def M_X0_reachOf (fu : Nat) (a0 : Nat) (a1 : Int32) (a2 : Int32) (w : XW) : Option XO :=
  (if a2 = 0 then
    (gR w a0 0 7).bind fun r1 =>
    (aI w r1 a1).bind fun x2 =>
    some (some (.int x2), w)
  else
    (gR w a0 0 7).bind fun r3 =>
    (aI w r3 a1).bind fun x4 =>
    some (some (.int (x4 - (1 : Int32))), w))
def U_X0_reachOf (fu : Nat) : Orc := fun as w => match as with
  | [.ref a0, .int a1, .int a2] => if isO w a0 0 = true then M_X0_reachOf fu a0 a1 a2 w else none
  | _ => none
def K_X0_reachOf (fu : Nat) (n : Nat) : Kont := fun pc ls st w => none
set_option maxRecDepth 100000 in
set_option maxHeartbeats 4000000 in
theorem E_X0_reachOf (fu : Nat) (a0 : Nat) (a1 : Int32) (a2 : Int32) (w : XW) : M_X0_reachOf fu a0 a1 a2 w = ev T_X0_reachOf (op_X0_reachOf fu) [] (K_X0_reachOf fu fu) 16 0 (lv_args 0 [.ref a0, .int a1, .int a2]) [] w := by
  rfl
theorem D_X0_reachOf (fu : Nat) : DS T_X0_reachOf (op_X0_reachOf fu) [] 16 (K_X0_reachOf fu) := by
  refine ⟨fun pc ls st w => rfl, fun n pc ls st w o h => ?_⟩
  cases h
theorem H_X0_reachOf (fu : Nat) : ∀ as w o, U_X0_reachOf fu as w = some o → ∃ a r, as = .ref a :: r ∧ r.length = 2 ∧ isO w a 0 = true := by
  intro as w o h
  unfold U_X0_reachOf at h
  split at h
  next =>
    split at h
    next hh => exact ⟨_, _, rfl, rfl, hh⟩
    next => cases h
  next => cases h
set_option maxRecDepth 100000 in
set_option maxHeartbeats 4000000 in
theorem S_X0_reachOf (fu : Nat) {l : Launch} {D : va_G} {cA : Nat → ClassId} {base b : Nat} : CS l D cA base b 1 y_X0_reachOf prog_2_method_9_code 3 (some .int) (U_X0_reachOf fu) ∧ OM (U_X0_reachOf fu) := by
  refine CS_of (d := 0) (y := y_X0_reachOf) (cc := prog_2_method_9_code) (nL := 3) (ret := (some .int)) (F := U_X0_reachOf fu) (fl := fl_BrookStones_Brook) (nl := []) (kl := []) (k2 := []) (mv := []) (ms := []) (mi := []) (ini := false) hI_w hZ_w fl_BrookStones_Brook_ok nil_all nil_all nil_all
    (nil_all)
    (nil_all)
    (nil_all)
    (T := T_X0_reachOf) (by decide +kernel) (cut := []) (N := 16) (D_X0_reachOf fu) (by decide +kernel) (fun h => absurd h (by decide)) (fun as w o h => ?_)
  unfold U_X0_reachOf at h
  split at h
  next =>
    split at h
    next => exact ⟨Nat.le_of_ble_eq_true rfl, fu, (E_X0_reachOf fu _ _ _ w).symm.trans h⟩
    next => cases h
  next => cases h
def T_X0_dry : List (Nat × Instr) := [(0, .iconst 0), (1, .istore_n 2), (2, .iconst 0), (3, .istore_n 3), (4, .iload_n 3), (5, .aload_n 0), (6, .getfield 58), (9, .if_icmp .ge 42), (12, .aload_n 0), (13, .getfield 18), (16, .iload_n 3), (17, .iaload), (18, .bipush (-9)), (20, .if_icmp .eq 25), (23, .aload_n 0), (24, .aload_n 0), (25, .getfield 18), (28, .iload_n 3), (29, .iaload), (30, .iload_n 3), (31, .iload_n 1), (32, .invokevirtual 72), (35, .iconst 1), (36, .if_icmp .lt 9), (39, .iload_n 2), (40, .iconst 1), (41, .iload_n 3), (42, .ishl), (43, .ior), (44, .istore_n 2), (45, .iinc 3 1), (48, .goto (-44)), (51, .iload_n 2), (52, .ireturn)]
def op_X0_dry (fu : Nat) : Nat → Kont → XL → List Value → XW → Instr → Option XO := opK 4 (rzOf (some .int)) fl_BrookStones_Brook [] [] [] [(72, 4, 1, (U_X0_topOf fu))] [] []
def F_X0_dry (fu : Nat) : Nat → (Nat → Int32 → Int32 → Int32 → XW → Option XO)
  | 0 => fun _ _ _ _ _ => none
  | n + 1 => (fun a0 a1 a2 a3 w =>
    (gI w a0 0 8).bind fun x1 =>
    (if a3 < x1 then
      (gR w a0 0 2).bind fun r2 =>
      (aI w r2 a3).bind fun x3 =>
      (if x3 = (-9 : Int32) then
        (F_X0_dry fu n) a0 a1 a2 (a3 + (1 : Int32)) w
      else
        (gR w a0 0 2).bind fun r4 =>
        (aI w r4 a3).bind fun x5 =>
        cI (U_X0_topOf fu [.ref a0, .int x5, .int a3, .int a1] w) fun x7 w6 =>
        (if x7 < (1 : Int32) then
          (F_X0_dry fu n) a0 a1 a2 (a3 + (1 : Int32)) w6
        else
          (F_X0_dry fu n) a0 a1 (a2 ||| ((1 : Int32) <<< (a3 &&& 31))) (a3 + (1 : Int32)) w6))
    else
      some (some (.int a2), w)))
def M_X0_dry (fu : Nat) (a0 : Nat) (a1 : Int32) (w : XW) : Option XO :=
  (F_X0_dry fu fu) a0 a1 (0 : Int32) (0 : Int32) w
def U_X0_dry (fu : Nat) : Orc := fun as w => match as with
  | [.ref a0, .int a1] => if isO w a0 0 = true then M_X0_dry fu a0 a1 w else none
  | _ => none
def K_X0_dry (fu : Nat) (n : Nat) : Kont := fun pc ls st w => bif pc == 4 then ((xr ls 0).bind fun a0 => (xi ls 1).bind fun a1 => (xi ls 2).bind fun a2 => (xi ls 3).bind fun a3 => skN st ((F_X0_dry fu n) a0 a1 a2 a3 w)) else none
set_option maxRecDepth 100000 in
set_option maxHeartbeats 4000000 in
theorem E_X0_dry_4 (fu : Nat) (n : Nat) (a0 : Nat) (a1 : Int32) (a2 : Int32) (a3 : Int32) (w : XW) : (F_X0_dry fu (n + 1)) a0 a1 a2 a3 w = ev T_X0_dry (op_X0_dry fu) [4] (K_X0_dry fu n) 36 4 [(0, .ref a0), (1, .int a1), (2, .int a2), (3, .int a3)] [] w := by
  rfl
set_option maxRecDepth 100000 in
set_option maxHeartbeats 4000000 in
theorem E_X0_dry (fu : Nat) (a0 : Nat) (a1 : Int32) (w : XW) : M_X0_dry fu a0 a1 w = ev T_X0_dry (op_X0_dry fu) [4] (K_X0_dry fu fu) 36 0 (lv_args 0 [.ref a0, .int a1]) [] w := by
  rfl
theorem D_X0_dry (fu : Nat) : DS T_X0_dry (op_X0_dry fu) [4] 36 (K_X0_dry fu) := by
  refine ⟨fun pc ls st w => c_none (b_none fun _ => b_none fun _ => b_none fun _ => b_none fun _ => skN_none rfl) (rfl), fun n pc ls st w o h => ?_⟩
  rcases c_some h with ⟨rfl, h⟩ | h
  · obtain ⟨a0, h0, h⟩ := some_of h; obtain ⟨a1, h1, h⟩ := some_of h; obtain ⟨a2, h2, h⟩ := some_of h; obtain ⟨a3, h3, h⟩ := some_of h;
    obtain ⟨e, g⟩ := skN_of h
    subst e
    exact ⟨[(0, .ref a0), (1, .int a1), (2, .int a2), (3, .int a3)], cons_all (xr_of h0) (cons_all (xi_of h1) (cons_all (xi_of h2) (cons_all (xi_of h3) (nil_all)))), (E_X0_dry_4 fu n a0 a1 a2 a3 w).symm.trans g⟩
  · cases h
theorem H_X0_dry (fu : Nat) : ∀ as w o, U_X0_dry fu as w = some o → ∃ a r, as = .ref a :: r ∧ r.length = 1 ∧ isO w a 0 = true := by
  intro as w o h
  unfold U_X0_dry at h
  split at h
  next =>
    split at h
    next hh => exact ⟨_, _, rfl, rfl, hh⟩
    next => cases h
  next => cases h
set_option maxRecDepth 100000 in
set_option maxHeartbeats 4000000 in
theorem S_X0_dry (fu : Nat) {l : Launch} {D : va_G} {cA : Nat → ClassId} {base b : Nat} : CS l D cA base b 2 y_X0_dry prog_2_method_19_code 4 (some .int) (U_X0_dry fu) ∧ OM (U_X0_dry fu) := by
  refine CS_of (d := 1) (y := y_X0_dry) (cc := prog_2_method_19_code) (nL := 4) (ret := (some .int)) (F := U_X0_dry fu) (fl := fl_BrookStones_Brook) (nl := []) (kl := []) (k2 := []) (mv := [(72, 4, 1, (U_X0_topOf fu))]) (ms := []) (mi := []) (ini := false) hI_w hZ_w fl_BrookStones_Brook_ok nil_all nil_all nil_all
    (cons_all (⟨⟨show (1 : Nat) ≠ 3 by decide, y_X0_topOf, prog_2_method_13_code, 4, (some .int), 1, "BrookStones", 0, TX0, 15, 3, (S_X0_topOf fu (l := l) (D := D) (cA := cA) (base := base) (b := b)).1, by decide, by decide, rfl, H_X0_topOf fu, rfl, mi_X0_topOf.1, mi_X0_topOf.2.1, mi_X0_topOf.2.2.1, mi_X0_topOf.2.2.2.1, mi_X0_topOf.2.2.2.2, Or.inl (tblG_of (i := 419) rfl rfl)⟩, (S_X0_topOf fu (l := l) (D := D) (cA := cA) (base := base) (b := b)).2⟩) (nil_all))
    (nil_all)
    (nil_all)
    (T := T_X0_dry) (by decide +kernel) (cut := [4]) (N := 36) (D_X0_dry fu) (by decide +kernel) (fun h => absurd h (by decide)) (fun as w o h => ?_)
  unfold U_X0_dry at h
  split at h
  next =>
    split at h
    next => exact ⟨Nat.le_of_ble_eq_true rfl, fu, (E_X0_dry fu _ _ w).symm.trans h⟩
    next => cases h
  next => cases h
def T_X7_farthest : List (Nat × Instr) := [(0, .iload_n 3), (1, .iconst 1), (2, .isub), (3, .istore 4), (5, .iconst 0), (6, .istore 5), (8, .iload 5), (10, .iload_n 2), (11, .if_icmp .ge 56), (14, .iload_n 0), (15, .iload 5), (17, .invokestatic 94), (20, .ifCond .eq 41), (23, .iload_n 1), (24, .iload 5), (26, .invokestatic 94), (29, .ifCond .eq 7), (32, .iconst 1), (33, .goto 4), (36, .iconst 0), (37, .istore 6), (39, .iload 5), (41, .iload 6), (43, .isub), (44, .iload 4), (46, .if_icmp .le 6), (49, .iload 4), (51, .ireturn), (52, .iload 5), (54, .iload 6), (56, .iadd), (57, .iload_n 3), (58, .iadd), (59, .istore 4), (61, .iinc 5 1), (64, .goto (-56)), (67, .iload 4), (69, .ireturn)]
def op_X7_farthest (fu : Nat) : Nat → Kont → XL → List Value → XW → Instr → Option XO := opK 7 (rzOf (some .int)) fl_BrookStones nl_BrookStones [] k2_BrookStones [] [(94, 2, 1, (U_X7_has fu))] []
def F_X7_farthest (fu : Nat) : Nat → (Int32 → Int32 → Int32 → Int32 → Int32 → Int32 → XW → Option XO) × (Int32 → Int32 → Int32 → Int32 → Int32 → Int32 → Int32 → XW → Option XO)
  | 0 => (fun _ _ _ _ _ _ _ => none, fun _ _ _ _ _ _ _ _ => none)
  | n + 1 => ((fun a0 a1 a2 a3 a4 a5 w =>
    (if a5 < a2 then
      cI (U_X7_has fu [.int a0, .int a5] w) fun x2 w1 =>
      (if x2 = 0 then
        (F_X7_farthest fu n).1 a0 a1 a2 a3 a4 (a5 + (1 : Int32)) w1
      else
        cI (U_X7_has fu [.int a1, .int a5] w1) fun x4 w3 =>
        (if x4 = 0 then
          (F_X7_farthest fu n).2 a0 a1 a2 a3 a4 a5 (0 : Int32) w3
        else
          (F_X7_farthest fu n).2 a0 a1 a2 a3 a4 a5 (1 : Int32) w3))
    else
      some (some (.int a4), w))),
   (fun a0 a1 a2 a3 a4 a5 s0 w =>
    (if a4 < (a5 - s0) then
      some (some (.int a4), w)
    else
      (F_X7_farthest fu n).1 a0 a1 a2 a3 ((a5 + s0) + a3) (a5 + (1 : Int32)) w)))
def M_X7_farthest (fu : Nat) (a0 : Int32) (a1 : Int32) (a2 : Int32) (a3 : Int32) (w : XW) : Option XO :=
  (F_X7_farthest fu fu).1 a0 a1 a2 a3 (a3 - (1 : Int32)) (0 : Int32) w
def U_X7_farthest (fu : Nat) : Orc := fun as w => match as with
  | [.int a0, .int a1, .int a2, .int a3] => M_X7_farthest fu a0 a1 a2 a3 w
  | _ => none
def K_X7_farthest (fu : Nat) (n : Nat) : Kont := fun pc ls st w => bif pc == 8 then ((xi ls 0).bind fun a0 => (xi ls 1).bind fun a1 => (xi ls 2).bind fun a2 => (xi ls 3).bind fun a3 => (xi ls 4).bind fun a4 => (xi ls 5).bind fun a5 => skN st ((F_X7_farthest fu n).1 a0 a1 a2 a3 a4 a5 w)) else bif pc == 37 then ((xi ls 0).bind fun a0 => (xi ls 1).bind fun a1 => (xi ls 2).bind fun a2 => (xi ls 3).bind fun a3 => (xi ls 4).bind fun a4 => (xi ls 5).bind fun a5 => skI st fun s0 st => skN st ((F_X7_farthest fu n).2 a0 a1 a2 a3 a4 a5 s0 w)) else none
set_option maxRecDepth 100000 in
set_option maxHeartbeats 4000000 in
theorem E_X7_farthest_8 (fu : Nat) (n : Nat) (a0 : Int32) (a1 : Int32) (a2 : Int32) (a3 : Int32) (a4 : Int32) (a5 : Int32) (w : XW) : (F_X7_farthest fu (n + 1)).1 a0 a1 a2 a3 a4 a5 w = ev T_X7_farthest (op_X7_farthest fu) [8, 37] (K_X7_farthest fu n) 40 8 [(0, .int a0), (1, .int a1), (2, .int a2), (3, .int a3), (4, .int a4), (5, .int a5)] [] w := by
  rfl
set_option maxRecDepth 100000 in
set_option maxHeartbeats 4000000 in
theorem E_X7_farthest_37 (fu : Nat) (n : Nat) (a0 : Int32) (a1 : Int32) (a2 : Int32) (a3 : Int32) (a4 : Int32) (a5 : Int32) (s0 : Int32) (w : XW) : (F_X7_farthest fu (n + 1)).2 a0 a1 a2 a3 a4 a5 s0 w = ev T_X7_farthest (op_X7_farthest fu) [8, 37] (K_X7_farthest fu n) 40 37 [(0, .int a0), (1, .int a1), (2, .int a2), (3, .int a3), (4, .int a4), (5, .int a5)] [.int s0] w := by
  rfl
set_option maxRecDepth 100000 in
set_option maxHeartbeats 4000000 in
theorem E_X7_farthest (fu : Nat) (a0 : Int32) (a1 : Int32) (a2 : Int32) (a3 : Int32) (w : XW) : M_X7_farthest fu a0 a1 a2 a3 w = ev T_X7_farthest (op_X7_farthest fu) [8, 37] (K_X7_farthest fu fu) 40 0 (lv_args 0 [.int a0, .int a1, .int a2, .int a3]) [] w := by
  rfl
theorem D_X7_farthest (fu : Nat) : DS T_X7_farthest (op_X7_farthest fu) [8, 37] 40 (K_X7_farthest fu) := by
  refine ⟨fun pc ls st w => c_none (b_none fun _ => b_none fun _ => b_none fun _ => b_none fun _ => b_none fun _ => b_none fun _ => skN_none rfl) (c_none (b_none fun _ => b_none fun _ => b_none fun _ => b_none fun _ => b_none fun _ => b_none fun _ => skI_none fun _ _ => skN_none rfl) (rfl)), fun n pc ls st w o h => ?_⟩
  rcases c_some h with ⟨rfl, h⟩ | h
  · obtain ⟨a0, h0, h⟩ := some_of h; obtain ⟨a1, h1, h⟩ := some_of h; obtain ⟨a2, h2, h⟩ := some_of h; obtain ⟨a3, h3, h⟩ := some_of h; obtain ⟨a4, h4, h⟩ := some_of h; obtain ⟨a5, h5, h⟩ := some_of h;
    obtain ⟨e, g⟩ := skN_of h
    subst e
    exact ⟨[(0, .int a0), (1, .int a1), (2, .int a2), (3, .int a3), (4, .int a4), (5, .int a5)], cons_all (xi_of h0) (cons_all (xi_of h1) (cons_all (xi_of h2) (cons_all (xi_of h3) (cons_all (xi_of h4) (cons_all (xi_of h5) (nil_all)))))), (E_X7_farthest_8 fu n a0 a1 a2 a3 a4 a5 w).symm.trans g⟩
  rcases c_some h with ⟨rfl, h⟩ | h
  · obtain ⟨a0, h0, h⟩ := some_of h; obtain ⟨a1, h1, h⟩ := some_of h; obtain ⟨a2, h2, h⟩ := some_of h; obtain ⟨a3, h3, h⟩ := some_of h; obtain ⟨a4, h4, h⟩ := some_of h; obtain ⟨a5, h5, h⟩ := some_of h;
    obtain ⟨s0, st0, e0, g0⟩ := skI_of h
    obtain ⟨e, g⟩ := skN_of g0
    subst e
    subst e0
    exact ⟨[(0, .int a0), (1, .int a1), (2, .int a2), (3, .int a3), (4, .int a4), (5, .int a5)], cons_all (xi_of h0) (cons_all (xi_of h1) (cons_all (xi_of h2) (cons_all (xi_of h3) (cons_all (xi_of h4) (cons_all (xi_of h5) (nil_all)))))), (E_X7_farthest_37 fu n a0 a1 a2 a3 a4 a5 s0 w).symm.trans g⟩
  · cases h
set_option maxRecDepth 100000 in
set_option maxHeartbeats 4000000 in
theorem S_X7_farthest (fu : Nat) {l : Launch} {D : va_G} {cA : Nat → ClassId} {base b : Nat} : CS l D cA base b 2 y_X7_farthest prog_1_method_49_code 7 (some .int) (U_X7_farthest fu) ∧ OM (U_X7_farthest fu) := by
  refine CS_of (d := 1) (y := y_X7_farthest) (cc := prog_1_method_49_code) (nL := 7) (ret := (some .int)) (F := U_X7_farthest fu) (fl := fl_BrookStones) (nl := nl_BrookStones) (kl := []) (k2 := k2_BrookStones) (mv := []) (ms := [(94, 2, 1, (U_X7_has fu))]) (mi := []) (ini := false) hI_w hZ_w fl_BrookStones_ok nl_BrookStones_ok nil_all k2_BrookStones_ok
    (nil_all)
    (cons_all (⟨Or.inl ⟨show (1 : Nat) ≠ 3 by decide, y_X7_has, prog_1_method_47_code, 2, (some .boolean), 1, "BrookStones", (S_X7_has fu (l := l) (D := D) (cA := cA) (base := base) (b := b)).1, by decide, by decide, mi_X7_has.1, mi_X7_has.2.1, mi_X7_has.2.2.1, mi_X7_has.2.2.2, Or.inl (tblG_of (i := 318) rfl rfl)⟩, (S_X7_has fu (l := l) (D := D) (cA := cA) (base := base) (b := b)).2⟩) (nil_all))
    (nil_all)
    (T := T_X7_farthest) (by decide +kernel) (cut := [8, 37]) (N := 40) (D_X7_farthest fu) (by decide +kernel) (fun h => absurd h (by decide)) (fun as w o h => ?_)
  unfold U_X7_farthest at h
  split at h
  next =>
    exact ⟨Nat.le_of_ble_eq_true rfl, fu, (E_X7_farthest fu _ _ _ _ w).symm.trans h⟩
  next => cases h
def T_X0_isCrossed : List (Nat × Instr) := [(0, .aload_n 0), (1, .iload_n 2), (2, .invokevirtual 76), (5, .iload_n 1), (6, .iand), (7, .aload_n 0), (8, .iconst 2), (9, .invokevirtual 69), (12, .aload_n 0), (13, .getfield 58), (16, .iload_n 3), (17, .invokestatic 79), (20, .aload_n 0), (21, .getfield 58), (24, .if_icmp .lt 7), (27, .iconst 1), (28, .goto 4), (31, .iconst 0), (32, .ireturn)]
def op_X0_isCrossed (fu : Nat) : Nat → Kont → XL → List Value → XW → Instr → Option XO := opK 4 (rzOf (some .boolean)) fl_BrookStones_Brook [] [] [] [(76, 2, 1, (U_X0_dry fu)), (69, 2, 1, (U_X0_ofKind fu))] [(79, 4, 1, (U_X7_farthest fu))] []
def M_X0_isCrossed (fu : Nat) (a0 : Nat) (a1 : Int32) (a2 : Int32) (a3 : Int32) (w : XW) : Option XO :=
  cI (U_X0_dry fu [.ref a0, .int a2] w) fun x2 w1 =>
  cI (U_X0_ofKind fu [.ref a0, .int (2 : Int32)] w1) fun x4 w3 =>
  (gI w3 a0 0 8).bind fun x5 =>
  cI (U_X7_farthest fu [.int (x2 &&& a1), .int x4, .int x5, .int a3] w3) fun x7 w6 =>
  (gI w6 a0 0 8).bind fun x8 =>
  (if x7 < x8 then
    retZ (0 : Int32) w6
  else
    retZ (1 : Int32) w6)
def U_X0_isCrossed (fu : Nat) : Orc := fun as w => match as with
  | [.ref a0, .int a1, .int a2, .int a3] => if isO w a0 0 = true then M_X0_isCrossed fu a0 a1 a2 a3 w else none
  | _ => none
def K_X0_isCrossed (fu : Nat) (n : Nat) : Kont := fun pc ls st w => none
set_option maxRecDepth 100000 in
set_option maxHeartbeats 4000000 in
theorem E_X0_isCrossed (fu : Nat) (a0 : Nat) (a1 : Int32) (a2 : Int32) (a3 : Int32) (w : XW) : M_X0_isCrossed fu a0 a1 a2 a3 w = ev T_X0_isCrossed (op_X0_isCrossed fu) [] (K_X0_isCrossed fu fu) 21 0 (lv_args 0 [.ref a0, .int a1, .int a2, .int a3]) [] w := by
  rfl
theorem D_X0_isCrossed (fu : Nat) : DS T_X0_isCrossed (op_X0_isCrossed fu) [] 21 (K_X0_isCrossed fu) := by
  refine ⟨fun pc ls st w => rfl, fun n pc ls st w o h => ?_⟩
  cases h
theorem H_X0_isCrossed (fu : Nat) : ∀ as w o, U_X0_isCrossed fu as w = some o → ∃ a r, as = .ref a :: r ∧ r.length = 3 ∧ isO w a 0 = true := by
  intro as w o h
  unfold U_X0_isCrossed at h
  split at h
  next =>
    split at h
    next hh => exact ⟨_, _, rfl, rfl, hh⟩
    next => cases h
  next => cases h
set_option maxRecDepth 100000 in
set_option maxHeartbeats 4000000 in
theorem S_X0_isCrossed (fu : Nat) {l : Launch} {D : va_G} {cA : Nat → ClassId} {base b : Nat} : CS l D cA base b 3 y_X0_isCrossed prog_2_method_20_code 4 (some .boolean) (U_X0_isCrossed fu) ∧ OM (U_X0_isCrossed fu) := by
  refine CS_of (d := 2) (y := y_X0_isCrossed) (cc := prog_2_method_20_code) (nL := 4) (ret := (some .boolean)) (F := U_X0_isCrossed fu) (fl := fl_BrookStones_Brook) (nl := []) (kl := []) (k2 := []) (mv := [(76, 2, 1, (U_X0_dry fu)), (69, 2, 1, (U_X0_ofKind fu))]) (ms := [(79, 4, 1, (U_X7_farthest fu))]) (mi := []) (ini := false) hI_w hZ_w fl_BrookStones_Brook_ok nil_all nil_all nil_all
    (cons_all (⟨⟨show (1 : Nat) ≠ 3 by decide, y_X0_dry, prog_2_method_19_code, 4, (some .int), 2, "BrookStones", 0, TX0, 15, 1, (S_X0_dry fu (l := l) (D := D) (cA := cA) (base := base) (b := b)).1, by decide, by decide, rfl, H_X0_dry fu, rfl, mi_X0_dry.1, mi_X0_dry.2.1, mi_X0_dry.2.2.1, mi_X0_dry.2.2.2.1, mi_X0_dry.2.2.2.2, Or.inl (tblG_of (i := 415) rfl rfl)⟩, (S_X0_dry fu (l := l) (D := D) (cA := cA) (base := base) (b := b)).2⟩) (cons_all (⟨⟨show (1 : Nat) ≠ 3 by decide, y_X0_ofKind, prog_2_method_18_code, 4, (some .int), 1, "BrookStones", 0, TX0, 15, 1, (S_X0_ofKind fu (l := l) (D := D) (cA := cA) (base := base) (b := b)).1, by decide, by decide, rfl, H_X0_ofKind fu, rfl, mi_X0_ofKind.1, mi_X0_ofKind.2.1, mi_X0_ofKind.2.2.1, mi_X0_ofKind.2.2.2.1, mi_X0_ofKind.2.2.2.2, Or.inl (tblG_of (i := 403) rfl rfl)⟩, (S_X0_ofKind fu (l := l) (D := D) (cA := cA) (base := base) (b := b)).2⟩) (nil_all)))
    (cons_all (⟨Or.inl ⟨show (1 : Nat) ≠ 3 by decide, y_X7_farthest, prog_1_method_49_code, 7, (some .int), 2, "BrookStones", (S_X7_farthest fu (l := l) (D := D) (cA := cA) (base := base) (b := b)).1, by decide, by decide, mi_X7_farthest.1, mi_X7_farthest.2.1, mi_X7_farthest.2.2.1, mi_X7_farthest.2.2.2, Or.inr (tblN_of (i := 420) rfl rfl)⟩, (S_X7_farthest fu (l := l) (D := D) (cA := cA) (base := base) (b := b)).2⟩) (nil_all))
    (nil_all)
    (T := T_X0_isCrossed) (by decide +kernel) (cut := []) (N := 21) (D_X0_isCrossed fu) (by decide +kernel) (fun h => absurd h (by decide)) (fun as w o h => ?_)
  unfold U_X0_isCrossed at h
  split at h
  next =>
    split at h
    next => exact ⟨Nat.le_of_ble_eq_true rfl, fu, (E_X0_isCrossed fu _ _ _ _ w).symm.trans h⟩
    next => cases h
  next => cases h
def T_X7_can : List (Nat × Instr) := [(0, .aload_n 0), (1, .getfield 12), (4, .iload_n 1), (5, .invokevirtual 158), (8, .ifCond .ne 5), (11, .iconst (-1)), (12, .ireturn), (13, .aload_n 0), (14, .getfield 12), (17, .aload_n 0), (18, .getfield 12), (21, .invokevirtual 164), (24, .aload_n 0), (25, .getfield 12), (28, .getfield 98), (31, .aload_n 0), (32, .getfield 12), (35, .iload_n 1), (36, .iload_n 2), (37, .invokevirtual 168), (40, .invokevirtual 172), (43, .ifCond .eq 7), (46, .iconst 1), (47, .goto 4), (50, .iconst 0), (51, .ireturn)]
def op_X7_can (fu : Nat) : Nat → Kont → XL → List Value → XW → Instr → Option XO := opK 3 (rzOf (some .int)) fl_BrookStones nl_BrookStones [] k2_BrookStones [(158, 2, 1, (U_X0_isWalker fu)), (164, 1, 1, (U_X0_filled fu)), (168, 3, 1, (U_X0_reachOf fu)), (172, 4, 1, (U_X0_isCrossed fu))] [] []
def M_X7_can (fu : Nat) (a0 : Nat) (a1 : Int32) (a2 : Int32) (w : XW) : Option XO :=
  (gR w a0 6 0).bind fun r1 =>
  cI (U_X0_isWalker fu [.ref r1, .int a1] w) fun x3 w2 =>
  (if x3 = 0 then
    some (some (.int (-1 : Int32)), w2)
  else
    (gR w2 a0 6 0).bind fun r4 =>
    (gR w2 a0 6 0).bind fun r5 =>
    cI (U_X0_filled fu [.ref r5] w2) fun x7 w6 =>
    (gR w6 a0 6 0).bind fun r8 =>
    (gI w6 r8 0 11).bind fun x9 =>
    (gR w6 a0 6 0).bind fun r10 =>
    cI (U_X0_reachOf fu [.ref r10, .int a1, .int a2] w6) fun x12 w11 =>
    cI (U_X0_isCrossed fu [.ref r4, .int x7, .int x9, .int x12] w11) fun x14 w13 =>
    (if x14 = 0 then
      some (some (.int (0 : Int32)), w13)
    else
      some (some (.int (1 : Int32)), w13)))
def U_X7_can (fu : Nat) : Orc := fun as w => match as with
  | [.ref a0, .int a1, .int a2] => if isO w a0 6 = true then M_X7_can fu a0 a1 a2 w else none
  | _ => none
def K_X7_can (fu : Nat) (n : Nat) : Kont := fun pc ls st w => none
set_option maxRecDepth 100000 in
set_option maxHeartbeats 4000000 in
theorem E_X7_can (fu : Nat) (a0 : Nat) (a1 : Int32) (a2 : Int32) (w : XW) : M_X7_can fu a0 a1 a2 w = ev T_X7_can (op_X7_can fu) [] (K_X7_can fu fu) 28 0 (lv_args 0 [.ref a0, .int a1, .int a2]) [] w := by
  rfl
theorem D_X7_can (fu : Nat) : DS T_X7_can (op_X7_can fu) [] 28 (K_X7_can fu) := by
  refine ⟨fun pc ls st w => rfl, fun n pc ls st w o h => ?_⟩
  cases h
theorem H_X7_can (fu : Nat) : ∀ as w o, U_X7_can fu as w = some o → ∃ a r, as = .ref a :: r ∧ r.length = 2 ∧ isO w a 6 = true := by
  intro as w o h
  unfold U_X7_can at h
  split at h
  next =>
    split at h
    next hh => exact ⟨_, _, rfl, rfl, hh⟩
    next => cases h
  next => cases h
set_option maxRecDepth 100000 in
set_option maxHeartbeats 4000000 in
theorem S_X7_can (fu : Nat) {l : Launch} {D : va_G} {cA : Nat → ClassId} {base b : Nat} : CS l D cA base b 4 y_X7_can prog_1_method_12_code 3 (some .int) (U_X7_can fu) ∧ OM (U_X7_can fu) := by
  refine CS_of (d := 3) (y := y_X7_can) (cc := prog_1_method_12_code) (nL := 3) (ret := (some .int)) (F := U_X7_can fu) (fl := fl_BrookStones) (nl := nl_BrookStones) (kl := []) (k2 := k2_BrookStones) (mv := [(158, 2, 1, (U_X0_isWalker fu)), (164, 1, 1, (U_X0_filled fu)), (168, 3, 1, (U_X0_reachOf fu)), (172, 4, 1, (U_X0_isCrossed fu))]) (ms := []) (mi := []) (ini := false) hI_w hZ_w fl_BrookStones_ok nl_BrookStones_ok nil_all k2_BrookStones_ok
    (cons_all (⟨⟨show (1 : Nat) ≠ 3 by decide, y_X0_isWalker, prog_2_method_6_code, 2, (some .boolean), 1, "BrookStones", 0, TX0, 15, 1, (S_X0_isWalker fu (l := l) (D := D) (cA := cA) (base := base) (b := b)).1, by decide, by decide, rfl, H_X0_isWalker fu, rfl, mi_X0_isWalker.1, mi_X0_isWalker.2.1, mi_X0_isWalker.2.2.1, mi_X0_isWalker.2.2.2.1, mi_X0_isWalker.2.2.2.2, Or.inr (tblN_of (i := 391) rfl rfl)⟩, (S_X0_isWalker fu (l := l) (D := D) (cA := cA) (base := base) (b := b)).2⟩) (cons_all (⟨⟨show (1 : Nat) ≠ 3 by decide, y_X0_filled, prog_2_method_17_code, 1, (some .int), 2, "BrookStones", 0, TX0, 15, 0, (S_X0_filled fu (l := l) (D := D) (cA := cA) (base := base) (b := b)).1, by decide, by decide, rfl, H_X0_filled fu, rfl, mi_X0_filled.1, mi_X0_filled.2.1, mi_X0_filled.2.2.1, mi_X0_filled.2.2.2.1, mi_X0_filled.2.2.2.2, Or.inr (tblN_of (i := 399) rfl rfl)⟩, (S_X0_filled fu (l := l) (D := D) (cA := cA) (base := base) (b := b)).2⟩) (cons_all (⟨⟨show (1 : Nat) ≠ 3 by decide, y_X0_reachOf, prog_2_method_9_code, 3, (some .int), 1, "BrookStones", 0, TX0, 15, 2, (S_X0_reachOf fu (l := l) (D := D) (cA := cA) (base := base) (b := b)).1, by decide, by decide, rfl, H_X0_reachOf fu, rfl, mi_X0_reachOf.1, mi_X0_reachOf.2.1, mi_X0_reachOf.2.2.1, mi_X0_reachOf.2.2.2.1, mi_X0_reachOf.2.2.2.2, Or.inr (tblN_of (i := 407) rfl rfl)⟩, (S_X0_reachOf fu (l := l) (D := D) (cA := cA) (base := base) (b := b)).2⟩) (cons_all (⟨⟨show (1 : Nat) ≠ 3 by decide, y_X0_isCrossed, prog_2_method_20_code, 4, (some .boolean), 3, "BrookStones", 0, TX0, 15, 3, (S_X0_isCrossed fu (l := l) (D := D) (cA := cA) (base := base) (b := b)).1, by decide, by decide, rfl, H_X0_isCrossed fu, rfl, mi_X0_isCrossed.1, mi_X0_isCrossed.2.1, mi_X0_isCrossed.2.2.1, mi_X0_isCrossed.2.2.2.1, mi_X0_isCrossed.2.2.2.2, Or.inr (tblN_of (i := 411) rfl rfl)⟩, (S_X0_isCrossed fu (l := l) (D := D) (cA := cA) (base := base) (b := b)).2⟩) (nil_all)))))
    (nil_all)
    (nil_all)
    (T := T_X7_can) (by decide +kernel) (cut := []) (N := 28) (D_X7_can fu) (by decide +kernel) (fun h => absurd h (by decide)) (fun as w o h => ?_)
  unfold U_X7_can at h
  split at h
  next =>
    split at h
    next => exact ⟨Nat.le_of_ble_eq_true rfl, fu, (E_X7_can fu _ _ _ w).symm.trans h⟩
    next => cases h
  next => cases h
def T_X8_layNow : List (Nat × Instr) := [(0, .iconst 0), (1, .istore_n 1), (2, .iload_n 1), (3, .aload_n 0), (4, .getfield 93), (7, .if_icmp .ge 21), (10, .aload_n 0), (11, .getfield 56), (14, .iload_n 1), (15, .aload_n 0), (16, .getfield 29), (19, .iload_n 1), (20, .iaload), (21, .iastore), (22, .iinc 1 1), (25, .goto (-23)), (28, .aload_n 0), (29, .aload_n 0), (30, .getfield 126), (33, .putfield 161), (36, .return_)]
def op_X8_layNow (fu : Nat) : Nat → Kont → XL → List Value → XW → Instr → Option XO := opK 2 (rzOf (none)) fl_BrookStonesModel [] kl_BrookStonesModel k2_BrookStonesModel [] [] []
def F_X8_layNow (fu : Nat) : Nat → (Nat → Int32 → XW → Option XO)
  | 0 => fun _ _ _ => none
  | n + 1 => (fun a0 a1 w =>
    (gI w a0 7 5).bind fun x1 =>
    (if a1 < x1 then
      (gR w a0 7 25).bind fun r4 =>
      (gR w a0 7 11).bind fun r5 =>
      (aI w r5 a1).bind fun x6 =>
      (sI w r4 a1 x6).bind fun w7 =>
      (F_X8_layNow fu n) a0 (a1 + (1 : Int32)) w7
    else
      (gI w a0 7 7).bind fun x2 =>
      (pF w a0 7 26 (.int x2)).bind fun w3 =>
      some (none, w3)))
def M_X8_layNow (fu : Nat) (a0 : Nat) (w : XW) : Option XO :=
  (F_X8_layNow fu fu) a0 (0 : Int32) w
def U_X8_layNow (fu : Nat) : Orc := fun as w => match as with
  | [.ref a0] => if isO w a0 7 = true then M_X8_layNow fu a0 w else none
  | _ => none
def K_X8_layNow (fu : Nat) (n : Nat) : Kont := fun pc ls st w => bif pc == 2 then ((xr ls 0).bind fun a0 => (xi ls 1).bind fun a1 => skN st ((F_X8_layNow fu n) a0 a1 w)) else none
set_option maxRecDepth 100000 in
set_option maxHeartbeats 4000000 in
theorem E_X8_layNow_2 (fu : Nat) (n : Nat) (a0 : Nat) (a1 : Int32) (w : XW) : (F_X8_layNow fu (n + 1)) a0 a1 w = ev T_X8_layNow (op_X8_layNow fu) [2] (K_X8_layNow fu n) 23 2 [(0, .ref a0), (1, .int a1)] [] w := by
  rfl
set_option maxRecDepth 100000 in
set_option maxHeartbeats 4000000 in
theorem E_X8_layNow (fu : Nat) (a0 : Nat) (w : XW) : M_X8_layNow fu a0 w = ev T_X8_layNow (op_X8_layNow fu) [2] (K_X8_layNow fu fu) 23 0 (lv_args 0 [.ref a0]) [] w := by
  rfl
theorem D_X8_layNow (fu : Nat) : DS T_X8_layNow (op_X8_layNow fu) [2] 23 (K_X8_layNow fu) := by
  refine ⟨fun pc ls st w => c_none (b_none fun _ => b_none fun _ => skN_none rfl) (rfl), fun n pc ls st w o h => ?_⟩
  rcases c_some h with ⟨rfl, h⟩ | h
  · obtain ⟨a0, h0, h⟩ := some_of h; obtain ⟨a1, h1, h⟩ := some_of h;
    obtain ⟨e, g⟩ := skN_of h
    subst e
    exact ⟨[(0, .ref a0), (1, .int a1)], cons_all (xr_of h0) (cons_all (xi_of h1) (nil_all)), (E_X8_layNow_2 fu n a0 a1 w).symm.trans g⟩
  · cases h
theorem H_X8_layNow (fu : Nat) : ∀ as w o, U_X8_layNow fu as w = some o → ∃ a r, as = .ref a :: r ∧ r.length = 0 ∧ isO w a 7 = true := by
  intro as w o h
  unfold U_X8_layNow at h
  split at h
  next =>
    split at h
    next hh => exact ⟨_, _, rfl, rfl, hh⟩
    next => cases h
  next => cases h
set_option maxRecDepth 100000 in
set_option maxHeartbeats 4000000 in
theorem S_X8_layNow (fu : Nat) {l : Launch} {D : va_G} {cA : Nat → ClassId} {base b : Nat} : CS l D cA base b 1 y_X8_layNow prog_10_method_29_code 2 (none) (U_X8_layNow fu) ∧ OM (U_X8_layNow fu) := by
  refine CS_of (d := 0) (y := y_X8_layNow) (cc := prog_10_method_29_code) (nL := 2) (ret := (none)) (F := U_X8_layNow fu) (fl := fl_BrookStonesModel) (nl := []) (kl := kl_BrookStonesModel) (k2 := k2_BrookStonesModel) (mv := []) (ms := []) (mi := []) (ini := false) hI_w hZ_w fl_BrookStonesModel_ok nil_all kl_BrookStonesModel_ok k2_BrookStonesModel_ok
    (nil_all)
    (nil_all)
    (nil_all)
    (T := T_X8_layNow) (by decide +kernel) (cut := [2]) (N := 23) (D_X8_layNow fu) (by decide +kernel) (fun h => absurd h (by decide)) (fun as w o h => ?_)
  unfold U_X8_layNow at h
  split at h
  next =>
    split at h
    next => exact ⟨Nat.le_of_ble_eq_true rfl, fu, (E_X8_layNow fu _ w).symm.trans h⟩
    next => cases h
  next => cases h
def T_X8_strideOf : List (Nat × Instr) := [(0, .iload_n 2), (1, .ifCond .eq 14), (4, .aload_n 0), (5, .getfield 53), (8, .iload_n 1), (9, .iaload), (10, .iconst 1), (11, .isub), (12, .goto 9), (15, .aload_n 0), (16, .getfield 53), (19, .iload_n 1), (20, .iaload), (21, .ireturn)]
def op_X8_strideOf (fu : Nat) : Nat → Kont → XL → List Value → XW → Instr → Option XO := opK 3 (rzOf (some .int)) fl_BrookStonesModel [] kl_BrookStonesModel k2_BrookStonesModel [] [] []
def M_X8_strideOf (fu : Nat) (a0 : Nat) (a1 : Int32) (a2 : Int32) (w : XW) : Option XO :=
  (if a2 = 0 then
    (gR w a0 7 24).bind fun r1 =>
    (aI w r1 a1).bind fun x2 =>
    some (some (.int x2), w)
  else
    (gR w a0 7 24).bind fun r3 =>
    (aI w r3 a1).bind fun x4 =>
    some (some (.int (x4 - (1 : Int32))), w))
def U_X8_strideOf (fu : Nat) : Orc := fun as w => match as with
  | [.ref a0, .int a1, .int a2] => if isO w a0 7 = true then M_X8_strideOf fu a0 a1 a2 w else none
  | _ => none
def K_X8_strideOf (fu : Nat) (n : Nat) : Kont := fun pc ls st w => none
set_option maxRecDepth 100000 in
set_option maxHeartbeats 4000000 in
theorem E_X8_strideOf (fu : Nat) (a0 : Nat) (a1 : Int32) (a2 : Int32) (w : XW) : M_X8_strideOf fu a0 a1 a2 w = ev T_X8_strideOf (op_X8_strideOf fu) [] (K_X8_strideOf fu fu) 16 0 (lv_args 0 [.ref a0, .int a1, .int a2]) [] w := by
  rfl
theorem D_X8_strideOf (fu : Nat) : DS T_X8_strideOf (op_X8_strideOf fu) [] 16 (K_X8_strideOf fu) := by
  refine ⟨fun pc ls st w => rfl, fun n pc ls st w o h => ?_⟩
  cases h
theorem H_X8_strideOf (fu : Nat) : ∀ as w o, U_X8_strideOf fu as w = some o → ∃ a r, as = .ref a :: r ∧ r.length = 2 ∧ isO w a 7 = true := by
  intro as w o h
  unfold U_X8_strideOf at h
  split at h
  next =>
    split at h
    next hh => exact ⟨_, _, rfl, rfl, hh⟩
    next => cases h
  next => cases h
set_option maxRecDepth 100000 in
set_option maxHeartbeats 4000000 in
theorem S_X8_strideOf (fu : Nat) {l : Launch} {D : va_G} {cA : Nat → ClassId} {base b : Nat} : CS l D cA base b 1 y_X8_strideOf prog_10_method_36_code 3 (some .int) (U_X8_strideOf fu) ∧ OM (U_X8_strideOf fu) := by
  refine CS_of (d := 0) (y := y_X8_strideOf) (cc := prog_10_method_36_code) (nL := 3) (ret := (some .int)) (F := U_X8_strideOf fu) (fl := fl_BrookStonesModel) (nl := []) (kl := kl_BrookStonesModel) (k2 := k2_BrookStonesModel) (mv := []) (ms := []) (mi := []) (ini := false) hI_w hZ_w fl_BrookStonesModel_ok nil_all kl_BrookStonesModel_ok k2_BrookStonesModel_ok
    (nil_all)
    (nil_all)
    (nil_all)
    (T := T_X8_strideOf) (by decide +kernel) (cut := []) (N := 16) (D_X8_strideOf fu) (by decide +kernel) (fun h => absurd h (by decide)) (fun as w o h => ?_)
  unfold U_X8_strideOf at h
  split at h
  next =>
    split at h
    next => exact ⟨Nat.le_of_ble_eq_true rfl, fu, (E_X8_strideOf fu _ _ _ w).symm.trans h⟩
    next => cases h
  next => cases h
def T_X8_isBank : List (Nat × Instr) := [(0, .iload_n 1), (1, .ifCond .eq 13), (4, .iload_n 1), (5, .aload_n 0), (6, .getfield 93), (9, .iconst 1), (10, .iadd), (11, .if_icmp .ne 7), (14, .iconst 1), (15, .goto 4), (18, .iconst 0), (19, .ireturn)]
def op_X8_isBank (fu : Nat) : Nat → Kont → XL → List Value → XW → Instr → Option XO := opK 2 (rzOf (some .boolean)) fl_BrookStonesModel [] kl_BrookStonesModel k2_BrookStonesModel [] [] []
def M_X8_isBank (fu : Nat) (a0 : Nat) (a1 : Int32) (w : XW) : Option XO :=
  (if a1 = 0 then
    retZ (1 : Int32) w
  else
    (gI w a0 7 5).bind fun x1 =>
    (if a1 = (x1 + (1 : Int32)) then
      retZ (1 : Int32) w
    else
      retZ (0 : Int32) w))
def U_X8_isBank (fu : Nat) : Orc := fun as w => match as with
  | [.ref a0, .int a1] => if isO w a0 7 = true then M_X8_isBank fu a0 a1 w else none
  | _ => none
def K_X8_isBank (fu : Nat) (n : Nat) : Kont := fun pc ls st w => none
set_option maxRecDepth 100000 in
set_option maxHeartbeats 4000000 in
theorem E_X8_isBank (fu : Nat) (a0 : Nat) (a1 : Int32) (w : XW) : M_X8_isBank fu a0 a1 w = ev T_X8_isBank (op_X8_isBank fu) [] (K_X8_isBank fu fu) 14 0 (lv_args 0 [.ref a0, .int a1]) [] w := by
  rfl
theorem D_X8_isBank (fu : Nat) : DS T_X8_isBank (op_X8_isBank fu) [] 14 (K_X8_isBank fu) := by
  refine ⟨fun pc ls st w => rfl, fun n pc ls st w o h => ?_⟩
  cases h
theorem H_X8_isBank (fu : Nat) : ∀ as w o, U_X8_isBank fu as w = some o → ∃ a r, as = .ref a :: r ∧ r.length = 1 ∧ isO w a 7 = true := by
  intro as w o h
  unfold U_X8_isBank at h
  split at h
  next =>
    split at h
    next hh => exact ⟨_, _, rfl, rfl, hh⟩
    next => cases h
  next => cases h
set_option maxRecDepth 100000 in
set_option maxHeartbeats 4000000 in
theorem S_X8_isBank (fu : Nat) {l : Launch} {D : va_G} {cA : Nat → ClassId} {base b : Nat} : CS l D cA base b 1 y_X8_isBank prog_10_method_30_code 2 (some .boolean) (U_X8_isBank fu) ∧ OM (U_X8_isBank fu) := by
  refine CS_of (d := 0) (y := y_X8_isBank) (cc := prog_10_method_30_code) (nL := 2) (ret := (some .boolean)) (F := U_X8_isBank fu) (fl := fl_BrookStonesModel) (nl := []) (kl := kl_BrookStonesModel) (k2 := k2_BrookStonesModel) (mv := []) (ms := []) (mi := []) (ini := false) hI_w hZ_w fl_BrookStonesModel_ok nil_all kl_BrookStonesModel_ok k2_BrookStonesModel_ok
    (nil_all)
    (nil_all)
    (nil_all)
    (T := T_X8_isBank) (by decide +kernel) (cut := []) (N := 14) (D_X8_isBank fu) (by decide +kernel) (fun h => absurd h (by decide)) (fun as w o h => ?_)
  unfold U_X8_isBank at h
  split at h
  next =>
    split at h
    next => exact ⟨Nat.le_of_ble_eq_true rfl, fu, (E_X8_isBank fu _ _ w).symm.trans h⟩
    next => cases h
  next => cases h
def T_X8_isStand : List (Nat × Instr) := [(0, .aload_n 0), (1, .iload_n 1), (2, .invokevirtual 164), (5, .ifCond .eq 5), (8, .iconst 1), (9, .ireturn), (10, .aload_n 0), (11, .getfield 56), (14, .iload_n 1), (15, .iconst 1), (16, .isub), (17, .iaload), (18, .istore_n 2), (19, .iload_n 2), (20, .bipush (-9)), (22, .if_icmp .eq 30), (25, .aload_n 0), (26, .getfield 41), (29, .iload_n 2), (30, .iaload), (31, .aload_n 0), (32, .getfield 19), (35, .iload_n 1), (36, .iconst 1), (37, .isub), (38, .iaload), (39, .isub), (40, .aload_n 0), (41, .getfield 161), (44, .isub), (45, .ifCond .le 7), (48, .iconst 1), (49, .goto 4), (52, .iconst 0), (53, .ireturn)]
def op_X8_isStand (fu : Nat) : Nat → Kont → XL → List Value → XW → Instr → Option XO := opK 3 (rzOf (some .boolean)) fl_BrookStonesModel [] kl_BrookStonesModel k2_BrookStonesModel [(164, 2, 1, (U_X8_isBank fu))] [] []
def M_X8_isStand (fu : Nat) (a0 : Nat) (a1 : Int32) (w : XW) : Option XO :=
  cI (U_X8_isBank fu [.ref a0, .int a1] w) fun x2 w1 =>
  (if x2 = 0 then
    (gR w1 a0 7 25).bind fun r3 =>
    (aI w1 r3 (a1 - (1 : Int32))).bind fun x4 =>
    (if x4 = (-9 : Int32) then
      retZ (0 : Int32) w1
    else
      (gR w1 a0 7 19).bind fun r5 =>
      (aI w1 r5 x4).bind fun x6 =>
      (gR w1 a0 7 8).bind fun r7 =>
      (aI w1 r7 (a1 - (1 : Int32))).bind fun x8 =>
      (gI w1 a0 7 26).bind fun x9 =>
      (if 0 < ((x6 - x8) - x9) then
        retZ (1 : Int32) w1
      else
        retZ (0 : Int32) w1))
  else
    retZ (1 : Int32) w1)
def U_X8_isStand (fu : Nat) : Orc := fun as w => match as with
  | [.ref a0, .int a1] => if isO w a0 7 = true then M_X8_isStand fu a0 a1 w else none
  | _ => none
def K_X8_isStand (fu : Nat) (n : Nat) : Kont := fun pc ls st w => none
set_option maxRecDepth 100000 in
set_option maxHeartbeats 4000000 in
theorem E_X8_isStand (fu : Nat) (a0 : Nat) (a1 : Int32) (w : XW) : M_X8_isStand fu a0 a1 w = ev T_X8_isStand (op_X8_isStand fu) [] (K_X8_isStand fu fu) 37 0 (lv_args 0 [.ref a0, .int a1]) [] w := by
  rfl
theorem D_X8_isStand (fu : Nat) : DS T_X8_isStand (op_X8_isStand fu) [] 37 (K_X8_isStand fu) := by
  refine ⟨fun pc ls st w => rfl, fun n pc ls st w o h => ?_⟩
  cases h
theorem H_X8_isStand (fu : Nat) : ∀ as w o, U_X8_isStand fu as w = some o → ∃ a r, as = .ref a :: r ∧ r.length = 1 ∧ isO w a 7 = true := by
  intro as w o h
  unfold U_X8_isStand at h
  split at h
  next =>
    split at h
    next hh => exact ⟨_, _, rfl, rfl, hh⟩
    next => cases h
  next => cases h
set_option maxRecDepth 100000 in
set_option maxHeartbeats 4000000 in
theorem S_X8_isStand (fu : Nat) {l : Launch} {D : va_G} {cA : Nat → ClassId} {base b : Nat} : CS l D cA base b 2 y_X8_isStand prog_10_method_31_code 3 (some .boolean) (U_X8_isStand fu) ∧ OM (U_X8_isStand fu) := by
  refine CS_of (d := 1) (y := y_X8_isStand) (cc := prog_10_method_31_code) (nL := 3) (ret := (some .boolean)) (F := U_X8_isStand fu) (fl := fl_BrookStonesModel) (nl := []) (kl := kl_BrookStonesModel) (k2 := k2_BrookStonesModel) (mv := [(164, 2, 1, (U_X8_isBank fu))]) (ms := []) (mi := []) (ini := false) hI_w hZ_w fl_BrookStonesModel_ok nil_all kl_BrookStonesModel_ok k2_BrookStonesModel_ok
    (cons_all (⟨⟨show (1 : Nat) ≠ 3 by decide, y_X8_isBank, prog_10_method_30_code, 2, (some .boolean), 1, "BrookStones", 7, TX8, 37, 1, (S_X8_isBank fu (l := l) (D := D) (cA := cA) (base := base) (b := b)).1, by decide, by decide, rfl, H_X8_isBank fu, rfl, mi_X8_isBank.1, mi_X8_isBank.2.1, mi_X8_isBank.2.2.1, mi_X8_isBank.2.2.2.1, mi_X8_isBank.2.2.2.2, Or.inl (tblG_of (i := 972) rfl rfl)⟩, (S_X8_isBank fu (l := l) (D := D) (cA := cA) (base := base) (b := b)).2⟩) (nil_all))
    (nil_all)
    (nil_all)
    (T := T_X8_isStand) (by decide +kernel) (cut := []) (N := 37) (D_X8_isStand fu) (by decide +kernel) (fun h => absurd h (by decide)) (fun as w o h => ?_)
  unfold U_X8_isStand at h
  split at h
  next =>
    split at h
    next => exact ⟨Nat.le_of_ble_eq_true rfl, fu, (E_X8_isStand fu _ _ w).symm.trans h⟩
    next => cases h
  next => cases h
def T_X8_easeAt : List (Nat × Instr) := [(0, .aload_n 0), (1, .iload_n 1), (2, .invokevirtual 164), (5, .ifCond .ne 37), (8, .aload_n 0), (9, .getfield 56), (12, .iload_n 1), (13, .iconst 1), (14, .isub), (15, .iaload), (16, .bipush (-9)), (18, .if_icmp .eq 24), (21, .aload_n 0), (22, .getfield 38), (25, .aload_n 0), (26, .getfield 56), (29, .iload_n 1), (30, .iconst 1), (31, .isub), (32, .iaload), (33, .iaload), (34, .iconst 2), (35, .if_icmp .ne 7), (38, .iconst 1), (39, .goto 4), (42, .iconst 0), (43, .ireturn)]
def op_X8_easeAt (fu : Nat) : Nat → Kont → XL → List Value → XW → Instr → Option XO := opK 2 (rzOf (some .int)) fl_BrookStonesModel [] kl_BrookStonesModel k2_BrookStonesModel [(164, 2, 1, (U_X8_isBank fu))] [] []
def M_X8_easeAt (fu : Nat) (a0 : Nat) (a1 : Int32) (w : XW) : Option XO :=
  cI (U_X8_isBank fu [.ref a0, .int a1] w) fun x2 w1 =>
  (if x2 = 0 then
    (gR w1 a0 7 25).bind fun r3 =>
    (aI w1 r3 (a1 - (1 : Int32))).bind fun x4 =>
    (if x4 = (-9 : Int32) then
      some (some (.int (0 : Int32)), w1)
    else
      (gR w1 a0 7 18).bind fun r5 =>
      (gR w1 a0 7 25).bind fun r6 =>
      (aI w1 r6 (a1 - (1 : Int32))).bind fun x7 =>
      (aI w1 r5 x7).bind fun x8 =>
      (if x8 = (2 : Int32) then
        some (some (.int (1 : Int32)), w1)
      else
        some (some (.int (0 : Int32)), w1)))
  else
    some (some (.int (0 : Int32)), w1))
def U_X8_easeAt (fu : Nat) : Orc := fun as w => match as with
  | [.ref a0, .int a1] => if isO w a0 7 = true then M_X8_easeAt fu a0 a1 w else none
  | _ => none
def K_X8_easeAt (fu : Nat) (n : Nat) : Kont := fun pc ls st w => none
set_option maxRecDepth 100000 in
set_option maxHeartbeats 4000000 in
theorem E_X8_easeAt (fu : Nat) (a0 : Nat) (a1 : Int32) (w : XW) : M_X8_easeAt fu a0 a1 w = ev T_X8_easeAt (op_X8_easeAt fu) [] (K_X8_easeAt fu fu) 29 0 (lv_args 0 [.ref a0, .int a1]) [] w := by
  rfl
theorem D_X8_easeAt (fu : Nat) : DS T_X8_easeAt (op_X8_easeAt fu) [] 29 (K_X8_easeAt fu) := by
  refine ⟨fun pc ls st w => rfl, fun n pc ls st w o h => ?_⟩
  cases h
theorem H_X8_easeAt (fu : Nat) : ∀ as w o, U_X8_easeAt fu as w = some o → ∃ a r, as = .ref a :: r ∧ r.length = 1 ∧ isO w a 7 = true := by
  intro as w o h
  unfold U_X8_easeAt at h
  split at h
  next =>
    split at h
    next hh => exact ⟨_, _, rfl, rfl, hh⟩
    next => cases h
  next => cases h
set_option maxRecDepth 100000 in
set_option maxHeartbeats 4000000 in
theorem S_X8_easeAt (fu : Nat) {l : Launch} {D : va_G} {cA : Nat → ClassId} {base b : Nat} : CS l D cA base b 2 y_X8_easeAt prog_10_method_32_code 2 (some .int) (U_X8_easeAt fu) ∧ OM (U_X8_easeAt fu) := by
  refine CS_of (d := 1) (y := y_X8_easeAt) (cc := prog_10_method_32_code) (nL := 2) (ret := (some .int)) (F := U_X8_easeAt fu) (fl := fl_BrookStonesModel) (nl := []) (kl := kl_BrookStonesModel) (k2 := k2_BrookStonesModel) (mv := [(164, 2, 1, (U_X8_isBank fu))]) (ms := []) (mi := []) (ini := false) hI_w hZ_w fl_BrookStonesModel_ok nil_all kl_BrookStonesModel_ok k2_BrookStonesModel_ok
    (cons_all (⟨⟨show (1 : Nat) ≠ 3 by decide, y_X8_isBank, prog_10_method_30_code, 2, (some .boolean), 1, "BrookStones", 7, TX8, 37, 1, (S_X8_isBank fu (l := l) (D := D) (cA := cA) (base := base) (b := b)).1, by decide, by decide, rfl, H_X8_isBank fu, rfl, mi_X8_isBank.1, mi_X8_isBank.2.1, mi_X8_isBank.2.2.1, mi_X8_isBank.2.2.2.1, mi_X8_isBank.2.2.2.2, Or.inl (tblG_of (i := 972) rfl rfl)⟩, (S_X8_isBank fu (l := l) (D := D) (cA := cA) (base := base) (b := b)).2⟩) (nil_all))
    (nil_all)
    (nil_all)
    (T := T_X8_easeAt) (by decide +kernel) (cut := []) (N := 29) (D_X8_easeAt fu) (by decide +kernel) (fun h => absurd h (by decide)) (fun as w o h => ?_)
  unfold U_X8_easeAt at h
  split at h
  next =>
    split at h
    next => exact ⟨Nat.le_of_ble_eq_true rfl, fu, (E_X8_easeAt fu _ _ w).symm.trans h⟩
    next => cases h
  next => cases h
def T_X8_isStride : List (Nat × Instr) := [(0, .iload_n 1), (1, .iload_n 2), (2, .if_icmp .ge 9), (5, .iload_n 2), (6, .iload_n 1), (7, .isub), (8, .goto 6), (11, .iload_n 1), (12, .iload_n 2), (13, .isub), (14, .istore 4), (16, .iload 4), (18, .aload_n 0), (19, .iload_n 1), (20, .invokevirtual 167), (23, .isub), (24, .aload_n 0), (25, .iload_n 2), (26, .invokevirtual 167), (29, .isub), (30, .iload_n 3), (31, .if_icmp .gt 7), (34, .iconst 1), (35, .goto 4), (38, .iconst 0), (39, .ireturn)]
def op_X8_isStride (fu : Nat) : Nat → Kont → XL → List Value → XW → Instr → Option XO := opK 5 (rzOf (some .boolean)) fl_BrookStonesModel [] kl_BrookStonesModel k2_BrookStonesModel [(167, 2, 1, (U_X8_easeAt fu))] [] []
def F_X8_isStride (fu : Nat) : Nat → (Nat → Int32 → Int32 → Int32 → Int32 → XW → Option XO)
  | 0 => fun _ _ _ _ _ _ => none
  | n + 1 => (fun a0 a1 a2 a3 s0 w =>
    cI (U_X8_easeAt fu [.ref a0, .int a1] w) fun x2 w1 =>
    cI (U_X8_easeAt fu [.ref a0, .int a2] w1) fun x4 w3 =>
    (if a3 < ((s0 - x2) - x4) then
      retZ (0 : Int32) w3
    else
      retZ (1 : Int32) w3))
def M_X8_isStride (fu : Nat) (a0 : Nat) (a1 : Int32) (a2 : Int32) (a3 : Int32) (w : XW) : Option XO :=
  (if a1 < a2 then
    (F_X8_isStride fu fu) a0 a1 a2 a3 (a2 - a1) w
  else
    (F_X8_isStride fu fu) a0 a1 a2 a3 (a1 - a2) w)
def U_X8_isStride (fu : Nat) : Orc := fun as w => match as with
  | [.ref a0, .int a1, .int a2, .int a3] => if isO w a0 7 = true then M_X8_isStride fu a0 a1 a2 a3 w else none
  | _ => none
def K_X8_isStride (fu : Nat) (n : Nat) : Kont := fun pc ls st w => bif pc == 14 then ((xr ls 0).bind fun a0 => (xi ls 1).bind fun a1 => (xi ls 2).bind fun a2 => (xi ls 3).bind fun a3 => skI st fun s0 st => skN st ((F_X8_isStride fu n) a0 a1 a2 a3 s0 w)) else none
set_option maxRecDepth 100000 in
set_option maxHeartbeats 4000000 in
theorem E_X8_isStride_14 (fu : Nat) (n : Nat) (a0 : Nat) (a1 : Int32) (a2 : Int32) (a3 : Int32) (s0 : Int32) (w : XW) : (F_X8_isStride fu (n + 1)) a0 a1 a2 a3 s0 w = ev T_X8_isStride (op_X8_isStride fu) [14] (K_X8_isStride fu n) 28 14 [(0, .ref a0), (1, .int a1), (2, .int a2), (3, .int a3)] [.int s0] w := by
  rfl
set_option maxRecDepth 100000 in
set_option maxHeartbeats 4000000 in
theorem E_X8_isStride (fu : Nat) (a0 : Nat) (a1 : Int32) (a2 : Int32) (a3 : Int32) (w : XW) : M_X8_isStride fu a0 a1 a2 a3 w = ev T_X8_isStride (op_X8_isStride fu) [14] (K_X8_isStride fu fu) 28 0 (lv_args 0 [.ref a0, .int a1, .int a2, .int a3]) [] w := by
  rfl
theorem D_X8_isStride (fu : Nat) : DS T_X8_isStride (op_X8_isStride fu) [14] 28 (K_X8_isStride fu) := by
  refine ⟨fun pc ls st w => c_none (b_none fun _ => b_none fun _ => b_none fun _ => b_none fun _ => skI_none fun _ _ => skN_none rfl) (rfl), fun n pc ls st w o h => ?_⟩
  rcases c_some h with ⟨rfl, h⟩ | h
  · obtain ⟨a0, h0, h⟩ := some_of h; obtain ⟨a1, h1, h⟩ := some_of h; obtain ⟨a2, h2, h⟩ := some_of h; obtain ⟨a3, h3, h⟩ := some_of h;
    obtain ⟨s0, st0, e0, g0⟩ := skI_of h
    obtain ⟨e, g⟩ := skN_of g0
    subst e
    subst e0
    exact ⟨[(0, .ref a0), (1, .int a1), (2, .int a2), (3, .int a3)], cons_all (xr_of h0) (cons_all (xi_of h1) (cons_all (xi_of h2) (cons_all (xi_of h3) (nil_all)))), (E_X8_isStride_14 fu n a0 a1 a2 a3 s0 w).symm.trans g⟩
  · cases h
theorem H_X8_isStride (fu : Nat) : ∀ as w o, U_X8_isStride fu as w = some o → ∃ a r, as = .ref a :: r ∧ r.length = 3 ∧ isO w a 7 = true := by
  intro as w o h
  unfold U_X8_isStride at h
  split at h
  next =>
    split at h
    next hh => exact ⟨_, _, rfl, rfl, hh⟩
    next => cases h
  next => cases h
set_option maxRecDepth 100000 in
set_option maxHeartbeats 4000000 in
theorem S_X8_isStride (fu : Nat) {l : Launch} {D : va_G} {cA : Nat → ClassId} {base b : Nat} : CS l D cA base b 3 y_X8_isStride prog_10_method_33_code 5 (some .boolean) (U_X8_isStride fu) ∧ OM (U_X8_isStride fu) := by
  refine CS_of (d := 2) (y := y_X8_isStride) (cc := prog_10_method_33_code) (nL := 5) (ret := (some .boolean)) (F := U_X8_isStride fu) (fl := fl_BrookStonesModel) (nl := []) (kl := kl_BrookStonesModel) (k2 := k2_BrookStonesModel) (mv := [(167, 2, 1, (U_X8_easeAt fu))]) (ms := []) (mi := []) (ini := false) hI_w hZ_w fl_BrookStonesModel_ok nil_all kl_BrookStonesModel_ok k2_BrookStonesModel_ok
    (cons_all (⟨⟨show (1 : Nat) ≠ 3 by decide, y_X8_easeAt, prog_10_method_32_code, 2, (some .int), 2, "BrookStones", 7, TX8, 37, 1, (S_X8_easeAt fu (l := l) (D := D) (cA := cA) (base := base) (b := b)).1, by decide, by decide, rfl, H_X8_easeAt fu, rfl, mi_X8_easeAt.1, mi_X8_easeAt.2.1, mi_X8_easeAt.2.2.1, mi_X8_easeAt.2.2.2.1, mi_X8_easeAt.2.2.2.2, Or.inl (tblG_of (i := 980) rfl rfl)⟩, (S_X8_easeAt fu (l := l) (D := D) (cA := cA) (base := base) (b := b)).2⟩) (nil_all))
    (nil_all)
    (nil_all)
    (T := T_X8_isStride) (by decide +kernel) (cut := [14]) (N := 28) (D_X8_isStride fu) (by decide +kernel) (fun h => absurd h (by decide)) (fun as w o h => ?_)
  unfold U_X8_isStride at h
  split at h
  next =>
    split at h
    next => exact ⟨Nat.le_of_ble_eq_true rfl, fu, (E_X8_isStride fu _ _ _ _ w).symm.trans h⟩
    next => cases h
  next => cases h
def T_X8_layFar : List (Nat × Instr) := [(0, .iconst 0), (1, .istore_n 3), (2, .iload_n 3), (3, .aload_n 0), (4, .getfield 93), (7, .iconst 1), (8, .iadd), (9, .if_icmp .gt 26), (12, .aload_n 0), (13, .getfield 59), (16, .iload_n 3), (17, .iload_n 3), (18, .iload_n 1), (19, .if_icmp .ne 7), (22, .iconst 0), (23, .goto 5), (26, .ldc 170), (28, .iastore), (29, .iinc 3 1), (32, .goto (-30)), (35, .iconst 1), (36, .istore_n 3), (37, .iload_n 3), (38, .ifCond .eq 113), (41, .iconst 0), (42, .istore_n 3), (43, .iconst 0), (44, .istore 4), (46, .iload 4), (48, .aload_n 0), (49, .getfield 93), (52, .iconst 1), (53, .iadd), (54, .if_icmp .gt 94), (57, .iconst 0), (58, .istore 5), (60, .iload 5), (62, .aload_n 0), (63, .getfield 93), (66, .iconst 1), (67, .iadd), (68, .if_icmp .gt 74), (71, .iload 4), (73, .iload 5), (75, .if_icmp .eq 61), (78, .aload_n 0), (79, .getfield 59), (82, .iload 4), (84, .iaload), (85, .iconst 1), (86, .iadd), (87, .aload_n 0), (88, .getfield 59), (91, .iload 5), (93, .iaload), (94, .if_icmp .ge 42), (97, .aload_n 0), (98, .iload 5), (100, .invokevirtual 171), (103, .ifCond .eq 33), (106, .aload_n 0), (107, .iload 4), (109, .iload 5), (111, .iload_n 2), (112, .invokevirtual 174), (115, .ifCond .eq 21), (118, .aload_n 0), (119, .getfield 59), (122, .iload 5), (124, .aload_n 0), (125, .getfield 59), (128, .iload 4), (130, .iaload), (131, .iconst 1), (132, .iadd), (133, .iastore), (134, .iconst 1), (135, .istore_n 3), (136, .iinc 5 1), (139, .goto (-79)), (142, .iinc 4 1), (145, .goto (-99)), (148, .goto (-111)), (151, .return_)]
def op_X8_layFar (fu : Nat) : Nat → Kont → XL → List Value → XW → Instr → Option XO := opK 6 (rzOf (none)) fl_BrookStonesModel [] kl_BrookStonesModel k2_BrookStonesModel [(171, 2, 1, (U_X8_isStand fu)), (174, 4, 1, (U_X8_isStride fu))] [] []
def F_X8_layFar (fu : Nat) : Nat → (Nat → Int32 → Int32 → Int32 → XW → Option XO) × (Nat → Int32 → Int32 → XW → Option XO) × (Nat → Int32 → Int32 → Int32 → XW → Option XO) × (Nat → Int32 → Int32 → Int32 → Int32 → XW → Option XO)
  | 0 => (fun _ _ _ _ _ => none, fun _ _ _ _ => none, fun _ _ _ _ _ => none, fun _ _ _ _ _ _ => none)
  | n + 1 => ((fun a0 a1 a2 a3 w =>
    (gI w a0 7 5).bind fun x1 =>
    (if (x1 + (1 : Int32)) < a3 then
      (F_X8_layFar fu n).2.1 a0 a2 (1 : Int32) w
    else
      (gR w a0 7 27).bind fun r2 =>
      (if a3 = a1 then
        (sI w r2 a3 (0 : Int32)).bind fun w4 =>
        (F_X8_layFar fu n).1 a0 a1 a2 (a3 + (1 : Int32)) w4
      else
        (sI w r2 a3 (1000000 : Int32)).bind fun w3 =>
        (F_X8_layFar fu n).1 a0 a1 a2 (a3 + (1 : Int32)) w3))),
   (fun a0 a2 a3 w =>
    (if a3 = 0 then
      some (none, w)
    else
      (F_X8_layFar fu n).2.2.1 a0 a2 (0 : Int32) (0 : Int32) w)),
   (fun a0 a2 a3 a4 w =>
    (gI w a0 7 5).bind fun x5 =>
    (if (x5 + (1 : Int32)) < a4 then
      (F_X8_layFar fu n).2.1 a0 a2 a3 w
    else
      (F_X8_layFar fu n).2.2.2 a0 a2 a3 a4 (0 : Int32) w)),
   (fun a0 a2 a3 a4 a5 w =>
    (gI w a0 7 5).bind fun x6 =>
    (if (x6 + (1 : Int32)) < a5 then
      (F_X8_layFar fu n).2.2.1 a0 a2 a3 (a4 + (1 : Int32)) w
    else
      (if a4 = a5 then
        (F_X8_layFar fu n).2.2.2 a0 a2 a3 a4 (a5 + (1 : Int32)) w
      else
        (gR w a0 7 27).bind fun r7 =>
        (aI w r7 a4).bind fun x8 =>
        (gR w a0 7 27).bind fun r9 =>
        (aI w r9 a5).bind fun x10 =>
        (if (x8 + (1 : Int32)) < x10 then
          cI (U_X8_isStand fu [.ref a0, .int a5] w) fun x12 w11 =>
          (if x12 = 0 then
            (F_X8_layFar fu n).2.2.2 a0 a2 a3 a4 (a5 + (1 : Int32)) w11
          else
            cI (U_X8_isStride fu [.ref a0, .int a4, .int a5, .int a2] w11) fun x14 w13 =>
            (if x14 = 0 then
              (F_X8_layFar fu n).2.2.2 a0 a2 a3 a4 (a5 + (1 : Int32)) w13
            else
              (gR w13 a0 7 27).bind fun r15 =>
              (gR w13 a0 7 27).bind fun r16 =>
              (aI w13 r16 a4).bind fun x17 =>
              (sI w13 r15 a5 (x17 + (1 : Int32))).bind fun w18 =>
              (F_X8_layFar fu n).2.2.2 a0 a2 (1 : Int32) a4 (a5 + (1 : Int32)) w18))
        else
          (F_X8_layFar fu n).2.2.2 a0 a2 a3 a4 (a5 + (1 : Int32)) w)))))
def M_X8_layFar (fu : Nat) (a0 : Nat) (a1 : Int32) (a2 : Int32) (w : XW) : Option XO :=
  (F_X8_layFar fu fu).1 a0 a1 a2 (0 : Int32) w
def U_X8_layFar (fu : Nat) : Orc := fun as w => match as with
  | [.ref a0, .int a1, .int a2] => if isO w a0 7 = true then M_X8_layFar fu a0 a1 a2 w else none
  | _ => none
def K_X8_layFar (fu : Nat) (n : Nat) : Kont := fun pc ls st w => bif pc == 2 then ((xr ls 0).bind fun a0 => (xi ls 1).bind fun a1 => (xi ls 2).bind fun a2 => (xi ls 3).bind fun a3 => skN st ((F_X8_layFar fu n).1 a0 a1 a2 a3 w)) else bif pc == 37 then ((xr ls 0).bind fun a0 => (xi ls 2).bind fun a2 => (xi ls 3).bind fun a3 => skN st ((F_X8_layFar fu n).2.1 a0 a2 a3 w)) else bif pc == 46 then ((xr ls 0).bind fun a0 => (xi ls 2).bind fun a2 => (xi ls 3).bind fun a3 => (xi ls 4).bind fun a4 => skN st ((F_X8_layFar fu n).2.2.1 a0 a2 a3 a4 w)) else bif pc == 60 then ((xr ls 0).bind fun a0 => (xi ls 2).bind fun a2 => (xi ls 3).bind fun a3 => (xi ls 4).bind fun a4 => (xi ls 5).bind fun a5 => skN st ((F_X8_layFar fu n).2.2.2 a0 a2 a3 a4 a5 w)) else none
set_option maxRecDepth 100000 in
set_option maxHeartbeats 4000000 in
theorem E_X8_layFar_2 (fu : Nat) (n : Nat) (a0 : Nat) (a1 : Int32) (a2 : Int32) (a3 : Int32) (w : XW) : (F_X8_layFar fu (n + 1)).1 a0 a1 a2 a3 w = ev T_X8_layFar (op_X8_layFar fu) [2, 37, 46, 60] (K_X8_layFar fu n) 86 2 [(0, .ref a0), (1, .int a1), (2, .int a2), (3, .int a3)] [] w := by
  rfl
set_option maxRecDepth 100000 in
set_option maxHeartbeats 4000000 in
theorem E_X8_layFar_37 (fu : Nat) (n : Nat) (a0 : Nat) (a2 : Int32) (a3 : Int32) (w : XW) : (F_X8_layFar fu (n + 1)).2.1 a0 a2 a3 w = ev T_X8_layFar (op_X8_layFar fu) [2, 37, 46, 60] (K_X8_layFar fu n) 86 37 [(0, .ref a0), (2, .int a2), (3, .int a3)] [] w := by
  rfl
set_option maxRecDepth 100000 in
set_option maxHeartbeats 4000000 in
theorem E_X8_layFar_46 (fu : Nat) (n : Nat) (a0 : Nat) (a2 : Int32) (a3 : Int32) (a4 : Int32) (w : XW) : (F_X8_layFar fu (n + 1)).2.2.1 a0 a2 a3 a4 w = ev T_X8_layFar (op_X8_layFar fu) [2, 37, 46, 60] (K_X8_layFar fu n) 86 46 [(0, .ref a0), (2, .int a2), (3, .int a3), (4, .int a4)] [] w := by
  rfl
set_option maxRecDepth 100000 in
set_option maxHeartbeats 4000000 in
theorem E_X8_layFar_60 (fu : Nat) (n : Nat) (a0 : Nat) (a2 : Int32) (a3 : Int32) (a4 : Int32) (a5 : Int32) (w : XW) : (F_X8_layFar fu (n + 1)).2.2.2 a0 a2 a3 a4 a5 w = ev T_X8_layFar (op_X8_layFar fu) [2, 37, 46, 60] (K_X8_layFar fu n) 86 60 [(0, .ref a0), (2, .int a2), (3, .int a3), (4, .int a4), (5, .int a5)] [] w := by
  rfl
set_option maxRecDepth 100000 in
set_option maxHeartbeats 4000000 in
theorem E_X8_layFar (fu : Nat) (a0 : Nat) (a1 : Int32) (a2 : Int32) (w : XW) : M_X8_layFar fu a0 a1 a2 w = ev T_X8_layFar (op_X8_layFar fu) [2, 37, 46, 60] (K_X8_layFar fu fu) 86 0 (lv_args 0 [.ref a0, .int a1, .int a2]) [] w := by
  rfl
theorem D_X8_layFar (fu : Nat) : DS T_X8_layFar (op_X8_layFar fu) [2, 37, 46, 60] 86 (K_X8_layFar fu) := by
  refine ⟨fun pc ls st w => c_none (b_none fun _ => b_none fun _ => b_none fun _ => b_none fun _ => skN_none rfl) (c_none (b_none fun _ => b_none fun _ => b_none fun _ => skN_none rfl) (c_none (b_none fun _ => b_none fun _ => b_none fun _ => b_none fun _ => skN_none rfl) (c_none (b_none fun _ => b_none fun _ => b_none fun _ => b_none fun _ => b_none fun _ => skN_none rfl) (rfl)))), fun n pc ls st w o h => ?_⟩
  rcases c_some h with ⟨rfl, h⟩ | h
  · obtain ⟨a0, h0, h⟩ := some_of h; obtain ⟨a1, h1, h⟩ := some_of h; obtain ⟨a2, h2, h⟩ := some_of h; obtain ⟨a3, h3, h⟩ := some_of h;
    obtain ⟨e, g⟩ := skN_of h
    subst e
    exact ⟨[(0, .ref a0), (1, .int a1), (2, .int a2), (3, .int a3)], cons_all (xr_of h0) (cons_all (xi_of h1) (cons_all (xi_of h2) (cons_all (xi_of h3) (nil_all)))), (E_X8_layFar_2 fu n a0 a1 a2 a3 w).symm.trans g⟩
  rcases c_some h with ⟨rfl, h⟩ | h
  · obtain ⟨a0, h0, h⟩ := some_of h; obtain ⟨a2, h2, h⟩ := some_of h; obtain ⟨a3, h3, h⟩ := some_of h;
    obtain ⟨e, g⟩ := skN_of h
    subst e
    exact ⟨[(0, .ref a0), (2, .int a2), (3, .int a3)], cons_all (xr_of h0) (cons_all (xi_of h2) (cons_all (xi_of h3) (nil_all))), (E_X8_layFar_37 fu n a0 a2 a3 w).symm.trans g⟩
  rcases c_some h with ⟨rfl, h⟩ | h
  · obtain ⟨a0, h0, h⟩ := some_of h; obtain ⟨a2, h2, h⟩ := some_of h; obtain ⟨a3, h3, h⟩ := some_of h; obtain ⟨a4, h4, h⟩ := some_of h;
    obtain ⟨e, g⟩ := skN_of h
    subst e
    exact ⟨[(0, .ref a0), (2, .int a2), (3, .int a3), (4, .int a4)], cons_all (xr_of h0) (cons_all (xi_of h2) (cons_all (xi_of h3) (cons_all (xi_of h4) (nil_all)))), (E_X8_layFar_46 fu n a0 a2 a3 a4 w).symm.trans g⟩
  rcases c_some h with ⟨rfl, h⟩ | h
  · obtain ⟨a0, h0, h⟩ := some_of h; obtain ⟨a2, h2, h⟩ := some_of h; obtain ⟨a3, h3, h⟩ := some_of h; obtain ⟨a4, h4, h⟩ := some_of h; obtain ⟨a5, h5, h⟩ := some_of h;
    obtain ⟨e, g⟩ := skN_of h
    subst e
    exact ⟨[(0, .ref a0), (2, .int a2), (3, .int a3), (4, .int a4), (5, .int a5)], cons_all (xr_of h0) (cons_all (xi_of h2) (cons_all (xi_of h3) (cons_all (xi_of h4) (cons_all (xi_of h5) (nil_all))))), (E_X8_layFar_60 fu n a0 a2 a3 a4 a5 w).symm.trans g⟩
  · cases h
theorem H_X8_layFar (fu : Nat) : ∀ as w o, U_X8_layFar fu as w = some o → ∃ a r, as = .ref a :: r ∧ r.length = 2 ∧ isO w a 7 = true := by
  intro as w o h
  unfold U_X8_layFar at h
  split at h
  next =>
    split at h
    next hh => exact ⟨_, _, rfl, rfl, hh⟩
    next => cases h
  next => cases h
set_option maxRecDepth 100000 in
set_option maxHeartbeats 4000000 in
theorem S_X8_layFar (fu : Nat) {l : Launch} {D : va_G} {cA : Nat → ClassId} {base b : Nat} : CS l D cA base b 4 y_X8_layFar prog_10_method_34_code 6 (none) (U_X8_layFar fu) ∧ OM (U_X8_layFar fu) := by
  refine CS_of (d := 3) (y := y_X8_layFar) (cc := prog_10_method_34_code) (nL := 6) (ret := (none)) (F := U_X8_layFar fu) (fl := fl_BrookStonesModel) (nl := []) (kl := kl_BrookStonesModel) (k2 := k2_BrookStonesModel) (mv := [(171, 2, 1, (U_X8_isStand fu)), (174, 4, 1, (U_X8_isStride fu))]) (ms := []) (mi := []) (ini := false) hI_w hZ_w fl_BrookStonesModel_ok nil_all kl_BrookStonesModel_ok k2_BrookStonesModel_ok
    (cons_all (⟨⟨show (1 : Nat) ≠ 3 by decide, y_X8_isStand, prog_10_method_31_code, 3, (some .boolean), 2, "BrookStones", 7, TX8, 37, 1, (S_X8_isStand fu (l := l) (D := D) (cA := cA) (base := base) (b := b)).1, by decide, by decide, rfl, H_X8_isStand fu, rfl, mi_X8_isStand.1, mi_X8_isStand.2.1, mi_X8_isStand.2.2.1, mi_X8_isStand.2.2.2.1, mi_X8_isStand.2.2.2.2, Or.inl (tblG_of (i := 968) rfl rfl)⟩, (S_X8_isStand fu (l := l) (D := D) (cA := cA) (base := base) (b := b)).2⟩) (cons_all (⟨⟨show (1 : Nat) ≠ 3 by decide, y_X8_isStride, prog_10_method_33_code, 5, (some .boolean), 3, "BrookStones", 7, TX8, 37, 3, (S_X8_isStride fu (l := l) (D := D) (cA := cA) (base := base) (b := b)).1, by decide, by decide, rfl, H_X8_isStride fu, rfl, mi_X8_isStride.1, mi_X8_isStride.2.1, mi_X8_isStride.2.2.1, mi_X8_isStride.2.2.2.1, mi_X8_isStride.2.2.2.2, Or.inl (tblG_of (i := 976) rfl rfl)⟩, (S_X8_isStride fu (l := l) (D := D) (cA := cA) (base := base) (b := b)).2⟩) (nil_all)))
    (nil_all)
    (nil_all)
    (T := T_X8_layFar) (by decide +kernel) (cut := [2, 37, 46, 60]) (N := 86) (D_X8_layFar fu) (by decide +kernel) (fun h => absurd h (by decide)) (fun as w o h => ?_)
  unfold U_X8_layFar at h
  split at h
  next =>
    split at h
    next => exact ⟨Nat.le_of_ble_eq_true rfl, fu, (E_X8_layFar fu _ _ _ w).symm.trans h⟩
    next => cases h
  next => cases h
def T_X8_comes : List (Nat × Instr) := [(0, .aload_n 0), (1, .iconst 0), (2, .iload_n 1), (3, .invokevirtual 177), (6, .aload_n 0), (7, .getfield 59), (10, .aload_n 0), (11, .getfield 93), (14, .iconst 1), (15, .iadd), (16, .iaload), (17, .ldc 170), (19, .if_icmp .ge 7), (22, .iconst 1), (23, .goto 4), (26, .iconst 0), (27, .ireturn)]
def op_X8_comes (fu : Nat) : Nat → Kont → XL → List Value → XW → Instr → Option XO := opK 2 (rzOf (some .boolean)) fl_BrookStonesModel [] kl_BrookStonesModel k2_BrookStonesModel [(177, 3, 0, (U_X8_layFar fu))] [] []
def M_X8_comes (fu : Nat) (a0 : Nat) (a1 : Int32) (w : XW) : Option XO :=
  cV (U_X8_layFar fu [.ref a0, .int (0 : Int32), .int a1] w) fun w1 =>
  (gR w1 a0 7 27).bind fun r2 =>
  (gI w1 a0 7 5).bind fun x3 =>
  (aI w1 r2 (x3 + (1 : Int32))).bind fun x4 =>
  (if x4 < (1000000 : Int32) then
    retZ (1 : Int32) w1
  else
    retZ (0 : Int32) w1)
def U_X8_comes (fu : Nat) : Orc := fun as w => match as with
  | [.ref a0, .int a1] => if isO w a0 7 = true then M_X8_comes fu a0 a1 w else none
  | _ => none
def K_X8_comes (fu : Nat) (n : Nat) : Kont := fun pc ls st w => none
set_option maxRecDepth 100000 in
set_option maxHeartbeats 4000000 in
theorem E_X8_comes (fu : Nat) (a0 : Nat) (a1 : Int32) (w : XW) : M_X8_comes fu a0 a1 w = ev T_X8_comes (op_X8_comes fu) [] (K_X8_comes fu fu) 19 0 (lv_args 0 [.ref a0, .int a1]) [] w := by
  rfl
theorem D_X8_comes (fu : Nat) : DS T_X8_comes (op_X8_comes fu) [] 19 (K_X8_comes fu) := by
  refine ⟨fun pc ls st w => rfl, fun n pc ls st w o h => ?_⟩
  cases h
theorem H_X8_comes (fu : Nat) : ∀ as w o, U_X8_comes fu as w = some o → ∃ a r, as = .ref a :: r ∧ r.length = 1 ∧ isO w a 7 = true := by
  intro as w o h
  unfold U_X8_comes at h
  split at h
  next =>
    split at h
    next hh => exact ⟨_, _, rfl, rfl, hh⟩
    next => cases h
  next => cases h
set_option maxRecDepth 100000 in
set_option maxHeartbeats 4000000 in
theorem S_X8_comes (fu : Nat) {l : Launch} {D : va_G} {cA : Nat → ClassId} {base b : Nat} : CS l D cA base b 5 y_X8_comes prog_10_method_35_code 2 (some .boolean) (U_X8_comes fu) ∧ OM (U_X8_comes fu) := by
  refine CS_of (d := 4) (y := y_X8_comes) (cc := prog_10_method_35_code) (nL := 2) (ret := (some .boolean)) (F := U_X8_comes fu) (fl := fl_BrookStonesModel) (nl := []) (kl := kl_BrookStonesModel) (k2 := k2_BrookStonesModel) (mv := [(177, 3, 0, (U_X8_layFar fu))]) (ms := []) (mi := []) (ini := false) hI_w hZ_w fl_BrookStonesModel_ok nil_all kl_BrookStonesModel_ok k2_BrookStonesModel_ok
    (cons_all (⟨⟨show (0 : Nat) ≠ 3 by decide, y_X8_layFar, prog_10_method_34_code, 6, (none), 4, "BrookStones", 7, TX8, 37, 2, (S_X8_layFar fu (l := l) (D := D) (cA := cA) (base := base) (b := b)).1, by decide, by decide, rfl, H_X8_layFar fu, rfl, mi_X8_layFar.1, mi_X8_layFar.2.1, mi_X8_layFar.2.2.1, mi_X8_layFar.2.2.2.1, mi_X8_layFar.2.2.2.2, Or.inl (tblG_of (i := 963) rfl rfl)⟩, (S_X8_layFar fu (l := l) (D := D) (cA := cA) (base := base) (b := b)).2⟩) (nil_all))
    (nil_all)
    (nil_all)
    (T := T_X8_comes) (by decide +kernel) (cut := []) (N := 19) (D_X8_comes fu) (by decide +kernel) (fun h => absurd h (by decide)) (fun as w o h => ?_)
  unfold U_X8_comes at h
  split at h
  next =>
    split at h
    next => exact ⟨Nat.le_of_ble_eq_true rfl, fu, (E_X8_comes fu _ _ w).symm.trans h⟩
    next => cases h
  next => cases h
def T_X8_can : List (Nat × Instr) := [(0, .aload_n 0), (1, .iload_n 1), (2, .invokevirtual 158), (5, .ifCond .ne 5), (8, .iconst (-1)), (9, .ireturn), (10, .aload_n 0), (11, .invokevirtual 181), (14, .aload_n 0), (15, .aload_n 0), (16, .iload_n 1), (17, .iload_n 2), (18, .invokevirtual 184), (21, .invokevirtual 188), (24, .ifCond .eq 7), (27, .iconst 1), (28, .goto 4), (31, .iconst 0), (32, .ireturn)]
def op_X8_can (fu : Nat) : Nat → Kont → XL → List Value → XW → Instr → Option XO := opK 3 (rzOf (some .int)) fl_BrookStonesModel [] kl_BrookStonesModel k2_BrookStonesModel [(158, 2, 1, (U_X8_isWalker fu)), (181, 1, 0, (U_X8_layNow fu)), (184, 3, 1, (U_X8_strideOf fu)), (188, 2, 1, (U_X8_comes fu))] [] []
def M_X8_can (fu : Nat) (a0 : Nat) (a1 : Int32) (a2 : Int32) (w : XW) : Option XO :=
  cI (U_X8_isWalker fu [.ref a0, .int a1] w) fun x2 w1 =>
  (if x2 = 0 then
    some (some (.int (-1 : Int32)), w1)
  else
    cV (U_X8_layNow fu [.ref a0] w1) fun w3 =>
    cI (U_X8_strideOf fu [.ref a0, .int a1, .int a2] w3) fun x5 w4 =>
    cI (U_X8_comes fu [.ref a0, .int x5] w4) fun x7 w6 =>
    (if x7 = 0 then
      some (some (.int (0 : Int32)), w6)
    else
      some (some (.int (1 : Int32)), w6)))
def U_X8_can (fu : Nat) : Orc := fun as w => match as with
  | [.ref a0, .int a1, .int a2] => if isO w a0 7 = true then M_X8_can fu a0 a1 a2 w else none
  | _ => none
def K_X8_can (fu : Nat) (n : Nat) : Kont := fun pc ls st w => none
set_option maxRecDepth 100000 in
set_option maxHeartbeats 4000000 in
theorem E_X8_can (fu : Nat) (a0 : Nat) (a1 : Int32) (a2 : Int32) (w : XW) : M_X8_can fu a0 a1 a2 w = ev T_X8_can (op_X8_can fu) [] (K_X8_can fu fu) 21 0 (lv_args 0 [.ref a0, .int a1, .int a2]) [] w := by
  rfl
theorem D_X8_can (fu : Nat) : DS T_X8_can (op_X8_can fu) [] 21 (K_X8_can fu) := by
  refine ⟨fun pc ls st w => rfl, fun n pc ls st w o h => ?_⟩
  cases h
theorem H_X8_can (fu : Nat) : ∀ as w o, U_X8_can fu as w = some o → ∃ a r, as = .ref a :: r ∧ r.length = 2 ∧ isO w a 7 = true := by
  intro as w o h
  unfold U_X8_can at h
  split at h
  next =>
    split at h
    next hh => exact ⟨_, _, rfl, rfl, hh⟩
    next => cases h
  next => cases h
set_option maxRecDepth 100000 in
set_option maxHeartbeats 4000000 in
theorem S_X8_can (fu : Nat) {l : Launch} {D : va_G} {cA : Nat → ClassId} {base b : Nat} : CS l D cA base b 6 y_X8_can prog_10_method_37_code 3 (some .int) (U_X8_can fu) ∧ OM (U_X8_can fu) := by
  refine CS_of (d := 5) (y := y_X8_can) (cc := prog_10_method_37_code) (nL := 3) (ret := (some .int)) (F := U_X8_can fu) (fl := fl_BrookStonesModel) (nl := []) (kl := kl_BrookStonesModel) (k2 := k2_BrookStonesModel) (mv := [(158, 2, 1, (U_X8_isWalker fu)), (181, 1, 0, (U_X8_layNow fu)), (184, 3, 1, (U_X8_strideOf fu)), (188, 2, 1, (U_X8_comes fu))]) (ms := []) (mi := []) (ini := false) hI_w hZ_w fl_BrookStonesModel_ok nil_all kl_BrookStonesModel_ok k2_BrookStonesModel_ok
    (cons_all (⟨⟨show (1 : Nat) ≠ 3 by decide, y_X8_isWalker, prog_10_method_26_code, 2, (some .boolean), 1, "BrookStones", 7, TX8, 37, 1, (S_X8_isWalker fu (l := l) (D := D) (cA := cA) (base := base) (b := b)).1, by decide, by decide, rfl, H_X8_isWalker fu, rfl, mi_X8_isWalker.1, mi_X8_isWalker.2.1, mi_X8_isWalker.2.2.1, mi_X8_isWalker.2.2.2.1, mi_X8_isWalker.2.2.2.2, Or.inl (tblG_of (i := 943) rfl rfl)⟩, (S_X8_isWalker fu (l := l) (D := D) (cA := cA) (base := base) (b := b)).2⟩) (cons_all (⟨⟨show (0 : Nat) ≠ 3 by decide, y_X8_layNow, prog_10_method_29_code, 2, (none), 1, "BrookStones", 7, TX8, 37, 0, (S_X8_layNow fu (l := l) (D := D) (cA := cA) (base := base) (b := b)).1, by decide, by decide, rfl, H_X8_layNow fu, rfl, mi_X8_layNow.1, mi_X8_layNow.2.1, mi_X8_layNow.2.2.1, mi_X8_layNow.2.2.2.1, mi_X8_layNow.2.2.2.2, Or.inl (tblG_of (i := 951) rfl rfl)⟩, (S_X8_layNow fu (l := l) (D := D) (cA := cA) (base := base) (b := b)).2⟩) (cons_all (⟨⟨show (1 : Nat) ≠ 3 by decide, y_X8_strideOf, prog_10_method_36_code, 3, (some .int), 1, "BrookStones", 7, TX8, 37, 2, (S_X8_strideOf fu (l := l) (D := D) (cA := cA) (base := base) (b := b)).1, by decide, by decide, rfl, H_X8_strideOf fu, rfl, mi_X8_strideOf.1, mi_X8_strideOf.2.1, mi_X8_strideOf.2.2.1, mi_X8_strideOf.2.2.2.1, mi_X8_strideOf.2.2.2.2, Or.inl (tblG_of (i := 955) rfl rfl)⟩, (S_X8_strideOf fu (l := l) (D := D) (cA := cA) (base := base) (b := b)).2⟩) (cons_all (⟨⟨show (1 : Nat) ≠ 3 by decide, y_X8_comes, prog_10_method_35_code, 2, (some .boolean), 5, "BrookStones", 7, TX8, 37, 1, (S_X8_comes fu (l := l) (D := D) (cA := cA) (base := base) (b := b)).1, by decide, by decide, rfl, H_X8_comes fu, rfl, mi_X8_comes.1, mi_X8_comes.2.1, mi_X8_comes.2.2.1, mi_X8_comes.2.2.2.1, mi_X8_comes.2.2.2.2, Or.inl (tblG_of (i := 959) rfl rfl)⟩, (S_X8_comes fu (l := l) (D := D) (cA := cA) (base := base) (b := b)).2⟩) (nil_all)))))
    (nil_all)
    (nil_all)
    (T := T_X8_can) (by decide +kernel) (cut := []) (N := 21) (D_X8_can fu) (by decide +kernel) (fun h => absurd h (by decide)) (fun as w o h => ?_)
  unfold U_X8_can at h
  split at h
  next =>
    split at h
    next => exact ⟨Nat.le_of_ble_eq_true rfl, fu, (E_X8_can fu _ _ _ w).symm.trans h⟩
    next => cases h
  next => cases h
def T_X6_isStride : List (Nat × Instr) := [(0, .iload_n 2), (1, .iload_n 1), (2, .isub), (3, .aload_n 0), (4, .getfield 43), (7, .iload_n 1), (8, .ishr), (9, .iconst 1), (10, .iand), (11, .isub), (12, .aload_n 0), (13, .getfield 43), (16, .iload_n 2), (17, .ishr), (18, .iconst 1), (19, .iand), (20, .isub), (21, .istore_n 3), (22, .aload_n 0), (23, .getfield 37), (26, .iload_n 1), (27, .invokestatic 62), (30, .ifCond .eq 26), (33, .aload_n 0), (34, .getfield 37), (37, .iload_n 2), (38, .invokestatic 62), (41, .ifCond .eq 15), (44, .iload_n 3), (45, .aload_n 0), (46, .getfield 18), (49, .if_icmp .gt 7), (52, .iconst 1), (53, .goto 4), (56, .iconst 0), (57, .ireturn)]
def op_X6_isStride (fu : Nat) : Nat → Kont → XL → List Value → XW → Instr → Option XO := opK 4 (rzOf (some .boolean)) fl_BrookStones_Way [] [] [] [] [(62, 2, 1, (U_X7_has fu))] []
def M_X6_isStride (fu : Nat) (a0 : Nat) (a1 : Int32) (a2 : Int32) (w : XW) : Option XO :=
  (gI w a0 5 3).bind fun x1 =>
  (gI w a0 5 3).bind fun x2 =>
  (gI w a0 5 2).bind fun x3 =>
  cI (U_X7_has fu [.int x3, .int a1] w) fun x5 w4 =>
  (if x5 = 0 then
    retZ (0 : Int32) w4
  else
    (gI w4 a0 5 2).bind fun x6 =>
    cI (U_X7_has fu [.int x6, .int a2] w4) fun x8 w7 =>
    (if x8 = 0 then
      retZ (0 : Int32) w7
    else
      (gI w7 a0 5 5).bind fun x9 =>
      (if x9 < (((a2 - a1) - ((x1 >>> (a1 &&& 31)) &&& (1 : Int32))) - ((x2 >>> (a2 &&& 31)) &&& (1 : Int32))) then
        retZ (0 : Int32) w7
      else
        retZ (1 : Int32) w7)))
def U_X6_isStride (fu : Nat) : Orc := fun as w => match as with
  | [.ref a0, .int a1, .int a2] => if isO w a0 5 = true then M_X6_isStride fu a0 a1 a2 w else none
  | _ => none
def K_X6_isStride (fu : Nat) (n : Nat) : Kont := fun pc ls st w => none
set_option maxRecDepth 100000 in
set_option maxHeartbeats 4000000 in
theorem E_X6_isStride (fu : Nat) (a0 : Nat) (a1 : Int32) (a2 : Int32) (w : XW) : M_X6_isStride fu a0 a1 a2 w = ev T_X6_isStride (op_X6_isStride fu) [] (K_X6_isStride fu fu) 38 0 (lv_args 0 [.ref a0, .int a1, .int a2]) [] w := by
  rfl
theorem D_X6_isStride (fu : Nat) : DS T_X6_isStride (op_X6_isStride fu) [] 38 (K_X6_isStride fu) := by
  refine ⟨fun pc ls st w => rfl, fun n pc ls st w o h => ?_⟩
  cases h
theorem H_X6_isStride (fu : Nat) : ∀ as w o, U_X6_isStride fu as w = some o → ∃ a r, as = .ref a :: r ∧ r.length = 2 ∧ isO w a 5 = true := by
  intro as w o h
  unfold U_X6_isStride at h
  split at h
  next =>
    split at h
    next hh => exact ⟨_, _, rfl, rfl, hh⟩
    next => cases h
  next => cases h
set_option maxRecDepth 100000 in
set_option maxHeartbeats 4000000 in
theorem S_X6_isStride (fu : Nat) {l : Launch} {D : va_G} {cA : Nat → ClassId} {base b : Nat} : CS l D cA base b 2 y_X6_isStride prog_8_method_5_code 4 (some .boolean) (U_X6_isStride fu) ∧ OM (U_X6_isStride fu) := by
  refine CS_of (d := 1) (y := y_X6_isStride) (cc := prog_8_method_5_code) (nL := 4) (ret := (some .boolean)) (F := U_X6_isStride fu) (fl := fl_BrookStones_Way) (nl := []) (kl := []) (k2 := []) (mv := []) (ms := [(62, 2, 1, (U_X7_has fu))]) (mi := []) (ini := false) hI_w hZ_w fl_BrookStones_Way_ok nil_all nil_all nil_all
    (nil_all)
    (cons_all (⟨Or.inl ⟨show (1 : Nat) ≠ 3 by decide, y_X7_has, prog_1_method_47_code, 2, (some .boolean), 1, "BrookStones", (S_X7_has fu (l := l) (D := D) (cA := cA) (base := base) (b := b)).1, by decide, by decide, mi_X7_has.1, mi_X7_has.2.1, mi_X7_has.2.2.1, mi_X7_has.2.2.2, Or.inr (tblN_of (i := 441) rfl rfl)⟩, (S_X7_has fu (l := l) (D := D) (cA := cA) (base := base) (b := b)).2⟩) (nil_all))
    (nil_all)
    (T := T_X6_isStride) (by decide +kernel) (cut := []) (N := 38) (D_X6_isStride fu) (by decide +kernel) (fun h => absurd h (by decide)) (fun as w o h => ?_)
  unfold U_X6_isStride at h
  split at h
  next =>
    split at h
    next => exact ⟨Nat.le_of_ble_eq_true rfl, fu, (E_X6_isStride fu _ _ _ w).symm.trans h⟩
    next => cases h
  next => cases h
def T_X6_fewestFrom : List (Nat × Instr) := [(0, .bipush 99), (2, .istore_n 2), (3, .iload_n 1), (4, .iconst 1), (5, .iadd), (6, .istore_n 3), (7, .iload_n 3), (8, .aload_n 0), (9, .getfield 27), (12, .if_icmp .gt 31), (15, .aload_n 0), (16, .iload_n 1), (17, .iload_n 3), (18, .invokevirtual 52), (21, .ifCond .eq 16), (24, .iload_n 2), (25, .aload_n 0), (26, .getfield 15), (29, .iload_n 3), (30, .iaload), (31, .iconst 1), (32, .iadd), (33, .invokestatic 56), (36, .istore_n 2), (37, .iinc 3 1), (40, .goto (-33)), (43, .iload_n 2), (44, .ireturn)]
def op_X6_fewestFrom (fu : Nat) : Nat → Kont → XL → List Value → XW → Instr → Option XO := opK 4 (rzOf (some .int)) fl_BrookStones_Way [] [] [] [(52, 3, 1, (U_X6_isStride fu))] [(56, 2, 3, oMin)] []
def F_X6_fewestFrom (fu : Nat) : Nat → (Nat → Int32 → Int32 → Int32 → XW → Option XO)
  | 0 => fun _ _ _ _ _ => none
  | n + 1 => (fun a0 a1 a2 a3 w =>
    (gI w a0 5 4).bind fun x1 =>
    (if x1 < a3 then
      some (some (.int a2), w)
    else
      cI (U_X6_isStride fu [.ref a0, .int a1, .int a3] w) fun x3 w2 =>
      (if x3 = 0 then
        (F_X6_fewestFrom fu n) a0 a1 a2 (a3 + (1 : Int32)) w2
      else
        (gR w2 a0 5 1).bind fun r4 =>
        (aI w2 r4 a3).bind fun x5 =>
        cI (oMin [.int a2, .int (x5 + (1 : Int32))] w2) fun x7 w6 =>
        (F_X6_fewestFrom fu n) a0 a1 x7 (a3 + (1 : Int32)) w6)))
def M_X6_fewestFrom (fu : Nat) (a0 : Nat) (a1 : Int32) (w : XW) : Option XO :=
  (F_X6_fewestFrom fu fu) a0 a1 (99 : Int32) (a1 + (1 : Int32)) w
def U_X6_fewestFrom (fu : Nat) : Orc := fun as w => match as with
  | [.ref a0, .int a1] => if isO w a0 5 = true then M_X6_fewestFrom fu a0 a1 w else none
  | _ => none
def K_X6_fewestFrom (fu : Nat) (n : Nat) : Kont := fun pc ls st w => bif pc == 7 then ((xr ls 0).bind fun a0 => (xi ls 1).bind fun a1 => (xi ls 2).bind fun a2 => (xi ls 3).bind fun a3 => skN st ((F_X6_fewestFrom fu n) a0 a1 a2 a3 w)) else none
set_option maxRecDepth 100000 in
set_option maxHeartbeats 4000000 in
theorem E_X6_fewestFrom_7 (fu : Nat) (n : Nat) (a0 : Nat) (a1 : Int32) (a2 : Int32) (a3 : Int32) (w : XW) : (F_X6_fewestFrom fu (n + 1)) a0 a1 a2 a3 w = ev T_X6_fewestFrom (op_X6_fewestFrom fu) [7] (K_X6_fewestFrom fu n) 30 7 [(0, .ref a0), (1, .int a1), (2, .int a2), (3, .int a3)] [] w := by
  rfl
set_option maxRecDepth 100000 in
set_option maxHeartbeats 4000000 in
theorem E_X6_fewestFrom (fu : Nat) (a0 : Nat) (a1 : Int32) (w : XW) : M_X6_fewestFrom fu a0 a1 w = ev T_X6_fewestFrom (op_X6_fewestFrom fu) [7] (K_X6_fewestFrom fu fu) 30 0 (lv_args 0 [.ref a0, .int a1]) [] w := by
  rfl
theorem D_X6_fewestFrom (fu : Nat) : DS T_X6_fewestFrom (op_X6_fewestFrom fu) [7] 30 (K_X6_fewestFrom fu) := by
  refine ⟨fun pc ls st w => c_none (b_none fun _ => b_none fun _ => b_none fun _ => b_none fun _ => skN_none rfl) (rfl), fun n pc ls st w o h => ?_⟩
  rcases c_some h with ⟨rfl, h⟩ | h
  · obtain ⟨a0, h0, h⟩ := some_of h; obtain ⟨a1, h1, h⟩ := some_of h; obtain ⟨a2, h2, h⟩ := some_of h; obtain ⟨a3, h3, h⟩ := some_of h;
    obtain ⟨e, g⟩ := skN_of h
    subst e
    exact ⟨[(0, .ref a0), (1, .int a1), (2, .int a2), (3, .int a3)], cons_all (xr_of h0) (cons_all (xi_of h1) (cons_all (xi_of h2) (cons_all (xi_of h3) (nil_all)))), (E_X6_fewestFrom_7 fu n a0 a1 a2 a3 w).symm.trans g⟩
  · cases h
theorem H_X6_fewestFrom (fu : Nat) : ∀ as w o, U_X6_fewestFrom fu as w = some o → ∃ a r, as = .ref a :: r ∧ r.length = 1 ∧ isO w a 5 = true := by
  intro as w o h
  unfold U_X6_fewestFrom at h
  split at h
  next =>
    split at h
    next hh => exact ⟨_, _, rfl, rfl, hh⟩
    next => cases h
  next => cases h
set_option maxRecDepth 100000 in
set_option maxHeartbeats 4000000 in
theorem S_X6_fewestFrom (fu : Nat) {l : Launch} {D : va_G} {cA : Nat → ClassId} {base b : Nat} : CS l D cA base b 3 y_X6_fewestFrom prog_8_method_3_code 4 (some .int) (U_X6_fewestFrom fu) ∧ OM (U_X6_fewestFrom fu) := by
  refine CS_of (d := 2) (y := y_X6_fewestFrom) (cc := prog_8_method_3_code) (nL := 4) (ret := (some .int)) (F := U_X6_fewestFrom fu) (fl := fl_BrookStones_Way) (nl := []) (kl := []) (k2 := []) (mv := [(52, 3, 1, (U_X6_isStride fu))]) (ms := [(56, 2, 3, oMin)]) (mi := []) (ini := false) hI_w hZ_w fl_BrookStones_Way_ok nil_all nil_all nil_all
    (cons_all (⟨⟨show (1 : Nat) ≠ 3 by decide, y_X6_isStride, prog_8_method_5_code, 4, (some .boolean), 2, "BrookStones", 5, TX6, 6, 2, (S_X6_isStride fu (l := l) (D := D) (cA := cA) (base := base) (b := b)).1, by decide, by decide, rfl, H_X6_isStride fu, rfl, mi_X6_isStride.1, mi_X6_isStride.2.1, mi_X6_isStride.2.2.1, mi_X6_isStride.2.2.2.1, mi_X6_isStride.2.2.2.2, Or.inl (tblG_of (i := 437) rfl rfl)⟩, (S_X6_isStride fu (l := l) (D := D) (cA := cA) (base := base) (b := b)).2⟩) (nil_all))
    (cons_all (⟨Or.inr (Or.inr (Or.inr ⟨rfl, rfl, rfl, tblG_of (i := 442) rfl rfl, tblG_of (i := 301) rfl rfl, tblG_of (i := 11) rfl rfl, tblG_of (i := 302) rfl rfl⟩)), om_min⟩) (nil_all))
    (nil_all)
    (T := T_X6_fewestFrom) (by decide +kernel) (cut := [7]) (N := 30) (D_X6_fewestFrom fu) (by decide +kernel) (fun h => absurd h (by decide)) (fun as w o h => ?_)
  unfold U_X6_fewestFrom at h
  split at h
  next =>
    split at h
    next => exact ⟨Nat.le_of_ble_eq_true rfl, fu, (E_X6_fewestFrom fu _ _ w).symm.trans h⟩
    next => cases h
  next => cases h
def T_X6_firstBehind : List (Nat × Instr) := [(0, .iload_n 1), (1, .iconst 1), (2, .iadd), (3, .istore_n 2), (4, .iload_n 2), (5, .aload_n 0), (6, .getfield 27), (9, .if_icmp .ge 37), (12, .aload_n 0), (13, .iload_n 1), (14, .iload_n 2), (15, .invokevirtual 52), (18, .ifCond .eq 22), (21, .aload_n 0), (22, .getfield 15), (25, .iload_n 2), (26, .iaload), (27, .aload_n 0), (28, .getfield 15), (31, .iload_n 1), (32, .iaload), (33, .iconst 1), (34, .isub), (35, .if_icmp .ne 5), (38, .iload_n 2), (39, .ireturn), (40, .iinc 2 1), (43, .goto (-39)), (46, .aload_n 0), (47, .getfield 27), (50, .ireturn)]
def op_X6_firstBehind (fu : Nat) : Nat → Kont → XL → List Value → XW → Instr → Option XO := opK 3 (rzOf (some .int)) fl_BrookStones_Way [] [] [] [(52, 3, 1, (U_X6_isStride fu))] [] []
def F_X6_firstBehind (fu : Nat) : Nat → (Nat → Int32 → Int32 → XW → Option XO)
  | 0 => fun _ _ _ _ => none
  | n + 1 => (fun a0 a1 a2 w =>
    (gI w a0 5 4).bind fun x1 =>
    (if a2 < x1 then
      cI (U_X6_isStride fu [.ref a0, .int a1, .int a2] w) fun x4 w3 =>
      (if x4 = 0 then
        (F_X6_firstBehind fu n) a0 a1 (a2 + (1 : Int32)) w3
      else
        (gR w3 a0 5 1).bind fun r5 =>
        (aI w3 r5 a2).bind fun x6 =>
        (gR w3 a0 5 1).bind fun r7 =>
        (aI w3 r7 a1).bind fun x8 =>
        (if x6 = (x8 - (1 : Int32)) then
          some (some (.int a2), w3)
        else
          (F_X6_firstBehind fu n) a0 a1 (a2 + (1 : Int32)) w3))
    else
      (gI w a0 5 4).bind fun x2 =>
      some (some (.int x2), w)))
def M_X6_firstBehind (fu : Nat) (a0 : Nat) (a1 : Int32) (w : XW) : Option XO :=
  (F_X6_firstBehind fu fu) a0 a1 (a1 + (1 : Int32)) w
def U_X6_firstBehind (fu : Nat) : Orc := fun as w => match as with
  | [.ref a0, .int a1] => if isO w a0 5 = true then M_X6_firstBehind fu a0 a1 w else none
  | _ => none
def K_X6_firstBehind (fu : Nat) (n : Nat) : Kont := fun pc ls st w => bif pc == 4 then ((xr ls 0).bind fun a0 => (xi ls 1).bind fun a1 => (xi ls 2).bind fun a2 => skN st ((F_X6_firstBehind fu n) a0 a1 a2 w)) else none
set_option maxRecDepth 100000 in
set_option maxHeartbeats 4000000 in
theorem E_X6_firstBehind_4 (fu : Nat) (n : Nat) (a0 : Nat) (a1 : Int32) (a2 : Int32) (w : XW) : (F_X6_firstBehind fu (n + 1)) a0 a1 a2 w = ev T_X6_firstBehind (op_X6_firstBehind fu) [4] (K_X6_firstBehind fu n) 33 4 [(0, .ref a0), (1, .int a1), (2, .int a2)] [] w := by
  rfl
set_option maxRecDepth 100000 in
set_option maxHeartbeats 4000000 in
theorem E_X6_firstBehind (fu : Nat) (a0 : Nat) (a1 : Int32) (w : XW) : M_X6_firstBehind fu a0 a1 w = ev T_X6_firstBehind (op_X6_firstBehind fu) [4] (K_X6_firstBehind fu fu) 33 0 (lv_args 0 [.ref a0, .int a1]) [] w := by
  rfl
theorem D_X6_firstBehind (fu : Nat) : DS T_X6_firstBehind (op_X6_firstBehind fu) [4] 33 (K_X6_firstBehind fu) := by
  refine ⟨fun pc ls st w => c_none (b_none fun _ => b_none fun _ => b_none fun _ => skN_none rfl) (rfl), fun n pc ls st w o h => ?_⟩
  rcases c_some h with ⟨rfl, h⟩ | h
  · obtain ⟨a0, h0, h⟩ := some_of h; obtain ⟨a1, h1, h⟩ := some_of h; obtain ⟨a2, h2, h⟩ := some_of h;
    obtain ⟨e, g⟩ := skN_of h
    subst e
    exact ⟨[(0, .ref a0), (1, .int a1), (2, .int a2)], cons_all (xr_of h0) (cons_all (xi_of h1) (cons_all (xi_of h2) (nil_all))), (E_X6_firstBehind_4 fu n a0 a1 a2 w).symm.trans g⟩
  · cases h
theorem H_X6_firstBehind (fu : Nat) : ∀ as w o, U_X6_firstBehind fu as w = some o → ∃ a r, as = .ref a :: r ∧ r.length = 1 ∧ isO w a 5 = true := by
  intro as w o h
  unfold U_X6_firstBehind at h
  split at h
  next =>
    split at h
    next hh => exact ⟨_, _, rfl, rfl, hh⟩
    next => cases h
  next => cases h
set_option maxRecDepth 100000 in
set_option maxHeartbeats 4000000 in
theorem S_X6_firstBehind (fu : Nat) {l : Launch} {D : va_G} {cA : Nat → ClassId} {base b : Nat} : CS l D cA base b 3 y_X6_firstBehind prog_8_method_4_code 3 (some .int) (U_X6_firstBehind fu) ∧ OM (U_X6_firstBehind fu) := by
  refine CS_of (d := 2) (y := y_X6_firstBehind) (cc := prog_8_method_4_code) (nL := 3) (ret := (some .int)) (F := U_X6_firstBehind fu) (fl := fl_BrookStones_Way) (nl := []) (kl := []) (k2 := []) (mv := [(52, 3, 1, (U_X6_isStride fu))]) (ms := []) (mi := []) (ini := false) hI_w hZ_w fl_BrookStones_Way_ok nil_all nil_all nil_all
    (cons_all (⟨⟨show (1 : Nat) ≠ 3 by decide, y_X6_isStride, prog_8_method_5_code, 4, (some .boolean), 2, "BrookStones", 5, TX6, 6, 2, (S_X6_isStride fu (l := l) (D := D) (cA := cA) (base := base) (b := b)).1, by decide, by decide, rfl, H_X6_isStride fu, rfl, mi_X6_isStride.1, mi_X6_isStride.2.1, mi_X6_isStride.2.2.1, mi_X6_isStride.2.2.2.1, mi_X6_isStride.2.2.2.2, Or.inl (tblG_of (i := 437) rfl rfl)⟩, (S_X6_isStride fu (l := l) (D := D) (cA := cA) (base := base) (b := b)).2⟩) (nil_all))
    (nil_all)
    (nil_all)
    (T := T_X6_firstBehind) (by decide +kernel) (cut := [4]) (N := 33) (D_X6_firstBehind fu) (by decide +kernel) (fun h => absurd h (by decide)) (fun as w o h => ?_)
  unfold U_X6_firstBehind at h
  split at h
  next =>
    split at h
    next => exact ⟨Nat.le_of_ble_eq_true rfl, fu, (E_X6_firstBehind fu _ _ w).symm.trans h⟩
    next => cases h
  next => cases h
def T_X6_find : List (Nat × Instr) := [(0, .aload_n 0), (1, .iload_n 2), (2, .putfield 18), (5, .aload_n 0), (6, .aload_n 1), (7, .getfield 22), (10, .iconst 1), (11, .iadd), (12, .putfield 27), (15, .aload_n 0), (16, .iconst 1), (17, .aload_n 1), (18, .aload_n 1), (19, .getfield 30), (22, .invokevirtual 33), (25, .iconst 1), (26, .ishl), (27, .ior), (28, .iconst 1), (29, .aload_n 0), (30, .getfield 27), (33, .ishl), (34, .ior), (35, .putfield 37), (38, .aload_n 0), (39, .aload_n 1), (40, .iconst 2), (41, .invokevirtual 40), (44, .iconst 1), (45, .ishl), (46, .putfield 43), (49, .aload_n 0), (50, .getfield 15), (53, .aload_n 0), (54, .getfield 27), (57, .iconst 0), (58, .iastore), (59, .aload_n 0), (60, .getfield 27), (63, .iconst 1), (64, .isub), (65, .istore_n 3), (66, .iload_n 3), (67, .ifCond .lt 20), (70, .aload_n 0), (71, .getfield 15), (74, .iload_n 3), (75, .aload_n 0), (76, .iload_n 3), (77, .invokevirtual 46), (80, .iastore), (81, .iinc 3 (-1)), (84, .goto (-18)), (87, .aload_n 0), (88, .getfield 15), (91, .iconst 0), (92, .iaload), (93, .bipush 99), (95, .if_icmp .lt 6), (98, .bipush (-9)), (100, .ireturn), (101, .iconst 0), (102, .istore_n 3), (103, .iconst 0), (104, .istore 4), (106, .iload 4), (108, .aload_n 0), (109, .getfield 15), (112, .iconst 0), (113, .iaload), (114, .if_icmp .ge 25), (117, .aload_n 0), (118, .iload_n 3), (119, .invokevirtual 49), (122, .istore_n 3), (123, .aload_n 0), (124, .getfield 9), (127, .iload 4), (129, .iload_n 3), (130, .iconst 1), (131, .isub), (132, .iastore), (133, .iinc 4 1), (136, .goto (-30)), (139, .aload_n 0), (140, .getfield 15), (143, .iconst 0), (144, .iaload), (145, .ireturn)]
def op_X6_find (fu : Nat) : Nat → Kont → XL → List Value → XW → Instr → Option XO := opK 5 (rzOf (some .int)) fl_BrookStones_Way [] [] [] [(33, 2, 1, (U_X0_dry fu)), (40, 2, 1, (U_X0_ofKind fu)), (46, 2, 1, (U_X6_fewestFrom fu)), (49, 2, 1, (U_X6_firstBehind fu))] [] []
def F_X6_find (fu : Nat) : Nat → (Nat → Int32 → XW → Option XO) × (Nat → Int32 → Int32 → XW → Option XO)
  | 0 => (fun _ _ _ => none, fun _ _ _ _ => none)
  | n + 1 => ((fun a0 a3 w =>
    (if a3 < 0 then
      (gR w a0 5 1).bind fun r1 =>
      (aI w r1 (0 : Int32)).bind fun x2 =>
      (if x2 < (99 : Int32) then
        (F_X6_find fu n).2 a0 (0 : Int32) (0 : Int32) w
      else
        some (some (.int (-9 : Int32)), w))
    else
      (gR w a0 5 1).bind fun r3 =>
      cI (U_X6_fewestFrom fu [.ref a0, .int a3] w) fun x5 w4 =>
      (sI w4 r3 a3 x5).bind fun w6 =>
      (F_X6_find fu n).1 a0 (a3 + (-1 : Int32)) w6)),
   (fun a0 a3 a4 w =>
    (gR w a0 5 1).bind fun r7 =>
    (aI w r7 (0 : Int32)).bind fun x8 =>
    (if a4 < x8 then
      cI (U_X6_firstBehind fu [.ref a0, .int a3] w) fun x12 w11 =>
      (gR w11 a0 5 0).bind fun r13 =>
      (sI w11 r13 a4 (x12 - (1 : Int32))).bind fun w14 =>
      (F_X6_find fu n).2 a0 x12 (a4 + (1 : Int32)) w14
    else
      (gR w a0 5 1).bind fun r9 =>
      (aI w r9 (0 : Int32)).bind fun x10 =>
      some (some (.int x10), w))))
def M_X6_find (fu : Nat) (a0 : Nat) (a1 : Nat) (a2 : Int32) (w : XW) : Option XO :=
  (pF w a0 5 5 (.int a2)).bind fun w15 =>
  (gI w15 a1 0 8).bind fun x16 =>
  (pF w15 a0 5 4 (.int (x16 + (1 : Int32)))).bind fun w17 =>
  (gI w17 a1 0 11).bind fun x18 =>
  cI (U_X0_dry fu [.ref a1, .int x18] w17) fun x20 w19 =>
  (gI w19 a0 5 4).bind fun x21 =>
  (pF w19 a0 5 2 (.int (((1 : Int32) ||| (x20 <<< ((1 : Int32) &&& 31))) ||| ((1 : Int32) <<< (x21 &&& 31))))).bind fun w22 =>
  cI (U_X0_ofKind fu [.ref a1, .int (2 : Int32)] w22) fun x24 w23 =>
  (pF w23 a0 5 3 (.int (x24 <<< ((1 : Int32) &&& 31)))).bind fun w25 =>
  (gR w25 a0 5 1).bind fun r26 =>
  (gI w25 a0 5 4).bind fun x27 =>
  (sI w25 r26 x27 (0 : Int32)).bind fun w28 =>
  (gI w28 a0 5 4).bind fun x29 =>
  (F_X6_find fu fu).1 a0 (x29 - (1 : Int32)) w28
def U_X6_find (fu : Nat) : Orc := fun as w => match as with
  | [.ref a0, .ref a1, .int a2] => if isO w a0 5 = true then M_X6_find fu a0 a1 a2 w else none
  | _ => none
def K_X6_find (fu : Nat) (n : Nat) : Kont := fun pc ls st w => bif pc == 66 then ((xr ls 0).bind fun a0 => (xi ls 3).bind fun a3 => skN st ((F_X6_find fu n).1 a0 a3 w)) else bif pc == 106 then ((xr ls 0).bind fun a0 => (xi ls 3).bind fun a3 => (xi ls 4).bind fun a4 => skN st ((F_X6_find fu n).2 a0 a3 a4 w)) else none
set_option maxRecDepth 100000 in
set_option maxHeartbeats 4000000 in
theorem E_X6_find_66 (fu : Nat) (n : Nat) (a0 : Nat) (a3 : Int32) (w : XW) : (F_X6_find fu (n + 1)).1 a0 a3 w = ev T_X6_find (op_X6_find fu) [66, 106] (K_X6_find fu n) 91 66 [(0, .ref a0), (3, .int a3)] [] w := by
  rfl
set_option maxRecDepth 100000 in
set_option maxHeartbeats 4000000 in
theorem E_X6_find_106 (fu : Nat) (n : Nat) (a0 : Nat) (a3 : Int32) (a4 : Int32) (w : XW) : (F_X6_find fu (n + 1)).2 a0 a3 a4 w = ev T_X6_find (op_X6_find fu) [66, 106] (K_X6_find fu n) 91 106 [(0, .ref a0), (3, .int a3), (4, .int a4)] [] w := by
  rfl
set_option maxRecDepth 100000 in
set_option maxHeartbeats 4000000 in
theorem E_X6_find (fu : Nat) (a0 : Nat) (a1 : Nat) (a2 : Int32) (w : XW) : M_X6_find fu a0 a1 a2 w = ev T_X6_find (op_X6_find fu) [66, 106] (K_X6_find fu fu) 91 0 (lv_args 0 [.ref a0, .ref a1, .int a2]) [] w := by
  rfl
theorem D_X6_find (fu : Nat) : DS T_X6_find (op_X6_find fu) [66, 106] 91 (K_X6_find fu) := by
  refine ⟨fun pc ls st w => c_none (b_none fun _ => b_none fun _ => skN_none rfl) (c_none (b_none fun _ => b_none fun _ => b_none fun _ => skN_none rfl) (rfl)), fun n pc ls st w o h => ?_⟩
  rcases c_some h with ⟨rfl, h⟩ | h
  · obtain ⟨a0, h0, h⟩ := some_of h; obtain ⟨a3, h3, h⟩ := some_of h;
    obtain ⟨e, g⟩ := skN_of h
    subst e
    exact ⟨[(0, .ref a0), (3, .int a3)], cons_all (xr_of h0) (cons_all (xi_of h3) (nil_all)), (E_X6_find_66 fu n a0 a3 w).symm.trans g⟩
  rcases c_some h with ⟨rfl, h⟩ | h
  · obtain ⟨a0, h0, h⟩ := some_of h; obtain ⟨a3, h3, h⟩ := some_of h; obtain ⟨a4, h4, h⟩ := some_of h;
    obtain ⟨e, g⟩ := skN_of h
    subst e
    exact ⟨[(0, .ref a0), (3, .int a3), (4, .int a4)], cons_all (xr_of h0) (cons_all (xi_of h3) (cons_all (xi_of h4) (nil_all))), (E_X6_find_106 fu n a0 a3 a4 w).symm.trans g⟩
  · cases h
theorem H_X6_find (fu : Nat) : ∀ as w o, U_X6_find fu as w = some o → ∃ a r, as = .ref a :: r ∧ r.length = 2 ∧ isO w a 5 = true := by
  intro as w o h
  unfold U_X6_find at h
  split at h
  next =>
    split at h
    next hh => exact ⟨_, _, rfl, rfl, hh⟩
    next => cases h
  next => cases h
set_option maxRecDepth 100000 in
set_option maxHeartbeats 4000000 in
theorem S_X6_find (fu : Nat) {l : Launch} {D : va_G} {cA : Nat → ClassId} {base b : Nat} : CS l D cA base b 4 y_X6_find prog_8_method_2_code 5 (some .int) (U_X6_find fu) ∧ OM (U_X6_find fu) := by
  refine CS_of (d := 3) (y := y_X6_find) (cc := prog_8_method_2_code) (nL := 5) (ret := (some .int)) (F := U_X6_find fu) (fl := fl_BrookStones_Way) (nl := []) (kl := []) (k2 := []) (mv := [(33, 2, 1, (U_X0_dry fu)), (40, 2, 1, (U_X0_ofKind fu)), (46, 2, 1, (U_X6_fewestFrom fu)), (49, 2, 1, (U_X6_firstBehind fu))]) (ms := []) (mi := []) (ini := false) hI_w hZ_w fl_BrookStones_Way_ok nil_all nil_all nil_all
    (cons_all (⟨⟨show (1 : Nat) ≠ 3 by decide, y_X0_dry, prog_2_method_19_code, 4, (some .int), 2, "BrookStones", 0, TX0, 15, 1, (S_X0_dry fu (l := l) (D := D) (cA := cA) (base := base) (b := b)).1, by decide, by decide, rfl, H_X0_dry fu, rfl, mi_X0_dry.1, mi_X0_dry.2.1, mi_X0_dry.2.2.1, mi_X0_dry.2.2.2.1, mi_X0_dry.2.2.2.2, Or.inr (tblN_of (i := 431) rfl rfl)⟩, (S_X0_dry fu (l := l) (D := D) (cA := cA) (base := base) (b := b)).2⟩) (cons_all (⟨⟨show (1 : Nat) ≠ 3 by decide, y_X0_ofKind, prog_2_method_18_code, 4, (some .int), 1, "BrookStones", 0, TX0, 15, 1, (S_X0_ofKind fu (l := l) (D := D) (cA := cA) (base := base) (b := b)).1, by decide, by decide, rfl, H_X0_ofKind fu, rfl, mi_X0_ofKind.1, mi_X0_ofKind.2.1, mi_X0_ofKind.2.2.1, mi_X0_ofKind.2.2.2.1, mi_X0_ofKind.2.2.2.2, Or.inr (tblN_of (i := 432) rfl rfl)⟩, (S_X0_ofKind fu (l := l) (D := D) (cA := cA) (base := base) (b := b)).2⟩) (cons_all (⟨⟨show (1 : Nat) ≠ 3 by decide, y_X6_fewestFrom, prog_8_method_3_code, 4, (some .int), 3, "BrookStones", 5, TX6, 6, 1, (S_X6_fewestFrom fu (l := l) (D := D) (cA := cA) (base := base) (b := b)).1, by decide, by decide, rfl, H_X6_fewestFrom fu, rfl, mi_X6_fewestFrom.1, mi_X6_fewestFrom.2.1, mi_X6_fewestFrom.2.2.1, mi_X6_fewestFrom.2.2.2.1, mi_X6_fewestFrom.2.2.2.2, Or.inl (tblG_of (i := 433) rfl rfl)⟩, (S_X6_fewestFrom fu (l := l) (D := D) (cA := cA) (base := base) (b := b)).2⟩) (cons_all (⟨⟨show (1 : Nat) ≠ 3 by decide, y_X6_firstBehind, prog_8_method_4_code, 3, (some .int), 3, "BrookStones", 5, TX6, 6, 1, (S_X6_firstBehind fu (l := l) (D := D) (cA := cA) (base := base) (b := b)).1, by decide, by decide, rfl, H_X6_firstBehind fu, rfl, mi_X6_firstBehind.1, mi_X6_firstBehind.2.1, mi_X6_firstBehind.2.2.1, mi_X6_firstBehind.2.2.2.1, mi_X6_firstBehind.2.2.2.2, Or.inl (tblG_of (i := 443) rfl rfl)⟩, (S_X6_firstBehind fu (l := l) (D := D) (cA := cA) (base := base) (b := b)).2⟩) (nil_all)))))
    (nil_all)
    (nil_all)
    (T := T_X6_find) (by decide +kernel) (cut := [66, 106]) (N := 91) (D_X6_find fu) (by decide +kernel) (fun h => absurd h (by decide)) (fun as w o h => ?_)
  unfold U_X6_find at h
  split at h
  next =>
    split at h
    next => exact ⟨Nat.le_of_ble_eq_true rfl, fu, (E_X6_find fu _ _ _ w).symm.trans h⟩
    next => cases h
  next => cases h
def T_X7_way : List (Nat × Instr) := [(0, .aload_n 0), (1, .getfield 12), (4, .iload_n 1), (5, .invokevirtual 158), (8, .ifCond .eq 8), (11, .iload_n 2), (12, .iconst (-1)), (13, .if_icmp .ge 5), (16, .iconst (-1)), (17, .ireturn), (18, .aload_n 0), (19, .getfield 28), (22, .aload_n 0), (23, .getfield 12), (26, .aload_n 0), (27, .getfield 12), (30, .iload_n 1), (31, .iconst 0), (32, .invokevirtual 168), (35, .invokevirtual 175), (38, .istore_n 3), (39, .iload_n 2), (40, .iconst (-1)), (41, .if_icmp .ne 5), (44, .iload_n 3), (45, .ireturn), (46, .iload_n 2), (47, .iload_n 3), (48, .if_icmp .ge 27), (51, .iload_n 2), (52, .aload_n 0), (53, .getfield 28), (56, .getfield 179), (59, .arraylength), (60, .if_icmp .ge 15), (63, .aload_n 0), (64, .getfield 28), (67, .getfield 179), (70, .iload_n 2), (71, .iaload), (72, .goto 5), (75, .bipush (-9)), (77, .ireturn)]
def op_X7_way (fu : Nat) : Nat → Kont → XL → List Value → XW → Instr → Option XO := opK 4 (rzOf (some .int)) fl_BrookStones nl_BrookStones [] k2_BrookStones [(158, 2, 1, (U_X0_isWalker fu)), (168, 3, 1, (U_X0_reachOf fu)), (175, 3, 1, (U_X6_find fu))] [] []
def M_X7_way (fu : Nat) (a0 : Nat) (a1 : Int32) (a2 : Int32) (w : XW) : Option XO :=
  (gR w a0 6 0).bind fun r1 =>
  cI (U_X0_isWalker fu [.ref r1, .int a1] w) fun x3 w2 =>
  (if x3 = 0 then
    some (some (.int (-1 : Int32)), w2)
  else
    (if a2 < (-1 : Int32) then
      some (some (.int (-1 : Int32)), w2)
    else
      (gR w2 a0 6 2).bind fun r4 =>
      (gR w2 a0 6 0).bind fun r5 =>
      (gR w2 a0 6 0).bind fun r6 =>
      cI (U_X0_reachOf fu [.ref r6, .int a1, .int (0 : Int32)] w2) fun x8 w7 =>
      cI (U_X6_find fu [.ref r4, .ref r5, .int x8] w7) fun x10 w9 =>
      (if a2 = (-1 : Int32) then
        some (some (.int x10), w9)
      else
        (if a2 < x10 then
          (gR w9 a0 6 2).bind fun r11 =>
          (gR w9 r11 5 0).bind fun r12 =>
          (aL w9 r12).bind fun x13 =>
          (if a2 < x13 then
            (gR w9 a0 6 2).bind fun r14 =>
            (gR w9 r14 5 0).bind fun r15 =>
            (aI w9 r15 a2).bind fun x16 =>
            some (some (.int x16), w9)
          else
            some (some (.int (-9 : Int32)), w9))
        else
          some (some (.int (-9 : Int32)), w9)))))
def U_X7_way (fu : Nat) : Orc := fun as w => match as with
  | [.ref a0, .int a1, .int a2] => if isO w a0 6 = true then M_X7_way fu a0 a1 a2 w else none
  | _ => none
def K_X7_way (fu : Nat) (n : Nat) : Kont := fun pc ls st w => none
set_option maxRecDepth 100000 in
set_option maxHeartbeats 4000000 in
theorem E_X7_way (fu : Nat) (a0 : Nat) (a1 : Int32) (a2 : Int32) (w : XW) : M_X7_way fu a0 a1 a2 w = ev T_X7_way (op_X7_way fu) [] (K_X7_way fu fu) 45 0 (lv_args 0 [.ref a0, .int a1, .int a2]) [] w := by
  rfl
theorem D_X7_way (fu : Nat) : DS T_X7_way (op_X7_way fu) [] 45 (K_X7_way fu) := by
  refine ⟨fun pc ls st w => rfl, fun n pc ls st w o h => ?_⟩
  cases h
theorem H_X7_way (fu : Nat) : ∀ as w o, U_X7_way fu as w = some o → ∃ a r, as = .ref a :: r ∧ r.length = 2 ∧ isO w a 6 = true := by
  intro as w o h
  unfold U_X7_way at h
  split at h
  next =>
    split at h
    next hh => exact ⟨_, _, rfl, rfl, hh⟩
    next => cases h
  next => cases h
set_option maxRecDepth 100000 in
set_option maxHeartbeats 4000000 in
theorem S_X7_way (fu : Nat) {l : Launch} {D : va_G} {cA : Nat → ClassId} {base b : Nat} : CS l D cA base b 5 y_X7_way prog_1_method_13_code 4 (some .int) (U_X7_way fu) ∧ OM (U_X7_way fu) := by
  refine CS_of (d := 4) (y := y_X7_way) (cc := prog_1_method_13_code) (nL := 4) (ret := (some .int)) (F := U_X7_way fu) (fl := fl_BrookStones) (nl := nl_BrookStones) (kl := []) (k2 := k2_BrookStones) (mv := [(158, 2, 1, (U_X0_isWalker fu)), (168, 3, 1, (U_X0_reachOf fu)), (175, 3, 1, (U_X6_find fu))]) (ms := []) (mi := []) (ini := false) hI_w hZ_w fl_BrookStones_ok nl_BrookStones_ok nil_all k2_BrookStones_ok
    (cons_all (⟨⟨show (1 : Nat) ≠ 3 by decide, y_X0_isWalker, prog_2_method_6_code, 2, (some .boolean), 1, "BrookStones", 0, TX0, 15, 1, (S_X0_isWalker fu (l := l) (D := D) (cA := cA) (base := base) (b := b)).1, by decide, by decide, rfl, H_X0_isWalker fu, rfl, mi_X0_isWalker.1, mi_X0_isWalker.2.1, mi_X0_isWalker.2.2.1, mi_X0_isWalker.2.2.2.1, mi_X0_isWalker.2.2.2.2, Or.inr (tblN_of (i := 391) rfl rfl)⟩, (S_X0_isWalker fu (l := l) (D := D) (cA := cA) (base := base) (b := b)).2⟩) (cons_all (⟨⟨show (1 : Nat) ≠ 3 by decide, y_X0_reachOf, prog_2_method_9_code, 3, (some .int), 1, "BrookStones", 0, TX0, 15, 2, (S_X0_reachOf fu (l := l) (D := D) (cA := cA) (base := base) (b := b)).1, by decide, by decide, rfl, H_X0_reachOf fu, rfl, mi_X0_reachOf.1, mi_X0_reachOf.2.1, mi_X0_reachOf.2.2.1, mi_X0_reachOf.2.2.2.1, mi_X0_reachOf.2.2.2.2, Or.inr (tblN_of (i := 407) rfl rfl)⟩, (S_X0_reachOf fu (l := l) (D := D) (cA := cA) (base := base) (b := b)).2⟩) (cons_all (⟨⟨show (1 : Nat) ≠ 3 by decide, y_X6_find, prog_8_method_2_code, 5, (some .int), 4, "BrookStones", 5, TX6, 6, 2, (S_X6_find fu (l := l) (D := D) (cA := cA) (base := base) (b := b)).1, by decide, by decide, rfl, H_X6_find fu, rfl, mi_X6_find.1, mi_X6_find.2.1, mi_X6_find.2.2.1, mi_X6_find.2.2.2.1, mi_X6_find.2.2.2.2, Or.inr (tblN_of (i := 427) rfl rfl)⟩, (S_X6_find fu (l := l) (D := D) (cA := cA) (base := base) (b := b)).2⟩) (nil_all))))
    (nil_all)
    (nil_all)
    (T := T_X7_way) (by decide +kernel) (cut := []) (N := 45) (D_X7_way fu) (by decide +kernel) (fun h => absurd h (by decide)) (fun as w o h => ?_)
  unfold U_X7_way at h
  split at h
  next =>
    split at h
    next => exact ⟨Nat.le_of_ble_eq_true rfl, fu, (E_X7_way fu _ _ _ w).symm.trans h⟩
    next => cases h
  next => cases h
def T_X8_way : List (Nat × Instr) := [(0, .aload_n 0), (1, .iload_n 1), (2, .invokevirtual 158), (5, .ifCond .eq 8), (8, .iload_n 2), (9, .iconst (-1)), (10, .if_icmp .ge 5), (13, .iconst (-1)), (14, .ireturn), (15, .aload_n 0), (16, .invokevirtual 181), (19, .aload_n 0), (20, .aload_n 0), (21, .getfield 93), (24, .iconst 1), (25, .iadd), (26, .aload_n 0), (27, .getfield 53), (30, .iload_n 1), (31, .iaload), (32, .invokevirtual 177), (35, .aload_n 0), (36, .getfield 59), (39, .iconst 0), (40, .iaload), (41, .istore_n 3), (42, .iload_n 3), (43, .ldc 170), (45, .if_icmp .ne 6), (48, .bipush (-9)), (50, .ireturn), (51, .iload_n 2), (52, .iconst (-1)), (53, .if_icmp .ne 5), (56, .iload_n 3), (57, .ireturn), (58, .iload_n 2), (59, .iload_n 3), (60, .if_icmp .lt 6), (63, .bipush (-9)), (65, .ireturn), (66, .iconst 0), (67, .istore 4), (69, .iconst 0), (70, .istore 5), (72, .iload 5), (74, .iload_n 2), (75, .if_icmp .gt 74), (78, .iconst 0), (79, .istore 6), (81, .iload 6), (83, .iload 4), (85, .if_icmp .eq 48), (88, .aload_n 0), (89, .getfield 59), (92, .iload 6), (94, .iaload), (95, .aload_n 0), (96, .getfield 59), (99, .iload 4), (101, .iaload), (102, .iconst 1), (103, .isub), (104, .if_icmp .ne 29), (107, .aload_n 0), (108, .iload 6), (110, .invokevirtual 171), (113, .ifCond .eq 20), (116, .aload_n 0), (117, .iload 4), (119, .iload 6), (121, .aload_n 0), (122, .getfield 53), (125, .iload_n 1), (126, .iaload), (127, .invokevirtual 174), (130, .ifCond .ne 9), (133, .iinc 6 1), (136, .goto (-55)), (139, .iload 6), (141, .istore 4), (143, .iinc 5 1), (146, .goto (-74)), (149, .iload 4), (151, .iconst 1), (152, .isub), (153, .ireturn)]
def op_X8_way (fu : Nat) : Nat → Kont → XL → List Value → XW → Instr → Option XO := opK 7 (rzOf (some .int)) fl_BrookStonesModel [] kl_BrookStonesModel k2_BrookStonesModel [(158, 2, 1, (U_X8_isWalker fu)), (181, 1, 0, (U_X8_layNow fu)), (177, 3, 0, (U_X8_layFar fu)), (171, 2, 1, (U_X8_isStand fu)), (174, 4, 1, (U_X8_isStride fu))] [] []
def F_X8_way (fu : Nat) : Nat → (Nat → Int32 → Int32 → Int32 → Int32 → XW → Option XO) × (Nat → Int32 → Int32 → Int32 → Int32 → Int32 → XW → Option XO)
  | 0 => (fun _ _ _ _ _ _ => none, fun _ _ _ _ _ _ _ => none)
  | n + 1 => ((fun a0 a1 a2 a4 a5 w =>
    (if a2 < a5 then
      some (some (.int (a4 - (1 : Int32))), w)
    else
      (F_X8_way fu n).2 a0 a1 a2 a4 a5 (0 : Int32) w)),
   (fun a0 a1 a2 a4 a5 a6 w =>
    (if a6 = a4 then
      (F_X8_way fu n).2 a0 a1 a2 a4 a5 (a6 + (1 : Int32)) w
    else
      (gR w a0 7 27).bind fun r1 =>
      (aI w r1 a6).bind fun x2 =>
      (gR w a0 7 27).bind fun r3 =>
      (aI w r3 a4).bind fun x4 =>
      (if x2 = (x4 - (1 : Int32)) then
        cI (U_X8_isStand fu [.ref a0, .int a6] w) fun x6 w5 =>
        (if x6 = 0 then
          (F_X8_way fu n).2 a0 a1 a2 a4 a5 (a6 + (1 : Int32)) w5
        else
          (gR w5 a0 7 24).bind fun r7 =>
          (aI w5 r7 a1).bind fun x8 =>
          cI (U_X8_isStride fu [.ref a0, .int a4, .int a6, .int x8] w5) fun x10 w9 =>
          (if x10 = 0 then
            (F_X8_way fu n).2 a0 a1 a2 a4 a5 (a6 + (1 : Int32)) w9
          else
            (F_X8_way fu n).1 a0 a1 a2 a6 (a5 + (1 : Int32)) w9))
      else
        (F_X8_way fu n).2 a0 a1 a2 a4 a5 (a6 + (1 : Int32)) w))))
def M_X8_way (fu : Nat) (a0 : Nat) (a1 : Int32) (a2 : Int32) (w : XW) : Option XO :=
  cI (U_X8_isWalker fu [.ref a0, .int a1] w) fun x12 w11 =>
  (if x12 = 0 then
    some (some (.int (-1 : Int32)), w11)
  else
    (if a2 < (-1 : Int32) then
      some (some (.int (-1 : Int32)), w11)
    else
      cV (U_X8_layNow fu [.ref a0] w11) fun w13 =>
      (gI w13 a0 7 5).bind fun x14 =>
      (gR w13 a0 7 24).bind fun r15 =>
      (aI w13 r15 a1).bind fun x16 =>
      cV (U_X8_layFar fu [.ref a0, .int (x14 + (1 : Int32)), .int x16] w13) fun w17 =>
      (gR w17 a0 7 27).bind fun r18 =>
      (aI w17 r18 (0 : Int32)).bind fun x19 =>
      (if x19 = (1000000 : Int32) then
        some (some (.int (-9 : Int32)), w17)
      else
        (if a2 = (-1 : Int32) then
          some (some (.int x19), w17)
        else
          (if a2 < x19 then
            (F_X8_way fu fu).1 a0 a1 a2 (0 : Int32) (0 : Int32) w17
          else
            some (some (.int (-9 : Int32)), w17))))))
def U_X8_way (fu : Nat) : Orc := fun as w => match as with
  | [.ref a0, .int a1, .int a2] => if isO w a0 7 = true then M_X8_way fu a0 a1 a2 w else none
  | _ => none
def K_X8_way (fu : Nat) (n : Nat) : Kont := fun pc ls st w => bif pc == 72 then ((xr ls 0).bind fun a0 => (xi ls 1).bind fun a1 => (xi ls 2).bind fun a2 => (xi ls 4).bind fun a4 => (xi ls 5).bind fun a5 => skN st ((F_X8_way fu n).1 a0 a1 a2 a4 a5 w)) else bif pc == 81 then ((xr ls 0).bind fun a0 => (xi ls 1).bind fun a1 => (xi ls 2).bind fun a2 => (xi ls 4).bind fun a4 => (xi ls 5).bind fun a5 => (xi ls 6).bind fun a6 => skN st ((F_X8_way fu n).2 a0 a1 a2 a4 a5 a6 w)) else none
set_option maxRecDepth 100000 in
set_option maxHeartbeats 4000000 in
theorem E_X8_way_72 (fu : Nat) (n : Nat) (a0 : Nat) (a1 : Int32) (a2 : Int32) (a4 : Int32) (a5 : Int32) (w : XW) : (F_X8_way fu (n + 1)).1 a0 a1 a2 a4 a5 w = ev T_X8_way (op_X8_way fu) [72, 81] (K_X8_way fu n) 89 72 [(0, .ref a0), (1, .int a1), (2, .int a2), (4, .int a4), (5, .int a5)] [] w := by
  rfl
set_option maxRecDepth 100000 in
set_option maxHeartbeats 4000000 in
theorem E_X8_way_81 (fu : Nat) (n : Nat) (a0 : Nat) (a1 : Int32) (a2 : Int32) (a4 : Int32) (a5 : Int32) (a6 : Int32) (w : XW) : (F_X8_way fu (n + 1)).2 a0 a1 a2 a4 a5 a6 w = ev T_X8_way (op_X8_way fu) [72, 81] (K_X8_way fu n) 89 81 [(0, .ref a0), (1, .int a1), (2, .int a2), (4, .int a4), (5, .int a5), (6, .int a6)] [] w := by
  rfl
set_option maxRecDepth 100000 in
set_option maxHeartbeats 4000000 in
theorem E_X8_way (fu : Nat) (a0 : Nat) (a1 : Int32) (a2 : Int32) (w : XW) : M_X8_way fu a0 a1 a2 w = ev T_X8_way (op_X8_way fu) [72, 81] (K_X8_way fu fu) 89 0 (lv_args 0 [.ref a0, .int a1, .int a2]) [] w := by
  rfl
theorem D_X8_way (fu : Nat) : DS T_X8_way (op_X8_way fu) [72, 81] 89 (K_X8_way fu) := by
  refine ⟨fun pc ls st w => c_none (b_none fun _ => b_none fun _ => b_none fun _ => b_none fun _ => b_none fun _ => skN_none rfl) (c_none (b_none fun _ => b_none fun _ => b_none fun _ => b_none fun _ => b_none fun _ => b_none fun _ => skN_none rfl) (rfl)), fun n pc ls st w o h => ?_⟩
  rcases c_some h with ⟨rfl, h⟩ | h
  · obtain ⟨a0, h0, h⟩ := some_of h; obtain ⟨a1, h1, h⟩ := some_of h; obtain ⟨a2, h2, h⟩ := some_of h; obtain ⟨a4, h4, h⟩ := some_of h; obtain ⟨a5, h5, h⟩ := some_of h;
    obtain ⟨e, g⟩ := skN_of h
    subst e
    exact ⟨[(0, .ref a0), (1, .int a1), (2, .int a2), (4, .int a4), (5, .int a5)], cons_all (xr_of h0) (cons_all (xi_of h1) (cons_all (xi_of h2) (cons_all (xi_of h4) (cons_all (xi_of h5) (nil_all))))), (E_X8_way_72 fu n a0 a1 a2 a4 a5 w).symm.trans g⟩
  rcases c_some h with ⟨rfl, h⟩ | h
  · obtain ⟨a0, h0, h⟩ := some_of h; obtain ⟨a1, h1, h⟩ := some_of h; obtain ⟨a2, h2, h⟩ := some_of h; obtain ⟨a4, h4, h⟩ := some_of h; obtain ⟨a5, h5, h⟩ := some_of h; obtain ⟨a6, h6, h⟩ := some_of h;
    obtain ⟨e, g⟩ := skN_of h
    subst e
    exact ⟨[(0, .ref a0), (1, .int a1), (2, .int a2), (4, .int a4), (5, .int a5), (6, .int a6)], cons_all (xr_of h0) (cons_all (xi_of h1) (cons_all (xi_of h2) (cons_all (xi_of h4) (cons_all (xi_of h5) (cons_all (xi_of h6) (nil_all)))))), (E_X8_way_81 fu n a0 a1 a2 a4 a5 a6 w).symm.trans g⟩
  · cases h
theorem H_X8_way (fu : Nat) : ∀ as w o, U_X8_way fu as w = some o → ∃ a r, as = .ref a :: r ∧ r.length = 2 ∧ isO w a 7 = true := by
  intro as w o h
  unfold U_X8_way at h
  split at h
  next =>
    split at h
    next hh => exact ⟨_, _, rfl, rfl, hh⟩
    next => cases h
  next => cases h
set_option maxRecDepth 100000 in
set_option maxHeartbeats 4000000 in
theorem S_X8_way (fu : Nat) {l : Launch} {D : va_G} {cA : Nat → ClassId} {base b : Nat} : CS l D cA base b 5 y_X8_way prog_10_method_38_code 7 (some .int) (U_X8_way fu) ∧ OM (U_X8_way fu) := by
  refine CS_of (d := 4) (y := y_X8_way) (cc := prog_10_method_38_code) (nL := 7) (ret := (some .int)) (F := U_X8_way fu) (fl := fl_BrookStonesModel) (nl := []) (kl := kl_BrookStonesModel) (k2 := k2_BrookStonesModel) (mv := [(158, 2, 1, (U_X8_isWalker fu)), (181, 1, 0, (U_X8_layNow fu)), (177, 3, 0, (U_X8_layFar fu)), (171, 2, 1, (U_X8_isStand fu)), (174, 4, 1, (U_X8_isStride fu))]) (ms := []) (mi := []) (ini := false) hI_w hZ_w fl_BrookStonesModel_ok nil_all kl_BrookStonesModel_ok k2_BrookStonesModel_ok
    (cons_all (⟨⟨show (1 : Nat) ≠ 3 by decide, y_X8_isWalker, prog_10_method_26_code, 2, (some .boolean), 1, "BrookStones", 7, TX8, 37, 1, (S_X8_isWalker fu (l := l) (D := D) (cA := cA) (base := base) (b := b)).1, by decide, by decide, rfl, H_X8_isWalker fu, rfl, mi_X8_isWalker.1, mi_X8_isWalker.2.1, mi_X8_isWalker.2.2.1, mi_X8_isWalker.2.2.2.1, mi_X8_isWalker.2.2.2.2, Or.inl (tblG_of (i := 943) rfl rfl)⟩, (S_X8_isWalker fu (l := l) (D := D) (cA := cA) (base := base) (b := b)).2⟩) (cons_all (⟨⟨show (0 : Nat) ≠ 3 by decide, y_X8_layNow, prog_10_method_29_code, 2, (none), 1, "BrookStones", 7, TX8, 37, 0, (S_X8_layNow fu (l := l) (D := D) (cA := cA) (base := base) (b := b)).1, by decide, by decide, rfl, H_X8_layNow fu, rfl, mi_X8_layNow.1, mi_X8_layNow.2.1, mi_X8_layNow.2.2.1, mi_X8_layNow.2.2.2.1, mi_X8_layNow.2.2.2.2, Or.inl (tblG_of (i := 951) rfl rfl)⟩, (S_X8_layNow fu (l := l) (D := D) (cA := cA) (base := base) (b := b)).2⟩) (cons_all (⟨⟨show (0 : Nat) ≠ 3 by decide, y_X8_layFar, prog_10_method_34_code, 6, (none), 4, "BrookStones", 7, TX8, 37, 2, (S_X8_layFar fu (l := l) (D := D) (cA := cA) (base := base) (b := b)).1, by decide, by decide, rfl, H_X8_layFar fu, rfl, mi_X8_layFar.1, mi_X8_layFar.2.1, mi_X8_layFar.2.2.1, mi_X8_layFar.2.2.2.1, mi_X8_layFar.2.2.2.2, Or.inl (tblG_of (i := 963) rfl rfl)⟩, (S_X8_layFar fu (l := l) (D := D) (cA := cA) (base := base) (b := b)).2⟩) (cons_all (⟨⟨show (1 : Nat) ≠ 3 by decide, y_X8_isStand, prog_10_method_31_code, 3, (some .boolean), 2, "BrookStones", 7, TX8, 37, 1, (S_X8_isStand fu (l := l) (D := D) (cA := cA) (base := base) (b := b)).1, by decide, by decide, rfl, H_X8_isStand fu, rfl, mi_X8_isStand.1, mi_X8_isStand.2.1, mi_X8_isStand.2.2.1, mi_X8_isStand.2.2.2.1, mi_X8_isStand.2.2.2.2, Or.inl (tblG_of (i := 968) rfl rfl)⟩, (S_X8_isStand fu (l := l) (D := D) (cA := cA) (base := base) (b := b)).2⟩) (cons_all (⟨⟨show (1 : Nat) ≠ 3 by decide, y_X8_isStride, prog_10_method_33_code, 5, (some .boolean), 3, "BrookStones", 7, TX8, 37, 3, (S_X8_isStride fu (l := l) (D := D) (cA := cA) (base := base) (b := b)).1, by decide, by decide, rfl, H_X8_isStride fu, rfl, mi_X8_isStride.1, mi_X8_isStride.2.1, mi_X8_isStride.2.2.1, mi_X8_isStride.2.2.2.1, mi_X8_isStride.2.2.2.2, Or.inl (tblG_of (i := 976) rfl rfl)⟩, (S_X8_isStride fu (l := l) (D := D) (cA := cA) (base := base) (b := b)).2⟩) (nil_all))))))
    (nil_all)
    (nil_all)
    (T := T_X8_way) (by decide +kernel) (cut := [72, 81]) (N := 89) (D_X8_way fu) (by decide +kernel) (fun h => absurd h (by decide)) (fun as w o h => ?_)
  unfold U_X8_way at h
  split at h
  next =>
    split at h
    next => exact ⟨Nat.le_of_ble_eq_true rfl, fu, (E_X8_way fu _ _ _ w).symm.trans h⟩
    next => cases h
  next => cases h
