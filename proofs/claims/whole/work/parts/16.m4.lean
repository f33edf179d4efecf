def T_X0_easeOf : List (Nat × Instr) := [(0, .aload_n 0), (1, .getfield 21), (4, .iload_n 1), (5, .iaload), (6, .iconst 2), (7, .if_icmp .ne 7), (10, .iconst 1), (11, .goto 4), (14, .iconst 0), (15, .ireturn)]
def op_X0_easeOf (fu : Nat) : Nat → Kont → XL → List Value → XW → Instr → Option XO := opK 2 (rzOf (some .int)) fl_BrookStones_Brook [] [] [] [] [] []
def M_X0_easeOf (fu : Nat) (a0 : Nat) (a1 : Int32) (w : XW) : Option XO :=
  (gR w a0 0 3).bind fun r1 =>
  (aI w r1 a1).bind fun x2 =>
  (if x2 = (2 : Int32) then
    some (some (.int (1 : Int32)), w)
  else
    some (some (.int (0 : Int32)), w))
def U_X0_easeOf (fu : Nat) : Orc := fun as w => match as with
  | [.ref a0, .int a1] => if isO w a0 0 = true then M_X0_easeOf fu a0 a1 w else none
  | _ => none
def K_X0_easeOf (fu : Nat) (n : Nat) : Kont := fun pc ls st w => none
set_option maxRecDepth 100000 in
set_option maxHeartbeats 4000000 in
theorem E_X0_easeOf (fu : Nat) (a0 : Nat) (a1 : Int32) (w : XW) : M_X0_easeOf fu a0 a1 w = ev T_X0_easeOf (op_X0_easeOf fu) [] (K_X0_easeOf fu fu) 12 0 (lv_args 0 [.ref a0, .int a1]) [] w := by
  rfl
theorem D_X0_easeOf (fu : Nat) : DS T_X0_easeOf (op_X0_easeOf fu) [] 12 (K_X0_easeOf fu) := by
  refine ⟨fun pc ls st w => rfl, fun n pc ls st w o h => ?_⟩
  cases h
theorem H_X0_easeOf (fu : Nat) : ∀ as w o, U_X0_easeOf fu as w = some o → ∃ a r, as = .ref a :: r ∧ r.length = 1 ∧ isO w a 0 = true := by
  intro as w o h
  unfold U_X0_easeOf at h
  split at h
  next =>
    split at h
    next hh => exact ⟨_, _, rfl, rfl, hh⟩
    next => cases h
  next => cases h
set_option maxRecDepth 100000 in
set_option maxHeartbeats 4000000 in
theorem S_X0_easeOf (fu : Nat) {l : Launch} {D : va_G} {cA : Nat → ClassId} {base b : Nat} : CS l D cA base b 1 y_X0_easeOf prog_2_method_11_code 2 (some .int) (U_X0_easeOf fu) ∧ OM (U_X0_easeOf fu) := by
  refine CS_of (d := 0) (y := y_X0_easeOf) (cc := prog_2_method_11_code) (nL := 2) (ret := (some .int)) (F := U_X0_easeOf fu) (fl := fl_BrookStones_Brook) (nl := []) (kl := []) (k2 := []) (mv := []) (ms := []) (mi := []) (ini := false) hI_w hZ_w fl_BrookStones_Brook_ok nil_all nil_all nil_all
    (nil_all)
    (nil_all)
    (nil_all)
    (T := T_X0_easeOf) (by decide +kernel) (cut := []) (N := 12) (D_X0_easeOf fu) (by decide +kernel) (fun h => absurd h (by decide)) (fun as w o h => ?_)
  unfold U_X0_easeOf at h
  split at h
  next =>
    split at h
    next => exact ⟨Nat.le_of_ble_eq_true rfl, fu, (E_X0_easeOf fu _ _ w).symm.trans h⟩
    next => cases h
  next => cases h
def T_X3_helps : List (Nat × Instr) := [(0, .aload_n 0), (1, .getfield 18), (4, .iload_n 2), (5, .iaload), (6, .iload_n 3), (7, .invokestatic 48), (10, .ifCond .eq 19), (13, .iload_n 3), (14, .aload_n 1), (15, .iload_n 2), (16, .invokevirtual 121), (19, .isub), (20, .iload 4), (22, .if_icmp .gt 7), (25, .iconst 1), (26, .goto 4), (29, .iconst 0), (30, .ireturn)]
def op_X3_helps (fu : Nat) : Nat → Kont → XL → List Value → XW → Instr → Option XO := opK 5 (rzOf (some .boolean)) fl_BrookStones_Planner nl_BrookStones_Planner kl_BrookStones_Planner [] [(121, 2, 1, (U_X0_easeOf fu))] [(48, 2, 1, (U_X7_has fu))] []
def M_X3_helps (fu : Nat) (a0 : Nat) (a1 : Nat) (a2 : Int32) (a3 : Int32) (a4 : Int32) (w : XW) : Option XO :=
  (gR w a0 3 2).bind fun r1 =>
  (aI w r1 a2).bind fun x2 =>
  cI (U_X7_has fu [.int x2, .int a3] w) fun x4 w3 =>
  (if x4 = 0 then
    retZ (0 : Int32) w3
  else
    cI (U_X0_easeOf fu [.ref a1, .int a2] w3) fun x6 w5 =>
    (if a4 < (a3 - x6) then
      retZ (0 : Int32) w5
    else
      retZ (1 : Int32) w5))
def U_X3_helps (fu : Nat) : Orc := fun as w => match as with
  | [.ref a0, .ref a1, .int a2, .int a3, .int a4] => if isO w a0 3 = true then M_X3_helps fu a0 a1 a2 a3 a4 w else none
  | _ => none
def K_X3_helps (fu : Nat) (n : Nat) : Kont := fun pc ls st w => none
set_option maxRecDepth 100000 in
set_option maxHeartbeats 4000000 in
theorem E_X3_helps (fu : Nat) (a0 : Nat) (a1 : Nat) (a2 : Int32) (a3 : Int32) (a4 : Int32) (w : XW) : M_X3_helps fu a0 a1 a2 a3 a4 w = ev T_X3_helps (op_X3_helps fu) [] (K_X3_helps fu fu) 20 0 (lv_args 0 [.ref a0, .ref a1, .int a2, .int a3, .int a4]) [] w := by
  rfl
theorem D_X3_helps (fu : Nat) : DS T_X3_helps (op_X3_helps fu) [] 20 (K_X3_helps fu) := by
  refine ⟨fun pc ls st w => rfl, fun n pc ls st w o h => ?_⟩
  cases h
theorem H_X3_helps (fu : Nat) : ∀ as w o, U_X3_helps fu as w = some o → ∃ a r, as = .ref a :: r ∧ r.length = 4 ∧ isO w a 3 = true := by
  intro as w o h
  unfold U_X3_helps at h
  split at h
  next =>
    split at h
    next hh => exact ⟨_, _, rfl, rfl, hh⟩
    next => cases h
  next => cases h
set_option maxRecDepth 100000 in
set_option maxHeartbeats 4000000 in
theorem S_X3_helps (fu : Nat) {l : Launch} {D : va_G} {cA : Nat → ClassId} {base b : Nat} : CS l D cA base b 2 y_X3_helps prog_5_method_12_code 5 (some .boolean) (U_X3_helps fu) ∧ OM (U_X3_helps fu) := by
  refine CS_of (d := 1) (y := y_X3_helps) (cc := prog_5_method_12_code) (nL := 5) (ret := (some .boolean)) (F := U_X3_helps fu) (fl := fl_BrookStones_Planner) (nl := nl_BrookStones_Planner) (kl := kl_BrookStones_Planner) (k2 := []) (mv := [(121, 2, 1, (U_X0_easeOf fu))]) (ms := [(48, 2, 1, (U_X7_has fu))]) (mi := []) (ini := false) hI_w hZ_w fl_BrookStones_Planner_ok nl_BrookStones_Planner_ok kl_BrookStones_Planner_ok nil_all
    (cons_all (⟨⟨show (1 : Nat) ≠ 3 by decide, y_X0_easeOf, prog_2_method_11_code, 2, (some .int), 1, "BrookStones", 0, TX0, 15, 1, (S_X0_easeOf fu (l := l) (D := D) (cA := cA) (base := base) (b := b)).1, by decide, by decide, rfl, H_X0_easeOf fu, rfl, mi_X0_easeOf.1, mi_X0_easeOf.2.1, mi_X0_easeOf.2.2.1, mi_X0_easeOf.2.2.2.1, mi_X0_easeOf.2.2.2.2, Or.inr (tblN_of (i := 552) rfl rfl)⟩, (S_X0_easeOf fu (l := l) (D := D) (cA := cA) (base := base) (b := b)).2⟩) (nil_all))
    (cons_all (⟨Or.inl ⟨show (1 : Nat) ≠ 3 by decide, y_X7_has, prog_1_method_47_code, 2, (some .boolean), 1, "BrookStones", (S_X7_has fu (l := l) (D := D) (cA := cA) (base := base) (b := b)).1, by decide, by decide, mi_X7_has.1, mi_X7_has.2.1, mi_X7_has.2.2.1, mi_X7_has.2.2.2, Or.inr (tblN_of (i := 526) rfl rfl)⟩, (S_X7_has fu (l := l) (D := D) (cA := cA) (base := base) (b := b)).2⟩) (nil_all))
    (nil_all)
    (T := T_X3_helps) (by decide +kernel) (cut := []) (N := 20) (D_X3_helps fu) (by decide +kernel) (fun h => absurd h (by decide)) (fun as w o h => ?_)
  unfold U_X3_helps at h
  split at h
  next =>
    split at h
    next => exact ⟨Nat.le_of_ble_eq_true rfl, fu, (E_X3_helps fu _ _ _ _ _ w).symm.trans h⟩
    next => cases h
  next => cases h
def T_X3_farBehind : List (Nat × Instr) := [(0, .iload_n 3), (1, .aload_n 1), (2, .iload_n 2), (3, .invokevirtual 121), (6, .iadd), (7, .aload_n 0), (8, .getfield 26), (11, .iadd), (12, .aload_n 1), (13, .getfield 66), (16, .invokestatic 69), (19, .ireturn)]
def op_X3_farBehind (fu : Nat) : Nat → Kont → XL → List Value → XW → Instr → Option XO := opK 4 (rzOf (some .int)) fl_BrookStones_Planner nl_BrookStones_Planner kl_BrookStones_Planner [] [(121, 2, 1, (U_X0_easeOf fu))] [(69, 2, 3, oMin)] []
def M_X3_farBehind (fu : Nat) (a0 : Nat) (a1 : Nat) (a2 : Int32) (a3 : Int32) (w : XW) : Option XO :=
  cI (U_X0_easeOf fu [.ref a1, .int a2] w) fun x2 w1 =>
  (gI w1 a0 3 5).bind fun x3 =>
  (gI w1 a1 0 8).bind fun x4 =>
  cI (oMin [.int ((a3 + x2) + x3), .int x4] w1) fun x6 w5 =>
  some (some (.int x6), w5)
def U_X3_farBehind (fu : Nat) : Orc := fun as w => match as with
  | [.ref a0, .ref a1, .int a2, .int a3] => if isO w a0 3 = true then M_X3_farBehind fu a0 a1 a2 a3 w else none
  | _ => none
def K_X3_farBehind (fu : Nat) (n : Nat) : Kont := fun pc ls st w => none
set_option maxRecDepth 100000 in
set_option maxHeartbeats 4000000 in
theorem E_X3_farBehind (fu : Nat) (a0 : Nat) (a1 : Nat) (a2 : Int32) (a3 : Int32) (w : XW) : M_X3_farBehind fu a0 a1 a2 a3 w = ev T_X3_farBehind (op_X3_farBehind fu) [] (K_X3_farBehind fu fu) 14 0 (lv_args 0 [.ref a0, .ref a1, .int a2, .int a3]) [] w := by
  rfl
theorem D_X3_farBehind (fu : Nat) : DS T_X3_farBehind (op_X3_farBehind fu) [] 14 (K_X3_farBehind fu) := by
  refine ⟨fun pc ls st w => rfl, fun n pc ls st w o h => ?_⟩
  cases h
theorem H_X3_farBehind (fu : Nat) : ∀ as w o, U_X3_farBehind fu as w = some o → ∃ a r, as = .ref a :: r ∧ r.length = 3 ∧ isO w a 3 = true := by
  intro as w o h
  unfold U_X3_farBehind at h
  split at h
  next =>
    split at h
    next hh => exact ⟨_, _, rfl, rfl, hh⟩
    next => cases h
  next => cases h
set_option maxRecDepth 100000 in
set_option maxHeartbeats 4000000 in
theorem S_X3_farBehind (fu : Nat) {l : Launch} {D : va_G} {cA : Nat → ClassId} {base b : Nat} : CS l D cA base b 2 y_X3_farBehind prog_5_method_13_code 4 (some .int) (U_X3_farBehind fu) ∧ OM (U_X3_farBehind fu) := by
  refine CS_of (d := 1) (y := y_X3_farBehind) (cc := prog_5_method_13_code) (nL := 4) (ret := (some .int)) (F := U_X3_farBehind fu) (fl := fl_BrookStones_Planner) (nl := nl_BrookStones_Planner) (kl := kl_BrookStones_Planner) (k2 := []) (mv := [(121, 2, 1, (U_X0_easeOf fu))]) (ms := [(69, 2, 3, oMin)]) (mi := []) (ini := false) hI_w hZ_w fl_BrookStones_Planner_ok nl_BrookStones_Planner_ok kl_BrookStones_Planner_ok nil_all
    (cons_all (⟨⟨show (1 : Nat) ≠ 3 by decide, y_X0_easeOf, prog_2_method_11_code, 2, (some .int), 1, "BrookStones", 0, TX0, 15, 1, (S_X0_easeOf fu (l := l) (D := D) (cA := cA) (base := base) (b := b)).1, by decide, by decide, rfl, H_X0_easeOf fu, rfl, mi_X0_easeOf.1, mi_X0_easeOf.2.1, mi_X0_easeOf.2.2.1, mi_X0_easeOf.2.2.2.1, mi_X0_easeOf.2.2.2.2, Or.inr (tblN_of (i := 552) rfl rfl)⟩, (S_X0_easeOf fu (l := l) (D := D) (cA := cA) (base := base) (b := b)).2⟩) (nil_all))
    (cons_all (⟨Or.inr (Or.inr (Or.inr ⟨rfl, rfl, rfl, tblG_of (i := 560) rfl rfl, tblG_of (i := 301) rfl rfl, tblG_of (i := 11) rfl rfl, tblG_of (i := 302) rfl rfl⟩)), om_min⟩) (nil_all))
    (nil_all)
    (T := T_X3_farBehind) (by decide +kernel) (cut := []) (N := 14) (D_X3_farBehind fu) (by decide +kernel) (fun h => absurd h (by decide)) (fun as w o h => ?_)
  unfold U_X3_farBehind at h
  split at h
  next =>
    split at h
    next => exact ⟨Nat.le_of_ble_eq_true rfl, fu, (E_X3_farBehind fu _ _ _ _ w).symm.trans h⟩
    next => cases h
  next => cases h
def T_X3_costOf : List (Nat × Instr) := [(0, .bipush 7), (2, .aload_n 0), (3, .iload_n 1), (4, .iload_n 2), (5, .invokevirtual 125), (8, .imul), (9, .iconst 1), (10, .iadd), (11, .ireturn)]
def op_X3_costOf (fu : Nat) : Nat → Kont → XL → List Value → XW → Instr → Option XO := opK 3 (rzOf (some .int)) fl_BrookStones_Planner nl_BrookStones_Planner kl_BrookStones_Planner [] [(125, 3, 1, (U_X0_workOf fu))] [] []
def M_X3_costOf (fu : Nat) (a0 : Nat) (a1 : Int32) (a2 : Int32) (w : XW) : Option XO :=
  cI (U_X0_workOf fu [.ref a0, .int a1, .int a2] w) fun x2 w1 =>
  some (some (.int (((7 : Int32) * x2) + (1 : Int32))), w1)
def U_X3_costOf (fu : Nat) : Orc := fun as w => match as with
  | [.ref a0, .int a1, .int a2] => M_X3_costOf fu a0 a1 a2 w
  | _ => none
def K_X3_costOf (fu : Nat) (n : Nat) : Kont := fun pc ls st w => none
set_option maxRecDepth 100000 in
set_option maxHeartbeats 4000000 in
theorem E_X3_costOf (fu : Nat) (a0 : Nat) (a1 : Int32) (a2 : Int32) (w : XW) : M_X3_costOf fu a0 a1 a2 w = ev T_X3_costOf (op_X3_costOf fu) [] (K_X3_costOf fu fu) 11 0 (lv_args 0 [.ref a0, .int a1, .int a2]) [] w := by
  rfl
theorem D_X3_costOf (fu : Nat) : DS T_X3_costOf (op_X3_costOf fu) [] 11 (K_X3_costOf fu) := by
  refine ⟨fun pc ls st w => rfl, fun n pc ls st w o h => ?_⟩
  cases h
set_option maxRecDepth 100000 in
set_option maxHeartbeats 4000000 in
theorem S_X3_costOf (fu : Nat) {l : Launch} {D : va_G} {cA : Nat → ClassId} {base b : Nat} : CS l D cA base b 2 y_X3_costOf prog_5_method_14_code 3 (some .int) (U_X3_costOf fu) ∧ OM (U_X3_costOf fu) := by
  refine CS_of (d := 1) (y := y_X3_costOf) (cc := prog_5_method_14_code) (nL := 3) (ret := (some .int)) (F := U_X3_costOf fu) (fl := fl_BrookStones_Planner) (nl := nl_BrookStones_Planner) (kl := kl_BrookStones_Planner) (k2 := []) (mv := [(125, 3, 1, (U_X0_workOf fu))]) (ms := []) (mi := []) (ini := false) hI_w hZ_w fl_BrookStones_Planner_ok nl_BrookStones_Planner_ok kl_BrookStones_Planner_ok nil_all
    (cons_all (⟨⟨show (1 : Nat) ≠ 3 by decide, y_X0_workOf, prog_2_method_12_code, 4, (some .int), 1, "BrookStones", 0, TX0, 15, 2, (S_X0_workOf fu (l := l) (D := D) (cA := cA) (base := base) (b := b)).1, by decide, by decide, rfl, H_X0_workOf fu, rfl, mi_X0_workOf.1, mi_X0_workOf.2.1, mi_X0_workOf.2.2.1, mi_X0_workOf.2.2.2.1, mi_X0_workOf.2.2.2.2, Or.inr (tblN_of (i := 564) rfl rfl)⟩, (S_X0_workOf fu (l := l) (D := D) (cA := cA) (base := base) (b := b)).2⟩) (nil_all))
    (nil_all)
    (nil_all)
    (T := T_X3_costOf) (by decide +kernel) (cut := []) (N := 11) (D_X3_costOf fu) (by decide +kernel) (fun h => absurd h (by decide)) (fun as w o h => ?_)
  unfold U_X3_costOf at h
  split at h
  next =>
    exact ⟨Nat.le_of_ble_eq_true rfl, fu, (E_X3_costOf fu _ _ _ w).symm.trans h⟩
  next => cases h
def T_X3_leastFrom : List (Nat × Instr) := [(0, .aload_n 0), (1, .getfield 23), (4, .iload_n 2), (5, .iconst 1), (6, .iadd), (7, .aaload), (8, .iload_n 3), (9, .iaload), (10, .istore 4), (12, .iconst 0), (13, .istore 5), (15, .iload 5), (17, .aload_n 1), (18, .getfield 40), (21, .if_icmp .ge 57), (24, .aload_n 0), (25, .aload_n 1), (26, .iload 5), (28, .iload_n 2), (29, .iload_n 3), (30, .invokevirtual 95), (33, .ifCond .eq 39), (36, .aload_n 0), (37, .getfield 23), (40, .iload_n 2), (41, .iconst 1), (42, .iadd), (43, .aaload), (44, .aload_n 0), (45, .aload_n 1), (46, .iload 5), (48, .iload_n 2), (49, .invokevirtual 98), (52, .iaload), (53, .istore 6), (55, .iload 4), (57, .aload_n 1), (58, .iload 5), (60, .iload_n 2), (61, .invokestatic 101), (64, .iload 6), (66, .iadd), (67, .invokestatic 69), (70, .istore 4), (72, .iinc 5 1), (75, .goto (-60)), (78, .iload 4), (80, .ireturn)]
def op_X3_leastFrom (fu : Nat) : Nat → Kont → XL → List Value → XW → Instr → Option XO := opK 7 (rzOf (some .int)) fl_BrookStones_Planner nl_BrookStones_Planner kl_BrookStones_Planner [] [(95, 5, 1, (U_X3_helps fu)), (98, 4, 1, (U_X3_farBehind fu))] [(101, 3, 1, (U_X3_costOf fu)), (69, 2, 3, oMin)] []
def F_X3_leastFrom (fu : Nat) : Nat → (Nat → Nat → Int32 → Int32 → Int32 → Int32 → XW → Option XO)
  | 0 => fun _ _ _ _ _ _ _ => none
  | n + 1 => (fun a0 a1 a2 a3 a4 a5 w =>
    (gI w a1 0 12).bind fun x1 =>
    (if a5 < x1 then
      cI (U_X3_helps fu [.ref a0, .ref a1, .int a5, .int a2, .int a3] w) fun x3 w2 =>
      (if x3 = 0 then
        (F_X3_leastFrom fu n) a0 a1 a2 a3 a4 (a5 + (1 : Int32)) w2
      else
        (gR w2 a0 3 3).bind fun r4 =>
        (aR w2 r4 (a2 + (1 : Int32))).bind fun r5 =>
        cI (U_X3_farBehind fu [.ref a0, .ref a1, .int a5, .int a2] w2) fun x7 w6 =>
        (aI w6 r5 x7).bind fun x8 =>
        cI (U_X3_costOf fu [.ref a1, .int a5, .int a2] w6) fun x10 w9 =>
        cI (oMin [.int a4, .int (x10 + x8)] w9) fun x12 w11 =>
        (F_X3_leastFrom fu n) a0 a1 a2 a3 x12 (a5 + (1 : Int32)) w11)
    else
      some (some (.int a4), w)))
def M_X3_leastFrom (fu : Nat) (a0 : Nat) (a1 : Nat) (a2 : Int32) (a3 : Int32) (w : XW) : Option XO :=
  (gR w a0 3 3).bind fun r13 =>
  (aR w r13 (a2 + (1 : Int32))).bind fun r14 =>
  (aI w r14 a3).bind fun x15 =>
  (F_X3_leastFrom fu fu) a0 a1 a2 a3 x15 (0 : Int32) w
def U_X3_leastFrom (fu : Nat) : Orc := fun as w => match as with
  | [.ref a0, .ref a1, .int a2, .int a3] => if isO w a0 3 = true then M_X3_leastFrom fu a0 a1 a2 a3 w else none
  | _ => none
def K_X3_leastFrom (fu : Nat) (n : Nat) : Kont := fun pc ls st w => bif pc == 15 then ((xr ls 0).bind fun a0 => (xr ls 1).bind fun a1 => (xi ls 2).bind fun a2 => (xi ls 3).bind fun a3 => (xi ls 4).bind fun a4 => (xi ls 5).bind fun a5 => skN st ((F_X3_leastFrom fu n) a0 a1 a2 a3 a4 a5 w)) else none
set_option maxRecDepth 100000 in
set_option maxHeartbeats 4000000 in
theorem E_X3_leastFrom_15 (fu : Nat) (n : Nat) (a0 : Nat) (a1 : Nat) (a2 : Int32) (a3 : Int32) (a4 : Int32) (a5 : Int32) (w : XW) : (F_X3_leastFrom fu (n + 1)) a0 a1 a2 a3 a4 a5 w = ev T_X3_leastFrom (op_X3_leastFrom fu) [15] (K_X3_leastFrom fu n) 50 15 [(0, .ref a0), (1, .ref a1), (2, .int a2), (3, .int a3), (4, .int a4), (5, .int a5)] [] w := by
  rfl
set_option maxRecDepth 100000 in
set_option maxHeartbeats 4000000 in
theorem E_X3_leastFrom (fu : Nat) (a0 : Nat) (a1 : Nat) (a2 : Int32) (a3 : Int32) (w : XW) : M_X3_leastFrom fu a0 a1 a2 a3 w = ev T_X3_leastFrom (op_X3_leastFrom fu) [15] (K_X3_leastFrom fu fu) 50 0 (lv_args 0 [.ref a0, .ref a1, .int a2, .int a3]) [] w := by
  rfl
theorem D_X3_leastFrom (fu : Nat) : DS T_X3_leastFrom (op_X3_leastFrom fu) [15] 50 (K_X3_leastFrom fu) := by
  refine ⟨fun pc ls st w => c_none (b_none fun _ => b_none fun _ => b_none fun _ => b_none fun _ => b_none fun _ => b_none fun _ => skN_none rfl) (rfl), fun n pc ls st w o h => ?_⟩
  rcases c_some h with ⟨rfl, h⟩ | h
  · obtain ⟨a0, h0, h⟩ := some_of h; obtain ⟨a1, h1, h⟩ := some_of h; obtain ⟨a2, h2, h⟩ := some_of h; obtain ⟨a3, h3, h⟩ := some_of h; obtain ⟨a4, h4, h⟩ := some_of h; obtain ⟨a5, h5, h⟩ := some_of h;
    obtain ⟨e, g⟩ := skN_of h
    subst e
    exact ⟨[(0, .ref a0), (1, .ref a1), (2, .int a2), (3, .int a3), (4, .int a4), (5, .int a5)], cons_all (xr_of h0) (cons_all (xr_of h1) (cons_all (xi_of h2) (cons_all (xi_of h3) (cons_all (xi_of h4) (cons_all (xi_of h5) (nil_all)))))), (E_X3_leastFrom_15 fu n a0 a1 a2 a3 a4 a5 w).symm.trans g⟩
  · cases h
theorem H_X3_leastFrom (fu : Nat) : ∀ as w o, U_X3_leastFrom fu as w = some o → ∃ a r, as = .ref a :: r ∧ r.length = 3 ∧ isO w a 3 = true := by
  intro as w o h
  unfold U_X3_leastFrom at h
  split at h
  next =>
    split at h
    next hh => exact ⟨_, _, rfl, rfl, hh⟩
    next => cases h
  next => cases h
set_option maxRecDepth 100000 in
set_option maxHeartbeats 4000000 in
theorem S_X3_leastFrom (fu : Nat) {l : Launch} {D : va_G} {cA : Nat → ClassId} {base b : Nat} : CS l D cA base b 3 y_X3_leastFrom prog_5_method_8_code 7 (some .int) (U_X3_leastFrom fu) ∧ OM (U_X3_leastFrom fu) := by
  refine CS_of (d := 2) (y := y_X3_leastFrom) (cc := prog_5_method_8_code) (nL := 7) (ret := (some .int)) (F := U_X3_leastFrom fu) (fl := fl_BrookStones_Planner) (nl := nl_BrookStones_Planner) (kl := kl_BrookStones_Planner) (k2 := []) (mv := [(95, 5, 1, (U_X3_helps fu)), (98, 4, 1, (U_X3_farBehind fu))]) (ms := [(101, 3, 1, (U_X3_costOf fu)), (69, 2, 3, oMin)]) (mi := []) (ini := false) hI_w hZ_w fl_BrookStones_Planner_ok nl_BrookStones_Planner_ok kl_BrookStones_Planner_ok nil_all
    (cons_all (⟨⟨show (1 : Nat) ≠ 3 by decide, y_X3_helps, prog_5_method_12_code, 5, (some .boolean), 2, "BrookStones", 3, TX3, 8, 4, (S_X3_helps fu (l := l) (D := D) (cA := cA) (base := base) (b := b)).1, by decide, by decide, rfl, H_X3_helps fu, rfl, mi_X3_helps.1, mi_X3_helps.2.1, mi_X3_helps.2.2.1, mi_X3_helps.2.2.2.1, mi_X3_helps.2.2.2.2, Or.inl (tblG_of (i := 548) rfl rfl)⟩, (S_X3_helps fu (l := l) (D := D) (cA := cA) (base := base) (b := b)).2⟩) (cons_all (⟨⟨show (1 : Nat) ≠ 3 by decide, y_X3_farBehind, prog_5_method_13_code, 4, (some .int), 2, "BrookStones", 3, TX3, 8, 3, (S_X3_farBehind fu (l := l) (D := D) (cA := cA) (base := base) (b := b)).1, by decide, by decide, rfl, H_X3_farBehind fu, rfl, mi_X3_farBehind.1, mi_X3_farBehind.2.1, mi_X3_farBehind.2.2.1, mi_X3_farBehind.2.2.2.1, mi_X3_farBehind.2.2.2.2, Or.inl (tblG_of (i := 556) rfl rfl)⟩, (S_X3_farBehind fu (l := l) (D := D) (cA := cA) (base := base) (b := b)).2⟩) (nil_all)))
    (cons_all (⟨Or.inl ⟨show (1 : Nat) ≠ 3 by decide, y_X3_costOf, prog_5_method_14_code, 3, (some .int), 2, "BrookStones", (S_X3_costOf fu (l := l) (D := D) (cA := cA) (base := base) (b := b)).1, by decide, by decide, mi_X3_costOf.1, mi_X3_costOf.2.1, mi_X3_costOf.2.2.1, mi_X3_costOf.2.2.2, Or.inl (tblG_of (i := 561) rfl rfl)⟩, (S_X3_costOf fu (l := l) (D := D) (cA := cA) (base := base) (b := b)).2⟩) (cons_all (⟨Or.inr (Or.inr (Or.inr ⟨rfl, rfl, rfl, tblG_of (i := 560) rfl rfl, tblG_of (i := 301) rfl rfl, tblG_of (i := 11) rfl rfl, tblG_of (i := 302) rfl rfl⟩)), om_min⟩) (nil_all)))
    (nil_all)
    (T := T_X3_leastFrom) (by decide +kernel) (cut := [15]) (N := 50) (D_X3_leastFrom fu) (by decide +kernel) (fun h => absurd h (by decide)) (fun as w o h => ?_)
  unfold U_X3_leastFrom at h
  split at h
  next =>
    split at h
    next => exact ⟨Nat.le_of_ble_eq_true rfl, fu, (E_X3_leastFrom fu _ _ _ _ w).symm.trans h⟩
    next => cases h
  next => cases h
def T_X3_lookAhead : List (Nat × Instr) := [(0, .aload_n 0), (1, .getfield 23), (4, .aload_n 1), (5, .getfield 66), (8, .aaload), (9, .ldc 90), (11, .invokestatic 60), (14, .aload_n 0), (15, .getfield 23), (18, .aload_n 1), (19, .getfield 66), (22, .aaload), (23, .aload_n 1), (24, .getfield 66), (27, .iconst 0), (28, .iastore), (29, .aload_n 1), (30, .getfield 66), (33, .iconst 1), (34, .isub), (35, .istore_n 2), (36, .iload_n 2), (37, .ifCond .lt 40), (40, .iconst 0), (41, .istore_n 3), (42, .iload_n 3), (43, .aload_n 1), (44, .getfield 66), (47, .if_icmp .gt 24), (50, .aload_n 0), (51, .getfield 23), (54, .iload_n 2), (55, .aaload), (56, .iload_n 3), (57, .aload_n 0), (58, .aload_n 1), (59, .iload_n 2), (60, .iload_n 3), (61, .invokevirtual 91), (64, .iastore), (65, .iinc 3 1), (68, .goto (-26)), (71, .iinc 2 (-1)), (74, .goto (-38)), (77, .return_)]
def op_X3_lookAhead (fu : Nat) : Nat → Kont → XL → List Value → XW → Instr → Option XO := opK 4 (rzOf (none)) fl_BrookStones_Planner nl_BrookStones_Planner kl_BrookStones_Planner [] [(91, 4, 1, (U_X3_leastFrom fu))] [(60, 2, 0, (U_J7_fill_53178 fu))] []
def F_X3_lookAhead (fu : Nat) : Nat → (Nat → Nat → Int32 → XW → Option XO) × (Nat → Nat → Int32 → Int32 → XW → Option XO)
  | 0 => (fun _ _ _ _ => none, fun _ _ _ _ _ => none)
  | n + 1 => ((fun a0 a1 a2 w =>
    (if a2 < 0 then
      some (none, w)
    else
      (F_X3_lookAhead fu n).2 a0 a1 a2 (0 : Int32) w)),
   (fun a0 a1 a2 a3 w =>
    (gI w a1 0 8).bind fun x1 =>
    (if x1 < a3 then
      (F_X3_lookAhead fu n).1 a0 a1 (a2 + (-1 : Int32)) w
    else
      (gR w a0 3 3).bind fun r2 =>
      (aR w r2 a2).bind fun r3 =>
      cI (U_X3_leastFrom fu [.ref a0, .ref a1, .int a2, .int a3] w) fun x5 w4 =>
      (sI w4 r3 a3 x5).bind fun w6 =>
      (F_X3_lookAhead fu n).2 a0 a1 a2 (a3 + (1 : Int32)) w6)))
def M_X3_lookAhead (fu : Nat) (a0 : Nat) (a1 : Nat) (w : XW) : Option XO :=
  (gR w a0 3 3).bind fun r7 =>
  (gI w a1 0 8).bind fun x8 =>
  (aR w r7 x8).bind fun r9 =>
  cV (U_J7_fill_53178 fu [.ref r9, .int (1000001 : Int32)] w) fun w10 =>
  (gR w10 a0 3 3).bind fun r11 =>
  (gI w10 a1 0 8).bind fun x12 =>
  (aR w10 r11 x12).bind fun r13 =>
  (gI w10 a1 0 8).bind fun x14 =>
  (sI w10 r13 x14 (0 : Int32)).bind fun w15 =>
  (gI w15 a1 0 8).bind fun x16 =>
  (F_X3_lookAhead fu fu).1 a0 a1 (x16 - (1 : Int32)) w15
def U_X3_lookAhead (fu : Nat) : Orc := fun as w => match as with
  | [.ref a0, .ref a1] => if isO w a0 3 = true then M_X3_lookAhead fu a0 a1 w else none
  | _ => none
def K_X3_lookAhead (fu : Nat) (n : Nat) : Kont := fun pc ls st w => bif pc == 36 then ((xr ls 0).bind fun a0 => (xr ls 1).bind fun a1 => (xi ls 2).bind fun a2 => skN st ((F_X3_lookAhead fu n).1 a0 a1 a2 w)) else bif pc == 42 then ((xr ls 0).bind fun a0 => (xr ls 1).bind fun a1 => (xi ls 2).bind fun a2 => (xi ls 3).bind fun a3 => skN st ((F_X3_lookAhead fu n).2 a0 a1 a2 a3 w)) else none
set_option maxRecDepth 100000 in
set_option maxHeartbeats 4000000 in
theorem E_X3_lookAhead_36 (fu : Nat) (n : Nat) (a0 : Nat) (a1 : Nat) (a2 : Int32) (w : XW) : (F_X3_lookAhead fu (n + 1)).1 a0 a1 a2 w = ev T_X3_lookAhead (op_X3_lookAhead fu) [36, 42] (K_X3_lookAhead fu n) 47 36 [(0, .ref a0), (1, .ref a1), (2, .int a2)] [] w := by
  rfl
set_option maxRecDepth 100000 in
set_option maxHeartbeats 4000000 in
theorem E_X3_lookAhead_42 (fu : Nat) (n : Nat) (a0 : Nat) (a1 : Nat) (a2 : Int32) (a3 : Int32) (w : XW) : (F_X3_lookAhead fu (n + 1)).2 a0 a1 a2 a3 w = ev T_X3_lookAhead (op_X3_lookAhead fu) [36, 42] (K_X3_lookAhead fu n) 47 42 [(0, .ref a0), (1, .ref a1), (2, .int a2), (3, .int a3)] [] w := by
  rfl
set_option maxRecDepth 100000 in
set_option maxHeartbeats 4000000 in
theorem E_X3_lookAhead (fu : Nat) (a0 : Nat) (a1 : Nat) (w : XW) : M_X3_lookAhead fu a0 a1 w = ev T_X3_lookAhead (op_X3_lookAhead fu) [36, 42] (K_X3_lookAhead fu fu) 47 0 (lv_args 0 [.ref a0, .ref a1]) [] w := by
  rfl
theorem D_X3_lookAhead (fu : Nat) : DS T_X3_lookAhead (op_X3_lookAhead fu) [36, 42] 47 (K_X3_lookAhead fu) := by
  refine ⟨fun pc ls st w => c_none (b_none fun _ => b_none fun _ => b_none fun _ => skN_none rfl) (c_none (b_none fun _ => b_none fun _ => b_none fun _ => b_none fun _ => skN_none rfl) (rfl)), fun n pc ls st w o h => ?_⟩
  rcases c_some h with ⟨rfl, h⟩ | h
  · obtain ⟨a0, h0, h⟩ := some_of h; obtain ⟨a1, h1, h⟩ := some_of h; obtain ⟨a2, h2, h⟩ := some_of h;
    obtain ⟨e, g⟩ := skN_of h
    subst e
    exact ⟨[(0, .ref a0), (1, .ref a1), (2, .int a2)], cons_all (xr_of h0) (cons_all (xr_of h1) (cons_all (xi_of h2) (nil_all))), (E_X3_lookAhead_36 fu n a0 a1 a2 w).symm.trans g⟩
  rcases c_some h with ⟨rfl, h⟩ | h
  · obtain ⟨a0, h0, h⟩ := some_of h; obtain ⟨a1, h1, h⟩ := some_of h; obtain ⟨a2, h2, h⟩ := some_of h; obtain ⟨a3, h3, h⟩ := some_of h;
    obtain ⟨e, g⟩ := skN_of h
    subst e
    exact ⟨[(0, .ref a0), (1, .ref a1), (2, .int a2), (3, .int a3)], cons_all (xr_of h0) (cons_all (xr_of h1) (cons_all (xi_of h2) (cons_all (xi_of h3) (nil_all)))), (E_X3_lookAhead_42 fu n a0 a1 a2 a3 w).symm.trans g⟩
  · cases h
theorem H_X3_lookAhead (fu : Nat) : ∀ as w o, U_X3_lookAhead fu as w = some o → ∃ a r, as = .ref a :: r ∧ r.length = 1 ∧ isO w a 3 = true := by
  intro as w o h
  unfold U_X3_lookAhead at h
  split at h
  next =>
    split at h
    next hh => exact ⟨_, _, rfl, rfl, hh⟩
    next => cases h
  next => cases h
set_option maxRecDepth 100000 in
set_option maxHeartbeats 4000000 in
theorem S_X3_lookAhead (fu : Nat) {l : Launch} {D : va_G} {cA : Nat → ClassId} {base b : Nat} : CS l D cA base b 4 y_X3_lookAhead prog_5_method_7_code 4 (none) (U_X3_lookAhead fu) ∧ OM (U_X3_lookAhead fu) := by
  refine CS_of (d := 3) (y := y_X3_lookAhead) (cc := prog_5_method_7_code) (nL := 4) (ret := (none)) (F := U_X3_lookAhead fu) (fl := fl_BrookStones_Planner) (nl := nl_BrookStones_Planner) (kl := kl_BrookStones_Planner) (k2 := []) (mv := [(91, 4, 1, (U_X3_leastFrom fu))]) (ms := [(60, 2, 0, (U_J7_fill_53178 fu))]) (mi := []) (ini := false) hI_w hZ_w fl_BrookStones_Planner_ok nl_BrookStones_Planner_ok kl_BrookStones_Planner_ok nil_all
    (cons_all (⟨⟨show (1 : Nat) ≠ 3 by decide, y_X3_leastFrom, prog_5_method_8_code, 7, (some .int), 3, "BrookStones", 3, TX3, 8, 3, (S_X3_leastFrom fu (l := l) (D := D) (cA := cA) (base := base) (b := b)).1, by decide, by decide, rfl, H_X3_leastFrom fu, rfl, mi_X3_leastFrom.1, mi_X3_leastFrom.2.1, mi_X3_leastFrom.2.2.1, mi_X3_leastFrom.2.2.2.1, mi_X3_leastFrom.2.2.2.2, Or.inl (tblG_of (i := 544) rfl rfl)⟩, (S_X3_leastFrom fu (l := l) (D := D) (cA := cA) (base := base) (b := b)).2⟩) (nil_all))
    (cons_all (⟨Or.inl ⟨show (0 : Nat) ≠ 3 by decide, y_J7_fill_53178, prog_14_method_103_code, 4, (none), 1, "BrookStones", (S_J7_fill_53178 fu (l := l) (D := D) (cA := cA) (base := base) (b := b)).1, by decide, by decide, mi_J7_fill_53178.1, mi_J7_fill_53178.2.1, mi_J7_fill_53178.2.2.1, mi_J7_fill_53178.2.2.2, Or.inl (tblG_of (i := 543) rfl rfl)⟩, (S_J7_fill_53178 fu (l := l) (D := D) (cA := cA) (base := base) (b := b)).2⟩) (nil_all))
    (nil_all)
    (T := T_X3_lookAhead) (by decide +kernel) (cut := [36, 42]) (N := 47) (D_X3_lookAhead fu) (by decide +kernel) (fun h => absurd h (by decide)) (fun as w o h => ?_)
  unfold U_X3_lookAhead at h
  split at h
  next =>
    split at h
    next => exact ⟨Nat.le_of_ble_eq_true rfl, fu, (E_X3_lookAhead fu _ _ w).symm.trans h⟩
    next => cases h
  next => cases h
def T_X3_lastOnesStand : List (Nat × Instr) := [(0, .iload_n 2), (1, .iconst 2), (2, .isub), (3, .iconst 0), (4, .invokestatic 118), (7, .istore 4), (9, .iload 4), (11, .iload_n 2), (12, .if_icmp .ge 38), (15, .iload_n 3), (16, .iload 4), (18, .invokestatic 48), (21, .ifCond .eq 23), (24, .aload_n 0), (25, .aload_n 1), (26, .aload_n 0), (27, .getfield 11), (30, .iload 4), (32, .iaload), (33, .iload 4), (35, .iload_n 3), (36, .invokevirtual 86), (39, .ifCond .ne 5), (42, .iconst 0), (43, .ireturn), (44, .iinc 4 1), (47, .goto (-38)), (50, .iconst 1), (51, .ireturn)]
def op_X3_lastOnesStand (fu : Nat) : Nat → Kont → XL → List Value → XW → Instr → Option XO := opK 5 (rzOf (some .boolean)) fl_BrookStones_Planner nl_BrookStones_Planner kl_BrookStones_Planner [] [(86, 5, 1, (U_X3_outlasts fu))] [(118, 2, 3, oMax), (48, 2, 1, (U_X7_has fu))] []
def F_X3_lastOnesStand (fu : Nat) : Nat → (Nat → Nat → Int32 → Int32 → Int32 → XW → Option XO)
  | 0 => fun _ _ _ _ _ _ => none
  | n + 1 => (fun a0 a1 a2 a3 a4 w =>
    (if a4 < a2 then
      cI (U_X7_has fu [.int a3, .int a4] w) fun x2 w1 =>
      (if x2 = 0 then
        (F_X3_lastOnesStand fu n) a0 a1 a2 a3 (a4 + (1 : Int32)) w1
      else
        (gR w1 a0 3 0).bind fun r3 =>
        (aI w1 r3 a4).bind fun x4 =>
        cI (U_X3_outlasts fu [.ref a0, .ref a1, .int x4, .int a4, .int a3] w1) fun x6 w5 =>
        (if x6 = 0 then
          retZ (0 : Int32) w5
        else
          (F_X3_lastOnesStand fu n) a0 a1 a2 a3 (a4 + (1 : Int32)) w5))
    else
      retZ (1 : Int32) w))
def M_X3_lastOnesStand (fu : Nat) (a0 : Nat) (a1 : Nat) (a2 : Int32) (a3 : Int32) (w : XW) : Option XO :=
  cI (oMax [.int (a2 - (2 : Int32)), .int (0 : Int32)] w) fun x8 w7 =>
  (F_X3_lastOnesStand fu fu) a0 a1 a2 a3 x8 w7
def U_X3_lastOnesStand (fu : Nat) : Orc := fun as w => match as with
  | [.ref a0, .ref a1, .int a2, .int a3] => if isO w a0 3 = true then M_X3_lastOnesStand fu a0 a1 a2 a3 w else none
  | _ => none
def K_X3_lastOnesStand (fu : Nat) (n : Nat) : Kont := fun pc ls st w => bif pc == 9 then ((xr ls 0).bind fun a0 => (xr ls 1).bind fun a1 => (xi ls 2).bind fun a2 => (xi ls 3).bind fun a3 => (xi ls 4).bind fun a4 => skN st ((F_X3_lastOnesStand fu n) a0 a1 a2 a3 a4 w)) else none
set_option maxRecDepth 100000 in
set_option maxHeartbeats 4000000 in
theorem E_X3_lastOnesStand_9 (fu : Nat) (n : Nat) (a0 : Nat) (a1 : Nat) (a2 : Int32) (a3 : Int32) (a4 : Int32) (w : XW) : (F_X3_lastOnesStand fu (n + 1)) a0 a1 a2 a3 a4 w = ev T_X3_lastOnesStand (op_X3_lastOnesStand fu) [9] (K_X3_lastOnesStand fu n) 31 9 [(0, .ref a0), (1, .ref a1), (2, .int a2), (3, .int a3), (4, .int a4)] [] w := by
  rfl
set_option maxRecDepth 100000 in
set_option maxHeartbeats 4000000 in
theorem E_X3_lastOnesStand (fu : Nat) (a0 : Nat) (a1 : Nat) (a2 : Int32) (a3 : Int32) (w : XW) : M_X3_lastOnesStand fu a0 a1 a2 a3 w = ev T_X3_lastOnesStand (op_X3_lastOnesStand fu) [9] (K_X3_lastOnesStand fu fu) 31 0 (lv_args 0 [.ref a0, .ref a1, .int a2, .int a3]) [] w := by
  rfl
theorem D_X3_lastOnesStand (fu : Nat) : DS T_X3_lastOnesStand (op_X3_lastOnesStand fu) [9] 31 (K_X3_lastOnesStand fu) := by
  refine ⟨fun pc ls st w => c_none (b_none fun _ => b_none fun _ => b_none fun _ => b_none fun _ => b_none fun _ => skN_none rfl) (rfl), fun n pc ls st w o h => ?_⟩
  rcases c_some h with ⟨rfl, h⟩ | h
  · obtain ⟨a0, h0, h⟩ := some_of h; obtain ⟨a1, h1, h⟩ := some_of h; obtain ⟨a2, h2, h⟩ := some_of h; obtain ⟨a3, h3, h⟩ := some_of h; obtain ⟨a4, h4, h⟩ := some_of h;
    obtain ⟨e, g⟩ := skN_of h
    subst e
    exact ⟨[(0, .ref a0), (1, .ref a1), (2, .int a2), (3, .int a3), (4, .int a4)], cons_all (xr_of h0) (cons_all (xr_of h1) (cons_all (xi_of h2) (cons_all (xi_of h3) (cons_all (xi_of h4) (nil_all))))), (E_X3_lastOnesStand_9 fu n a0 a1 a2 a3 a4 w).symm.trans g⟩
  · cases h
theorem H_X3_lastOnesStand (fu : Nat) : ∀ as w o, U_X3_lastOnesStand fu as w = some o → ∃ a r, as = .ref a :: r ∧ r.length = 3 ∧ isO w a 3 = true := by
  intro as w o h
  unfold U_X3_lastOnesStand at h
  split at h
  next =>
    split at h
    next hh => exact ⟨_, _, rfl, rfl, hh⟩
    next => cases h
  next => cases h
set_option maxRecDepth 100000 in
set_option maxHeartbeats 4000000 in
theorem S_X3_lastOnesStand (fu : Nat) {l : Launch} {D : va_G} {cA : Nat → ClassId} {base b : Nat} : CS l D cA base b 3 y_X3_lastOnesStand prog_5_method_11_code 5 (some .boolean) (U_X3_lastOnesStand fu) ∧ OM (U_X3_lastOnesStand fu) := by
  refine CS_of (d := 2) (y := y_X3_lastOnesStand) (cc := prog_5_method_11_code) (nL := 5) (ret := (some .boolean)) (F := U_X3_lastOnesStand fu) (fl := fl_BrookStones_Planner) (nl := nl_BrookStones_Planner) (kl := kl_BrookStones_Planner) (k2 := []) (mv := [(86, 5, 1, (U_X3_outlasts fu))]) (ms := [(118, 2, 3, oMax), (48, 2, 1, (U_X7_has fu))]) (mi := []) (ini := false) hI_w hZ_w fl_BrookStones_Planner_ok nl_BrookStones_Planner_ok kl_BrookStones_Planner_ok nil_all
    (cons_all (⟨⟨show (1 : Nat) ≠ 3 by decide, y_X3_outlasts, prog_5_method_15_code, 5, (some .boolean), 2, "BrookStones", 3, TX3, 8, 4, (S_X3_outlasts fu (l := l) (D := D) (cA := cA) (base := base) (b := b)).1, by decide, by decide, rfl, H_X3_outlasts fu, rfl, mi_X3_outlasts.1, mi_X3_outlasts.2.1, mi_X3_outlasts.2.2.1, mi_X3_outlasts.2.2.2.1, mi_X3_outlasts.2.2.2.2, Or.inl (tblG_of (i := 532) rfl rfl)⟩, (S_X3_outlasts fu (l := l) (D := D) (cA := cA) (base := base) (b := b)).2⟩) (nil_all))
    (cons_all (⟨Or.inr (Or.inr (Or.inl ⟨rfl, rfl, rfl, tblG_of (i := 572) rfl rfl, tblG_of (i := 292) rfl rfl, tblG_of (i := 11) rfl rfl, tblG_of (i := 293) rfl rfl⟩)), om_max⟩) (cons_all (⟨Or.inl ⟨show (1 : Nat) ≠ 3 by decide, y_X7_has, prog_1_method_47_code, 2, (some .boolean), 1, "BrookStones", (S_X7_has fu (l := l) (D := D) (cA := cA) (base := base) (b := b)).1, by decide, by decide, mi_X7_has.1, mi_X7_has.2.1, mi_X7_has.2.2.1, mi_X7_has.2.2.2, Or.inr (tblN_of (i := 526) rfl rfl)⟩, (S_X7_has fu (l := l) (D := D) (cA := cA) (base := base) (b := b)).2⟩) (nil_all)))
    (nil_all)
    (T := T_X3_lastOnesStand) (by decide +kernel) (cut := [9]) (N := 31) (D_X3_lastOnesStand fu) (by decide +kernel) (fun h => absurd h (by decide)) (fun as w o h => ?_)
  unfold U_X3_lastOnesStand at h
  split at h
  next =>
    split at h
    next => exact ⟨Nat.le_of_ble_eq_true rfl, fu, (E_X3_lastOnesStand fu _ _ _ _ w).symm.trans h⟩
    next => cases h
  next => cases h
def T_X3_take : List (Nat × Instr) := [(0, .aload_n 0), (1, .iload_n 1), (2, .putfield 37), (5, .aload_n 0), (6, .getfield 11), (9, .iconst 0), (10, .aload_n 0), (11, .getfield 15), (14, .iconst 0), (15, .bipush 7), (17, .invokestatic 112), (20, .return_)]
def op_X3_take (fu : Nat) : Nat → Kont → XL → List Value → XW → Instr → Option XO := opK 2 (rzOf (none)) fl_BrookStones_Planner nl_BrookStones_Planner kl_BrookStones_Planner [] [] [(112, 5, 0, oCopy)] []
def M_X3_take (fu : Nat) (a0 : Nat) (a1 : Int32) (w : XW) : Option XO :=
  (pF w a0 3 4 (.int a1)).bind fun w1 =>
  (gR w1 a0 3 0).bind fun r2 =>
  (gR w1 a0 3 1).bind fun r3 =>
  cV (oCopy [.ref r2, .int (0 : Int32), .ref r3, .int (0 : Int32), .int (7 : Int32)] w1) fun w4 =>
  some (none, w4)
def U_X3_take (fu : Nat) : Orc := fun as w => match as with
  | [.ref a0, .int a1] => if isO w a0 3 = true then M_X3_take fu a0 a1 w else none
  | _ => none
def K_X3_take (fu : Nat) (n : Nat) : Kont := fun pc ls st w => none
set_option maxRecDepth 100000 in
set_option maxHeartbeats 4000000 in
theorem E_X3_take (fu : Nat) (a0 : Nat) (a1 : Int32) (w : XW) : M_X3_take fu a0 a1 w = ev T_X3_take (op_X3_take fu) [] (K_X3_take fu fu) 14 0 (lv_args 0 [.ref a0, .int a1]) [] w := by
  rfl
theorem D_X3_take (fu : Nat) : DS T_X3_take (op_X3_take fu) [] 14 (K_X3_take fu) := by
  refine ⟨fun pc ls st w => rfl, fun n pc ls st w o h => ?_⟩
  cases h
theorem H_X3_take (fu : Nat) : ∀ as w o, U_X3_take fu as w = some o → ∃ a r, as = .ref a :: r ∧ r.length = 1 ∧ isO w a 3 = true := by
  intro as w o h
  unfold U_X3_take at h
  split at h
  next =>
    split at h
    next hh => exact ⟨_, _, rfl, rfl, hh⟩
    next => cases h
  next => cases h
set_option maxRecDepth 100000 in
set_option maxHeartbeats 4000000 in
theorem S_X3_take (fu : Nat) {l : Launch} {D : va_G} {cA : Nat → ClassId} {base b : Nat} : CS l D cA base b 1 y_X3_take prog_5_method_10_code 2 (none) (U_X3_take fu) ∧ OM (U_X3_take fu) := by
  refine CS_of (d := 0) (y := y_X3_take) (cc := prog_5_method_10_code) (nL := 2) (ret := (none)) (F := U_X3_take fu) (fl := fl_BrookStones_Planner) (nl := nl_BrookStones_Planner) (kl := kl_BrookStones_Planner) (k2 := []) (mv := []) (ms := [(112, 5, 0, oCopy)]) (mi := []) (ini := false) hI_w hZ_w fl_BrookStones_Planner_ok nl_BrookStones_Planner_ok kl_BrookStones_Planner_ok nil_all
    (nil_all)
    (cons_all (⟨Or.inr (Or.inl ⟨rfl, rfl, rfl, tblG_of (i := 577) rfl rfl, tblG_of (i := 579) rfl rfl, tblG_of (i := 578) rfl rfl, tblG_of (i := 13) rfl rfl⟩), om_copy⟩) (nil_all))
    (nil_all)
    (T := T_X3_take) (by decide +kernel) (cut := []) (N := 14) (D_X3_take fu) (by decide +kernel) (fun h => absurd h (by decide)) (fun as w o h => ?_)
  unfold U_X3_take at h
  split at h
  next =>
    split at h
    next => exact ⟨Nat.le_of_ble_eq_true rfl, fu, (E_X3_take fu _ _ w).symm.trans h⟩
    next => cases h
  next => cases h
def T_X3_layFrom : List (Nat × Instr) := [(0, .iload 5), (2, .aload_n 0), (3, .getfield 23), (6, .iload_n 2), (7, .aaload), (8, .iload 6), (10, .iaload), (11, .iadd), (12, .aload_n 0), (13, .getfield 37), (16, .if_icmp .gt 14), (19, .aload_n 0), (20, .aload_n 1), (21, .iload_n 2), (22, .iload 4), (24, .invokevirtual 104), (27, .ifCond .ne 4), (30, .return_), (31, .iload_n 2), (32, .aload_n 1), (33, .getfield 66), (36, .if_icmp .lt 10), (39, .aload_n 0), (40, .iload 5), (42, .invokevirtual 108), (45, .return_), (46, .aload_n 0), (47, .getfield 11), (50, .iload_n 2), (51, .bipush (-9)), (53, .iastore), (54, .aload_n 0), (55, .aload_n 1), (56, .iload_n 2), (57, .iconst 1), (58, .iadd), (59, .iload_n 3), (60, .iload 4), (62, .iload 5), (64, .iload 6), (66, .invokestatic 75), (69, .aload_n 1), (70, .getfield 40), (73, .iconst 1), (74, .isub), (75, .istore 7), (77, .iload 7), (79, .ifCond .lt 85), (82, .iload_n 3), (83, .iload 7), (85, .invokestatic 48), (88, .ifCond .ne 70), (91, .aload_n 0), (92, .aload_n 1), (93, .iload 7), (95, .iload_n 2), (96, .iload 6), (98, .invokevirtual 95), (101, .ifCond .eq 57), (104, .aload_n 0), (105, .getfield 11), (108, .iload_n 2), (109, .iload 7), (111, .iastore), (112, .iload 5), (114, .aload_n 1), (115, .iload 7), (117, .iload_n 2), (118, .invokestatic 101), (121, .iadd), (122, .istore 8), (124, .aload_n 0), (125, .aload_n 1), (126, .iload 7), (128, .iload_n 2), (129, .invokevirtual 98), (132, .istore 9), (134, .aload_n 0), (135, .aload_n 1), (136, .iload_n 2), (137, .iconst 1), (138, .iadd), (139, .iload_n 3), (140, .iconst 1), (141, .iload 7), (143, .ishl), (144, .ior), (145, .iload 4), (147, .iconst 1), (148, .iload_n 2), (149, .ishl), (150, .ior), (151, .iload 8), (153, .iload 9), (155, .invokestatic 75), (158, .iinc 7 (-1)), (161, .goto (-84)), (164, .return_)]
def op_X3_layFrom (fu : Nat) (U : Orc) : Nat → Kont → XL → List Value → XW → Instr → Option XO := opK 10 (rzOf (none)) fl_BrookStones_Planner nl_BrookStones_Planner kl_BrookStones_Planner [] [(104, 4, 1, (U_X3_lastOnesStand fu)), (108, 2, 0, (U_X3_take fu)), (95, 5, 1, (U_X3_helps fu)), (98, 4, 1, (U_X3_farBehind fu))] [(75, 7, 0, U), (48, 2, 1, (U_X7_has fu)), (101, 3, 1, (U_X3_costOf fu))] []
def F_X3_layFrom (fu : Nat) (U : Orc) : Nat → (Nat → Nat → Int32 → Int32 → Int32 → Int32 → Int32 → Int32 → XW → Option XO)
  | 0 => fun _ _ _ _ _ _ _ _ _ => none
  | n + 1 => (fun a0 a1 a2 a3 a4 a5 a6 a7 w =>
    (if a7 < 0 then
      some (none, w)
    else
      cI (U_X7_has fu [.int a3, .int a7] w) fun x2 w1 =>
      (if x2 = 0 then
        cI (U_X3_helps fu [.ref a0, .ref a1, .int a7, .int a2, .int a6] w1) fun x4 w3 =>
        (if x4 = 0 then
          (F_X3_layFrom fu U n) a0 a1 a2 a3 a4 a5 a6 (a7 + (-1 : Int32)) w3
        else
          (gR w3 a0 3 0).bind fun r5 =>
          (sI w3 r5 a2 a7).bind fun w6 =>
          cI (U_X3_costOf fu [.ref a1, .int a7, .int a2] w6) fun x8 w7 =>
          cI (U_X3_farBehind fu [.ref a0, .ref a1, .int a7, .int a2] w7) fun x10 w9 =>
          cV (U [.ref a0, .ref a1, .int (a2 + (1 : Int32)), .int (a3 ||| ((1 : Int32) <<< (a7 &&& 31))), .int (a4 ||| ((1 : Int32) <<< (a2 &&& 31))), .int (a5 + x8), .int x10] w9) fun w11 =>
          (F_X3_layFrom fu U n) a0 a1 a2 a3 a4 a5 a6 (a7 + (-1 : Int32)) w11)
      else
        (F_X3_layFrom fu U n) a0 a1 a2 a3 a4 a5 a6 (a7 + (-1 : Int32)) w1)))
def M_X3_layFrom (fu : Nat) (U : Orc) (a0 : Nat) (a1 : Nat) (a2 : Int32) (a3 : Int32) (a4 : Int32) (a5 : Int32) (a6 : Int32) (w : XW) : Option XO :=
  (gR w a0 3 3).bind fun r12 =>
  (aR w r12 a2).bind fun r13 =>
  (aI w r13 a6).bind fun x14 =>
  (gI w a0 3 4).bind fun x15 =>
  (if x15 < (a5 + x14) then
    some (none, w)
  else
    cI (U_X3_lastOnesStand fu [.ref a0, .ref a1, .int a2, .int a4] w) fun x17 w16 =>
    (if x17 = 0 then
      some (none, w16)
    else
      (gI w16 a1 0 8).bind fun x18 =>
      (if a2 < x18 then
        (gR w16 a0 3 0).bind fun r19 =>
        (sI w16 r19 a2 (-9 : Int32)).bind fun w20 =>
        cV (U [.ref a0, .ref a1, .int (a2 + (1 : Int32)), .int a3, .int a4, .int a5, .int a6] w20) fun w21 =>
        (gI w21 a1 0 12).bind fun x22 =>
        (F_X3_layFrom fu U fu) a0 a1 a2 a3 a4 a5 a6 (x22 - (1 : Int32)) w21
      else
        cV (U_X3_take fu [.ref a0, .int a5] w16) fun w23 =>
        some (none, w23))))
def U_X3_layFrom (fu : Nat) : Nat → Orc
  | 0 => fun _ _ => none
  | k + 1 => fun as w => match as with
    | [.ref a0, .ref a1, .int a2, .int a3, .int a4, .int a5, .int a6] => M_X3_layFrom fu (U_X3_layFrom fu k) a0 a1 a2 a3 a4 a5 a6 w
    | _ => none
def K_X3_layFrom (fu : Nat) (U : Orc) (n : Nat) : Kont := fun pc ls st w => bif pc == 77 then ((xr ls 0).bind fun a0 => (xr ls 1).bind fun a1 => (xi ls 2).bind fun a2 => (xi ls 3).bind fun a3 => (xi ls 4).bind fun a4 => (xi ls 5).bind fun a5 => (xi ls 6).bind fun a6 => (xi ls 7).bind fun a7 => skN st ((F_X3_layFrom fu U n) a0 a1 a2 a3 a4 a5 a6 a7 w)) else none
set_option maxRecDepth 100000 in
set_option maxHeartbeats 4000000 in
theorem E_X3_layFrom_77 (fu : Nat) (U : Orc) (n : Nat) (a0 : Nat) (a1 : Nat) (a2 : Int32) (a3 : Int32) (a4 : Int32) (a5 : Int32) (a6 : Int32) (a7 : Int32) (w : XW) : (F_X3_layFrom fu U (n + 1)) a0 a1 a2 a3 a4 a5 a6 a7 w = ev T_X3_layFrom (op_X3_layFrom fu U) [77] (K_X3_layFrom fu U n) 100 77 [(0, .ref a0), (1, .ref a1), (2, .int a2), (3, .int a3), (4, .int a4), (5, .int a5), (6, .int a6), (7, .int a7)] [] w := by
  rfl
set_option maxRecDepth 100000 in
set_option maxHeartbeats 4000000 in
theorem E_X3_layFrom (fu : Nat) (U : Orc) (a0 : Nat) (a1 : Nat) (a2 : Int32) (a3 : Int32) (a4 : Int32) (a5 : Int32) (a6 : Int32) (w : XW) : M_X3_layFrom fu U a0 a1 a2 a3 a4 a5 a6 w = ev T_X3_layFrom (op_X3_layFrom fu U) [77] (K_X3_layFrom fu U fu) 100 0 (lv_args 0 [.ref a0, .ref a1, .int a2, .int a3, .int a4, .int a5, .int a6]) [] w := by
  rfl
theorem D_X3_layFrom (fu : Nat) (U : Orc) : DS T_X3_layFrom (op_X3_layFrom fu U) [77] 100 (K_X3_layFrom fu U) := by
  refine ⟨fun pc ls st w => c_none (b_none fun _ => b_none fun _ => b_none fun _ => b_none fun _ => b_none fun _ => b_none fun _ => b_none fun _ => b_none fun _ => skN_none rfl) (rfl), fun n pc ls st w o h => ?_⟩
  rcases c_some h with ⟨rfl, h⟩ | h
  · obtain ⟨a0, h0, h⟩ := some_of h; obtain ⟨a1, h1, h⟩ := some_of h; obtain ⟨a2, h2, h⟩ := some_of h; obtain ⟨a3, h3, h⟩ := some_of h; obtain ⟨a4, h4, h⟩ := some_of h; obtain ⟨a5, h5, h⟩ := some_of h; obtain ⟨a6, h6, h⟩ := some_of h; obtain ⟨a7, h7, h⟩ := some_of h;
    obtain ⟨e, g⟩ := skN_of h
    subst e
    exact ⟨[(0, .ref a0), (1, .ref a1), (2, .int a2), (3, .int a3), (4, .int a4), (5, .int a5), (6, .int a6), (7, .int a7)], cons_all (xr_of h0) (cons_all (xr_of h1) (cons_all (xi_of h2) (cons_all (xi_of h3) (cons_all (xi_of h4) (cons_all (xi_of h5) (cons_all (xi_of h6) (cons_all (xi_of h7) (nil_all)))))))), (E_X3_layFrom_77 fu U n a0 a1 a2 a3 a4 a5 a6 a7 w).symm.trans g⟩
  · cases h
set_option maxRecDepth 100000 in
set_option maxHeartbeats 4000000 in
theorem S_X3_layFrom (fu : Nat) : ∀ (k : Nat) {l : Launch} {D : va_G} {cA : Nat → ClassId} {base b : Nat}, CS l D cA base b (3 + k) y_X3_layFrom prog_5_method_9_code 10 (none) (U_X3_layFrom fu k) ∧ OM (U_X3_layFrom fu k) := by
  intro k
  induction k with
  | zero => exact ⟨fun as w o h => (by cases h), fun as w o h => (by cases h)⟩
  | succ k ih =>
  intro l D cA base b
  refine CS_of (d := 3 + k) (y := y_X3_layFrom) (cc := prog_5_method_9_code) (nL := 10) (ret := (none)) (F := U_X3_layFrom fu (k + 1)) (fl := fl_BrookStones_Planner) (nl := nl_BrookStones_Planner) (kl := kl_BrookStones_Planner) (k2 := []) (mv := [(104, 4, 1, (U_X3_lastOnesStand fu)), (108, 2, 0, (U_X3_take fu)), (95, 5, 1, (U_X3_helps fu)), (98, 4, 1, (U_X3_farBehind fu))]) (ms := [(75, 7, 0, U_X3_layFrom fu k), (48, 2, 1, (U_X7_has fu)), (101, 3, 1, (U_X3_costOf fu))]) (mi := []) (ini := false) hI_w hZ_w fl_BrookStones_Planner_ok nl_BrookStones_Planner_ok kl_BrookStones_Planner_ok nil_all
    (cons_all (⟨⟨show (1 : Nat) ≠ 3 by decide, y_X3_lastOnesStand, prog_5_method_11_code, 5, (some .boolean), 3, "BrookStones", 3, TX3, 8, 3, (S_X3_lastOnesStand fu (l := l) (D := D) (cA := cA) (base := base) (b := b)).1, by omega, by decide, rfl, H_X3_lastOnesStand fu, rfl, mi_X3_lastOnesStand.1, mi_X3_lastOnesStand.2.1, mi_X3_lastOnesStand.2.2.1, mi_X3_lastOnesStand.2.2.2.1, mi_X3_lastOnesStand.2.2.2.2, Or.inl (tblG_of (i := 568) rfl rfl)⟩, (S_X3_lastOnesStand fu (l := l) (D := D) (cA := cA) (base := base) (b := b)).2⟩) (cons_all (⟨⟨show (0 : Nat) ≠ 3 by decide, y_X3_take, prog_5_method_10_code, 2, (none), 1, "BrookStones", 3, TX3, 8, 1, (S_X3_take fu (l := l) (D := D) (cA := cA) (base := base) (b := b)).1, by omega, by decide, rfl, H_X3_take fu, rfl, mi_X3_take.1, mi_X3_take.2.1, mi_X3_take.2.2.1, mi_X3_take.2.2.2.1, mi_X3_take.2.2.2.2, Or.inl (tblG_of (i := 573) rfl rfl)⟩, (S_X3_take fu (l := l) (D := D) (cA := cA) (base := base) (b := b)).2⟩) (cons_all (⟨⟨show (1 : Nat) ≠ 3 by decide, y_X3_helps, prog_5_method_12_code, 5, (some .boolean), 2, "BrookStones", 3, TX3, 8, 4, (S_X3_helps fu (l := l) (D := D) (cA := cA) (base := base) (b := b)).1, by omega, by decide, rfl, H_X3_helps fu, rfl, mi_X3_helps.1, mi_X3_helps.2.1, mi_X3_helps.2.2.1, mi_X3_helps.2.2.2.1, mi_X3_helps.2.2.2.2, Or.inl (tblG_of (i := 548) rfl rfl)⟩, (S_X3_helps fu (l := l) (D := D) (cA := cA) (base := base) (b := b)).2⟩) (cons_all (⟨⟨show (1 : Nat) ≠ 3 by decide, y_X3_farBehind, prog_5_method_13_code, 4, (some .int), 2, "BrookStones", 3, TX3, 8, 3, (S_X3_farBehind fu (l := l) (D := D) (cA := cA) (base := base) (b := b)).1, by omega, by decide, rfl, H_X3_farBehind fu, rfl, mi_X3_farBehind.1, mi_X3_farBehind.2.1, mi_X3_farBehind.2.2.1, mi_X3_farBehind.2.2.2.1, mi_X3_farBehind.2.2.2.2, Or.inl (tblG_of (i := 556) rfl rfl)⟩, (S_X3_farBehind fu (l := l) (D := D) (cA := cA) (base := base) (b := b)).2⟩) (nil_all)))))
    (cons_all (⟨Or.inl ⟨show (0 : Nat) ≠ 3 by decide, y_X3_layFrom, prog_5_method_9_code, 10, (none), (3 + k), "BrookStones", (ih (l := l) (D := D) (cA := cA) (base := base) (b := b)).1, by omega, by decide, mi_X3_layFrom.1, mi_X3_layFrom.2.1, mi_X3_layFrom.2.2.1, mi_X3_layFrom.2.2.2, Or.inl (tblG_of (i := 565) rfl rfl)⟩, (ih (l := l) (D := D) (cA := cA) (base := base) (b := b)).2⟩) (cons_all (⟨Or.inl ⟨show (1 : Nat) ≠ 3 by decide, y_X7_has, prog_1_method_47_code, 2, (some .boolean), 1, "BrookStones", (S_X7_has fu (l := l) (D := D) (cA := cA) (base := base) (b := b)).1, by omega, by decide, mi_X7_has.1, mi_X7_has.2.1, mi_X7_has.2.2.1, mi_X7_has.2.2.2, Or.inr (tblN_of (i := 526) rfl rfl)⟩, (S_X7_has fu (l := l) (D := D) (cA := cA) (base := base) (b := b)).2⟩) (cons_all (⟨Or.inl ⟨show (1 : Nat) ≠ 3 by decide, y_X3_costOf, prog_5_method_14_code, 3, (some .int), 2, "BrookStones", (S_X3_costOf fu (l := l) (D := D) (cA := cA) (base := base) (b := b)).1, by omega, by decide, mi_X3_costOf.1, mi_X3_costOf.2.1, mi_X3_costOf.2.2.1, mi_X3_costOf.2.2.2, Or.inl (tblG_of (i := 561) rfl rfl)⟩, (S_X3_costOf fu (l := l) (D := D) (cA := cA) (base := base) (b := b)).2⟩) (nil_all))))
    (nil_all)
    (T := T_X3_layFrom) (by decide +kernel) (cut := [77]) (N := 100) (D_X3_layFrom fu (U_X3_layFrom fu k)) (by decide +kernel) (fun h => absurd h (by decide)) (fun as w o h => ?_)
  unfold U_X3_layFrom at h
  split at h
  next =>
    exact ⟨Nat.le_of_ble_eq_true rfl, fu, (E_X3_layFrom fu _ _ _ _ _ _ _ _ w).symm.trans h⟩
  next => cases h
def T_X3_find : List (Nat × Instr) := [(0, .aload_n 0), (1, .iload_n 2), (2, .putfield 26), (5, .aload_n 0), (6, .iload_n 3), (7, .putfield 30), (10, .aload_n 0), (11, .iload 4), (13, .putfield 33), (16, .aload_n 0), (17, .ldc 36), (19, .putfield 37), (22, .iconst 0), (23, .istore 5), (25, .iload 5), (27, .aload_n 1), (28, .getfield 40), (31, .if_icmp .ge 39), (34, .aload_n 0), (35, .getfield 18), (38, .iload 5), (40, .aload_n 1), (41, .getfield 45), (44, .iload 5), (46, .invokestatic 48), (49, .ifCond .eq 7), (52, .iconst 0), (53, .goto 10), (56, .aload_n 0), (57, .aload_n 1), (58, .iload 5), (60, .invokevirtual 52), (63, .iastore), (64, .iinc 5 1), (67, .goto (-42)), (70, .aload_n 0), (71, .aload_n 1), (72, .invokevirtual 56), (75, .aload_n 0), (76, .getfield 11), (79, .bipush (-9)), (81, .invokestatic 60), (84, .aload_n 0), (85, .aload_n 1), (86, .iconst 0), (87, .iconst 0), (88, .iconst 0), (89, .iconst 0), (90, .aload_n 0), (91, .getfield 26), (94, .iconst 1), (95, .isub), (96, .aload_n 1), (97, .getfield 66), (100, .invokestatic 69), (103, .invokestatic 75), (106, .return_)]
def op_X3_find (fu : Nat) : Nat → Kont → XL → List Value → XW → Instr → Option XO := opK 6 (rzOf (none)) fl_BrookStones_Planner nl_BrookStones_Planner kl_BrookStones_Planner [] [(52, 3, 1, (U_X3_usesOf fu)), (56, 2, 0, (U_X3_lookAhead fu))] [(48, 2, 1, (U_X7_has fu)), (60, 2, 0, (U_J7_fill_53178 fu)), (69, 2, 3, oMin), (75, 7, 0, (U_X3_layFrom fu 10))] []
def F_X3_find (fu : Nat) : Nat → (Nat → Nat → Int32 → XW → Option XO)
  | 0 => fun _ _ _ _ => none
  | n + 1 => (fun a0 a1 a5 w =>
    (gI w a1 0 12).bind fun x1 =>
    (if a5 < x1 then
      (gR w a0 3 2).bind fun r10 =>
      (gI w a1 0 13).bind fun x11 =>
      cI (U_X7_has fu [.int x11, .int a5] w) fun x13 w12 =>
      (if x13 = 0 then
        cI (U_X3_usesOf fu [.ref a0, .ref a1, .int a5] w12) fun x15 w14 =>
        (sI w14 r10 a5 x15).bind fun w16 =>
        (F_X3_find fu n) a0 a1 (a5 + (1 : Int32)) w16
      else
        (sI w12 r10 a5 (0 : Int32)).bind fun w17 =>
        (F_X3_find fu n) a0 a1 (a5 + (1 : Int32)) w17)
    else
      cV (U_X3_lookAhead fu [.ref a0, .ref a1] w) fun w2 =>
      (gR w2 a0 3 0).bind fun r3 =>
      cV (U_J7_fill_53178 fu [.ref r3, .int (-9 : Int32)] w2) fun w4 =>
      (gI w4 a0 3 5).bind fun x5 =>
      (gI w4 a1 0 8).bind fun x6 =>
      cI (oMin [.int (x5 - (1 : Int32)), .int x6] w4) fun x8 w7 =>
      cV (U_X3_layFrom fu 10 [.ref a0, .ref a1, .int (0 : Int32), .int (0 : Int32), .int (0 : Int32), .int (0 : Int32), .int x8] w7) fun w9 =>
      some (none, w9)))
def M_X3_find (fu : Nat) (a0 : Nat) (a1 : Nat) (a2 : Int32) (a3 : Int32) (a4 : Int32) (w : XW) : Option XO :=
  (pF w a0 3 5 (.int a2)).bind fun w18 =>
  (pF w18 a0 3 6 (.int a3)).bind fun w19 =>
  (pF w19 a0 3 7 (.int a4)).bind fun w20 =>
  (pF w20 a0 3 4 (.int (1000000 : Int32))).bind fun w21 =>
  (F_X3_find fu fu) a0 a1 (0 : Int32) w21
def U_X3_find (fu : Nat) : Orc := fun as w => match as with
  | [.ref a0, .ref a1, .int a2, .int a3, .int a4] => if isO w a0 3 = true then M_X3_find fu a0 a1 a2 a3 a4 w else none
  | _ => none
def K_X3_find (fu : Nat) (n : Nat) : Kont := fun pc ls st w => bif pc == 25 then ((xr ls 0).bind fun a0 => (xr ls 1).bind fun a1 => (xi ls 5).bind fun a5 => skN st ((F_X3_find fu n) a0 a1 a5 w)) else none
set_option maxRecDepth 100000 in
set_option maxHeartbeats 4000000 in
theorem E_X3_find_25 (fu : Nat) (n : Nat) (a0 : Nat) (a1 : Nat) (a5 : Int32) (w : XW) : (F_X3_find fu (n + 1)) a0 a1 a5 w = ev T_X3_find (op_X3_find fu) [25] (K_X3_find fu n) 59 25 [(0, .ref a0), (1, .ref a1), (5, .int a5)] [] w := by
  rfl
set_option maxRecDepth 100000 in
set_option maxHeartbeats 4000000 in
theorem E_X3_find (fu : Nat) (a0 : Nat) (a1 : Nat) (a2 : Int32) (a3 : Int32) (a4 : Int32) (w : XW) : M_X3_find fu a0 a1 a2 a3 a4 w = ev T_X3_find (op_X3_find fu) [25] (K_X3_find fu fu) 59 0 (lv_args 0 [.ref a0, .ref a1, .int a2, .int a3, .int a4]) [] w := by
  rfl
theorem D_X3_find (fu : Nat) : DS T_X3_find (op_X3_find fu) [25] 59 (K_X3_find fu) := by
  refine ⟨fun pc ls st w => c_none (b_none fun _ => b_none fun _ => b_none fun _ => skN_none rfl) (rfl), fun n pc ls st w o h => ?_⟩
  rcases c_some h with ⟨rfl, h⟩ | h
  · obtain ⟨a0, h0, h⟩ := some_of h; obtain ⟨a1, h1, h⟩ := some_of h; obtain ⟨a5, h5, h⟩ := some_of h;
    obtain ⟨e, g⟩ := skN_of h
    subst e
    exact ⟨[(0, .ref a0), (1, .ref a1), (5, .int a5)], cons_all (xr_of h0) (cons_all (xr_of h1) (cons_all (xi_of h5) (nil_all))), (E_X3_find_25 fu n a0 a1 a5 w).symm.trans g⟩
  · cases h
theorem H_X3_find (fu : Nat) : ∀ as w o, U_X3_find fu as w = some o → ∃ a r, as = .ref a :: r ∧ r.length = 4 ∧ isO w a 3 = true := by
  intro as w o h
  unfold U_X3_find at h
  split at h
  next =>
    split at h
    next hh => exact ⟨_, _, rfl, rfl, hh⟩
    next => cases h
  next => cases h
set_option maxRecDepth 100000 in
set_option maxHeartbeats 4000000 in
theorem S_X3_find (fu : Nat) {l : Launch} {D : va_G} {cA : Nat → ClassId} {base b : Nat} : CS l D cA base b 15 y_X3_find prog_5_method_2_code 6 (none) (U_X3_find fu) ∧ OM (U_X3_find fu) := by
  refine CS_of (d := 14) (y := y_X3_find) (cc := prog_5_method_2_code) (nL := 6) (ret := (none)) (F := U_X3_find fu) (fl := fl_BrookStones_Planner) (nl := nl_BrookStones_Planner) (kl := kl_BrookStones_Planner) (k2 := []) (mv := [(52, 3, 1, (U_X3_usesOf fu)), (56, 2, 0, (U_X3_lookAhead fu))]) (ms := [(48, 2, 1, (U_X7_has fu)), (60, 2, 0, (U_J7_fill_53178 fu)), (69, 2, 3, oMin), (75, 7, 0, (U_X3_layFrom fu 10))]) (mi := []) (ini := false) hI_w hZ_w fl_BrookStones_Planner_ok nl_BrookStones_Planner_ok kl_BrookStones_Planner_ok nil_all
    (cons_all (⟨⟨show (1 : Nat) ≠ 3 by decide, y_X3_usesOf, prog_5_method_6_code, 5, (some .int), 3, "BrookStones", 3, TX3, 8, 2, (S_X3_usesOf fu (l := l) (D := D) (cA := cA) (base := base) (b := b)).1, by decide, by decide, rfl, H_X3_usesOf fu, rfl, mi_X3_usesOf.1, mi_X3_usesOf.2.1, mi_X3_usesOf.2.2.1, mi_X3_usesOf.2.2.2.1, mi_X3_usesOf.2.2.2.2, Or.inl (tblG_of (i := 527) rfl rfl)⟩, (S_X3_usesOf fu (l := l) (D := D) (cA := cA) (base := base) (b := b)).2⟩) (cons_all (⟨⟨show (0 : Nat) ≠ 3 by decide, y_X3_lookAhead, prog_5_method_7_code, 4, (none), 4, "BrookStones", 3, TX3, 8, 1, (S_X3_lookAhead fu (l := l) (D := D) (cA := cA) (base := base) (b := b)).1, by decide, by decide, rfl, H_X3_lookAhead fu, rfl, mi_X3_lookAhead.1, mi_X3_lookAhead.2.1, mi_X3_lookAhead.2.2.1, mi_X3_lookAhead.2.2.2.1, mi_X3_lookAhead.2.2.2.2, Or.inl (tblG_of (i := 538) rfl rfl)⟩, (S_X3_lookAhead fu (l := l) (D := D) (cA := cA) (base := base) (b := b)).2⟩) (nil_all)))
    (cons_all (⟨Or.inl ⟨show (1 : Nat) ≠ 3 by decide, y_X7_has, prog_1_method_47_code, 2, (some .boolean), 1, "BrookStones", (S_X7_has fu (l := l) (D := D) (cA := cA) (base := base) (b := b)).1, by decide, by decide, mi_X7_has.1, mi_X7_has.2.1, mi_X7_has.2.2.1, mi_X7_has.2.2.2, Or.inr (tblN_of (i := 526) rfl rfl)⟩, (S_X7_has fu (l := l) (D := D) (cA := cA) (base := base) (b := b)).2⟩) (cons_all (⟨Or.inl ⟨show (0 : Nat) ≠ 3 by decide, y_J7_fill_53178, prog_14_method_103_code, 4, (none), 1, "BrookStones", (S_J7_fill_53178 fu (l := l) (D := D) (cA := cA) (base := base) (b := b)).1, by decide, by decide, mi_J7_fill_53178.1, mi_J7_fill_53178.2.1, mi_J7_fill_53178.2.2.1, mi_J7_fill_53178.2.2.2, Or.inl (tblG_of (i := 543) rfl rfl)⟩, (S_J7_fill_53178 fu (l := l) (D := D) (cA := cA) (base := base) (b := b)).2⟩) (cons_all (⟨Or.inr (Or.inr (Or.inr ⟨rfl, rfl, rfl, tblG_of (i := 560) rfl rfl, tblG_of (i := 301) rfl rfl, tblG_of (i := 11) rfl rfl, tblG_of (i := 302) rfl rfl⟩)), om_min⟩) (cons_all (⟨Or.inl ⟨show (0 : Nat) ≠ 3 by decide, y_X3_layFrom, prog_5_method_9_code, 10, (none), 13, "BrookStones", (S_X3_layFrom fu 10 (l := l) (D := D) (cA := cA) (base := base) (b := b)).1, by decide, by decide, mi_X3_layFrom.1, mi_X3_layFrom.2.1, mi_X3_layFrom.2.2.1, mi_X3_layFrom.2.2.2, Or.inl (tblG_of (i := 565) rfl rfl)⟩, (S_X3_layFrom fu 10 (l := l) (D := D) (cA := cA) (base := base) (b := b)).2⟩) (nil_all)))))
    (nil_all)
    (T := T_X3_find) (by decide +kernel) (cut := [25]) (N := 59) (D_X3_find fu) (by decide +kernel) (fun h => absurd h (by decide)) (fun as w o h => ?_)
  unfold U_X3_find at h
  split at h
  next =>
    split at h
    next => exact ⟨Nat.le_of_ble_eq_true rfl, fu, (E_X3_find fu _ _ _ _ _ w).symm.trans h⟩
    next => cases h
  next => cases h
def T_X3_isFound : List (Nat × Instr) := [(0, .aload_n 0), (1, .getfield 37), (4, .ldc 36), (6, .if_icmp .eq 7), (9, .iconst 1), (10, .goto 4), (13, .iconst 0), (14, .ireturn)]
def op_X3_isFound (fu : Nat) : Nat → Kont → XL → List Value → XW → Instr → Option XO := opK 1 (rzOf (some .boolean)) fl_BrookStones_Planner nl_BrookStones_Planner kl_BrookStones_Planner [] [] [] []
def M_X3_isFound (fu : Nat) (a0 : Nat) (w : XW) : Option XO :=
  (gI w a0 3 4).bind fun x1 =>
  (if x1 = (1000000 : Int32) then
    retZ (0 : Int32) w
  else
    retZ (1 : Int32) w)
def U_X3_isFound (fu : Nat) : Orc := fun as w => match as with
  | [.ref a0] => if isO w a0 3 = true then M_X3_isFound fu a0 w else none
  | _ => none
def K_X3_isFound (fu : Nat) (n : Nat) : Kont := fun pc ls st w => none
set_option maxRecDepth 100000 in
set_option maxHeartbeats 4000000 in
theorem E_X3_isFound (fu : Nat) (a0 : Nat) (w : XW) : M_X3_isFound fu a0 w = ev T_X3_isFound (op_X3_isFound fu) [] (K_X3_isFound fu fu) 10 0 (lv_args 0 [.ref a0]) [] w := by
  rfl
theorem D_X3_isFound (fu : Nat) : DS T_X3_isFound (op_X3_isFound fu) [] 10 (K_X3_isFound fu) := by
  refine ⟨fun pc ls st w => rfl, fun n pc ls st w o h => ?_⟩
  cases h
theorem H_X3_isFound (fu : Nat) : ∀ as w o, U_X3_isFound fu as w = some o → ∃ a r, as = .ref a :: r ∧ r.length = 0 ∧ isO w a 3 = true := by
  intro as w o h
  unfold U_X3_isFound at h
  split at h
  next =>
    split at h
    next hh => exact ⟨_, _, rfl, rfl, hh⟩
    next => cases h
  next => cases h
set_option maxRecDepth 100000 in
set_option maxHeartbeats 4000000 in
theorem S_X3_isFound (fu : Nat) {l : Launch} {D : va_G} {cA : Nat → ClassId} {base b : Nat} : CS l D cA base b 1 y_X3_isFound prog_5_method_3_code 1 (some .boolean) (U_X3_isFound fu) ∧ OM (U_X3_isFound fu) := by
  refine CS_of (d := 0) (y := y_X3_isFound) (cc := prog_5_method_3_code) (nL := 1) (ret := (some .boolean)) (F := U_X3_isFound fu) (fl := fl_BrookStones_Planner) (nl := nl_BrookStones_Planner) (kl := kl_BrookStones_Planner) (k2 := []) (mv := []) (ms := []) (mi := []) (ini := false) hI_w hZ_w fl_BrookStones_Planner_ok nl_BrookStones_Planner_ok kl_BrookStones_Planner_ok nil_all
    (nil_all)
    (nil_all)
    (nil_all)
    (T := T_X3_isFound) (by decide +kernel) (cut := []) (N := 10) (D_X3_isFound fu) (by decide +kernel) (fun h => absurd h (by decide)) (fun as w o h => ?_)
  unfold U_X3_isFound at h
  split at h
  next =>
    split at h
    next => exact ⟨Nat.le_of_ble_eq_true rfl, fu, (E_X3_isFound fu _ w).symm.trans h⟩
    next => cases h
  next => cases h
def T_X3_bestMany : List (Nat × Instr) := [(0, .aload_n 0), (1, .getfield 37), (4, .bipush 7), (6, .irem), (7, .ireturn)]
def op_X3_bestMany (fu : Nat) : Nat → Kont → XL → List Value → XW → Instr → Option XO := opK 1 (rzOf (some .int)) fl_BrookStones_Planner nl_BrookStones_Planner kl_BrookStones_Planner [] [] [] []
def M_X3_bestMany (fu : Nat) (a0 : Nat) (w : XW) : Option XO :=
  (gI w a0 3 4).bind fun x1 =>
  (if (7 : Int32) = 0 then none else
  some (some (.int (x1 - x1 / (7 : Int32) * (7 : Int32))), w))
def U_X3_bestMany (fu : Nat) : Orc := fun as w => match as with
  | [.ref a0] => if isO w a0 3 = true then M_X3_bestMany fu a0 w else none
  | _ => none
def K_X3_bestMany (fu : Nat) (n : Nat) : Kont := fun pc ls st w => none
set_option maxRecDepth 100000 in
set_option maxHeartbeats 4000000 in
theorem E_X3_bestMany (fu : Nat) (a0 : Nat) (w : XW) : M_X3_bestMany fu a0 w = ev T_X3_bestMany (op_X3_bestMany fu) [] (K_X3_bestMany fu fu) 7 0 (lv_args 0 [.ref a0]) [] w := by
  rfl
theorem D_X3_bestMany (fu : Nat) : DS T_X3_bestMany (op_X3_bestMany fu) [] 7 (K_X3_bestMany fu) := by
  refine ⟨fun pc ls st w => rfl, fun n pc ls st w o h => ?_⟩
  cases h
theorem H_X3_bestMany (fu : Nat) : ∀ as w o, U_X3_bestMany fu as w = some o → ∃ a r, as = .ref a :: r ∧ r.length = 0 ∧ isO w a 3 = true := by
  intro as w o h
  unfold U_X3_bestMany at h
  split at h
  next =>
    split at h
    next hh => exact ⟨_, _, rfl, rfl, hh⟩
    next => cases h
  next => cases h
set_option maxRecDepth 100000 in
set_option maxHeartbeats 4000000 in
theorem S_X3_bestMany (fu : Nat) {l : Launch} {D : va_G} {cA : Nat → ClassId} {base b : Nat} : CS l D cA base b 1 y_X3_bestMany prog_5_method_5_code 1 (some .int) (U_X3_bestMany fu) ∧ OM (U_X3_bestMany fu) := by
  refine CS_of (d := 0) (y := y_X3_bestMany) (cc := prog_5_method_5_code) (nL := 1) (ret := (some .int)) (F := U_X3_bestMany fu) (fl := fl_BrookStones_Planner) (nl := nl_BrookStones_Planner) (kl := kl_BrookStones_Planner) (k2 := []) (mv := []) (ms := []) (mi := []) (ini := false) hI_w hZ_w fl_BrookStones_Planner_ok nl_BrookStones_Planner_ok kl_BrookStones_Planner_ok nil_all
    (nil_all)
    (nil_all)
    (nil_all)
    (T := T_X3_bestMany) (by decide +kernel) (cut := []) (N := 7) (D_X3_bestMany fu) (by decide +kernel) (fun h => absurd h (by decide)) (fun as w o h => ?_)
  unfold U_X3_bestMany at h
  split at h
  next =>
    split at h
    next => exact ⟨Nat.le_of_ble_eq_true rfl, fu, (E_X3_bestMany fu _ w).symm.trans h⟩
    next => cases h
  next => cases h
def T_X3_bestWork : List (Nat × Instr) := [(0, .aload_n 0), (1, .getfield 37), (4, .bipush 7), (6, .idiv), (7, .ireturn)]
def op_X3_bestWork (fu : Nat) : Nat → Kont → XL → List Value → XW → Instr → Option XO := opK 1 (rzOf (some .int)) fl_BrookStones_Planner nl_BrookStones_Planner kl_BrookStones_Planner [] [] [] []
def M_X3_bestWork (fu : Nat) (a0 : Nat) (w : XW) : Option XO :=
  (gI w a0 3 4).bind fun x1 =>
  (if (7 : Int32) = 0 then none else
  some (some (.int (x1 / (7 : Int32))), w))
def U_X3_bestWork (fu : Nat) : Orc := fun as w => match as with
  | [.ref a0] => if isO w a0 3 = true then M_X3_bestWork fu a0 w else none
  | _ => none
def K_X3_bestWork (fu : Nat) (n : Nat) : Kont := fun pc ls st w => none
set_option maxRecDepth 100000 in
set_option maxHeartbeats 4000000 in
theorem E_X3_bestWork (fu : Nat) (a0 : Nat) (w : XW) : M_X3_bestWork fu a0 w = ev T_X3_bestWork (op_X3_bestWork fu) [] (K_X3_bestWork fu fu) 7 0 (lv_args 0 [.ref a0]) [] w := by
  rfl
theorem D_X3_bestWork (fu : Nat) : DS T_X3_bestWork (op_X3_bestWork fu) [] 7 (K_X3_bestWork fu) := by
  refine ⟨fun pc ls st w => rfl, fun n pc ls st w o h => ?_⟩
  cases h
theorem H_X3_bestWork (fu : Nat) : ∀ as w o, U_X3_bestWork fu as w = some o → ∃ a r, as = .ref a :: r ∧ r.length = 0 ∧ isO w a 3 = true := by
  intro as w o h
  unfold U_X3_bestWork at h
  split at h
  next =>
    split at h
    next hh => exact ⟨_, _, rfl, rfl, hh⟩
    next => cases h
  next => cases h
set_option maxRecDepth 100000 in
set_option maxHeartbeats 4000000 in
theorem S_X3_bestWork (fu : Nat) {l : Launch} {D : va_G} {cA : Nat → ClassId} {base b : Nat} : CS l D cA base b 1 y_X3_bestWork prog_5_method_4_code 1 (some .int) (U_X3_bestWork fu) ∧ OM (U_X3_bestWork fu) := by
  refine CS_of (d := 0) (y := y_X3_bestWork) (cc := prog_5_method_4_code) (nL := 1) (ret := (some .int)) (F := U_X3_bestWork fu) (fl := fl_BrookStones_Planner) (nl := nl_BrookStones_Planner) (kl := kl_BrookStones_Planner) (k2 := []) (mv := []) (ms := []) (mi := []) (ini := false) hI_w hZ_w fl_BrookStones_Planner_ok nl_BrookStones_Planner_ok kl_BrookStones_Planner_ok nil_all
    (nil_all)
    (nil_all)
    (nil_all)
    (T := T_X3_bestWork) (by decide +kernel) (cut := []) (N := 7) (D_X3_bestWork fu) (by decide +kernel) (fun h => absurd h (by decide)) (fun as w o h => ?_)
  unfold U_X3_bestWork at h
  split at h
  next =>
    split at h
    next => exact ⟨Nat.le_of_ble_eq_true rfl, fu, (E_X3_bestWork fu _ w).symm.trans h⟩
    next => cases h
  next => cases h
def T_X7_plan : List (Nat × Instr) := [(0, .iload_n 1), (1, .iconst 1), (2, .bipush 9), (4, .invokestatic 105), (7, .ifCond .eq 11), (10, .iload_n 2), (11, .iload_n 3), (12, .invokestatic 200), (15, .ifCond .ne 6), (18, .bipush (-2)), (20, .ireturn), (21, .iload 4), (23, .bipush (-2)), (25, .aload_n 0), (26, .getfield 12), (29, .getfield 74), (32, .iconst 1), (33, .isub), (34, .invokestatic 105), (37, .ifCond .ne 5), (40, .iconst (-1)), (41, .ireturn), (42, .aload_n 0), (43, .getfield 12), (46, .invokevirtual 109), (49, .ifCond .ne 6), (52, .bipush (-3)), (54, .ireturn), (55, .aload_n 0), (56, .getfield 42), (59, .aload_n 0), (60, .getfield 12), (63, .iload_n 1), (64, .iload_n 2), (65, .iload_n 3), (66, .invokevirtual 224), (69, .aload_n 0), (70, .getfield 42), (73, .invokevirtual 226), (76, .ifCond .ne 6), (79, .bipush (-9)), (81, .ireturn), (82, .iload 4), (84, .bipush (-2)), (86, .if_icmp .ne 11), (89, .aload_n 0), (90, .getfield 42), (93, .invokevirtual 229), (96, .ireturn), (97, .iload 4), (99, .iconst (-1)), (100, .if_icmp .ne 13), (103, .aload_n 0), (104, .getfield 42), (107, .invokevirtual 232), (110, .goto 13), (113, .aload_n 0), (114, .getfield 42), (117, .getfield 235), (120, .iload 4), (122, .iaload), (123, .ireturn)]
def op_X7_plan (fu : Nat) : Nat → Kont → XL → List Value → XW → Instr → Option XO := opK 5 (rzOf (some .int)) fl_BrookStones nl_BrookStones [] k2_BrookStones [(109, 1, 1, (U_X0_isThere fu)), (224, 5, 0, (U_X3_find fu)), (226, 1, 1, (U_X3_isFound fu)), (229, 1, 1, (U_X3_bestMany fu)), (232, 1, 1, (U_X3_bestWork fu))] [(105, 3, 1, (U_X7_isWithin fu)), (200, 2, 1, (U_X7_isFlood fu))] []
def M_X7_plan (fu : Nat) (a0 : Nat) (a1 : Int32) (a2 : Int32) (a3 : Int32) (a4 : Int32) (w : XW) : Option XO :=
  cI (U_X7_isWithin fu [.int a1, .int (1 : Int32), .int (9 : Int32)] w) fun x2 w1 =>
  (if x2 = 0 then
    some (some (.int (-2 : Int32)), w1)
  else
    cI (U_X7_isFlood fu [.int a2, .int a3] w1) fun x4 w3 =>
    (if x4 = 0 then
      some (some (.int (-2 : Int32)), w3)
    else
      (gR w3 a0 6 0).bind fun r5 =>
      (gI w3 r5 0 8).bind fun x6 =>
      cI (U_X7_isWithin fu [.int a4, .int (-2 : Int32), .int (x6 - (1 : Int32))] w3) fun x8 w7 =>
      (if x8 = 0 then
        some (some (.int (-1 : Int32)), w7)
      else
        (gR w7 a0 6 0).bind fun r9 =>
        cI (U_X0_isThere fu [.ref r9] w7) fun x11 w10 =>
        (if x11 = 0 then
          some (some (.int (-3 : Int32)), w10)
        else
          (gR w10 a0 6 4).bind fun r12 =>
          (gR w10 a0 6 0).bind fun r13 =>
          cV (U_X3_find fu [.ref r12, .ref r13, .int a1, .int a2, .int a3] w10) fun w14 =>
          (gR w14 a0 6 4).bind fun r15 =>
          cI (U_X3_isFound fu [.ref r15] w14) fun x17 w16 =>
          (if x17 = 0 then
            some (some (.int (-9 : Int32)), w16)
          else
            (if a4 = (-2 : Int32) then
              (gR w16 a0 6 4).bind fun r24 =>
              cI (U_X3_bestMany fu [.ref r24] w16) fun x26 w25 =>
              some (some (.int x26), w25)
            else
              (if a4 = (-1 : Int32) then
                (gR w16 a0 6 4).bind fun r21 =>
                cI (U_X3_bestWork fu [.ref r21] w16) fun x23 w22 =>
                some (some (.int x23), w22)
              else
                (gR w16 a0 6 4).bind fun r18 =>
                (gR w16 r18 3 1).bind fun r19 =>
                (aI w16 r19 a4).bind fun x20 =>
                some (some (.int x20), w16))))))))
def U_X7_plan (fu : Nat) : Orc := fun as w => match as with
  | [.ref a0, .int a1, .int a2, .int a3, .int a4] => if isO w a0 6 = true then M_X7_plan fu a0 a1 a2 a3 a4 w else none
  | _ => none
def K_X7_plan (fu : Nat) (n : Nat) : Kont := fun pc ls st w => none
set_option maxRecDepth 100000 in
set_option maxHeartbeats 4000000 in
theorem E_X7_plan (fu : Nat) (a0 : Nat) (a1 : Int32) (a2 : Int32) (a3 : Int32) (a4 : Int32) (w : XW) : M_X7_plan fu a0 a1 a2 a3 a4 w = ev T_X7_plan (op_X7_plan fu) [] (K_X7_plan fu fu) 64 0 (lv_args 0 [.ref a0, .int a1, .int a2, .int a3, .int a4]) [] w := by
  rfl
theorem D_X7_plan (fu : Nat) : DS T_X7_plan (op_X7_plan fu) [] 64 (K_X7_plan fu) := by
  refine ⟨fun pc ls st w => rfl, fun n pc ls st w o h => ?_⟩
  cases h
theorem H_X7_plan (fu : Nat) : ∀ as w o, U_X7_plan fu as w = some o → ∃ a r, as = .ref a :: r ∧ r.length = 4 ∧ isO w a 6 = true := by
  intro as w o h
  unfold U_X7_plan at h
  split at h
  next =>
    split at h
    next hh => exact ⟨_, _, rfl, rfl, hh⟩
    next => cases h
  next => cases h
set_option maxRecDepth 100000 in
set_option maxHeartbeats 4000000 in
theorem S_X7_plan (fu : Nat) {l : Launch} {D : va_G} {cA : Nat → ClassId} {base b : Nat} : CS l D cA base b 16 y_X7_plan prog_1_method_22_code 5 (some .int) (U_X7_plan fu) ∧ OM (U_X7_plan fu) := by
  refine CS_of (d := 15) (y := y_X7_plan) (cc := prog_1_method_22_code) (nL := 5) (ret := (some .int)) (F := U_X7_plan fu) (fl := fl_BrookStones) (nl := nl_BrookStones) (kl := []) (k2 := k2_BrookStones) (mv := [(109, 1, 1, (U_X0_isThere fu)), (224, 5, 0, (U_X3_find fu)), (226, 1, 1, (U_X3_isFound fu)), (229, 1, 1, (U_X3_bestMany fu)), (232, 1, 1, (U_X3_bestWork fu))]) (ms := [(105, 3, 1, (U_X7_isWithin fu)), (200, 2, 1, (U_X7_isFlood fu))]) (mi := []) (ini := false) hI_w hZ_w fl_BrookStones_ok nl_BrookStones_ok nil_all k2_BrookStones_ok
    (cons_all (⟨⟨show (1 : Nat) ≠ 3 by decide, y_X0_isThere, prog_2_method_3_code, 1, (some .boolean), 1, "BrookStones", 0, TX0, 15, 0, (S_X0_isThere fu (l := l) (D := D) (cA := cA) (base := base) (b := b)).1, by decide, by decide, rfl, H_X0_isThere fu, rfl, mi_X0_isThere.1, mi_X0_isThere.2.1, mi_X0_isThere.2.2.1, mi_X0_isThere.2.2.2.1, mi_X0_isThere.2.2.2.2, Or.inr (tblN_of (i := 334) rfl rfl)⟩, (S_X0_isThere fu (l := l) (D := D) (cA := cA) (base := base) (b := b)).2⟩) (cons_all (⟨⟨show (0 : Nat) ≠ 3 by decide, y_X3_find, prog_5_method_2_code, 6, (none), 15, "BrookStones", 3, TX3, 8, 4, (S_X3_find fu (l := l) (D := D) (cA := cA) (base := base) (b := b)).1, by decide, by decide, rfl, H_X3_find fu, rfl, mi_X3_find.1, mi_X3_find.2.1, mi_X3_find.2.2.1, mi_X3_find.2.2.2.1, mi_X3_find.2.2.2.2, Or.inr (tblN_of (i := 521) rfl rfl)⟩, (S_X3_find fu (l := l) (D := D) (cA := cA) (base := base) (b := b)).2⟩) (cons_all (⟨⟨show (1 : Nat) ≠ 3 by decide, y_X3_isFound, prog_5_method_3_code, 1, (some .boolean), 1, "BrookStones", 3, TX3, 8, 0, (S_X3_isFound fu (l := l) (D := D) (cA := cA) (base := base) (b := b)).1, by decide, by decide, rfl, H_X3_isFound fu, rfl, mi_X3_isFound.1, mi_X3_isFound.2.1, mi_X3_isFound.2.2.1, mi_X3_isFound.2.2.2.1, mi_X3_isFound.2.2.2.2, Or.inr (tblN_of (i := 580) rfl rfl)⟩, (S_X3_isFound fu (l := l) (D := D) (cA := cA) (base := base) (b := b)).2⟩) (cons_all (⟨⟨show (1 : Nat) ≠ 3 by decide, y_X3_bestMany, prog_5_method_5_code, 1, (some .int), 1, "BrookStones", 3, TX3, 8, 0, (S_X3_bestMany fu (l := l) (D := D) (cA := cA) (base := base) (b := b)).1, by decide, by decide, rfl, H_X3_bestMany fu, rfl, mi_X3_bestMany.1, mi_X3_bestMany.2.1, mi_X3_bestMany.2.2.1, mi_X3_bestMany.2.2.2.1, mi_X3_bestMany.2.2.2.2, Or.inr (tblN_of (i := 584) rfl rfl)⟩, (S_X3_bestMany fu (l := l) (D := D) (cA := cA) (base := base) (b := b)).2⟩) (cons_all (⟨⟨show (1 : Nat) ≠ 3 by decide, y_X3_bestWork, prog_5_method_4_code, 1, (some .int), 1, "BrookStones", 3, TX3, 8, 0, (S_X3_bestWork fu (l := l) (D := D) (cA := cA) (base := base) (b := b)).1, by decide, by decide, rfl, H_X3_bestWork fu, rfl, mi_X3_bestWork.1, mi_X3_bestWork.2.1, mi_X3_bestWork.2.2.1, mi_X3_bestWork.2.2.2.1, mi_X3_bestWork.2.2.2.2, Or.inr (tblN_of (i := 588) rfl rfl)⟩, (S_X3_bestWork fu (l := l) (D := D) (cA := cA) (base := base) (b := b)).2⟩) (nil_all))))))
    (cons_all (⟨Or.inl ⟨show (1 : Nat) ≠ 3 by decide, y_X7_isWithin, prog_1_method_46_code, 3, (some .boolean), 1, "BrookStones", (S_X7_isWithin fu (l := l) (D := D) (cA := cA) (base := base) (b := b)).1, by decide, by decide, mi_X7_isWithin.1, mi_X7_isWithin.2.1, mi_X7_isWithin.2.2.1, mi_X7_isWithin.2.2.2, Or.inl (tblG_of (i := 333) rfl rfl)⟩, (S_X7_isWithin fu (l := l) (D := D) (cA := cA) (base := base) (b := b)).2⟩) (cons_all (⟨Or.inl ⟨show (1 : Nat) ≠ 3 by decide, y_X7_isFlood, prog_1_method_45_code, 2, (some .boolean), 2, "BrookStones", (S_X7_isFlood fu (l := l) (D := D) (cA := cA) (base := base) (b := b)).1, by decide, by decide, mi_X7_isFlood.1, mi_X7_isFlood.2.1, mi_X7_isFlood.2.2.1, mi_X7_isFlood.2.2.2, Or.inl (tblG_of (i := 472) rfl rfl)⟩, (S_X7_isFlood fu (l := l) (D := D) (cA := cA) (base := base) (b := b)).2⟩) (nil_all)))
    (nil_all)
    (T := T_X7_plan) (by decide +kernel) (cut := []) (N := 64) (D_X7_plan fu) (by decide +kernel) (fun h => absurd h (by decide)) (fun as w o h => ?_)
  unfold U_X7_plan at h
  split at h
  next =>
    split at h
    next => exact ⟨Nat.le_of_ble_eq_true rfl, fu, (E_X7_plan fu _ _ _ _ _ w).symm.trans h⟩
    next => cases h
  next => cases h
def T_X8_isFree : List (Nat × Instr) := [(0, .iload_n 1), (1, .aload_n 0), (2, .getfield 129), (5, .if_icmp .ge 14), (8, .aload_n 0), (9, .getfield 50), (12, .iload_n 1), (13, .iaload), (14, .bipush (-5)), (16, .if_icmp .ne 5), (19, .iconst 0), (20, .ireturn), (21, .iconst 0), (22, .istore_n 3), (23, .iload_n 3), (24, .iload_n 2), (25, .if_icmp .ge 21), (28, .aload_n 0), (29, .getfield 75), (32, .iload_n 3), (33, .iaload), (34, .iload_n 1), (35, .if_icmp .ne 5), (38, .iconst 0), (39, .ireturn), (40, .iinc 3 1), (43, .goto (-20)), (46, .iconst 1), (47, .ireturn)]
def op_X8_isFree (fu : Nat) : Nat → Kont → XL → List Value → XW → Instr → Option XO := opK 4 (rzOf (some .boolean)) fl_BrookStonesModel [] kl_BrookStonesModel k2_BrookStonesModel [] [] []
def F_X8_isFree (fu : Nat) : Nat → (Nat → Int32 → Int32 → Int32 → XW → Option XO)
  | 0 => fun _ _ _ _ _ => none
  | n + 1 => (fun a0 a1 a2 a3 w =>
    (if a3 < a2 then
      (gR w a0 7 32).bind fun r1 =>
      (aI w r1 a3).bind fun x2 =>
      (if x2 = a1 then
        retZ (0 : Int32) w
      else
        (F_X8_isFree fu n) a0 a1 a2 (a3 + (1 : Int32)) w)
    else
      retZ (1 : Int32) w))
def M_X8_isFree (fu : Nat) (a0 : Nat) (a1 : Int32) (a2 : Int32) (w : XW) : Option XO :=
  (gI w a0 7 17).bind fun x3 =>
  (if a1 < x3 then
    (gR w a0 7 22).bind fun r4 =>
    (aI w r4 a1).bind fun x5 =>
    (if x5 = (-5 : Int32) then
      retZ (0 : Int32) w
    else
      (F_X8_isFree fu fu) a0 a1 a2 (0 : Int32) w)
  else
    retZ (0 : Int32) w)
def U_X8_isFree (fu : Nat) : Orc := fun as w => match as with
  | [.ref a0, .int a1, .int a2] => if isO w a0 7 = true then M_X8_isFree fu a0 a1 a2 w else none
  | _ => none
def K_X8_isFree (fu : Nat) (n : Nat) : Kont := fun pc ls st w => bif pc == 23 then ((xr ls 0).bind fun a0 => (xi ls 1).bind fun a1 => (xi ls 2).bind fun a2 => (xi ls 3).bind fun a3 => skN st ((F_X8_isFree fu n) a0 a1 a2 a3 w)) else none
set_option maxRecDepth 100000 in
set_option maxHeartbeats 4000000 in
theorem E_X8_isFree_23 (fu : Nat) (n : Nat) (a0 : Nat) (a1 : Int32) (a2 : Int32) (a3 : Int32) (w : XW) : (F_X8_isFree fu (n + 1)) a0 a1 a2 a3 w = ev T_X8_isFree (op_X8_isFree fu) [23] (K_X8_isFree fu n) 31 23 [(0, .ref a0), (1, .int a1), (2, .int a2), (3, .int a3)] [] w := by
  rfl
set_option maxRecDepth 100000 in
set_option maxHeartbeats 4000000 in
theorem E_X8_isFree (fu : Nat) (a0 : Nat) (a1 : Int32) (a2 : Int32) (w : XW) : M_X8_isFree fu a0 a1 a2 w = ev T_X8_isFree (op_X8_isFree fu) [23] (K_X8_isFree fu fu) 31 0 (lv_args 0 [.ref a0, .int a1, .int a2]) [] w := by
  rfl
theorem D_X8_isFree (fu : Nat) : DS T_X8_isFree (op_X8_isFree fu) [23] 31 (K_X8_isFree fu) := by
  refine ⟨fun pc ls st w => c_none (b_none fun _ => b_none fun _ => b_none fun _ => b_none fun _ => skN_none rfl) (rfl), fun n pc ls st w o h => ?_⟩
  rcases c_some h with ⟨rfl, h⟩ | h
  · obtain ⟨a0, h0, h⟩ := some_of h; obtain ⟨a1, h1, h⟩ := some_of h; obtain ⟨a2, h2, h⟩ := some_of h; obtain ⟨a3, h3, h⟩ := some_of h;
    obtain ⟨e, g⟩ := skN_of h
    subst e
    exact ⟨[(0, .ref a0), (1, .int a1), (2, .int a2), (3, .int a3)], cons_all (xr_of h0) (cons_all (xi_of h1) (cons_all (xi_of h2) (cons_all (xi_of h3) (nil_all)))), (E_X8_isFree_23 fu n a0 a1 a2 a3 w).symm.trans g⟩
  · cases h
theorem H_X8_isFree (fu : Nat) : ∀ as w o, U_X8_isFree fu as w = some o → ∃ a r, as = .ref a :: r ∧ r.length = 2 ∧ isO w a 7 = true := by
  intro as w o h
  unfold U_X8_isFree at h
  split at h
  next =>
    split at h
    next hh => exact ⟨_, _, rfl, rfl, hh⟩
    next => cases h
  next => cases h
set_option maxRecDepth 100000 in
set_option maxHeartbeats 4000000 in
theorem S_X8_isFree (fu : Nat) {l : Launch} {D : va_G} {cA : Nat → ClassId} {base b : Nat} : CS l D cA base b 1 y_X8_isFree prog_10_method_53_code 4 (some .boolean) (U_X8_isFree fu) ∧ OM (U_X8_isFree fu) := by
  refine CS_of (d := 0) (y := y_X8_isFree) (cc := prog_10_method_53_code) (nL := 4) (ret := (some .boolean)) (F := U_X8_isFree fu) (fl := fl_BrookStonesModel) (nl := []) (kl := kl_BrookStonesModel) (k2 := k2_BrookStonesModel) (mv := []) (ms := []) (mi := []) (ini := false) hI_w hZ_w fl_BrookStonesModel_ok nil_all kl_BrookStonesModel_ok k2_BrookStonesModel_ok
    (nil_all)
    (nil_all)
    (nil_all)
    (T := T_X8_isFree) (by decide +kernel) (cut := [23]) (N := 31) (D_X8_isFree fu) (by decide +kernel) (fun h => absurd h (by decide)) (fun as w o h => ?_)
  unfold U_X8_isFree at h
  split at h
  next =>
    split at h
    next => exact ⟨Nat.le_of_ble_eq_true rfl, fu, (E_X8_isFree fu _ _ _ w).symm.trans h⟩
    next => cases h
  next => cases h
def T_X8_workAhead : List (Nat × Instr) := [(0, .iconst 0), (1, .istore_n 2), (2, .iconst 0), (3, .istore_n 3), (4, .iload_n 3), (5, .iload_n 1), (6, .if_icmp .ge 38), (9, .iload_n 2), (10, .aload_n 0), (11, .getfield 75), (14, .iload_n 3), (15, .iaload), (16, .bipush 6), (18, .if_icmp .ge 17), (21, .aload_n 0), (22, .aload_n 0), (23, .getfield 75), (26, .iload_n 3), (27, .iaload), (28, .iload_n 3), (29, .invokevirtual 155), (32, .goto 4), (35, .iconst 0), (36, .iadd), (37, .istore_n 2), (38, .iinc 3 1), (41, .goto (-37)), (44, .iload_n 2), (45, .ireturn)]
def op_X8_workAhead (fu : Nat) : Nat → Kont → XL → List Value → XW → Instr → Option XO := opK 4 (rzOf (some .int)) fl_BrookStonesModel [] kl_BrookStonesModel k2_BrookStonesModel [(155, 3, 1, (U_X8_workOf fu))] [] []
def F_X8_workAhead (fu : Nat) : Nat → (Nat → Int32 → Int32 → Int32 → XW → Option XO)
  | 0 => fun _ _ _ _ _ => none
  | n + 1 => (fun a0 a1 a2 a3 w =>
    (if a3 < a1 then
      (gR w a0 7 32).bind fun r1 =>
      (aI w r1 a3).bind fun x2 =>
      (if x2 < (6 : Int32) then
        (gR w a0 7 32).bind fun r3 =>
        (aI w r3 a3).bind fun x4 =>
        cI (U_X8_workOf fu [.ref a0, .int x4, .int a3] w) fun x6 w5 =>
        (F_X8_workAhead fu n) a0 a1 (a2 + x6) (a3 + (1 : Int32)) w5
      else
        (F_X8_workAhead fu n) a0 a1 (a2 + (0 : Int32)) (a3 + (1 : Int32)) w)
    else
      some (some (.int a2), w)))
def M_X8_workAhead (fu : Nat) (a0 : Nat) (a1 : Int32) (w : XW) : Option XO :=
  (F_X8_workAhead fu fu) a0 a1 (0 : Int32) (0 : Int32) w
def U_X8_workAhead (fu : Nat) : Orc := fun as w => match as with
  | [.ref a0, .int a1] => if isO w a0 7 = true then M_X8_workAhead fu a0 a1 w else none
  | _ => none
def K_X8_workAhead (fu : Nat) (n : Nat) : Kont := fun pc ls st w => bif pc == 4 then ((xr ls 0).bind fun a0 => (xi ls 1).bind fun a1 => (xi ls 2).bind fun a2 => (xi ls 3).bind fun a3 => skN st ((F_X8_workAhead fu n) a0 a1 a2 a3 w)) else none
set_option maxRecDepth 100000 in
set_option maxHeartbeats 4000000 in
theorem E_X8_workAhead_4 (fu : Nat) (n : Nat) (a0 : Nat) (a1 : Int32) (a2 : Int32) (a3 : Int32) (w : XW) : (F_X8_workAhead fu (n + 1)) a0 a1 a2 a3 w = ev T_X8_workAhead (op_X8_workAhead fu) [4] (K_X8_workAhead fu n) 31 4 [(0, .ref a0), (1, .int a1), (2, .int a2), (3, .int a3)] [] w := by
  rfl
set_option maxRecDepth 100000 in
set_option maxHeartbeats 4000000 in
theorem E_X8_workAhead (fu : Nat) (a0 : Nat) (a1 : Int32) (w : XW) : M_X8_workAhead fu a0 a1 w = ev T_X8_workAhead (op_X8_workAhead fu) [4] (K_X8_workAhead fu fu) 31 0 (lv_args 0 [.ref a0, .int a1]) [] w := by
  rfl
theorem D_X8_workAhead (fu : Nat) : DS T_X8_workAhead (op_X8_workAhead fu) [4] 31 (K_X8_workAhead fu) := by
  refine ⟨fun pc ls st w => c_none (b_none fun _ => b_none fun _ => b_none fun _ => b_none fun _ => skN_none rfl) (rfl), fun n pc ls st w o h => ?_⟩
  rcases c_some h with ⟨rfl, h⟩ | h
  · obtain ⟨a0, h0, h⟩ := some_of h; obtain ⟨a1, h1, h⟩ := some_of h; obtain ⟨a2, h2, h⟩ := some_of h; obtain ⟨a3, h3, h⟩ := some_of h;
    obtain ⟨e, g⟩ := skN_of h
    subst e
    exact ⟨[(0, .ref a0), (1, .int a1), (2, .int a2), (3, .int a3)], cons_all (xr_of h0) (cons_all (xi_of h1) (cons_all (xi_of h2) (cons_all (xi_of h3) (nil_all)))), (E_X8_workAhead_4 fu n a0 a1 a2 a3 w).symm.trans g⟩
  · cases h
theorem H_X8_workAhead (fu : Nat) : ∀ as w o, U_X8_workAhead fu as w = some o → ∃ a r, as = .ref a :: r ∧ r.length = 1 ∧ isO w a 7 = true := by
  intro as w o h
  unfold U_X8_workAhead at h
  split at h
  next =>
    split at h
    next hh => exact ⟨_, _, rfl, rfl, hh⟩
    next => cases h
  next => cases h
set_option maxRecDepth 100000 in
set_option maxHeartbeats 4000000 in
theorem S_X8_workAhead (fu : Nat) {l : Launch} {D : va_G} {cA : Nat → ClassId} {base b : Nat} : CS l D cA base b 2 y_X8_workAhead prog_10_method_56_code 4 (some .int) (U_X8_workAhead fu) ∧ OM (U_X8_workAhead fu) := by
  refine CS_of (d := 1) (y := y_X8_workAhead) (cc := prog_10_method_56_code) (nL := 4) (ret := (some .int)) (F := U_X8_workAhead fu) (fl := fl_BrookStonesModel) (nl := []) (kl := kl_BrookStonesModel) (k2 := k2_BrookStonesModel) (mv := [(155, 3, 1, (U_X8_workOf fu))]) (ms := []) (mi := []) (ini := false) hI_w hZ_w fl_BrookStonesModel_ok nil_all kl_BrookStonesModel_ok k2_BrookStonesModel_ok
    (cons_all (⟨⟨show (1 : Nat) ≠ 3 by decide, y_X8_workOf, prog_10_method_24_code, 4, (some .int), 1, "BrookStones", 7, TX8, 37, 2, (S_X8_workOf fu (l := l) (D := D) (cA := cA) (base := base) (b := b)).1, by decide, by decide, rfl, H_X8_workOf fu, rfl, mi_X8_workOf.1, mi_X8_workOf.2.1, mi_X8_workOf.2.2.1, mi_X8_workOf.2.2.2.1, mi_X8_workOf.2.2.2.2, Or.inl (tblG_of (i := 931) rfl rfl)⟩, (S_X8_workOf fu (l := l) (D := D) (cA := cA) (base := base) (b := b)).2⟩) (nil_all))
    (nil_all)
    (nil_all)
    (T := T_X8_workAhead) (by decide +kernel) (cut := [4]) (N := 31) (D_X8_workAhead fu) (by decide +kernel) (fun h => absurd h (by decide)) (fun as w o h => ?_)
  unfold U_X8_workAhead at h
  split at h
  next =>
    split at h
    next => exact ⟨Nat.le_of_ble_eq_true rfl, fu, (E_X8_workAhead fu _ _ w).symm.trans h⟩
    next => cases h
  next => cases h
def T_X8_isPlan : List (Nat × Instr) := [(0, .iconst 0), (1, .istore 4), (3, .iload 4), (5, .aload_n 0), (6, .getfield 93), (9, .if_icmp .ge 40), (12, .aload_n 0), (13, .getfield 56), (16, .iload 4), (18, .aload_n 0), (19, .getfield 75), (22, .iload 4), (24, .iaload), (25, .bipush 6), (27, .if_icmp .ne 8), (30, .bipush (-9)), (32, .goto 10), (35, .aload_n 0), (36, .getfield 75), (39, .iload 4), (41, .iaload), (42, .iastore), (43, .iinc 4 1), (46, .goto (-43)), (49, .aload_n 0), (50, .aload_n 0), (51, .getfield 126), (54, .putfield 161), (57, .aload_n 0), (58, .iload_n 1), (59, .invokevirtual 188), (62, .ifCond .ne 5), (65, .iconst 0), (66, .ireturn), (67, .iload_n 3), (68, .ifCond .ne 5), (71, .iconst 1), (72, .ireturn), (73, .aload_n 0), (74, .iload_n 2), (75, .iload_n 3), (76, .invokevirtual 203), (79, .aload_n 0), (80, .iload_n 1), (81, .invokevirtual 188), (84, .ireturn)]
def op_X8_isPlan (fu : Nat) : Nat → Kont → XL → List Value → XW → Instr → Option XO := opK 5 (rzOf (some .boolean)) fl_BrookStonesModel [] kl_BrookStonesModel k2_BrookStonesModel [(188, 2, 1, (U_X8_comes fu)), (203, 3, 0, (U_X8_goFlood fu))] [] []
def F_X8_isPlan (fu : Nat) : Nat → (Nat → Int32 → Int32 → Int32 → Int32 → XW → Option XO)
  | 0 => fun _ _ _ _ _ _ => none
  | n + 1 => (fun a0 a1 a2 a3 a4 w =>
    (gI w a0 7 5).bind fun x1 =>
    (if a4 < x1 then
      (gR w a0 7 25).bind fun r9 =>
      (gR w a0 7 32).bind fun r10 =>
      (aI w r10 a4).bind fun x11 =>
      (if x11 = (6 : Int32) then
        (sI w r9 a4 (-9 : Int32)).bind fun w15 =>
        (F_X8_isPlan fu n) a0 a1 a2 a3 (a4 + (1 : Int32)) w15
      else
        (gR w a0 7 32).bind fun r12 =>
        (aI w r12 a4).bind fun x13 =>
        (sI w r9 a4 x13).bind fun w14 =>
        (F_X8_isPlan fu n) a0 a1 a2 a3 (a4 + (1 : Int32)) w14)
    else
      (gI w a0 7 7).bind fun x2 =>
      (pF w a0 7 26 (.int x2)).bind fun w3 =>
      cI (U_X8_comes fu [.ref a0, .int a1] w3) fun x5 w4 =>
      (if x5 = 0 then
        retZ (0 : Int32) w4
      else
        (if a3 = 0 then
          retZ (1 : Int32) w4
        else
          cV (U_X8_goFlood fu [.ref a0, .int a2, .int a3] w4) fun w6 =>
          cI (U_X8_comes fu [.ref a0, .int a1] w6) fun x8 w7 =>
          retZ x8 w7))))
def M_X8_isPlan (fu : Nat) (a0 : Nat) (a1 : Int32) (a2 : Int32) (a3 : Int32) (w : XW) : Option XO :=
  (F_X8_isPlan fu fu) a0 a1 a2 a3 (0 : Int32) w
def U_X8_isPlan (fu : Nat) : Orc := fun as w => match as with
  | [.ref a0, .int a1, .int a2, .int a3] => if isO w a0 7 = true then M_X8_isPlan fu a0 a1 a2 a3 w else none
  | _ => none
def K_X8_isPlan (fu : Nat) (n : Nat) : Kont := fun pc ls st w => bif pc == 3 then ((xr ls 0).bind fun a0 => (xi ls 1).bind fun a1 => (xi ls 2).bind fun a2 => (xi ls 3).bind fun a3 => (xi ls 4).bind fun a4 => skN st ((F_X8_isPlan fu n) a0 a1 a2 a3 a4 w)) else none
set_option maxRecDepth 100000 in
set_option maxHeartbeats 4000000 in
theorem E_X8_isPlan_3 (fu : Nat) (n : Nat) (a0 : Nat) (a1 : Int32) (a2 : Int32) (a3 : Int32) (a4 : Int32) (w : XW) : (F_X8_isPlan fu (n + 1)) a0 a1 a2 a3 a4 w = ev T_X8_isPlan (op_X8_isPlan fu) [3] (K_X8_isPlan fu n) 48 3 [(0, .ref a0), (1, .int a1), (2, .int a2), (3, .int a3), (4, .int a4)] [] w := by
  rfl
set_option maxRecDepth 100000 in
set_option maxHeartbeats 4000000 in
theorem E_X8_isPlan (fu : Nat) (a0 : Nat) (a1 : Int32) (a2 : Int32) (a3 : Int32) (w : XW) : M_X8_isPlan fu a0 a1 a2 a3 w = ev T_X8_isPlan (op_X8_isPlan fu) [3] (K_X8_isPlan fu fu) 48 0 (lv_args 0 [.ref a0, .int a1, .int a2, .int a3]) [] w := by
  rfl
theorem D_X8_isPlan (fu : Nat) : DS T_X8_isPlan (op_X8_isPlan fu) [3] 48 (K_X8_isPlan fu) := by
  refine ⟨fun pc ls st w => c_none (b_none fun _ => b_none fun _ => b_none fun _ => b_none fun _ => b_none fun _ => skN_none rfl) (rfl), fun n pc ls st w o h => ?_⟩
  rcases c_some h with ⟨rfl, h⟩ | h
  · obtain ⟨a0, h0, h⟩ := some_of h; obtain ⟨a1, h1, h⟩ := some_of h; obtain ⟨a2, h2, h⟩ := some_of h; obtain ⟨a3, h3, h⟩ := some_of h; obtain ⟨a4, h4, h⟩ := some_of h;
    obtain ⟨e, g⟩ := skN_of h
    subst e
    exact ⟨[(0, .ref a0), (1, .int a1), (2, .int a2), (3, .int a3), (4, .int a4)], cons_all (xr_of h0) (cons_all (xi_of h1) (cons_all (xi_of h2) (cons_all (xi_of h3) (cons_all (xi_of h4) (nil_all))))), (E_X8_isPlan_3 fu n a0 a1 a2 a3 a4 w).symm.trans g⟩
  · cases h
theorem H_X8_isPlan (fu : Nat) : ∀ as w o, U_X8_isPlan fu as w = some o → ∃ a r, as = .ref a :: r ∧ r.length = 3 ∧ isO w a 7 = true := by
  intro as w o h
  unfold U_X8_isPlan at h
  split at h
  next =>
    split at h
    next hh => exact ⟨_, _, rfl, rfl, hh⟩
    next => cases h
  next => cases h
set_option maxRecDepth 100000 in
set_option maxHeartbeats 4000000 in
theorem S_X8_isPlan (fu : Nat) {l : Launch} {D : va_G} {cA : Nat → ClassId} {base b : Nat} : CS l D cA base b 6 y_X8_isPlan prog_10_method_54_code 5 (some .boolean) (U_X8_isPlan fu) ∧ OM (U_X8_isPlan fu) := by
  refine CS_of (d := 5) (y := y_X8_isPlan) (cc := prog_10_method_54_code) (nL := 5) (ret := (some .boolean)) (F := U_X8_isPlan fu) (fl := fl_BrookStonesModel) (nl := []) (kl := kl_BrookStonesModel) (k2 := k2_BrookStonesModel) (mv := [(188, 2, 1, (U_X8_comes fu)), (203, 3, 0, (U_X8_goFlood fu))]) (ms := []) (mi := []) (ini := false) hI_w hZ_w fl_BrookStonesModel_ok nil_all kl_BrookStonesModel_ok k2_BrookStonesModel_ok
    (cons_all (⟨⟨show (1 : Nat) ≠ 3 by decide, y_X8_comes, prog_10_method_35_code, 2, (some .boolean), 5, "BrookStones", 7, TX8, 37, 1, (S_X8_comes fu (l := l) (D := D) (cA := cA) (base := base) (b := b)).1, by decide, by decide, rfl, H_X8_comes fu, rfl, mi_X8_comes.1, mi_X8_comes.2.1, mi_X8_comes.2.2.1, mi_X8_comes.2.2.2.1, mi_X8_comes.2.2.2.2, Or.inl (tblG_of (i := 959) rfl rfl)⟩, (S_X8_comes fu (l := l) (D := D) (cA := cA) (base := base) (b := b)).2⟩) (cons_all (⟨⟨show (0 : Nat) ≠ 3 by decide, y_X8_goFlood, prog_10_method_45_code, 6, (none), 2, "BrookStones", 7, TX8, 37, 2, (S_X8_goFlood fu (l := l) (D := D) (cA := cA) (base := base) (b := b)).1, by decide, by decide, rfl, H_X8_goFlood fu, rfl, mi_X8_goFlood.1, mi_X8_goFlood.2.1, mi_X8_goFlood.2.2.1, mi_X8_goFlood.2.2.2.1, mi_X8_goFlood.2.2.2.2, Or.inl (tblG_of (i := 1014) rfl rfl)⟩, (S_X8_goFlood fu (l := l) (D := D) (cA := cA) (base := base) (b := b)).2⟩) (nil_all)))
    (nil_all)
    (nil_all)
    (T := T_X8_isPlan) (by decide +kernel) (cut := [3]) (N := 48) (D_X8_isPlan fu) (by decide +kernel) (fun h => absurd h (by decide)) (fun as w o h => ?_)
  unfold U_X8_isPlan at h
  split at h
  next =>
    split at h
    next => exact ⟨Nat.le_of_ble_eq_true rfl, fu, (E_X8_isPlan fu _ _ _ _ w).symm.trans h⟩
    next => cases h
  next => cases h
def T_X8_offer : List (Nat × Instr) := [(0, .iconst 0), (1, .istore 4), (3, .iconst 0), (4, .istore 5), (6, .iconst 0), (7, .istore 6), (9, .iload 6), (11, .aload_n 0), (12, .getfield 93), (15, .if_icmp .ge 42), (18, .aload_n 0), (19, .getfield 75), (22, .iload 6), (24, .iaload), (25, .bipush 6), (27, .if_icmp .ge 24), (30, .iload 4), (32, .aload_n 0), (33, .aload_n 0), (34, .getfield 75), (37, .iload 6), (39, .iaload), (40, .iload 6), (42, .invokevirtual 155), (45, .iadd), (46, .istore 4), (48, .iinc 5 1), (51, .iinc 6 1), (54, .goto (-45)), (57, .iload 4), (59, .aload_n 0), (60, .getfield 213), (63, .if_icmp .lt 21), (66, .iload 4), (68, .aload_n 0), (69, .getfield 213), (72, .if_icmp .ne 16), (75, .iload 5), (77, .aload_n 0), (78, .getfield 216), (81, .if_icmp .ge 7), (84, .iconst 1), (85, .goto 4), (88, .iconst 0), (89, .istore 6), (91, .iload 6), (93, .ifCond .eq 57), (96, .aload_n 0), (97, .iload_n 1), (98, .iload_n 2), (99, .iload_n 3), (100, .invokevirtual 219), (103, .ifCond .eq 47), (106, .aload_n 0), (107, .iload 4), (109, .putfield 213), (112, .aload_n 0), (113, .iload 5), (115, .putfield 216), (118, .iconst 0), (119, .istore 7), (121, .iload 7), (123, .aload_n 0), (124, .getfield 93), (127, .if_icmp .ge 23), (130, .aload_n 0), (131, .getfield 78), (134, .iload 7), (136, .aload_n 0), (137, .getfield 75), (140, .iload 7), (142, .iaload), (143, .iastore), (144, .iinc 7 1), (147, .goto (-26)), (150, .return_)]
def op_X8_offer (fu : Nat) : Nat → Kont → XL → List Value → XW → Instr → Option XO := opK 8 (rzOf (none)) fl_BrookStonesModel [] kl_BrookStonesModel k2_BrookStonesModel [(155, 3, 1, (U_X8_workOf fu)), (219, 4, 1, (U_X8_isPlan fu))] [] []
def F_X8_offer (fu : Nat) : Nat → (Nat → Int32 → Int32 → Int32 → Int32 → Int32 → Int32 → XW → Option XO) × (Nat → Int32 → Int32 → Int32 → Int32 → Int32 → Int32 → XW → Option XO) × (Nat → Int32 → XW → Option XO)
  | 0 => (fun _ _ _ _ _ _ _ _ => none, fun _ _ _ _ _ _ _ _ => none, fun _ _ _ => none)
  | n + 1 => ((fun a0 a1 a2 a3 a4 a5 a6 w =>
    (gI w a0 7 5).bind fun x1 =>
    (if a6 < x1 then
      (gR w a0 7 32).bind fun r5 =>
      (aI w r5 a6).bind fun x6 =>
      (if x6 < (6 : Int32) then
        (gR w a0 7 32).bind fun r7 =>
        (aI w r7 a6).bind fun x8 =>
        cI (U_X8_workOf fu [.ref a0, .int x8, .int a6] w) fun x10 w9 =>
        (F_X8_offer fu n).1 a0 a1 a2 a3 (a4 + x10) (a5 + (1 : Int32)) (a6 + (1 : Int32)) w9
      else
        (F_X8_offer fu n).1 a0 a1 a2 a3 a4 a5 (a6 + (1 : Int32)) w)
    else
      (gI w a0 7 34).bind fun x2 =>
      (if a4 < x2 then
        (F_X8_offer fu n).2.1 a0 a1 a2 a3 a4 a5 (1 : Int32) w
      else
        (gI w a0 7 34).bind fun x3 =>
        (if a4 = x3 then
          (gI w a0 7 35).bind fun x4 =>
          (if a5 < x4 then
            (F_X8_offer fu n).2.1 a0 a1 a2 a3 a4 a5 (1 : Int32) w
          else
            (F_X8_offer fu n).2.1 a0 a1 a2 a3 a4 a5 (0 : Int32) w)
        else
          (F_X8_offer fu n).2.1 a0 a1 a2 a3 a4 a5 (0 : Int32) w)))),
   (fun a0 a1 a2 a3 a4 a5 s0 w =>
    (if s0 = 0 then
      some (none, w)
    else
      cI (U_X8_isPlan fu [.ref a0, .int a1, .int a2, .int a3] w) fun x12 w11 =>
      (if x12 = 0 then
        some (none, w11)
      else
        (pF w11 a0 7 34 (.int a4)).bind fun w13 =>
        (pF w13 a0 7 35 (.int a5)).bind fun w14 =>
        (F_X8_offer fu n).2.2 a0 (0 : Int32) w14))),
   (fun a0 a7 w =>
    (gI w a0 7 5).bind fun x15 =>
    (if a7 < x15 then
      (gR w a0 7 33).bind fun r16 =>
      (gR w a0 7 32).bind fun r17 =>
      (aI w r17 a7).bind fun x18 =>
      (sI w r16 a7 x18).bind fun w19 =>
      (F_X8_offer fu n).2.2 a0 (a7 + (1 : Int32)) w19
    else
      some (none, w))))
def M_X8_offer (fu : Nat) (a0 : Nat) (a1 : Int32) (a2 : Int32) (a3 : Int32) (w : XW) : Option XO :=
  (F_X8_offer fu fu).1 a0 a1 a2 a3 (0 : Int32) (0 : Int32) (0 : Int32) w
def U_X8_offer (fu : Nat) : Orc := fun as w => match as with
  | [.ref a0, .int a1, .int a2, .int a3] => if isO w a0 7 = true then M_X8_offer fu a0 a1 a2 a3 w else none
  | _ => none
def K_X8_offer (fu : Nat) (n : Nat) : Kont := fun pc ls st w => bif pc == 9 then ((xr ls 0).bind fun a0 => (xi ls 1).bind fun a1 => (xi ls 2).bind fun a2 => (xi ls 3).bind fun a3 => (xi ls 4).bind fun a4 => (xi ls 5).bind fun a5 => (xi ls 6).bind fun a6 => skN st ((F_X8_offer fu n).1 a0 a1 a2 a3 a4 a5 a6 w)) else bif pc == 89 then ((xr ls 0).bind fun a0 => (xi ls 1).bind fun a1 => (xi ls 2).bind fun a2 => (xi ls 3).bind fun a3 => (xi ls 4).bind fun a4 => (xi ls 5).bind fun a5 => skI st fun s0 st => skN st ((F_X8_offer fu n).2.1 a0 a1 a2 a3 a4 a5 s0 w)) else bif pc == 121 then ((xr ls 0).bind fun a0 => (xi ls 7).bind fun a7 => skN st ((F_X8_offer fu n).2.2 a0 a7 w)) else none
set_option maxRecDepth 100000 in
set_option maxHeartbeats 4000000 in
theorem E_X8_offer_9 (fu : Nat) (n : Nat) (a0 : Nat) (a1 : Int32) (a2 : Int32) (a3 : Int32) (a4 : Int32) (a5 : Int32) (a6 : Int32) (w : XW) : (F_X8_offer fu (n + 1)).1 a0 a1 a2 a3 a4 a5 a6 w = ev T_X8_offer (op_X8_offer fu) [9, 89, 121] (K_X8_offer fu n) 78 9 [(0, .ref a0), (1, .int a1), (2, .int a2), (3, .int a3), (4, .int a4), (5, .int a5), (6, .int a6)] [] w := by
  rfl
set_option maxRecDepth 100000 in
set_option maxHeartbeats 4000000 in
theorem E_X8_offer_89 (fu : Nat) (n : Nat) (a0 : Nat) (a1 : Int32) (a2 : Int32) (a3 : Int32) (a4 : Int32) (a5 : Int32) (s0 : Int32) (w : XW) : (F_X8_offer fu (n + 1)).2.1 a0 a1 a2 a3 a4 a5 s0 w = ev T_X8_offer (op_X8_offer fu) [9, 89, 121] (K_X8_offer fu n) 78 89 [(0, .ref a0), (1, .int a1), (2, .int a2), (3, .int a3), (4, .int a4), (5, .int a5)] [.int s0] w := by
  rfl
set_option maxRecDepth 100000 in
set_option maxHeartbeats 4000000 in
theorem E_X8_offer_121 (fu : Nat) (n : Nat) (a0 : Nat) (a7 : Int32) (w : XW) : (F_X8_offer fu (n + 1)).2.2 a0 a7 w = ev T_X8_offer (op_X8_offer fu) [9, 89, 121] (K_X8_offer fu n) 78 121 [(0, .ref a0), (7, .int a7)] [] w := by
  rfl
set_option maxRecDepth 100000 in
set_option maxHeartbeats 4000000 in
theorem E_X8_offer (fu : Nat) (a0 : Nat) (a1 : Int32) (a2 : Int32) (a3 : Int32) (w : XW) : M_X8_offer fu a0 a1 a2 a3 w = ev T_X8_offer (op_X8_offer fu) [9, 89, 121] (K_X8_offer fu fu) 78 0 (lv_args 0 [.ref a0, .int a1, .int a2, .int a3]) [] w := by
  rfl
theorem D_X8_offer (fu : Nat) : DS T_X8_offer (op_X8_offer fu) [9, 89, 121] 78 (K_X8_offer fu) := by
  refine ⟨fun pc ls st w => c_none (b_none fun _ => b_none fun _ => b_none fun _ => b_none fun _ => b_none fun _ => b_none fun _ => b_none fun _ => skN_none rfl) (c_none (b_none fun _ => b_none fun _ => b_none fun _ => b_none fun _ => b_none fun _ => b_none fun _ => skI_none fun _ _ => skN_none rfl) (c_none (b_none fun _ => b_none fun _ => skN_none rfl) (rfl))), fun n pc ls st w o h => ?_⟩
  rcases c_some h with ⟨rfl, h⟩ | h
  · obtain ⟨a0, h0, h⟩ := some_of h; obtain ⟨a1, h1, h⟩ := some_of h; obtain ⟨a2, h2, h⟩ := some_of h; obtain ⟨a3, h3, h⟩ := some_of h; obtain ⟨a4, h4, h⟩ := some_of h; obtain ⟨a5, h5, h⟩ := some_of h; obtain ⟨a6, h6, h⟩ := some_of h;
    obtain ⟨e, g⟩ := skN_of h
    subst e
    exact ⟨[(0, .ref a0), (1, .int a1), (2, .int a2), (3, .int a3), (4, .int a4), (5, .int a5), (6, .int a6)], cons_all (xr_of h0) (cons_all (xi_of h1) (cons_all (xi_of h2) (cons_all (xi_of h3) (cons_all (xi_of h4) (cons_all (xi_of h5) (cons_all (xi_of h6) (nil_all))))))), (E_X8_offer_9 fu n a0 a1 a2 a3 a4 a5 a6 w).symm.trans g⟩
  rcases c_some h with ⟨rfl, h⟩ | h
  · obtain ⟨a0, h0, h⟩ := some_of h; obtain ⟨a1, h1, h⟩ := some_of h; obtain ⟨a2, h2, h⟩ := some_of h; obtain ⟨a3, h3, h⟩ := some_of h; obtain ⟨a4, h4, h⟩ := some_of h; obtain ⟨a5, h5, h⟩ := some_of h;
    obtain ⟨s0, st0, e0, g0⟩ := skI_of h
    obtain ⟨e, g⟩ := skN_of g0
    subst e
    subst e0
    exact ⟨[(0, .ref a0), (1, .int a1), (2, .int a2), (3, .int a3), (4, .int a4), (5, .int a5)], cons_all (xr_of h0) (cons_all (xi_of h1) (cons_all (xi_of h2) (cons_all (xi_of h3) (cons_all (xi_of h4) (cons_all (xi_of h5) (nil_all)))))), (E_X8_offer_89 fu n a0 a1 a2 a3 a4 a5 s0 w).symm.trans g⟩
  rcases c_some h with ⟨rfl, h⟩ | h
  · obtain ⟨a0, h0, h⟩ := some_of h; obtain ⟨a7, h7, h⟩ := some_of h;
    obtain ⟨e, g⟩ := skN_of h
    subst e
    exact ⟨[(0, .ref a0), (7, .int a7)], cons_all (xr_of h0) (cons_all (xi_of h7) (nil_all)), (E_X8_offer_121 fu n a0 a7 w).symm.trans g⟩
  · cases h
theorem H_X8_offer (fu : Nat) : ∀ as w o, U_X8_offer fu as w = some o → ∃ a r, as = .ref a :: r ∧ r.length = 3 ∧ isO w a 7 = true := by
  intro as w o h
  unfold U_X8_offer at h
  split at h
  next =>
    split at h
    next hh => exact ⟨_, _, rfl, rfl, hh⟩
    next => cases h
  next => cases h
set_option maxRecDepth 100000 in
set_option maxHeartbeats 4000000 in
theorem S_X8_offer (fu : Nat) {l : Launch} {D : va_G} {cA : Nat → ClassId} {base b : Nat} : CS l D cA base b 7 y_X8_offer prog_10_method_55_code 8 (none) (U_X8_offer fu) ∧ OM (U_X8_offer fu) := by
  refine CS_of (d := 6) (y := y_X8_offer) (cc := prog_10_method_55_code) (nL := 8) (ret := (none)) (F := U_X8_offer fu) (fl := fl_BrookStonesModel) (nl := []) (kl := kl_BrookStonesModel) (k2 := k2_BrookStonesModel) (mv := [(155, 3, 1, (U_X8_workOf fu)), (219, 4, 1, (U_X8_isPlan fu))]) (ms := []) (mi := []) (ini := false) hI_w hZ_w fl_BrookStonesModel_ok nil_all kl_BrookStonesModel_ok k2_BrookStonesModel_ok
    (cons_all (⟨⟨show (1 : Nat) ≠ 3 by decide, y_X8_workOf, prog_10_method_24_code, 4, (some .int), 1, "BrookStones", 7, TX8, 37, 2, (S_X8_workOf fu (l := l) (D := D) (cA := cA) (base := base) (b := b)).1, by decide, by decide, rfl, H_X8_workOf fu, rfl, mi_X8_workOf.1, mi_X8_workOf.2.1, mi_X8_workOf.2.2.1, mi_X8_workOf.2.2.2.1, mi_X8_workOf.2.2.2.2, Or.inl (tblG_of (i := 931) rfl rfl)⟩, (S_X8_workOf fu (l := l) (D := D) (cA := cA) (base := base) (b := b)).2⟩) (cons_all (⟨⟨show (1 : Nat) ≠ 3 by decide, y_X8_isPlan, prog_10_method_54_code, 5, (some .boolean), 6, "BrookStones", 7, TX8, 37, 3, (S_X8_isPlan fu (l := l) (D := D) (cA := cA) (base := base) (b := b)).1, by decide, by decide, rfl, H_X8_isPlan fu, rfl, mi_X8_isPlan.1, mi_X8_isPlan.2.1, mi_X8_isPlan.2.2.1, mi_X8_isPlan.2.2.2.1, mi_X8_isPlan.2.2.2.2, Or.inl (tblG_of (i := 1065) rfl rfl)⟩, (S_X8_isPlan fu (l := l) (D := D) (cA := cA) (base := base) (b := b)).2⟩) (nil_all)))
    (nil_all)
    (nil_all)
    (T := T_X8_offer) (by decide +kernel) (cut := [9, 89, 121]) (N := 78) (D_X8_offer fu) (by decide +kernel) (fun h => absurd h (by decide)) (fun as w o h => ?_)
  unfold U_X8_offer at h
  split at h
  next =>
    split at h
    next => exact ⟨Nat.le_of_ble_eq_true rfl, fu, (E_X8_offer fu _ _ _ _ w).symm.trans h⟩
    next => cases h
  next => cases h
def T_X8_findPlan : List (Nat × Instr) := [(0, .aload_n 0), (1, .ldc 170), (3, .putfield 213), (6, .aload_n 0), (7, .ldc 170), (9, .putfield 216), (12, .iconst 0), (13, .istore 4), (15, .aload_n 0), (16, .getfield 75), (19, .iconst 0), (20, .iconst (-1)), (21, .iastore), (22, .iload 4), (24, .ifCond .lt 124), (27, .aload_n 0), (28, .getfield 75), (31, .iload 4), (33, .dup2), (34, .iaload), (35, .iconst 1), (36, .iadd), (37, .iastore), (38, .aload_n 0), (39, .getfield 75), (42, .iload 4), (44, .iaload), (45, .bipush 6), (47, .if_icmp .ge 33), (50, .aload_n 0), (51, .aload_n 0), (52, .getfield 75), (55, .iload 4), (57, .iaload), (58, .iload 4), (60, .invokevirtual 222), (63, .ifCond .ne 17), (66, .aload_n 0), (67, .getfield 75), (70, .iload 4), (72, .dup2), (73, .iaload), (74, .iconst 1), (75, .iadd), (76, .iastore), (77, .goto (-39)), (80, .aload_n 0), (81, .getfield 75), (84, .iload 4), (86, .iaload), (87, .bipush 6), (89, .if_icmp .le 9), (92, .iinc 4 (-1)), (95, .goto (-73)), (98, .aload_n 0), (99, .iload 4), (101, .iconst 1), (102, .iadd), (103, .invokevirtual 225), (106, .aload_n 0), (107, .getfield 213), (110, .if_icmp .gt (-88)), (113, .iload 4), (115, .aload_n 0), (116, .getfield 93), (119, .iconst 1), (120, .isub), (121, .if_icmp .ne 13), (124, .aload_n 0), (125, .iload_n 1), (126, .iload_n 2), (127, .iload_n 3), (128, .invokevirtual 228), (131, .goto (-109)), (134, .iinc 4 1), (137, .aload_n 0), (138, .getfield 75), (141, .iload 4), (143, .iconst (-1)), (144, .iastore), (145, .goto (-123)), (148, .return_)]
def op_X8_findPlan (fu : Nat) : Nat → Kont → XL → List Value → XW → Instr → Option XO := opK 5 (rzOf (none)) fl_BrookStonesModel [] kl_BrookStonesModel k2_BrookStonesModel [(222, 3, 1, (U_X8_isFree fu)), (225, 2, 1, (U_X8_workAhead fu)), (228, 4, 0, (U_X8_offer fu))] [] []
def F_X8_findPlan (fu : Nat) : Nat → (Nat → Int32 → Int32 → Int32 → Int32 → XW → Option XO) × (Nat → Int32 → Int32 → Int32 → Int32 → XW → Option XO) × (Nat → Int32 → Int32 → Int32 → Int32 → XW → Option XO)
  | 0 => (fun _ _ _ _ _ _ => none, fun _ _ _ _ _ _ => none, fun _ _ _ _ _ _ => none)
  | n + 1 => ((fun a0 a1 a2 a3 a4 w =>
    (if a4 < 0 then
      some (none, w)
    else
      (gR w a0 7 32).bind fun r1 =>
      (aI w r1 a4).bind fun x2 =>
      (sI w r1 a4 (x2 + (1 : Int32))).bind fun w3 =>
      (F_X8_findPlan fu n).2.1 a0 a1 a2 a3 a4 w3)),
   (fun a0 a1 a2 a3 a4 w =>
    (gR w a0 7 32).bind fun r4 =>
    (aI w r4 a4).bind fun x5 =>
    (if x5 < (6 : Int32) then
      (gR w a0 7 32).bind fun r6 =>
      (aI w r6 a4).bind fun x7 =>
      cI (U_X8_isFree fu [.ref a0, .int x7, .int a4] w) fun x9 w8 =>
      (if x9 = 0 then
        (gR w8 a0 7 32).bind fun r10 =>
        (aI w8 r10 a4).bind fun x11 =>
        (sI w8 r10 a4 (x11 + (1 : Int32))).bind fun w12 =>
        (F_X8_findPlan fu n).2.1 a0 a1 a2 a3 a4 w12
      else
        (F_X8_findPlan fu n).2.2 a0 a1 a2 a3 a4 w8)
    else
      (F_X8_findPlan fu n).2.2 a0 a1 a2 a3 a4 w)),
   (fun a0 a1 a2 a3 a4 w =>
    (gR w a0 7 32).bind fun r13 =>
    (aI w r13 a4).bind fun x14 =>
    (if (6 : Int32) < x14 then
      (F_X8_findPlan fu n).1 a0 a1 a2 a3 (a4 + (-1 : Int32)) w
    else
      cI (U_X8_workAhead fu [.ref a0, .int (a4 + (1 : Int32))] w) fun x16 w15 =>
      (gI w15 a0 7 34).bind fun x17 =>
      (if x17 < x16 then
        (F_X8_findPlan fu n).1 a0 a1 a2 a3 a4 w15
      else
        (gI w15 a0 7 5).bind fun x18 =>
        (if a4 = (x18 - (1 : Int32)) then
          cV (U_X8_offer fu [.ref a0, .int a1, .int a2, .int a3] w15) fun w21 =>
          (F_X8_findPlan fu n).1 a0 a1 a2 a3 a4 w21
        else
          (gR w15 a0 7 32).bind fun r19 =>
          (sI w15 r19 (a4 + (1 : Int32)) (-1 : Int32)).bind fun w20 =>
          (F_X8_findPlan fu n).1 a0 a1 a2 a3 (a4 + (1 : Int32)) w20)))))
def M_X8_findPlan (fu : Nat) (a0 : Nat) (a1 : Int32) (a2 : Int32) (a3 : Int32) (w : XW) : Option XO :=
  (pF w a0 7 34 (.int (1000000 : Int32))).bind fun w22 =>
  (pF w22 a0 7 35 (.int (1000000 : Int32))).bind fun w23 =>
  (gR w23 a0 7 32).bind fun r24 =>
  (sI w23 r24 (0 : Int32) (-1 : Int32)).bind fun w25 =>
  (F_X8_findPlan fu fu).1 a0 a1 a2 a3 (0 : Int32) w25
def U_X8_findPlan (fu : Nat) : Orc := fun as w => match as with
  | [.ref a0, .int a1, .int a2, .int a3] => if isO w a0 7 = true then M_X8_findPlan fu a0 a1 a2 a3 w else none
  | _ => none
def K_X8_findPlan (fu : Nat) (n : Nat) : Kont := fun pc ls st w => bif pc == 22 then ((xr ls 0).bind fun a0 => (xi ls 1).bind fun a1 => (xi ls 2).bind fun a2 => (xi ls 3).bind fun a3 => (xi ls 4).bind fun a4 => skN st ((F_X8_findPlan fu n).1 a0 a1 a2 a3 a4 w)) else bif pc == 38 then ((xr ls 0).bind fun a0 => (xi ls 1).bind fun a1 => (xi ls 2).bind fun a2 => (xi ls 3).bind fun a3 => (xi ls 4).bind fun a4 => skN st ((F_X8_findPlan fu n).2.1 a0 a1 a2 a3 a4 w)) else bif pc == 80 then ((xr ls 0).bind fun a0 => (xi ls 1).bind fun a1 => (xi ls 2).bind fun a2 => (xi ls 3).bind fun a3 => (xi ls 4).bind fun a4 => skN st ((F_X8_findPlan fu n).2.2 a0 a1 a2 a3 a4 w)) else none
set_option maxRecDepth 100000 in
set_option maxHeartbeats 4000000 in
theorem E_X8_findPlan_22 (fu : Nat) (n : Nat) (a0 : Nat) (a1 : Int32) (a2 : Int32) (a3 : Int32) (a4 : Int32) (w : XW) : (F_X8_findPlan fu (n + 1)).1 a0 a1 a2 a3 a4 w = ev T_X8_findPlan (op_X8_findPlan fu) [22, 38, 80] (K_X8_findPlan fu n) 84 22 [(0, .ref a0), (1, .int a1), (2, .int a2), (3, .int a3), (4, .int a4)] [] w := by
  rfl
set_option maxRecDepth 100000 in
set_option maxHeartbeats 4000000 in
theorem E_X8_findPlan_38 (fu : Nat) (n : Nat) (a0 : Nat) (a1 : Int32) (a2 : Int32) (a3 : Int32) (a4 : Int32) (w : XW) : (F_X8_findPlan fu (n + 1)).2.1 a0 a1 a2 a3 a4 w = ev T_X8_findPlan (op_X8_findPlan fu) [22, 38, 80] (K_X8_findPlan fu n) 84 38 [(0, .ref a0), (1, .int a1), (2, .int a2), (3, .int a3), (4, .int a4)] [] w := by
  rfl
set_option maxRecDepth 100000 in
set_option maxHeartbeats 4000000 in
theorem E_X8_findPlan_80 (fu : Nat) (n : Nat) (a0 : Nat) (a1 : Int32) (a2 : Int32) (a3 : Int32) (a4 : Int32) (w : XW) : (F_X8_findPlan fu (n + 1)).2.2 a0 a1 a2 a3 a4 w = ev T_X8_findPlan (op_X8_findPlan fu) [22, 38, 80] (K_X8_findPlan fu n) 84 80 [(0, .ref a0), (1, .int a1), (2, .int a2), (3, .int a3), (4, .int a4)] [] w := by
  rfl
set_option maxRecDepth 100000 in
set_option maxHeartbeats 4000000 in
theorem E_X8_findPlan (fu : Nat) (a0 : Nat) (a1 : Int32) (a2 : Int32) (a3 : Int32) (w : XW) : M_X8_findPlan fu a0 a1 a2 a3 w = ev T_X8_findPlan (op_X8_findPlan fu) [22, 38, 80] (K_X8_findPlan fu fu) 84 0 (lv_args 0 [.ref a0, .int a1, .int a2, .int a3]) [] w := by
  rfl
theorem D_X8_findPlan (fu : Nat) : DS T_X8_findPlan (op_X8_findPlan fu) [22, 38, 80] 84 (K_X8_findPlan fu) := by
  refine ⟨fun pc ls st w => c_none (b_none fun _ => b_none fun _ => b_none fun _ => b_none fun _ => b_none fun _ => skN_none rfl) (c_none (b_none fun _ => b_none fun _ => b_none fun _ => b_none fun _ => b_none fun _ => skN_none rfl) (c_none (b_none fun _ => b_none fun _ => b_none fun _ => b_none fun _ => b_none fun _ => skN_none rfl) (rfl))), fun n pc ls st w o h => ?_⟩
  rcases c_some h with ⟨rfl, h⟩ | h
  · obtain ⟨a0, h0, h⟩ := some_of h; obtain ⟨a1, h1, h⟩ := some_of h; obtain ⟨a2, h2, h⟩ := some_of h; obtain ⟨a3, h3, h⟩ := some_of h; obtain ⟨a4, h4, h⟩ := some_of h;
    obtain ⟨e, g⟩ := skN_of h
    subst e
    exact ⟨[(0, .ref a0), (1, .int a1), (2, .int a2), (3, .int a3), (4, .int a4)], cons_all (xr_of h0) (cons_all (xi_of h1) (cons_all (xi_of h2) (cons_all (xi_of h3) (cons_all (xi_of h4) (nil_all))))), (E_X8_findPlan_22 fu n a0 a1 a2 a3 a4 w).symm.trans g⟩
  rcases c_some h with ⟨rfl, h⟩ | h
  · obtain ⟨a0, h0, h⟩ := some_of h; obtain ⟨a1, h1, h⟩ := some_of h; obtain ⟨a2, h2, h⟩ := some_of h; obtain ⟨a3, h3, h⟩ := some_of h; obtain ⟨a4, h4, h⟩ := some_of h;
    obtain ⟨e, g⟩ := skN_of h
    subst e
    exact ⟨[(0, .ref a0), (1, .int a1), (2, .int a2), (3, .int a3), (4, .int a4)], cons_all (xr_of h0) (cons_all (xi_of h1) (cons_all (xi_of h2) (cons_all (xi_of h3) (cons_all (xi_of h4) (nil_all))))), (E_X8_findPlan_38 fu n a0 a1 a2 a3 a4 w).symm.trans g⟩
  rcases c_some h with ⟨rfl, h⟩ | h
  · obtain ⟨a0, h0, h⟩ := some_of h; obtain ⟨a1, h1, h⟩ := some_of h; obtain ⟨a2, h2, h⟩ := some_of h; obtain ⟨a3, h3, h⟩ := some_of h; obtain ⟨a4, h4, h⟩ := some_of h;
    obtain ⟨e, g⟩ := skN_of h
    subst e
    exact ⟨[(0, .ref a0), (1, .int a1), (2, .int a2), (3, .int a3), (4, .int a4)], cons_all (xr_of h0) (cons_all (xi_of h1) (cons_all (xi_of h2) (cons_all (xi_of h3) (cons_all (xi_of h4) (nil_all))))), (E_X8_findPlan_80 fu n a0 a1 a2 a3 a4 w).symm.trans g⟩
  · cases h
theorem H_X8_findPlan (fu : Nat) : ∀ as w o, U_X8_findPlan fu as w = some o → ∃ a r, as = .ref a :: r ∧ r.length = 3 ∧ isO w a 7 = true := by
  intro as w o h
  unfold U_X8_findPlan at h
  split at h
  next =>
    split at h
    next hh => exact ⟨_, _, rfl, rfl, hh⟩
    next => cases h
  next => cases h
set_option maxRecDepth 100000 in
set_option maxHeartbeats 4000000 in
theorem S_X8_findPlan (fu : Nat) {l : Launch} {D : va_G} {cA : Nat → ClassId} {base b : Nat} : CS l D cA base b 8 y_X8_findPlan prog_10_method_57_code 5 (none) (U_X8_findPlan fu) ∧ OM (U_X8_findPlan fu) := by
  refine CS_of (d := 7) (y := y_X8_findPlan) (cc := prog_10_method_57_code) (nL := 5) (ret := (none)) (F := U_X8_findPlan fu) (fl := fl_BrookStonesModel) (nl := []) (kl := kl_BrookStonesModel) (k2 := k2_BrookStonesModel) (mv := [(222, 3, 1, (U_X8_isFree fu)), (225, 2, 1, (U_X8_workAhead fu)), (228, 4, 0, (U_X8_offer fu))]) (ms := []) (mi := []) (ini := false) hI_w hZ_w fl_BrookStonesModel_ok nil_all kl_BrookStonesModel_ok k2_BrookStonesModel_ok
    (cons_all (⟨⟨show (1 : Nat) ≠ 3 by decide, y_X8_isFree, prog_10_method_53_code, 4, (some .boolean), 1, "BrookStones", 7, TX8, 37, 2, (S_X8_isFree fu (l := l) (D := D) (cA := cA) (base := base) (b := b)).1, by decide, by decide, rfl, H_X8_isFree fu, rfl, mi_X8_isFree.1, mi_X8_isFree.2.1, mi_X8_isFree.2.2.1, mi_X8_isFree.2.2.2.1, mi_X8_isFree.2.2.2.2, Or.inl (tblG_of (i := 1053) rfl rfl)⟩, (S_X8_isFree fu (l := l) (D := D) (cA := cA) (base := base) (b := b)).2⟩) (cons_all (⟨⟨show (1 : Nat) ≠ 3 by decide, y_X8_workAhead, prog_10_method_56_code, 4, (some .int), 2, "BrookStones", 7, TX8, 37, 1, (S_X8_workAhead fu (l := l) (D := D) (cA := cA) (base := base) (b := b)).1, by decide, by decide, rfl, H_X8_workAhead fu, rfl, mi_X8_workAhead.1, mi_X8_workAhead.2.1, mi_X8_workAhead.2.2.1, mi_X8_workAhead.2.2.2.1, mi_X8_workAhead.2.2.2.2, Or.inl (tblG_of (i := 1057) rfl rfl)⟩, (S_X8_workAhead fu (l := l) (D := D) (cA := cA) (base := base) (b := b)).2⟩) (cons_all (⟨⟨show (0 : Nat) ≠ 3 by decide, y_X8_offer, prog_10_method_55_code, 8, (none), 7, "BrookStones", 7, TX8, 37, 3, (S_X8_offer fu (l := l) (D := D) (cA := cA) (base := base) (b := b)).1, by decide, by decide, rfl, H_X8_offer fu, rfl, mi_X8_offer.1, mi_X8_offer.2.1, mi_X8_offer.2.2.1, mi_X8_offer.2.2.2.1, mi_X8_offer.2.2.2.2, Or.inl (tblG_of (i := 1061) rfl rfl)⟩, (S_X8_offer fu (l := l) (D := D) (cA := cA) (base := base) (b := b)).2⟩) (nil_all))))
    (nil_all)
    (nil_all)
    (T := T_X8_findPlan) (by decide +kernel) (cut := [22, 38, 80]) (N := 84) (D_X8_findPlan fu) (by decide +kernel) (fun h => absurd h (by decide)) (fun as w o h => ?_)
  unfold U_X8_findPlan at h
  split at h
  next =>
    split at h
    next => exact ⟨Nat.le_of_ble_eq_true rfl, fu, (E_X8_findPlan fu _ _ _ _ w).symm.trans h⟩
    next => cases h
  next => cases h
def T_X8_plan : List (Nat × Instr) := [(0, .iload_n 1), (1, .iconst 1), (2, .bipush 9), (4, .invokestatic 89), (7, .ifCond .eq 11), (10, .iload_n 2), (11, .iload_n 3), (12, .invokestatic 200), (15, .ifCond .ne 6), (18, .bipush (-2)), (20, .ireturn), (21, .iload 4), (23, .bipush (-2)), (25, .aload_n 0), (26, .getfield 93), (29, .iconst 1), (30, .isub), (31, .invokestatic 89), (34, .ifCond .ne 5), (37, .iconst (-1)), (38, .ireturn), (39, .aload_n 0), (40, .getfield 93), (43, .ifCond .ne 6), (46, .bipush (-3)), (48, .ireturn), (49, .aload_n 0), (50, .iload_n 1), (51, .iload_n 2), (52, .iload_n 3), (53, .invokevirtual 232), (56, .aload_n 0), (57, .getfield 213), (60, .ldc 170), (62, .if_icmp .ne 6), (65, .bipush (-9)), (67, .ireturn), (68, .iload 4), (70, .ifCond .ge 21), (73, .iload 4), (75, .iconst (-1)), (76, .if_icmp .ne 10), (79, .aload_n 0), (80, .getfield 213), (83, .goto 7), (86, .aload_n 0), (87, .getfield 216), (90, .ireturn), (91, .aload_n 0), (92, .getfield 78), (95, .iload 4), (97, .iaload), (98, .bipush 6), (100, .if_icmp .ne 8), (103, .bipush (-9)), (105, .goto 10), (108, .aload_n 0), (109, .getfield 78), (112, .iload 4), (114, .iaload), (115, .ireturn)]
def op_X8_plan (fu : Nat) : Nat → Kont → XL → List Value → XW → Instr → Option XO := opK 5 (rzOf (some .int)) fl_BrookStonesModel [] kl_BrookStonesModel k2_BrookStonesModel [(232, 4, 0, (U_X8_findPlan fu))] [(89, 3, 1, (U_X8_within fu)), (200, 2, 1, (U_X8_isFlood fu))] []
def M_X8_plan (fu : Nat) (a0 : Nat) (a1 : Int32) (a2 : Int32) (a3 : Int32) (a4 : Int32) (w : XW) : Option XO :=
  cI (U_X8_within fu [.int a1, .int (1 : Int32), .int (9 : Int32)] w) fun x2 w1 =>
  (if x2 = 0 then
    some (some (.int (-2 : Int32)), w1)
  else
    cI (U_X8_isFlood fu [.int a2, .int a3] w1) fun x4 w3 =>
    (if x4 = 0 then
      some (some (.int (-2 : Int32)), w3)
    else
      (gI w3 a0 7 5).bind fun x5 =>
      cI (U_X8_within fu [.int a4, .int (-2 : Int32), .int (x5 - (1 : Int32))] w3) fun x7 w6 =>
      (if x7 = 0 then
        some (some (.int (-1 : Int32)), w6)
      else
        (gI w6 a0 7 5).bind fun x8 =>
        (if x8 = 0 then
          some (some (.int (-3 : Int32)), w6)
        else
          cV (U_X8_findPlan fu [.ref a0, .int a1, .int a2, .int a3] w6) fun w9 =>
          (gI w9 a0 7 34).bind fun x10 =>
          (if x10 = (1000000 : Int32) then
            some (some (.int (-9 : Int32)), w9)
          else
            (if a4 < 0 then
              (if a4 = (-1 : Int32) then
                (gI w9 a0 7 34).bind fun x16 =>
                some (some (.int x16), w9)
              else
                (gI w9 a0 7 35).bind fun x15 =>
                some (some (.int x15), w9))
            else
              (gR w9 a0 7 33).bind fun r11 =>
              (aI w9 r11 a4).bind fun x12 =>
              (if x12 = (6 : Int32) then
                some (some (.int (-9 : Int32)), w9)
              else
                (gR w9 a0 7 33).bind fun r13 =>
                (aI w9 r13 a4).bind fun x14 =>
                some (some (.int x14), w9))))))))
def U_X8_plan (fu : Nat) : Orc := fun as w => match as with
  | [.ref a0, .int a1, .int a2, .int a3, .int a4] => if isO w a0 7 = true then M_X8_plan fu a0 a1 a2 a3 a4 w else none
  | _ => none
def K_X8_plan (fu : Nat) (n : Nat) : Kont := fun pc ls st w => none
set_option maxRecDepth 100000 in
set_option maxHeartbeats 4000000 in
theorem E_X8_plan (fu : Nat) (a0 : Nat) (a1 : Int32) (a2 : Int32) (a3 : Int32) (a4 : Int32) (w : XW) : M_X8_plan fu a0 a1 a2 a3 a4 w = ev T_X8_plan (op_X8_plan fu) [] (K_X8_plan fu fu) 63 0 (lv_args 0 [.ref a0, .int a1, .int a2, .int a3, .int a4]) [] w := by
  rfl
theorem D_X8_plan (fu : Nat) : DS T_X8_plan (op_X8_plan fu) [] 63 (K_X8_plan fu) := by
  refine ⟨fun pc ls st w => rfl, fun n pc ls st w o h => ?_⟩
  cases h
theorem H_X8_plan (fu : Nat) : ∀ as w o, U_X8_plan fu as w = some o → ∃ a r, as = .ref a :: r ∧ r.length = 4 ∧ isO w a 7 = true := by
  intro as w o h
  unfold U_X8_plan at h
  split at h
  next =>
    split at h
    next hh => exact ⟨_, _, rfl, rfl, hh⟩
    next => cases h
  next => cases h
set_option maxRecDepth 100000 in
set_option maxHeartbeats 4000000 in
theorem S_X8_plan (fu : Nat) {l : Launch} {D : va_G} {cA : Nat → ClassId} {base b : Nat} : CS l D cA base b 9 y_X8_plan prog_10_method_58_code 5 (some .int) (U_X8_plan fu) ∧ OM (U_X8_plan fu) := by
  refine CS_of (d := 8) (y := y_X8_plan) (cc := prog_10_method_58_code) (nL := 5) (ret := (some .int)) (F := U_X8_plan fu) (fl := fl_BrookStonesModel) (nl := []) (kl := kl_BrookStonesModel) (k2 := k2_BrookStonesModel) (mv := [(232, 4, 0, (U_X8_findPlan fu))]) (ms := [(89, 3, 1, (U_X8_within fu)), (200, 2, 1, (U_X8_isFlood fu))]) (mi := []) (ini := false) hI_w hZ_w fl_BrookStonesModel_ok nil_all kl_BrookStonesModel_ok k2_BrookStonesModel_ok
    (cons_all (⟨⟨show (0 : Nat) ≠ 3 by decide, y_X8_findPlan, prog_10_method_57_code, 5, (none), 8, "BrookStones", 7, TX8, 37, 3, (S_X8_findPlan fu (l := l) (D := D) (cA := cA) (base := base) (b := b)).1, by decide, by decide, rfl, H_X8_findPlan fu, rfl, mi_X8_findPlan.1, mi_X8_findPlan.2.1, mi_X8_findPlan.2.2.1, mi_X8_findPlan.2.2.2.1, mi_X8_findPlan.2.2.2.2, Or.inl (tblG_of (i := 1049) rfl rfl)⟩, (S_X8_findPlan fu (l := l) (D := D) (cA := cA) (base := base) (b := b)).2⟩) (nil_all))
    (cons_all (⟨Or.inl ⟨show (1 : Nat) ≠ 3 by decide, y_X8_within, prog_10_method_5_code, 3, (some .boolean), 1, "BrookStones", (S_X8_within fu (l := l) (D := D) (cA := cA) (base := base) (b := b)).1, by decide, by decide, mi_X8_within.1, mi_X8_within.2.1, mi_X8_within.2.2.1, mi_X8_within.2.2.2, Or.inl (tblG_of (i := 861) rfl rfl)⟩, (S_X8_within fu (l := l) (D := D) (cA := cA) (base := base) (b := b)).2⟩) (cons_all (⟨Or.inl ⟨show (1 : Nat) ≠ 3 by decide, y_X8_isFlood, prog_10_method_43_code, 2, (some .boolean), 2, "BrookStones", (S_X8_isFlood fu (l := l) (D := D) (cA := cA) (base := base) (b := b)).1, by decide, by decide, mi_X8_isFlood.1, mi_X8_isFlood.2.1, mi_X8_isFlood.2.2.1, mi_X8_isFlood.2.2.2, Or.inl (tblG_of (i := 1011) rfl rfl)⟩, (S_X8_isFlood fu (l := l) (D := D) (cA := cA) (base := base) (b := b)).2⟩) (nil_all)))
    (nil_all)
    (T := T_X8_plan) (by decide +kernel) (cut := []) (N := 63) (D_X8_plan fu) (by decide +kernel) (fun h => absurd h (by decide)) (fun as w o h => ?_)
  unfold U_X8_plan at h
  split at h
  next =>
    split at h
    next => exact ⟨Nat.le_of_ble_eq_true rfl, fu, (E_X8_plan fu _ _ _ _ _ w).symm.trans h⟩
    next => cases h
  next => cases h
def T_X2_layable : List (Nat × Instr) := [(0, .aload_n 1), (1, .iconst 2), (2, .invokevirtual 39), (5, .istore 4), (7, .aload_n 1), (8, .aload_n 1), (9, .getfield 43), (12, .invokevirtual 46), (15, .iload_n 2), (16, .iand), (17, .iload 4), (19, .aload_n 1), (20, .getfield 32), (23, .iload_n 3), (24, .invokestatic 49), (27, .istore 5), (29, .iconst 0), (30, .istore 6), (32, .iconst 0), (33, .istore 7), (35, .iload 7), (37, .aload_n 1), (38, .getfield 32), (41, .if_icmp .ge 53), (44, .aload_n 0), (45, .getfield 21), (48, .iload_n 2), (49, .iconst (-1)), (50, .ixor), (51, .iand), (52, .iload 7), (54, .invokestatic 35), (57, .istore 8), (59, .iload 8), (61, .ifCond .eq 27), (64, .iload 7), (66, .iload 4), (68, .iload 7), (70, .ishr), (71, .iconst 1), (72, .iand), (73, .isub), (74, .iload 5), (76, .if_icmp .gt 12), (79, .iload 6), (81, .iconst 1), (82, .iload 7), (84, .ishl), (85, .ior), (86, .istore 6), (88, .iinc 7 1), (91, .goto (-56)), (94, .iload 6), (96, .ireturn)]
def op_X2_layable (fu : Nat) : Nat → Kont → XL → List Value → XW → Instr → Option XO := opK 9 (rzOf (some .int)) fl_BrookStones_Layings [] [] [] [(39, 2, 1, (U_X0_ofKind fu)), (46, 2, 1, (U_X0_dry fu))] [(49, 4, 1, (U_X7_farthest fu)), (35, 2, 1, (U_X7_has fu))] []
def F_X2_layable (fu : Nat) : Nat → (Nat → Nat → Int32 → Int32 → Int32 → Int32 → Int32 → XW → Option XO)
  | 0 => fun _ _ _ _ _ _ _ _ => none
  | n + 1 => (fun a0 a1 a2 a4 a5 a6 a7 w =>
    (gI w a1 0 8).bind fun x1 =>
    (if a7 < x1 then
      (gI w a0 2 1).bind fun x2 =>
      cI (U_X7_has fu [.int (x2 &&& (a2 ^^^ (-1 : Int32))), .int a7] w) fun x4 w3 =>
      (if x4 = 0 then
        (F_X2_layable fu n) a0 a1 a2 a4 a5 a6 (a7 + (1 : Int32)) w3
      else
        (if a5 < (a7 - ((a4 >>> (a7 &&& 31)) &&& (1 : Int32))) then
          (F_X2_layable fu n) a0 a1 a2 a4 a5 a6 (a7 + (1 : Int32)) w3
        else
          (F_X2_layable fu n) a0 a1 a2 a4 a5 (a6 ||| ((1 : Int32) <<< (a7 &&& 31))) (a7 + (1 : Int32)) w3))
    else
      some (some (.int a6), w)))
def M_X2_layable (fu : Nat) (a0 : Nat) (a1 : Nat) (a2 : Int32) (a3 : Int32) (w : XW) : Option XO :=
  cI (U_X0_ofKind fu [.ref a1, .int (2 : Int32)] w) fun x6 w5 =>
  (gI w5 a1 0 11).bind fun x7 =>
  cI (U_X0_dry fu [.ref a1, .int x7] w5) fun x9 w8 =>
  (gI w8 a1 0 8).bind fun x10 =>
  cI (U_X7_farthest fu [.int (x9 &&& a2), .int x6, .int x10, .int a3] w8) fun x12 w11 =>
  (F_X2_layable fu fu) a0 a1 a2 x6 x12 (0 : Int32) (0 : Int32) w11
def U_X2_layable (fu : Nat) : Orc := fun as w => match as with
  | [.ref a0, .ref a1, .int a2, .int a3] => if isO w a0 2 = true then M_X2_layable fu a0 a1 a2 a3 w else none
  | _ => none
def K_X2_layable (fu : Nat) (n : Nat) : Kont := fun pc ls st w => bif pc == 35 then ((xr ls 0).bind fun a0 => (xr ls 1).bind fun a1 => (xi ls 2).bind fun a2 => (xi ls 4).bind fun a4 => (xi ls 5).bind fun a5 => (xi ls 6).bind fun a6 => (xi ls 7).bind fun a7 => skN st ((F_X2_layable fu n) a0 a1 a2 a4 a5 a6 a7 w)) else none
set_option maxRecDepth 100000 in
set_option maxHeartbeats 4000000 in
theorem E_X2_layable_35 (fu : Nat) (n : Nat) (a0 : Nat) (a1 : Nat) (a2 : Int32) (a4 : Int32) (a5 : Int32) (a6 : Int32) (a7 : Int32) (w : XW) : (F_X2_layable fu (n + 1)) a0 a1 a2 a4 a5 a6 a7 w = ev T_X2_layable (op_X2_layable fu) [35] (K_X2_layable fu n) 56 35 [(0, .ref a0), (1, .ref a1), (2, .int a2), (4, .int a4), (5, .int a5), (6, .int a6), (7, .int a7)] [] w := by
  rfl
set_option maxRecDepth 100000 in
set_option maxHeartbeats 4000000 in
theorem E_X2_layable (fu : Nat) (a0 : Nat) (a1 : Nat) (a2 : Int32) (a3 : Int32) (w : XW) : M_X2_layable fu a0 a1 a2 a3 w = ev T_X2_layable (op_X2_layable fu) [35] (K_X2_layable fu fu) 56 0 (lv_args 0 [.ref a0, .ref a1, .int a2, .int a3]) [] w := by
  rfl
theorem D_X2_layable (fu : Nat) : DS T_X2_layable (op_X2_layable fu) [35] 56 (K_X2_layable fu) := by
  refine ⟨fun pc ls st w => c_none (b_none fun _ => b_none fun _ => b_none fun _ => b_none fun _ => b_none fun _ => b_none fun _ => b_none fun _ => skN_none rfl) (rfl), fun n pc ls st w o h => ?_⟩
  rcases c_some h with ⟨rfl, h⟩ | h
  · obtain ⟨a0, h0, h⟩ := some_of h; obtain ⟨a1, h1, h⟩ := some_of h; obtain ⟨a2, h2, h⟩ := some_of h; obtain ⟨a4, h4, h⟩ := some_of h; obtain ⟨a5, h5, h⟩ := some_of h; obtain ⟨a6, h6, h⟩ := some_of h; obtain ⟨a7, h7, h⟩ := some_of h;
    obtain ⟨e, g⟩ := skN_of h
    subst e
    exact ⟨[(0, .ref a0), (1, .ref a1), (2, .int a2), (4, .int a4), (5, .int a5), (6, .int a6), (7, .int a7)], cons_all (xr_of h0) (cons_all (xr_of h1) (cons_all (xi_of h2) (cons_all (xi_of h4) (cons_all (xi_of h5) (cons_all (xi_of h6) (cons_all (xi_of h7) (nil_all))))))), (E_X2_layable_35 fu n a0 a1 a2 a4 a5 a6 a7 w).symm.trans g⟩
  · cases h
theorem H_X2_layable (fu : Nat) : ∀ as w o, U_X2_layable fu as w = some o → ∃ a r, as = .ref a :: r ∧ r.length = 3 ∧ isO w a 2 = true := by
  intro as w o h
  unfold U_X2_layable at h
  split at h
  next =>
    split at h
    next hh => exact ⟨_, _, rfl, rfl, hh⟩
    next => cases h
  next => cases h
set_option maxRecDepth 100000 in
set_option maxHeartbeats 4000000 in
theorem S_X2_layable (fu : Nat) {l : Launch} {D : va_G} {cA : Nat → ClassId} {base b : Nat} : CS l D cA base b 3 y_X2_layable prog_4_method_4_code 9 (some .int) (U_X2_layable fu) ∧ OM (U_X2_layable fu) := by
  refine CS_of (d := 2) (y := y_X2_layable) (cc := prog_4_method_4_code) (nL := 9) (ret := (some .int)) (F := U_X2_layable fu) (fl := fl_BrookStones_Layings) (nl := []) (kl := []) (k2 := []) (mv := [(39, 2, 1, (U_X0_ofKind fu)), (46, 2, 1, (U_X0_dry fu))]) (ms := [(49, 4, 1, (U_X7_farthest fu)), (35, 2, 1, (U_X7_has fu))]) (mi := []) (ini := false) hI_w hZ_w fl_BrookStones_Layings_ok nil_all nil_all nil_all
    (cons_all (⟨⟨show (1 : Nat) ≠ 3 by decide, y_X0_ofKind, prog_2_method_18_code, 4, (some .int), 1, "BrookStones", 0, TX0, 15, 1, (S_X0_ofKind fu (l := l) (D := D) (cA := cA) (base := base) (b := b)).1, by decide, by decide, rfl, H_X0_ofKind fu, rfl, mi_X0_ofKind.1, mi_X0_ofKind.2.1, mi_X0_ofKind.2.2.1, mi_X0_ofKind.2.2.2.1, mi_X0_ofKind.2.2.2.2, Or.inr (tblN_of (i := 609) rfl rfl)⟩, (S_X0_ofKind fu (l := l) (D := D) (cA := cA) (base := base) (b := b)).2⟩) (cons_all (⟨⟨show (1 : Nat) ≠ 3 by decide, y_X0_dry, prog_2_method_19_code, 4, (some .int), 2, "BrookStones", 0, TX0, 15, 1, (S_X0_dry fu (l := l) (D := D) (cA := cA) (base := base) (b := b)).1, by decide, by decide, rfl, H_X0_dry fu, rfl, mi_X0_dry.1, mi_X0_dry.2.1, mi_X0_dry.2.2.1, mi_X0_dry.2.2.2.1, mi_X0_dry.2.2.2.2, Or.inr (tblN_of (i := 610) rfl rfl)⟩, (S_X0_dry fu (l := l) (D := D) (cA := cA) (base := base) (b := b)).2⟩) (nil_all)))
    (cons_all (⟨Or.inl ⟨show (1 : Nat) ≠ 3 by decide, y_X7_farthest, prog_1_method_49_code, 7, (some .int), 2, "BrookStones", (S_X7_farthest fu (l := l) (D := D) (cA := cA) (base := base) (b := b)).1, by decide, by decide, mi_X7_farthest.1, mi_X7_farthest.2.1, mi_X7_farthest.2.2.1, mi_X7_farthest.2.2.2, Or.inr (tblN_of (i := 611) rfl rfl)⟩, (S_X7_farthest fu (l := l) (D := D) (cA := cA) (base := base) (b := b)).2⟩) (cons_all (⟨Or.inl ⟨show (1 : Nat) ≠ 3 by decide, y_X7_has, prog_1_method_47_code, 2, (some .boolean), 1, "BrookStones", (S_X7_has fu (l := l) (D := D) (cA := cA) (base := base) (b := b)).1, by decide, by decide, mi_X7_has.1, mi_X7_has.2.1, mi_X7_has.2.2.1, mi_X7_has.2.2.2, Or.inr (tblN_of (i := 612) rfl rfl)⟩, (S_X7_has fu (l := l) (D := D) (cA := cA) (base := base) (b := b)).2⟩) (nil_all)))
    (nil_all)
    (T := T_X2_layable) (by decide +kernel) (cut := [35]) (N := 56) (D_X2_layable fu) (by decide +kernel) (fun h => absurd h (by decide)) (fun as w o h => ?_)
  unfold U_X2_layable at h
  split at h
  next =>
    split at h
    next => exact ⟨Nat.le_of_ble_eq_true rfl, fu, (E_X2_layable fu _ _ _ _ w).symm.trans h⟩
    next => cases h
  next => cases h
def T_X2_waysFrom : List (Nat × Instr) := [(0, .iload_n 2), (1, .aload_n 0), (2, .getfield 21), (5, .if_icmp .ne 5), (8, .iconst 1), (9, .ireturn), (10, .aload_n 0), (11, .aload_n 1), (12, .iload_n 2), (13, .iload_n 3), (14, .invokevirtual 29), (17, .istore 4), (19, .iconst 0), (20, .istore 5), (22, .iconst 0), (23, .istore 6), (25, .iload 6), (27, .aload_n 1), (28, .getfield 32), (31, .if_icmp .ge 35), (34, .iload 4), (36, .iload 6), (38, .invokestatic 35), (41, .ifCond .eq 19), (44, .iload 5), (46, .aload_n 0), (47, .getfield 9), (50, .iload_n 2), (51, .iconst 1), (52, .iload 6), (54, .ishl), (55, .ior), (56, .iaload), (57, .iadd), (58, .istore 5), (60, .iinc 6 1), (63, .goto (-38)), (66, .iload 5), (68, .ireturn)]
def op_X2_waysFrom (fu : Nat) : Nat → Kont → XL → List Value → XW → Instr → Option XO := opK 7 (rzOf (some .int)) fl_BrookStones_Layings [] [] [] [(29, 4, 1, (U_X2_layable fu))] [(35, 2, 1, (U_X7_has fu))] []
def F_X2_waysFrom (fu : Nat) : Nat → (Nat → Nat → Int32 → Int32 → Int32 → Int32 → XW → Option XO)
  | 0 => fun _ _ _ _ _ _ _ => none
  | n + 1 => (fun a0 a1 a2 a4 a5 a6 w =>
    (gI w a1 0 8).bind fun x1 =>
    (if a6 < x1 then
      cI (U_X7_has fu [.int a4, .int a6] w) fun x3 w2 =>
      (if x3 = 0 then
        (F_X2_waysFrom fu n) a0 a1 a2 a4 a5 (a6 + (1 : Int32)) w2
      else
        (gR w2 a0 2 0).bind fun r4 =>
        (aI w2 r4 (a2 ||| ((1 : Int32) <<< (a6 &&& 31)))).bind fun x5 =>
        (F_X2_waysFrom fu n) a0 a1 a2 a4 (a5 + x5) (a6 + (1 : Int32)) w2)
    else
      some (some (.int a5), w)))
def M_X2_waysFrom (fu : Nat) (a0 : Nat) (a1 : Nat) (a2 : Int32) (a3 : Int32) (w : XW) : Option XO :=
  (gI w a0 2 1).bind fun x6 =>
  (if a2 = x6 then
    some (some (.int (1 : Int32)), w)
  else
    cI (U_X2_layable fu [.ref a0, .ref a1, .int a2, .int a3] w) fun x8 w7 =>
    (F_X2_waysFrom fu fu) a0 a1 a2 x8 (0 : Int32) (0 : Int32) w7)
def U_X2_waysFrom (fu : Nat) : Orc := fun as w => match as with
  | [.ref a0, .ref a1, .int a2, .int a3] => if isO w a0 2 = true then M_X2_waysFrom fu a0 a1 a2 a3 w else none
  | _ => none
def K_X2_waysFrom (fu : Nat) (n : Nat) : Kont := fun pc ls st w => bif pc == 25 then ((xr ls 0).bind fun a0 => (xr ls 1).bind fun a1 => (xi ls 2).bind fun a2 => (xi ls 4).bind fun a4 => (xi ls 5).bind fun a5 => (xi ls 6).bind fun a6 => skN st ((F_X2_waysFrom fu n) a0 a1 a2 a4 a5 a6 w)) else none
set_option maxRecDepth 100000 in
set_option maxHeartbeats 4000000 in
theorem E_X2_waysFrom_25 (fu : Nat) (n : Nat) (a0 : Nat) (a1 : Nat) (a2 : Int32) (a4 : Int32) (a5 : Int32) (a6 : Int32) (w : XW) : (F_X2_waysFrom fu (n + 1)) a0 a1 a2 a4 a5 a6 w = ev T_X2_waysFrom (op_X2_waysFrom fu) [25] (K_X2_waysFrom fu n) 41 25 [(0, .ref a0), (1, .ref a1), (2, .int a2), (4, .int a4), (5, .int a5), (6, .int a6)] [] w := by
  rfl
set_option maxRecDepth 100000 in
set_option maxHeartbeats 4000000 in
theorem E_X2_waysFrom (fu : Nat) (a0 : Nat) (a1 : Nat) (a2 : Int32) (a3 : Int32) (w : XW) : M_X2_waysFrom fu a0 a1 a2 a3 w = ev T_X2_waysFrom (op_X2_waysFrom fu) [25] (K_X2_waysFrom fu fu) 41 0 (lv_args 0 [.ref a0, .ref a1, .int a2, .int a3]) [] w := by
  rfl
theorem D_X2_waysFrom (fu : Nat) : DS T_X2_waysFrom (op_X2_waysFrom fu) [25] 41 (K_X2_waysFrom fu) := by
  refine ⟨fun pc ls st w => c_none (b_none fun _ => b_none fun _ => b_none fun _ => b_none fun _ => b_none fun _ => b_none fun _ => skN_none rfl) (rfl), fun n pc ls st w o h => ?_⟩
  rcases c_some h with ⟨rfl, h⟩ | h
  · obtain ⟨a0, h0, h⟩ := some_of h; obtain ⟨a1, h1, h⟩ := some_of h; obtain ⟨a2, h2, h⟩ := some_of h; obtain ⟨a4, h4, h⟩ := some_of h; obtain ⟨a5, h5, h⟩ := some_of h; obtain ⟨a6, h6, h⟩ := some_of h;
    obtain ⟨e, g⟩ := skN_of h
    subst e
    exact ⟨[(0, .ref a0), (1, .ref a1), (2, .int a2), (4, .int a4), (5, .int a5), (6, .int a6)], cons_all (xr_of h0) (cons_all (xr_of h1) (cons_all (xi_of h2) (cons_all (xi_of h4) (cons_all (xi_of h5) (cons_all (xi_of h6) (nil_all)))))), (E_X2_waysFrom_25 fu n a0 a1 a2 a4 a5 a6 w).symm.trans g⟩
  · cases h
theorem H_X2_waysFrom (fu : Nat) : ∀ as w o, U_X2_waysFrom fu as w = some o → ∃ a r, as = .ref a :: r ∧ r.length = 3 ∧ isO w a 2 = true := by
  intro as w o h
  unfold U_X2_waysFrom at h
  split at h
  next =>
    split at h
    next hh => exact ⟨_, _, rfl, rfl, hh⟩
    next => cases h
  next => cases h
set_option maxRecDepth 100000 in
set_option maxHeartbeats 4000000 in
theorem S_X2_waysFrom (fu : Nat) {l : Launch} {D : va_G} {cA : Nat → ClassId} {base b : Nat} : CS l D cA base b 4 y_X2_waysFrom prog_4_method_3_code 7 (some .int) (U_X2_waysFrom fu) ∧ OM (U_X2_waysFrom fu) := by
  refine CS_of (d := 3) (y := y_X2_waysFrom) (cc := prog_4_method_3_code) (nL := 7) (ret := (some .int)) (F := U_X2_waysFrom fu) (fl := fl_BrookStones_Layings) (nl := []) (kl := []) (k2 := []) (mv := [(29, 4, 1, (U_X2_layable fu))]) (ms := [(35, 2, 1, (U_X7_has fu))]) (mi := []) (ini := false) hI_w hZ_w fl_BrookStones_Layings_ok nil_all nil_all nil_all
    (cons_all (⟨⟨show (1 : Nat) ≠ 3 by decide, y_X2_layable, prog_4_method_4_code, 9, (some .int), 3, "BrookStones", 2, TX2, 2, 3, (S_X2_layable fu (l := l) (D := D) (cA := cA) (base := base) (b := b)).1, by decide, by decide, rfl, H_X2_layable fu, rfl, mi_X2_layable.1, mi_X2_layable.2.1, mi_X2_layable.2.2.1, mi_X2_layable.2.2.2.1, mi_X2_layable.2.2.2.2, Or.inl (tblG_of (i := 605) rfl rfl)⟩, (S_X2_layable fu (l := l) (D := D) (cA := cA) (base := base) (b := b)).2⟩) (nil_all))
    (cons_all (⟨Or.inl ⟨show (1 : Nat) ≠ 3 by decide, y_X7_has, prog_1_method_47_code, 2, (some .boolean), 1, "BrookStones", (S_X7_has fu (l := l) (D := D) (cA := cA) (base := base) (b := b)).1, by decide, by decide, mi_X7_has.1, mi_X7_has.2.1, mi_X7_has.2.2.1, mi_X7_has.2.2.2, Or.inr (tblN_of (i := 612) rfl rfl)⟩, (S_X7_has fu (l := l) (D := D) (cA := cA) (base := base) (b := b)).2⟩) (nil_all))
    (nil_all)
    (T := T_X2_waysFrom) (by decide +kernel) (cut := [25]) (N := 41) (D_X2_waysFrom fu) (by decide +kernel) (fun h => absurd h (by decide)) (fun as w o h => ?_)
  unfold U_X2_waysFrom at h
  split at h
  next =>
    split at h
    next => exact ⟨Nat.le_of_ble_eq_true rfl, fu, (E_X2_waysFrom fu _ _ _ _ w).symm.trans h⟩
    next => cases h
  next => cases h
def T_X2_count : List (Nat × Instr) := [(0, .aload_n 0), (1, .aload_n 1), (2, .invokevirtual 15), (5, .putfield 21), (8, .aload_n 0), (9, .getfield 21), (12, .istore_n 3), (13, .iload_n 3), (14, .ifCond .lt 33), (17, .iload_n 3), (18, .aload_n 0), (19, .getfield 21), (22, .iconst (-1)), (23, .ixor), (24, .iand), (25, .ifCond .ne 16), (28, .aload_n 0), (29, .getfield 9), (32, .iload_n 3), (33, .aload_n 0), (34, .aload_n 1), (35, .iload_n 3), (36, .iload_n 2), (37, .invokevirtual 25), (40, .iastore), (41, .iinc 3 (-1)), (44, .goto (-31)), (47, .aload_n 0), (48, .getfield 9), (51, .iconst 0), (52, .iaload), (53, .ireturn)]
def op_X2_count (fu : Nat) : Nat → Kont → XL → List Value → XW → Instr → Option XO := opK 4 (rzOf (some .int)) fl_BrookStones_Layings [] [] [] [(15, 1, 1, (U_X0_filled fu)), (25, 4, 1, (U_X2_waysFrom fu))] [] []
def F_X2_count (fu : Nat) : Nat → (Nat → Nat → Int32 → Int32 → XW → Option XO)
  | 0 => fun _ _ _ _ _ => none
  | n + 1 => (fun a0 a1 a2 a3 w =>
    (if a3 < 0 then
      (gR w a0 2 0).bind fun r1 =>
      (aI w r1 (0 : Int32)).bind fun x2 =>
      some (some (.int x2), w)
    else
      (gI w a0 2 1).bind fun x3 =>
      (if (a3 &&& (x3 ^^^ (-1 : Int32))) = 0 then
        (gR w a0 2 0).bind fun r4 =>
        cI (U_X2_waysFrom fu [.ref a0, .ref a1, .int a3, .int a2] w) fun x6 w5 =>
        (sI w5 r4 a3 x6).bind fun w7 =>
        (F_X2_count fu n) a0 a1 a2 (a3 + (-1 : Int32)) w7
      else
        (F_X2_count fu n) a0 a1 a2 (a3 + (-1 : Int32)) w)))
def M_X2_count (fu : Nat) (a0 : Nat) (a1 : Nat) (a2 : Int32) (w : XW) : Option XO :=
  cI (U_X0_filled fu [.ref a1] w) fun x9 w8 =>
  (pF w8 a0 2 1 (.int x9)).bind fun w10 =>
  (gI w10 a0 2 1).bind fun x11 =>
  (F_X2_count fu fu) a0 a1 a2 x11 w10
def U_X2_count (fu : Nat) : Orc := fun as w => match as with
  | [.ref a0, .ref a1, .int a2] => if isO w a0 2 = true then M_X2_count fu a0 a1 a2 w else none
  | _ => none
def K_X2_count (fu : Nat) (n : Nat) : Kont := fun pc ls st w => bif pc == 13 then ((xr ls 0).bind fun a0 => (xr ls 1).bind fun a1 => (xi ls 2).bind fun a2 => (xi ls 3).bind fun a3 => skN st ((F_X2_count fu n) a0 a1 a2 a3 w)) else none
set_option maxRecDepth 100000 in
set_option maxHeartbeats 4000000 in
theorem E_X2_count_13 (fu : Nat) (n : Nat) (a0 : Nat) (a1 : Nat) (a2 : Int32) (a3 : Int32) (w : XW) : (F_X2_count fu (n + 1)) a0 a1 a2 a3 w = ev T_X2_count (op_X2_count fu) [13] (K_X2_count fu n) 34 13 [(0, .ref a0), (1, .ref a1), (2, .int a2), (3, .int a3)] [] w := by
  rfl
set_option maxRecDepth 100000 in
set_option maxHeartbeats 4000000 in
theorem E_X2_count (fu : Nat) (a0 : Nat) (a1 : Nat) (a2 : Int32) (w : XW) : M_X2_count fu a0 a1 a2 w = ev T_X2_count (op_X2_count fu) [13] (K_X2_count fu fu) 34 0 (lv_args 0 [.ref a0, .ref a1, .int a2]) [] w := by
  rfl
theorem D_X2_count (fu : Nat) : DS T_X2_count (op_X2_count fu) [13] 34 (K_X2_count fu) := by
  refine ⟨fun pc ls st w => c_none (b_none fun _ => b_none fun _ => b_none fun _ => b_none fun _ => skN_none rfl) (rfl), fun n pc ls st w o h => ?_⟩
  rcases c_some h with ⟨rfl, h⟩ | h
  · obtain ⟨a0, h0, h⟩ := some_of h; obtain ⟨a1, h1, h⟩ := some_of h; obtain ⟨a2, h2, h⟩ := some_of h; obtain ⟨a3, h3, h⟩ := some_of h;
    obtain ⟨e, g⟩ := skN_of h
    subst e
    exact ⟨[(0, .ref a0), (1, .ref a1), (2, .int a2), (3, .int a3)], cons_all (xr_of h0) (cons_all (xr_of h1) (cons_all (xi_of h2) (cons_all (xi_of h3) (nil_all)))), (E_X2_count_13 fu n a0 a1 a2 a3 w).symm.trans g⟩
  · cases h
theorem H_X2_count (fu : Nat) : ∀ as w o, U_X2_count fu as w = some o → ∃ a r, as = .ref a :: r ∧ r.length = 2 ∧ isO w a 2 = true := by
  intro as w o h
  unfold U_X2_count at h
  split at h
  next =>
    split at h
    next hh => exact ⟨_, _, rfl, rfl, hh⟩
    next => cases h
  next => cases h
set_option maxRecDepth 100000 in
set_option maxHeartbeats 4000000 in
theorem S_X2_count (fu : Nat) {l : Launch} {D : va_G} {cA : Nat → ClassId} {base b : Nat} : CS l D cA base b 5 y_X2_count prog_4_method_2_code 4 (some .int) (U_X2_count fu) ∧ OM (U_X2_count fu) := by
  refine CS_of (d := 4) (y := y_X2_count) (cc := prog_4_method_2_code) (nL := 4) (ret := (some .int)) (F := U_X2_count fu) (fl := fl_BrookStones_Layings) (nl := []) (kl := []) (k2 := []) (mv := [(15, 1, 1, (U_X0_filled fu)), (25, 4, 1, (U_X2_waysFrom fu))]) (ms := []) (mi := []) (ini := false) hI_w hZ_w fl_BrookStones_Layings_ok nil_all nil_all nil_all
    (cons_all (⟨⟨show (1 : Nat) ≠ 3 by decide, y_X0_filled, prog_2_method_17_code, 1, (some .int), 2, "BrookStones", 0, TX0, 15, 0, (S_X0_filled fu (l := l) (D := D) (cA := cA) (base := base) (b := b)).1, by decide, by decide, rfl, H_X0_filled fu, rfl, mi_X0_filled.1, mi_X0_filled.2.1, mi_X0_filled.2.2.1, mi_X0_filled.2.2.2.1, mi_X0_filled.2.2.2.2, Or.inr (tblN_of (i := 600) rfl rfl)⟩, (S_X0_filled fu (l := l) (D := D) (cA := cA) (base := base) (b := b)).2⟩) (cons_all (⟨⟨show (1 : Nat) ≠ 3 by decide, y_X2_waysFrom, prog_4_method_3_code, 7, (some .int), 4, "BrookStones", 2, TX2, 2, 3, (S_X2_waysFrom fu (l := l) (D := D) (cA := cA) (base := base) (b := b)).1, by decide, by decide, rfl, H_X2_waysFrom fu, rfl, mi_X2_waysFrom.1, mi_X2_waysFrom.2.1, mi_X2_waysFrom.2.2.1, mi_X2_waysFrom.2.2.2.1, mi_X2_waysFrom.2.2.2.2, Or.inl (tblG_of (i := 601) rfl rfl)⟩, (S_X2_waysFrom fu (l := l) (D := D) (cA := cA) (base := base) (b := b)).2⟩) (nil_all)))
    (nil_all)
    (nil_all)
    (T := T_X2_count) (by decide +kernel) (cut := [13]) (N := 34) (D_X2_count fu) (by decide +kernel) (fun h => absurd h (by decide)) (fun as w o h => ?_)
  unfold U_X2_count at h
  split at h
  next =>
    split at h
    next => exact ⟨Nat.le_of_ble_eq_true rfl, fu, (E_X2_count fu _ _ _ w).symm.trans h⟩
    next => cases h
  next => cases h
def T_X7_orders : List (Nat × Instr) := [(0, .iload_n 1), (1, .iconst 1), (2, .bipush 9), (4, .invokestatic 105), (7, .ifCond .ne 6), (10, .bipush (-2)), (12, .ireturn), (13, .aload_n 0), (14, .getfield 12), (17, .invokevirtual 109), (20, .ifCond .ne 6), (23, .bipush (-3)), (25, .ireturn), (26, .aload_n 0), (27, .getfield 49), (30, .aload_n 0), (31, .getfield 12), (34, .iload_n 1), (35, .invokevirtual 238), (38, .ireturn)]
def op_X7_orders (fu : Nat) : Nat → Kont → XL → List Value → XW → Instr → Option XO := opK 2 (rzOf (some .int)) fl_BrookStones nl_BrookStones [] k2_BrookStones [(109, 1, 1, (U_X0_isThere fu)), (238, 3, 1, (U_X2_count fu))] [(105, 3, 1, (U_X7_isWithin fu))] []
def M_X7_orders (fu : Nat) (a0 : Nat) (a1 : Int32) (w : XW) : Option XO :=
  cI (U_X7_isWithin fu [.int a1, .int (1 : Int32), .int (9 : Int32)] w) fun x2 w1 =>
  (if x2 = 0 then
    some (some (.int (-2 : Int32)), w1)
  else
    (gR w1 a0 6 0).bind fun r3 =>
    cI (U_X0_isThere fu [.ref r3] w1) fun x5 w4 =>
    (if x5 = 0 then
      some (some (.int (-3 : Int32)), w4)
    else
      (gR w4 a0 6 5).bind fun r6 =>
      (gR w4 a0 6 0).bind fun r7 =>
      cI (U_X2_count fu [.ref r6, .ref r7, .int a1] w4) fun x9 w8 =>
      some (some (.int x9), w8)))
def U_X7_orders (fu : Nat) : Orc := fun as w => match as with
  | [.ref a0, .int a1] => if isO w a0 6 = true then M_X7_orders fu a0 a1 w else none
  | _ => none
def K_X7_orders (fu : Nat) (n : Nat) : Kont := fun pc ls st w => none
set_option maxRecDepth 100000 in
set_option maxHeartbeats 4000000 in
theorem E_X7_orders (fu : Nat) (a0 : Nat) (a1 : Int32) (w : XW) : M_X7_orders fu a0 a1 w = ev T_X7_orders (op_X7_orders fu) [] (K_X7_orders fu fu) 22 0 (lv_args 0 [.ref a0, .int a1]) [] w := by
  rfl
theorem D_X7_orders (fu : Nat) : DS T_X7_orders (op_X7_orders fu) [] 22 (K_X7_orders fu) := by
  refine ⟨fun pc ls st w => rfl, fun n pc ls st w o h => ?_⟩
  cases h
theorem H_X7_orders (fu : Nat) : ∀ as w o, U_X7_orders fu as w = some o → ∃ a r, as = .ref a :: r ∧ r.length = 1 ∧ isO w a 6 = true := by
  intro as w o h
  unfold U_X7_orders at h
  split at h
  next =>
    split at h
    next hh => exact ⟨_, _, rfl, rfl, hh⟩
    next => cases h
  next => cases h
set_option maxRecDepth 100000 in
set_option maxHeartbeats 4000000 in
theorem S_X7_orders (fu : Nat) {l : Launch} {D : va_G} {cA : Nat → ClassId} {base b : Nat} : CS l D cA base b 6 y_X7_orders prog_1_method_23_code 2 (some .int) (U_X7_orders fu) ∧ OM (U_X7_orders fu) := by
  refine CS_of (d := 5) (y := y_X7_orders) (cc := prog_1_method_23_code) (nL := 2) (ret := (some .int)) (F := U_X7_orders fu) (fl := fl_BrookStones) (nl := nl_BrookStones) (kl := []) (k2 := k2_BrookStones) (mv := [(109, 1, 1, (U_X0_isThere fu)), (238, 3, 1, (U_X2_count fu))]) (ms := [(105, 3, 1, (U_X7_isWithin fu))]) (mi := []) (ini := false) hI_w hZ_w fl_BrookStones_ok nl_BrookStones_ok nil_all k2_BrookStones_ok
    (cons_all (⟨⟨show (1 : Nat) ≠ 3 by decide, y_X0_isThere, prog_2_method_3_code, 1, (some .boolean), 1, "BrookStones", 0, TX0, 15, 0, (S_X0_isThere fu (l := l) (D := D) (cA := cA) (base := base) (b := b)).1, by decide, by decide, rfl, H_X0_isThere fu, rfl, mi_X0_isThere.1, mi_X0_isThere.2.1, mi_X0_isThere.2.2.1, mi_X0_isThere.2.2.2.1, mi_X0_isThere.2.2.2.2, Or.inr (tblN_of (i := 334) rfl rfl)⟩, (S_X0_isThere fu (l := l) (D := D) (cA := cA) (base := base) (b := b)).2⟩) (cons_all (⟨⟨show (1 : Nat) ≠ 3 by decide, y_X2_count, prog_4_method_2_code, 4, (some .int), 5, "BrookStones", 2, TX2, 2, 2, (S_X2_count fu (l := l) (D := D) (cA := cA) (base := base) (b := b)).1, by decide, by decide, rfl, H_X2_count fu, rfl, mi_X2_count.1, mi_X2_count.2.1, mi_X2_count.2.2.1, mi_X2_count.2.2.2.1, mi_X2_count.2.2.2.2, Or.inr (tblN_of (i := 596) rfl rfl)⟩, (S_X2_count fu (l := l) (D := D) (cA := cA) (base := base) (b := b)).2⟩) (nil_all)))
    (cons_all (⟨Or.inl ⟨show (1 : Nat) ≠ 3 by decide, y_X7_isWithin, prog_1_method_46_code, 3, (some .boolean), 1, "BrookStones", (S_X7_isWithin fu (l := l) (D := D) (cA := cA) (base := base) (b := b)).1, by decide, by decide, mi_X7_isWithin.1, mi_X7_isWithin.2.1, mi_X7_isWithin.2.2.1, mi_X7_isWithin.2.2.2, Or.inl (tblG_of (i := 333) rfl rfl)⟩, (S_X7_isWithin fu (l := l) (D := D) (cA := cA) (base := base) (b := b)).2⟩) (nil_all))
    (nil_all)
    (T := T_X7_orders) (by decide +kernel) (cut := []) (N := 22) (D_X7_orders fu) (by decide +kernel) (fun h => absurd h (by decide)) (fun as w o h => ?_)
  unfold U_X7_orders at h
  split at h
  next =>
    split at h
    next => exact ⟨Nat.le_of_ble_eq_true rfl, fu, (E_X7_orders fu _ _ w).symm.trans h⟩
    next => cases h
  next => cases h
def T_X8_isLaid : List (Nat × Instr) := [(0, .iconst 0), (1, .istore 4), (3, .iload 4), (5, .aload_n 0), (6, .getfield 93), (9, .if_icmp .ge 37), (12, .aload_n 0), (13, .getfield 56), (16, .iload 4), (18, .iload_n 1), (19, .iload 4), (21, .invokestatic 191), (24, .ifCond .eq 13), (27, .aload_n 0), (28, .getfield 29), (31, .iload 4), (33, .iaload), (34, .goto 5), (37, .bipush (-9)), (39, .iastore), (40, .iinc 4 1), (43, .goto (-40)), (46, .aload_n 0), (47, .aload_n 0), (48, .getfield 126), (51, .putfield 161), (54, .aload_n 0), (55, .iconst 0), (56, .iload_n 3), (57, .invokevirtual 177), (60, .aload_n 0), (61, .getfield 56), (64, .iload_n 2), (65, .aload_n 0), (66, .getfield 29), (69, .iload_n 2), (70, .iaload), (71, .iastore), (72, .iconst 0), (73, .istore 4), (75, .iload 4), (77, .aload_n 0), (78, .getfield 93), (81, .if_icmp .gt 44), (84, .iload 4), (86, .iload_n 2), (87, .iconst 1), (88, .iadd), (89, .if_icmp .eq 30), (92, .aload_n 0), (93, .getfield 59), (96, .iload 4), (98, .iaload), (99, .ldc 170), (101, .if_icmp .ge 18), (104, .aload_n 0), (105, .iload 4), (107, .iload_n 2), (108, .iconst 1), (109, .iadd), (110, .iload_n 3), (111, .invokevirtual 174), (114, .ifCond .eq 5), (117, .iconst 1), (118, .ireturn), (119, .iinc 4 1), (122, .goto (-47)), (125, .iconst 0), (126, .ireturn)]
def op_X8_isLaid (fu : Nat) : Nat → Kont → XL → List Value → XW → Instr → Option XO := opK 5 (rzOf (some .boolean)) fl_BrookStonesModel [] kl_BrookStonesModel k2_BrookStonesModel [(177, 3, 0, (U_X8_layFar fu)), (174, 4, 1, (U_X8_isStride fu))] [(191, 2, 1, (U_X8_has fu))] []
def F_X8_isLaid (fu : Nat) : Nat → (Nat → Int32 → Int32 → Int32 → Int32 → XW → Option XO) × (Nat → Int32 → Int32 → Int32 → XW → Option XO)
  | 0 => (fun _ _ _ _ _ _ => none, fun _ _ _ _ _ => none)
  | n + 1 => ((fun a0 a1 a2 a3 a4 w =>
    (gI w a0 7 5).bind fun x1 =>
    (if a4 < x1 then
      (gR w a0 7 25).bind fun r9 =>
      cI (U_X8_has fu [.int a1, .int a4] w) fun x11 w10 =>
      (if x11 = 0 then
        (sI w10 r9 a4 (-9 : Int32)).bind fun w12 =>
        (F_X8_isLaid fu n).1 a0 a1 a2 a3 (a4 + (1 : Int32)) w12
      else
        (gR w10 a0 7 11).bind fun r13 =>
        (aI w10 r13 a4).bind fun x14 =>
        (sI w10 r9 a4 x14).bind fun w15 =>
        (F_X8_isLaid fu n).1 a0 a1 a2 a3 (a4 + (1 : Int32)) w15)
    else
      (gI w a0 7 7).bind fun x2 =>
      (pF w a0 7 26 (.int x2)).bind fun w3 =>
      cV (U_X8_layFar fu [.ref a0, .int (0 : Int32), .int a3] w3) fun w4 =>
      (gR w4 a0 7 25).bind fun r5 =>
      (gR w4 a0 7 11).bind fun r6 =>
      (aI w4 r6 a2).bind fun x7 =>
      (sI w4 r5 a2 x7).bind fun w8 =>
      (F_X8_isLaid fu n).2 a0 a2 a3 (0 : Int32) w8)),
   (fun a0 a2 a3 a4 w =>
    (gI w a0 7 5).bind fun x16 =>
    (if x16 < a4 then
      retZ (0 : Int32) w
    else
      (if a4 = (a2 + (1 : Int32)) then
        (F_X8_isLaid fu n).2 a0 a2 a3 (a4 + (1 : Int32)) w
      else
        (gR w a0 7 27).bind fun r17 =>
        (aI w r17 a4).bind fun x18 =>
        (if x18 < (1000000 : Int32) then
          cI (U_X8_isStride fu [.ref a0, .int a4, .int (a2 + (1 : Int32)), .int a3] w) fun x20 w19 =>
          (if x20 = 0 then
            (F_X8_isLaid fu n).2 a0 a2 a3 (a4 + (1 : Int32)) w19
          else
            retZ (1 : Int32) w19)
        else
          (F_X8_isLaid fu n).2 a0 a2 a3 (a4 + (1 : Int32)) w)))))
def M_X8_isLaid (fu : Nat) (a0 : Nat) (a1 : Int32) (a2 : Int32) (a3 : Int32) (w : XW) : Option XO :=
  (F_X8_isLaid fu fu).1 a0 a1 a2 a3 (0 : Int32) w
def U_X8_isLaid (fu : Nat) : Orc := fun as w => match as with
  | [.ref a0, .int a1, .int a2, .int a3] => if isO w a0 7 = true then M_X8_isLaid fu a0 a1 a2 a3 w else none
  | _ => none
def K_X8_isLaid (fu : Nat) (n : Nat) : Kont := fun pc ls st w => bif pc == 3 then ((xr ls 0).bind fun a0 => (xi ls 1).bind fun a1 => (xi ls 2).bind fun a2 => (xi ls 3).bind fun a3 => (xi ls 4).bind fun a4 => skN st ((F_X8_isLaid fu n).1 a0 a1 a2 a3 a4 w)) else bif pc == 75 then ((xr ls 0).bind fun a0 => (xi ls 2).bind fun a2 => (xi ls 3).bind fun a3 => (xi ls 4).bind fun a4 => skN st ((F_X8_isLaid fu n).2 a0 a2 a3 a4 w)) else none
set_option maxRecDepth 100000 in
set_option maxHeartbeats 4000000 in
theorem E_X8_isLaid_3 (fu : Nat) (n : Nat) (a0 : Nat) (a1 : Int32) (a2 : Int32) (a3 : Int32) (a4 : Int32) (w : XW) : (F_X8_isLaid fu (n + 1)).1 a0 a1 a2 a3 a4 w = ev T_X8_isLaid (op_X8_isLaid fu) [3, 75] (K_X8_isLaid fu n) 71 3 [(0, .ref a0), (1, .int a1), (2, .int a2), (3, .int a3), (4, .int a4)] [] w := by
  rfl
set_option maxRecDepth 100000 in
set_option maxHeartbeats 4000000 in
theorem E_X8_isLaid_75 (fu : Nat) (n : Nat) (a0 : Nat) (a2 : Int32) (a3 : Int32) (a4 : Int32) (w : XW) : (F_X8_isLaid fu (n + 1)).2 a0 a2 a3 a4 w = ev T_X8_isLaid (op_X8_isLaid fu) [3, 75] (K_X8_isLaid fu n) 71 75 [(0, .ref a0), (2, .int a2), (3, .int a3), (4, .int a4)] [] w := by
  rfl
set_option maxRecDepth 100000 in
set_option maxHeartbeats 4000000 in
theorem E_X8_isLaid (fu : Nat) (a0 : Nat) (a1 : Int32) (a2 : Int32) (a3 : Int32) (w : XW) : M_X8_isLaid fu a0 a1 a2 a3 w = ev T_X8_isLaid (op_X8_isLaid fu) [3, 75] (K_X8_isLaid fu fu) 71 0 (lv_args 0 [.ref a0, .int a1, .int a2, .int a3]) [] w := by
  rfl
theorem D_X8_isLaid (fu : Nat) : DS T_X8_isLaid (op_X8_isLaid fu) [3, 75] 71 (K_X8_isLaid fu) := by
  refine ⟨fun pc ls st w => c_none (b_none fun _ => b_none fun _ => b_none fun _ => b_none fun _ => b_none fun _ => skN_none rfl) (c_none (b_none fun _ => b_none fun _ => b_none fun _ => b_none fun _ => skN_none rfl) (rfl)), fun n pc ls st w o h => ?_⟩
  rcases c_some h with ⟨rfl, h⟩ | h
  · obtain ⟨a0, h0, h⟩ := some_of h; obtain ⟨a1, h1, h⟩ := some_of h; obtain ⟨a2, h2, h⟩ := some_of h; obtain ⟨a3, h3, h⟩ := some_of h; obtain ⟨a4, h4, h⟩ := some_of h;
    obtain ⟨e, g⟩ := skN_of h
    subst e
    exact ⟨[(0, .ref a0), (1, .int a1), (2, .int a2), (3, .int a3), (4, .int a4)], cons_all (xr_of h0) (cons_all (xi_of h1) (cons_all (xi_of h2) (cons_all (xi_of h3) (cons_all (xi_of h4) (nil_all))))), (E_X8_isLaid_3 fu n a0 a1 a2 a3 a4 w).symm.trans g⟩
  rcases c_some h with ⟨rfl, h⟩ | h
  · obtain ⟨a0, h0, h⟩ := some_of h; obtain ⟨a2, h2, h⟩ := some_of h; obtain ⟨a3, h3, h⟩ := some_of h; obtain ⟨a4, h4, h⟩ := some_of h;
    obtain ⟨e, g⟩ := skN_of h
    subst e
    exact ⟨[(0, .ref a0), (2, .int a2), (3, .int a3), (4, .int a4)], cons_all (xr_of h0) (cons_all (xi_of h2) (cons_all (xi_of h3) (cons_all (xi_of h4) (nil_all)))), (E_X8_isLaid_75 fu n a0 a2 a3 a4 w).symm.trans g⟩
  · cases h
theorem H_X8_isLaid (fu : Nat) : ∀ as w o, U_X8_isLaid fu as w = some o → ∃ a r, as = .ref a :: r ∧ r.length = 3 ∧ isO w a 7 = true := by
  intro as w o h
  unfold U_X8_isLaid at h
  split at h
  next =>
    split at h
    next hh => exact ⟨_, _, rfl, rfl, hh⟩
    next => cases h
  next => cases h
set_option maxRecDepth 100000 in
set_option maxHeartbeats 4000000 in
theorem S_X8_isLaid (fu : Nat) {l : Launch} {D : va_G} {cA : Nat → ClassId} {base b : Nat} : CS l D cA base b 5 y_X8_isLaid prog_10_method_59_code 5 (some .boolean) (U_X8_isLaid fu) ∧ OM (U_X8_isLaid fu) := by
  refine CS_of (d := 4) (y := y_X8_isLaid) (cc := prog_10_method_59_code) (nL := 5) (ret := (some .boolean)) (F := U_X8_isLaid fu) (fl := fl_BrookStonesModel) (nl := []) (kl := kl_BrookStonesModel) (k2 := k2_BrookStonesModel) (mv := [(177, 3, 0, (U_X8_layFar fu)), (174, 4, 1, (U_X8_isStride fu))]) (ms := [(191, 2, 1, (U_X8_has fu))]) (mi := []) (ini := false) hI_w hZ_w fl_BrookStonesModel_ok nil_all kl_BrookStonesModel_ok k2_BrookStonesModel_ok
    (cons_all (⟨⟨show (0 : Nat) ≠ 3 by decide, y_X8_layFar, prog_10_method_34_code, 6, (none), 4, "BrookStones", 7, TX8, 37, 2, (S_X8_layFar fu (l := l) (D := D) (cA := cA) (base := base) (b := b)).1, by decide, by decide, rfl, H_X8_layFar fu, rfl, mi_X8_layFar.1, mi_X8_layFar.2.1, mi_X8_layFar.2.2.1, mi_X8_layFar.2.2.2.1, mi_X8_layFar.2.2.2.2, Or.inl (tblG_of (i := 963) rfl rfl)⟩, (S_X8_layFar fu (l := l) (D := D) (cA := cA) (base := base) (b := b)).2⟩) (cons_all (⟨⟨show (1 : Nat) ≠ 3 by decide, y_X8_isStride, prog_10_method_33_code, 5, (some .boolean), 3, "BrookStones", 7, TX8, 37, 3, (S_X8_isStride fu (l := l) (D := D) (cA := cA) (base := base) (b := b)).1, by decide, by decide, rfl, H_X8_isStride fu, rfl, mi_X8_isStride.1, mi_X8_isStride.2.1, mi_X8_isStride.2.2.1, mi_X8_isStride.2.2.2.1, mi_X8_isStride.2.2.2.2, Or.inl (tblG_of (i := 976) rfl rfl)⟩, (S_X8_isStride fu (l := l) (D := D) (cA := cA) (base := base) (b := b)).2⟩) (nil_all)))
    (cons_all (⟨Or.inl ⟨show (1 : Nat) ≠ 3 by decide, y_X8_has, prog_10_method_6_code, 2, (some .boolean), 1, "BrookStones", (S_X8_has fu (l := l) (D := D) (cA := cA) (base := base) (b := b)).1, by decide, by decide, mi_X8_has.1, mi_X8_has.2.1, mi_X8_has.2.2.1, mi_X8_has.2.2.2, Or.inl (tblG_of (i := 1000) rfl rfl)⟩, (S_X8_has fu (l := l) (D := D) (cA := cA) (base := base) (b := b)).2⟩) (nil_all))
    (nil_all)
    (T := T_X8_isLaid) (by decide +kernel) (cut := [3, 75]) (N := 71) (D_X8_isLaid fu) (by decide +kernel) (fun h => absurd h (by decide)) (fun as w o h => ?_)
  unfold U_X8_isLaid at h
  split at h
  next =>
    split at h
    next => exact ⟨Nat.le_of_ble_eq_true rfl, fu, (E_X8_isLaid fu _ _ _ _ w).symm.trans h⟩
    next => cases h
  next => cases h
def T_X8_layWays : List (Nat × Instr) := [(0, .iconst 0), (1, .istore_n 2), (2, .iconst 0), (3, .istore_n 3), (4, .iload_n 3), (5, .aload_n 0), (6, .getfield 93), (9, .if_icmp .ge 30), (12, .iload_n 2), (13, .aload_n 0), (14, .getfield 29), (17, .iload_n 3), (18, .iaload), (19, .bipush (-9)), (21, .if_icmp .eq 9), (24, .iconst 1), (25, .iload_n 3), (26, .ishl), (27, .goto 4), (30, .iconst 0), (31, .ior), (32, .istore_n 2), (33, .iinc 3 1), (36, .goto (-32)), (39, .bipush 127), (41, .istore_n 3), (42, .iload_n 3), (43, .ifCond .lt 113), (46, .aload_n 0), (47, .getfield 81), (50, .iload_n 3), (51, .iload_n 3), (52, .iload_n 2), (53, .if_icmp .ne 7), (56, .iconst 1), (57, .goto 4), (60, .iconst 0), (61, .iastore), (62, .iconst 0), (63, .istore 4), (65, .iload 4), (67, .aload_n 0), (68, .getfield 93), (71, .if_icmp .ge 79), (74, .iload_n 3), (75, .iload_n 2), (76, .iand), (77, .iload_n 3), (78, .if_icmp .ne 72), (81, .iload_n 2), (82, .iload 4), (84, .invokestatic 191), (87, .ifCond .eq 57), (90, .iload_n 3), (91, .iload 4), (93, .invokestatic 191), (96, .ifCond .ne 48), (99, .aload_n 0), (100, .getfield 81), (103, .iload_n 3), (104, .iconst 1), (105, .iload 4), (107, .ishl), (108, .ior), (109, .iaload), (110, .ifCond .le 34), (113, .aload_n 0), (114, .iload_n 3), (115, .iload 4), (117, .iload_n 1), (118, .invokevirtual 235), (121, .ifCond .eq 23), (124, .aload_n 0), (125, .getfield 81), (128, .iload_n 3), (129, .dup2), (130, .iaload), (131, .aload_n 0), (132, .getfield 81), (135, .iload_n 3), (136, .iconst 1), (137, .iload 4), (139, .ishl), (140, .ior), (141, .iaload), (142, .iadd), (143, .iastore), (144, .iinc 4 1), (147, .goto (-82)), (150, .iinc 3 (-1)), (153, .goto (-111)), (156, .return_)]
def op_X8_layWays (fu : Nat) : Nat → Kont → XL → List Value → XW → Instr → Option XO := opK 5 (rzOf (none)) fl_BrookStonesModel [] kl_BrookStonesModel k2_BrookStonesModel [(235, 4, 1, (U_X8_isLaid fu))] [(191, 2, 1, (U_X8_has fu))] []
def F_X8_layWays (fu : Nat) : Nat → (Nat → Int32 → Int32 → Int32 → XW → Option XO) × (Nat → Int32 → Int32 → Int32 → XW → Option XO) × (Nat → Int32 → Int32 → Int32 → Int32 → XW → Option XO)
  | 0 => (fun _ _ _ _ _ => none, fun _ _ _ _ _ => none, fun _ _ _ _ _ _ => none)
  | n + 1 => ((fun a0 a1 a2 a3 w =>
    (gI w a0 7 5).bind fun x1 =>
    (if a3 < x1 then
      (gR w a0 7 11).bind fun r2 =>
      (aI w r2 a3).bind fun x3 =>
      (if x3 = (-9 : Int32) then
        (F_X8_layWays fu n).1 a0 a1 (a2 ||| (0 : Int32)) (a3 + (1 : Int32)) w
      else
        (F_X8_layWays fu n).1 a0 a1 (a2 ||| ((1 : Int32) <<< (a3 &&& 31))) (a3 + (1 : Int32)) w)
    else
      (F_X8_layWays fu n).2.1 a0 a1 a2 (127 : Int32) w)),
   (fun a0 a1 a2 a3 w =>
    (if a3 < 0 then
      some (none, w)
    else
      (gR w a0 7 36).bind fun r4 =>
      (if a3 = a2 then
        (sI w r4 a3 (1 : Int32)).bind fun w6 =>
        (F_X8_layWays fu n).2.2 a0 a1 a2 a3 (0 : Int32) w6
      else
        (sI w r4 a3 (0 : Int32)).bind fun w5 =>
        (F_X8_layWays fu n).2.2 a0 a1 a2 a3 (0 : Int32) w5))),
   (fun a0 a1 a2 a3 a4 w =>
    (gI w a0 7 5).bind fun x7 =>
    (if a4 < x7 then
      (if (a3 &&& a2) = a3 then
        cI (U_X8_has fu [.int a2, .int a4] w) fun x9 w8 =>
        (if x9 = 0 then
          (F_X8_layWays fu n).2.2 a0 a1 a2 a3 (a4 + (1 : Int32)) w8
        else
          cI (U_X8_has fu [.int a3, .int a4] w8) fun x11 w10 =>
          (if x11 = 0 then
            (gR w10 a0 7 36).bind fun r12 =>
            (aI w10 r12 (a3 ||| ((1 : Int32) <<< (a4 &&& 31)))).bind fun x13 =>
            (if 0 < x13 then
              cI (U_X8_isLaid fu [.ref a0, .int a3, .int a4, .int a1] w10) fun x15 w14 =>
              (if x15 = 0 then
                (F_X8_layWays fu n).2.2 a0 a1 a2 a3 (a4 + (1 : Int32)) w14
              else
                (gR w14 a0 7 36).bind fun r16 =>
                (aI w14 r16 a3).bind fun x17 =>
                (gR w14 a0 7 36).bind fun r18 =>
                (aI w14 r18 (a3 ||| ((1 : Int32) <<< (a4 &&& 31)))).bind fun x19 =>
                (sI w14 r16 a3 (x17 + x19)).bind fun w20 =>
                (F_X8_layWays fu n).2.2 a0 a1 a2 a3 (a4 + (1 : Int32)) w20)
            else
              (F_X8_layWays fu n).2.2 a0 a1 a2 a3 (a4 + (1 : Int32)) w10)
          else
            (F_X8_layWays fu n).2.2 a0 a1 a2 a3 (a4 + (1 : Int32)) w10))
      else
        (F_X8_layWays fu n).2.1 a0 a1 a2 (a3 + (-1 : Int32)) w)
    else
      (F_X8_layWays fu n).2.1 a0 a1 a2 (a3 + (-1 : Int32)) w)))
def M_X8_layWays (fu : Nat) (a0 : Nat) (a1 : Int32) (w : XW) : Option XO :=
  (F_X8_layWays fu fu).1 a0 a1 (0 : Int32) (0 : Int32) w
def U_X8_layWays (fu : Nat) : Orc := fun as w => match as with
  | [.ref a0, .int a1] => if isO w a0 7 = true then M_X8_layWays fu a0 a1 w else none
  | _ => none
def K_X8_layWays (fu : Nat) (n : Nat) : Kont := fun pc ls st w => bif pc == 4 then ((xr ls 0).bind fun a0 => (xi ls 1).bind fun a1 => (xi ls 2).bind fun a2 => (xi ls 3).bind fun a3 => skN st ((F_X8_layWays fu n).1 a0 a1 a2 a3 w)) else bif pc == 42 then ((xr ls 0).bind fun a0 => (xi ls 1).bind fun a1 => (xi ls 2).bind fun a2 => (xi ls 3).bind fun a3 => skN st ((F_X8_layWays fu n).2.1 a0 a1 a2 a3 w)) else bif pc == 65 then ((xr ls 0).bind fun a0 => (xi ls 1).bind fun a1 => (xi ls 2).bind fun a2 => (xi ls 3).bind fun a3 => (xi ls 4).bind fun a4 => skN st ((F_X8_layWays fu n).2.2 a0 a1 a2 a3 a4 w)) else none
set_option maxRecDepth 100000 in
set_option maxHeartbeats 4000000 in
theorem E_X8_layWays_4 (fu : Nat) (n : Nat) (a0 : Nat) (a1 : Int32) (a2 : Int32) (a3 : Int32) (w : XW) : (F_X8_layWays fu (n + 1)).1 a0 a1 a2 a3 w = ev T_X8_layWays (op_X8_layWays fu) [4, 42, 65] (K_X8_layWays fu n) 94 4 [(0, .ref a0), (1, .int a1), (2, .int a2), (3, .int a3)] [] w := by
  rfl
set_option maxRecDepth 100000 in
set_option maxHeartbeats 4000000 in
theorem E_X8_layWays_42 (fu : Nat) (n : Nat) (a0 : Nat) (a1 : Int32) (a2 : Int32) (a3 : Int32) (w : XW) : (F_X8_layWays fu (n + 1)).2.1 a0 a1 a2 a3 w = ev T_X8_layWays (op_X8_layWays fu) [4, 42, 65] (K_X8_layWays fu n) 94 42 [(0, .ref a0), (1, .int a1), (2, .int a2), (3, .int a3)] [] w := by
  rfl
set_option maxRecDepth 100000 in
set_option maxHeartbeats 4000000 in
theorem E_X8_layWays_65 (fu : Nat) (n : Nat) (a0 : Nat) (a1 : Int32) (a2 : Int32) (a3 : Int32) (a4 : Int32) (w : XW) : (F_X8_layWays fu (n + 1)).2.2 a0 a1 a2 a3 a4 w = ev T_X8_layWays (op_X8_layWays fu) [4, 42, 65] (K_X8_layWays fu n) 94 65 [(0, .ref a0), (1, .int a1), (2, .int a2), (3, .int a3), (4, .int a4)] [] w := by
  rfl
set_option maxRecDepth 100000 in
set_option maxHeartbeats 4000000 in
theorem E_X8_layWays (fu : Nat) (a0 : Nat) (a1 : Int32) (w : XW) : M_X8_layWays fu a0 a1 w = ev T_X8_layWays (op_X8_layWays fu) [4, 42, 65] (K_X8_layWays fu fu) 94 0 (lv_args 0 [.ref a0, .int a1]) [] w := by
  rfl
theorem D_X8_layWays (fu : Nat) : DS T_X8_layWays (op_X8_layWays fu) [4, 42, 65] 94 (K_X8_layWays fu) := by
  refine ⟨fun pc ls st w => c_none (b_none fun _ => b_none fun _ => b_none fun _ => b_none fun _ => skN_none rfl) (c_none (b_none fun _ => b_none fun _ => b_none fun _ => b_none fun _ => skN_none rfl) (c_none (b_none fun _ => b_none fun _ => b_none fun _ => b_none fun _ => b_none fun _ => skN_none rfl) (rfl))), fun n pc ls st w o h => ?_⟩
  rcases c_some h with ⟨rfl, h⟩ | h
  · obtain ⟨a0, h0, h⟩ := some_of h; obtain ⟨a1, h1, h⟩ := some_of h; obtain ⟨a2, h2, h⟩ := some_of h; obtain ⟨a3, h3, h⟩ := some_of h;
    obtain ⟨e, g⟩ := skN_of h
    subst e
    exact ⟨[(0, .ref a0), (1, .int a1), (2, .int a2), (3, .int a3)], cons_all (xr_of h0) (cons_all (xi_of h1) (cons_all (xi_of h2) (cons_all (xi_of h3) (nil_all)))), (E_X8_layWays_4 fu n a0 a1 a2 a3 w).symm.trans g⟩
  rcases c_some h with ⟨rfl, h⟩ | h
  · obtain ⟨a0, h0, h⟩ := some_of h; obtain ⟨a1, h1, h⟩ := some_of h; obtain ⟨a2, h2, h⟩ := some_of h; obtain ⟨a3, h3, h⟩ := some_of h;
    obtain ⟨e, g⟩ := skN_of h
    subst e
    exact ⟨[(0, .ref a0), (1, .int a1), (2, .int a2), (3, .int a3)], cons_all (xr_of h0) (cons_all (xi_of h1) (cons_all (xi_of h2) (cons_all (xi_of h3) (nil_all)))), (E_X8_layWays_42 fu n a0 a1 a2 a3 w).symm.trans g⟩
  rcases c_some h with ⟨rfl, h⟩ | h
  · obtain ⟨a0, h0, h⟩ := some_of h; obtain ⟨a1, h1, h⟩ := some_of h; obtain ⟨a2, h2, h⟩ := some_of h; obtain ⟨a3, h3, h⟩ := some_of h; obtain ⟨a4, h4, h⟩ := some_of h;
    obtain ⟨e, g⟩ := skN_of h
    subst e
    exact ⟨[(0, .ref a0), (1, .int a1), (2, .int a2), (3, .int a3), (4, .int a4)], cons_all (xr_of h0) (cons_all (xi_of h1) (cons_all (xi_of h2) (cons_all (xi_of h3) (cons_all (xi_of h4) (nil_all))))), (E_X8_layWays_65 fu n a0 a1 a2 a3 a4 w).symm.trans g⟩
  · cases h
theorem H_X8_layWays (fu : Nat) : ∀ as w o, U_X8_layWays fu as w = some o → ∃ a r, as = .ref a :: r ∧ r.length = 1 ∧ isO w a 7 = true := by
  intro as w o h
  unfold U_X8_layWays at h
  split at h
  next =>
    split at h
    next hh => exact ⟨_, _, rfl, rfl, hh⟩
    next => cases h
  next => cases h
set_option maxRecDepth 100000 in
set_option maxHeartbeats 4000000 in
theorem S_X8_layWays (fu : Nat) {l : Launch} {D : va_G} {cA : Nat → ClassId} {base b : Nat} : CS l D cA base b 6 y_X8_layWays prog_10_method_60_code 5 (none) (U_X8_layWays fu) ∧ OM (U_X8_layWays fu) := by
  refine CS_of (d := 5) (y := y_X8_layWays) (cc := prog_10_method_60_code) (nL := 5) (ret := (none)) (F := U_X8_layWays fu) (fl := fl_BrookStonesModel) (nl := []) (kl := kl_BrookStonesModel) (k2 := k2_BrookStonesModel) (mv := [(235, 4, 1, (U_X8_isLaid fu))]) (ms := [(191, 2, 1, (U_X8_has fu))]) (mi := []) (ini := false) hI_w hZ_w fl_BrookStonesModel_ok nil_all kl_BrookStonesModel_ok k2_BrookStonesModel_ok
    (cons_all (⟨⟨show (1 : Nat) ≠ 3 by decide, y_X8_isLaid, prog_10_method_59_code, 5, (some .boolean), 5, "BrookStones", 7, TX8, 37, 3, (S_X8_isLaid fu (l := l) (D := D) (cA := cA) (base := base) (b := b)).1, by decide, by decide, rfl, H_X8_isLaid fu, rfl, mi_X8_isLaid.1, mi_X8_isLaid.2.1, mi_X8_isLaid.2.2.1, mi_X8_isLaid.2.2.2.1, mi_X8_isLaid.2.2.2.2, Or.inl (tblG_of (i := 1077) rfl rfl)⟩, (S_X8_isLaid fu (l := l) (D := D) (cA := cA) (base := base) (b := b)).2⟩) (nil_all))
    (cons_all (⟨Or.inl ⟨show (1 : Nat) ≠ 3 by decide, y_X8_has, prog_10_method_6_code, 2, (some .boolean), 1, "BrookStones", (S_X8_has fu (l := l) (D := D) (cA := cA) (base := base) (b := b)).1, by decide, by decide, mi_X8_has.1, mi_X8_has.2.1, mi_X8_has.2.2.1, mi_X8_has.2.2.2, Or.inl (tblG_of (i := 1000) rfl rfl)⟩, (S_X8_has fu (l := l) (D := D) (cA := cA) (base := base) (b := b)).2⟩) (nil_all))
    (nil_all)
    (T := T_X8_layWays) (by decide +kernel) (cut := [4, 42, 65]) (N := 94) (D_X8_layWays fu) (by decide +kernel) (fun h => absurd h (by decide)) (fun as w o h => ?_)
  unfold U_X8_layWays at h
  split at h
  next =>
    split at h
    next => exact ⟨Nat.le_of_ble_eq_true rfl, fu, (E_X8_layWays fu _ _ w).symm.trans h⟩
    next => cases h
  next => cases h
def T_X8_orders : List (Nat × Instr) := [(0, .iload_n 1), (1, .iconst 1), (2, .bipush 9), (4, .invokestatic 89), (7, .ifCond .ne 6), (10, .bipush (-2)), (12, .ireturn), (13, .aload_n 0), (14, .getfield 93), (17, .ifCond .ne 6), (20, .bipush (-3)), (22, .ireturn), (23, .aload_n 0), (24, .iload_n 1), (25, .invokevirtual 238), (28, .aload_n 0), (29, .getfield 81), (32, .iconst 0), (33, .iaload), (34, .ireturn)]
def op_X8_orders (fu : Nat) : Nat → Kont → XL → List Value → XW → Instr → Option XO := opK 2 (rzOf (some .int)) fl_BrookStonesModel [] kl_BrookStonesModel k2_BrookStonesModel [(238, 2, 0, (U_X8_layWays fu))] [(89, 3, 1, (U_X8_within fu))] []
def M_X8_orders (fu : Nat) (a0 : Nat) (a1 : Int32) (w : XW) : Option XO :=
  cI (U_X8_within fu [.int a1, .int (1 : Int32), .int (9 : Int32)] w) fun x2 w1 =>
  (if x2 = 0 then
    some (some (.int (-2 : Int32)), w1)
  else
    (gI w1 a0 7 5).bind fun x3 =>
    (if x3 = 0 then
      some (some (.int (-3 : Int32)), w1)
    else
      cV (U_X8_layWays fu [.ref a0, .int a1] w1) fun w4 =>
      (gR w4 a0 7 36).bind fun r5 =>
      (aI w4 r5 (0 : Int32)).bind fun x6 =>
      some (some (.int x6), w4)))
def U_X8_orders (fu : Nat) : Orc := fun as w => match as with
  | [.ref a0, .int a1] => if isO w a0 7 = true then M_X8_orders fu a0 a1 w else none
  | _ => none
def K_X8_orders (fu : Nat) (n : Nat) : Kont := fun pc ls st w => none
set_option maxRecDepth 100000 in
set_option maxHeartbeats 4000000 in
theorem E_X8_orders (fu : Nat) (a0 : Nat) (a1 : Int32) (w : XW) : M_X8_orders fu a0 a1 w = ev T_X8_orders (op_X8_orders fu) [] (K_X8_orders fu fu) 22 0 (lv_args 0 [.ref a0, .int a1]) [] w := by
  rfl
theorem D_X8_orders (fu : Nat) : DS T_X8_orders (op_X8_orders fu) [] 22 (K_X8_orders fu) := by
  refine ⟨fun pc ls st w => rfl, fun n pc ls st w o h => ?_⟩
  cases h
theorem H_X8_orders (fu : Nat) : ∀ as w o, U_X8_orders fu as w = some o → ∃ a r, as = .ref a :: r ∧ r.length = 1 ∧ isO w a 7 = true := by
  intro as w o h
  unfold U_X8_orders at h
  split at h
  next =>
    split at h
    next hh => exact ⟨_, _, rfl, rfl, hh⟩
    next => cases h
  next => cases h
set_option maxRecDepth 100000 in
set_option maxHeartbeats 4000000 in
theorem S_X8_orders (fu : Nat) {l : Launch} {D : va_G} {cA : Nat → ClassId} {base b : Nat} : CS l D cA base b 7 y_X8_orders prog_10_method_61_code 2 (some .int) (U_X8_orders fu) ∧ OM (U_X8_orders fu) := by
  refine CS_of (d := 6) (y := y_X8_orders) (cc := prog_10_method_61_code) (nL := 2) (ret := (some .int)) (F := U_X8_orders fu) (fl := fl_BrookStonesModel) (nl := []) (kl := kl_BrookStonesModel) (k2 := k2_BrookStonesModel) (mv := [(238, 2, 0, (U_X8_layWays fu))]) (ms := [(89, 3, 1, (U_X8_within fu))]) (mi := []) (ini := false) hI_w hZ_w fl_BrookStonesModel_ok nil_all kl_BrookStonesModel_ok k2_BrookStonesModel_ok
    (cons_all (⟨⟨show (0 : Nat) ≠ 3 by decide, y_X8_layWays, prog_10_method_60_code, 5, (none), 6, "BrookStones", 7, TX8, 37, 1, (S_X8_layWays fu (l := l) (D := D) (cA := cA) (base := base) (b := b)).1, by decide, by decide, rfl, H_X8_layWays fu, rfl, mi_X8_layWays.1, mi_X8_layWays.2.1, mi_X8_layWays.2.2.1, mi_X8_layWays.2.2.2.1, mi_X8_layWays.2.2.2.2, Or.inl (tblG_of (i := 1073) rfl rfl)⟩, (S_X8_layWays fu (l := l) (D := D) (cA := cA) (base := base) (b := b)).2⟩) (nil_all))
    (cons_all (⟨Or.inl ⟨show (1 : Nat) ≠ 3 by decide, y_X8_within, prog_10_method_5_code, 3, (some .boolean), 1, "BrookStones", (S_X8_within fu (l := l) (D := D) (cA := cA) (base := base) (b := b)).1, by decide, by decide, mi_X8_within.1, mi_X8_within.2.1, mi_X8_within.2.2.1, mi_X8_within.2.2.2, Or.inl (tblG_of (i := 861) rfl rfl)⟩, (S_X8_within fu (l := l) (D := D) (cA := cA) (base := base) (b := b)).2⟩) (nil_all))
    (nil_all)
    (T := T_X8_orders) (by decide +kernel) (cut := []) (N := 22) (D_X8_orders fu) (by decide +kernel) (fun h => absurd h (by decide)) (fun as w o h => ?_)
  unfold U_X8_orders at h
  split at h
  next =>
    split at h
    next => exact ⟨Nat.le_of_ble_eq_true rfl, fu, (E_X8_orders fu _ _ w).symm.trans h⟩
    next => cases h
  next => cases h
def T_X2_firstThatGoesOn : List (Nat × Instr) := [(0, .aload_n 0), (1, .aload_n 1), (2, .iload_n 2), (3, .iload_n 3), (4, .invokevirtual 29), (7, .istore 4), (9, .iconst 0), (10, .istore 5), (12, .iload 5), (14, .aload_n 1), (15, .getfield 32), (18, .if_icmp .ge 36), (21, .iload 4), (23, .iload 5), (25, .invokestatic 35), (28, .ifCond .eq 20), (31, .aload_n 0), (32, .getfield 9), (35, .iload_n 2), (36, .iconst 1), (37, .iload 5), (39, .ishl), (40, .ior), (41, .iaload), (42, .ifCond .le 6), (45, .iload 5), (47, .ireturn), (48, .iinc 5 1), (51, .goto (-39)), (54, .bipush (-9)), (56, .ireturn)]
def op_X2_firstThatGoesOn (fu : Nat) : Nat → Kont → XL → List Value → XW → Instr → Option XO := opK 6 (rzOf (some .int)) fl_BrookStones_Layings [] [] [] [(29, 4, 1, (U_X2_layable fu))] [(35, 2, 1, (U_X7_has fu))] []
def F_X2_firstThatGoesOn (fu : Nat) : Nat → (Nat → Nat → Int32 → Int32 → Int32 → XW → Option XO)
  | 0 => fun _ _ _ _ _ _ => none
  | n + 1 => (fun a0 a1 a2 a4 a5 w =>
    (gI w a1 0 8).bind fun x1 =>
    (if a5 < x1 then
      cI (U_X7_has fu [.int a4, .int a5] w) fun x3 w2 =>
      (if x3 = 0 then
        (F_X2_firstThatGoesOn fu n) a0 a1 a2 a4 (a5 + (1 : Int32)) w2
      else
        (gR w2 a0 2 0).bind fun r4 =>
        (aI w2 r4 (a2 ||| ((1 : Int32) <<< (a5 &&& 31)))).bind fun x5 =>
        (if 0 < x5 then
          some (some (.int a5), w2)
        else
          (F_X2_firstThatGoesOn fu n) a0 a1 a2 a4 (a5 + (1 : Int32)) w2))
    else
      some (some (.int (-9 : Int32)), w)))
def M_X2_firstThatGoesOn (fu : Nat) (a0 : Nat) (a1 : Nat) (a2 : Int32) (a3 : Int32) (w : XW) : Option XO :=
  cI (U_X2_layable fu [.ref a0, .ref a1, .int a2, .int a3] w) fun x7 w6 =>
  (F_X2_firstThatGoesOn fu fu) a0 a1 a2 x7 (0 : Int32) w6
def U_X2_firstThatGoesOn (fu : Nat) : Orc := fun as w => match as with
  | [.ref a0, .ref a1, .int a2, .int a3] => if isO w a0 2 = true then M_X2_firstThatGoesOn fu a0 a1 a2 a3 w else none
  | _ => none
def K_X2_firstThatGoesOn (fu : Nat) (n : Nat) : Kont := fun pc ls st w => bif pc == 12 then ((xr ls 0).bind fun a0 => (xr ls 1).bind fun a1 => (xi ls 2).bind fun a2 => (xi ls 4).bind fun a4 => (xi ls 5).bind fun a5 => skN st ((F_X2_firstThatGoesOn fu n) a0 a1 a2 a4 a5 w)) else none
set_option maxRecDepth 100000 in
set_option maxHeartbeats 4000000 in
theorem E_X2_firstThatGoesOn_12 (fu : Nat) (n : Nat) (a0 : Nat) (a1 : Nat) (a2 : Int32) (a4 : Int32) (a5 : Int32) (w : XW) : (F_X2_firstThatGoesOn fu (n + 1)) a0 a1 a2 a4 a5 w = ev T_X2_firstThatGoesOn (op_X2_firstThatGoesOn fu) [12] (K_X2_firstThatGoesOn fu n) 33 12 [(0, .ref a0), (1, .ref a1), (2, .int a2), (4, .int a4), (5, .int a5)] [] w := by
  rfl
set_option maxRecDepth 100000 in
set_option maxHeartbeats 4000000 in
theorem E_X2_firstThatGoesOn (fu : Nat) (a0 : Nat) (a1 : Nat) (a2 : Int32) (a3 : Int32) (w : XW) : M_X2_firstThatGoesOn fu a0 a1 a2 a3 w = ev T_X2_firstThatGoesOn (op_X2_firstThatGoesOn fu) [12] (K_X2_firstThatGoesOn fu fu) 33 0 (lv_args 0 [.ref a0, .ref a1, .int a2, .int a3]) [] w := by
  rfl
theorem D_X2_firstThatGoesOn (fu : Nat) : DS T_X2_firstThatGoesOn (op_X2_firstThatGoesOn fu) [12] 33 (K_X2_firstThatGoesOn fu) := by
  refine ⟨fun pc ls st w => c_none (b_none fun _ => b_none fun _ => b_none fun _ => b_none fun _ => b_none fun _ => skN_none rfl) (rfl), fun n pc ls st w o h => ?_⟩
  rcases c_some h with ⟨rfl, h⟩ | h
  · obtain ⟨a0, h0, h⟩ := some_of h; obtain ⟨a1, h1, h⟩ := some_of h; obtain ⟨a2, h2, h⟩ := some_of h; obtain ⟨a4, h4, h⟩ := some_of h; obtain ⟨a5, h5, h⟩ := some_of h;
    obtain ⟨e, g⟩ := skN_of h
    subst e
    exact ⟨[(0, .ref a0), (1, .ref a1), (2, .int a2), (4, .int a4), (5, .int a5)], cons_all (xr_of h0) (cons_all (xr_of h1) (cons_all (xi_of h2) (cons_all (xi_of h4) (cons_all (xi_of h5) (nil_all))))), (E_X2_firstThatGoesOn_12 fu n a0 a1 a2 a4 a5 w).symm.trans g⟩
  · cases h
theorem H_X2_firstThatGoesOn (fu : Nat) : ∀ as w o, U_X2_firstThatGoesOn fu as w = some o → ∃ a r, as = .ref a :: r ∧ r.length = 3 ∧ isO w a 2 = true := by
  intro as w o h
  unfold U_X2_firstThatGoesOn at h
  split at h
  next =>
    split at h
    next hh => exact ⟨_, _, rfl, rfl, hh⟩
    next => cases h
  next => cases h
set_option maxRecDepth 100000 in
set_option maxHeartbeats 4000000 in
theorem S_X2_firstThatGoesOn (fu : Nat) {l : Launch} {D : va_G} {cA : Nat → ClassId} {base b : Nat} : CS l D cA base b 4 y_X2_firstThatGoesOn prog_4_method_6_code 6 (some .int) (U_X2_firstThatGoesOn fu) ∧ OM (U_X2_firstThatGoesOn fu) := by
  refine CS_of (d := 3) (y := y_X2_firstThatGoesOn) (cc := prog_4_method_6_code) (nL := 6) (ret := (some .int)) (F := U_X2_firstThatGoesOn fu) (fl := fl_BrookStones_Layings) (nl := []) (kl := []) (k2 := []) (mv := [(29, 4, 1, (U_X2_layable fu))]) (ms := [(35, 2, 1, (U_X7_has fu))]) (mi := []) (ini := false) hI_w hZ_w fl_BrookStones_Layings_ok nil_all nil_all nil_all
    (cons_all (⟨⟨show (1 : Nat) ≠ 3 by decide, y_X2_layable, prog_4_method_4_code, 9, (some .int), 3, "BrookStones", 2, TX2, 2, 3, (S_X2_layable fu (l := l) (D := D) (cA := cA) (base := base) (b := b)).1, by decide, by decide, rfl, H_X2_layable fu, rfl, mi_X2_layable.1, mi_X2_layable.2.1, mi_X2_layable.2.2.1, mi_X2_layable.2.2.2.1, mi_X2_layable.2.2.2.2, Or.inl (tblG_of (i := 605) rfl rfl)⟩, (S_X2_layable fu (l := l) (D := D) (cA := cA) (base := base) (b := b)).2⟩) (nil_all))
    (cons_all (⟨Or.inl ⟨show (1 : Nat) ≠ 3 by decide, y_X7_has, prog_1_method_47_code, 2, (some .boolean), 1, "BrookStones", (S_X7_has fu (l := l) (D := D) (cA := cA) (base := base) (b := b)).1, by decide, by decide, mi_X7_has.1, mi_X7_has.2.1, mi_X7_has.2.2.1, mi_X7_has.2.2.2, Or.inr (tblN_of (i := 612) rfl rfl)⟩, (S_X7_has fu (l := l) (D := D) (cA := cA) (base := base) (b := b)).2⟩) (nil_all))
    (nil_all)
    (T := T_X2_firstThatGoesOn) (by decide +kernel) (cut := [12]) (N := 33) (D_X2_firstThatGoesOn fu) (by decide +kernel) (fun h => absurd h (by decide)) (fun as w o h => ?_)
  unfold U_X2_firstThatGoesOn at h
  split at h
  next =>
    split at h
    next => exact ⟨Nat.le_of_ble_eq_true rfl, fu, (E_X2_firstThatGoesOn fu _ _ _ _ w).symm.trans h⟩
    next => cases h
  next => cases h
def T_X2_cellOfFirst : List (Nat × Instr) := [(0, .aload_n 0), (1, .aload_n 1), (2, .iload_n 2), (3, .invokevirtual 53), (6, .ifCond .eq 14), (9, .iload_n 3), (10, .aload_n 0), (11, .getfield 21), (14, .invokestatic 57), (17, .if_icmp .lt 6), (20, .bipush (-9)), (22, .ireturn), (23, .iconst 0), (24, .istore 4), (26, .bipush (-9)), (28, .istore 5), (30, .iconst 0), (31, .istore 6), (33, .iload 6), (35, .iload_n 3), (36, .if_icmp .gt 38), (39, .aload_n 0), (40, .aload_n 1), (41, .iload 4), (43, .iload_n 2), (44, .invokevirtual 62), (47, .istore 5), (49, .iload 5), (51, .bipush (-9)), (53, .if_icmp .ne 6), (56, .bipush (-9)), (58, .ireturn), (59, .iload 4), (61, .iconst 1), (62, .iload 5), (64, .ishl), (65, .ior), (66, .istore 4), (68, .iinc 6 1), (71, .goto (-38)), (74, .iload 5), (76, .ireturn)]
def op_X2_cellOfFirst (fu : Nat) : Nat → Kont → XL → List Value → XW → Instr → Option XO := opK 7 (rzOf (some .int)) fl_BrookStones_Layings [] [] [] [(53, 3, 1, (U_X2_count fu)), (62, 4, 1, (U_X2_firstThatGoesOn fu))] [(57, 1, 1, (U_J6_bitCount_0f7a4 fu))] []
def F_X2_cellOfFirst (fu : Nat) : Nat → (Nat → Nat → Int32 → Int32 → Int32 → Int32 → Int32 → XW → Option XO)
  | 0 => fun _ _ _ _ _ _ _ _ => none
  | n + 1 => (fun a0 a1 a2 a3 a4 a5 a6 w =>
    (if a3 < a6 then
      some (some (.int a5), w)
    else
      cI (U_X2_firstThatGoesOn fu [.ref a0, .ref a1, .int a4, .int a2] w) fun x2 w1 =>
      (if x2 = (-9 : Int32) then
        some (some (.int (-9 : Int32)), w1)
      else
        (F_X2_cellOfFirst fu n) a0 a1 a2 a3 (a4 ||| ((1 : Int32) <<< (x2 &&& 31))) x2 (a6 + (1 : Int32)) w1)))
def M_X2_cellOfFirst (fu : Nat) (a0 : Nat) (a1 : Nat) (a2 : Int32) (a3 : Int32) (w : XW) : Option XO :=
  cI (U_X2_count fu [.ref a0, .ref a1, .int a2] w) fun x4 w3 =>
  (if x4 = 0 then
    some (some (.int (-9 : Int32)), w3)
  else
    (gI w3 a0 2 1).bind fun x5 =>
    cI (U_J6_bitCount_0f7a4 fu [.int x5] w3) fun x7 w6 =>
    (if a3 < x7 then
      (F_X2_cellOfFirst fu fu) a0 a1 a2 a3 (0 : Int32) (-9 : Int32) (0 : Int32) w6
    else
      some (some (.int (-9 : Int32)), w6)))
def U_X2_cellOfFirst (fu : Nat) : Orc := fun as w => match as with
  | [.ref a0, .ref a1, .int a2, .int a3] => if isO w a0 2 = true then M_X2_cellOfFirst fu a0 a1 a2 a3 w else none
  | _ => none
def K_X2_cellOfFirst (fu : Nat) (n : Nat) : Kont := fun pc ls st w => bif pc == 33 then ((xr ls 0).bind fun a0 => (xr ls 1).bind fun a1 => (xi ls 2).bind fun a2 => (xi ls 3).bind fun a3 => (xi ls 4).bind fun a4 => (xi ls 5).bind fun a5 => (xi ls 6).bind fun a6 => skN st ((F_X2_cellOfFirst fu n) a0 a1 a2 a3 a4 a5 a6 w)) else none
set_option maxRecDepth 100000 in
set_option maxHeartbeats 4000000 in
theorem E_X2_cellOfFirst_33 (fu : Nat) (n : Nat) (a0 : Nat) (a1 : Nat) (a2 : Int32) (a3 : Int32) (a4 : Int32) (a5 : Int32) (a6 : Int32) (w : XW) : (F_X2_cellOfFirst fu (n + 1)) a0 a1 a2 a3 a4 a5 a6 w = ev T_X2_cellOfFirst (op_X2_cellOfFirst fu) [33] (K_X2_cellOfFirst fu n) 44 33 [(0, .ref a0), (1, .ref a1), (2, .int a2), (3, .int a3), (4, .int a4), (5, .int a5), (6, .int a6)] [] w := by
  rfl
set_option maxRecDepth 100000 in
set_option maxHeartbeats 4000000 in
theorem E_X2_cellOfFirst (fu : Nat) (a0 : Nat) (a1 : Nat) (a2 : Int32) (a3 : Int32) (w : XW) : M_X2_cellOfFirst fu a0 a1 a2 a3 w = ev T_X2_cellOfFirst (op_X2_cellOfFirst fu) [33] (K_X2_cellOfFirst fu fu) 44 0 (lv_args 0 [.ref a0, .ref a1, .int a2, .int a3]) [] w := by
  rfl
theorem D_X2_cellOfFirst (fu : Nat) : DS T_X2_cellOfFirst (op_X2_cellOfFirst fu) [33] 44 (K_X2_cellOfFirst fu) := by
  refine ⟨fun pc ls st w => c_none (b_none fun _ => b_none fun _ => b_none fun _ => b_none fun _ => b_none fun _ => b_none fun _ => b_none fun _ => skN_none rfl) (rfl), fun n pc ls st w o h => ?_⟩
  rcases c_some h with ⟨rfl, h⟩ | h
  · obtain ⟨a0, h0, h⟩ := some_of h; obtain ⟨a1, h1, h⟩ := some_of h; obtain ⟨a2, h2, h⟩ := some_of h; obtain ⟨a3, h3, h⟩ := some_of h; obtain ⟨a4, h4, h⟩ := some_of h; obtain ⟨a5, h5, h⟩ := some_of h; obtain ⟨a6, h6, h⟩ := some_of h;
    obtain ⟨e, g⟩ := skN_of h
    subst e
    exact ⟨[(0, .ref a0), (1, .ref a1), (2, .int a2), (3, .int a3), (4, .int a4), (5, .int a5), (6, .int a6)], cons_all (xr_of h0) (cons_all (xr_of h1) (cons_all (xi_of h2) (cons_all (xi_of h3) (cons_all (xi_of h4) (cons_all (xi_of h5) (cons_all (xi_of h6) (nil_all))))))), (E_X2_cellOfFirst_33 fu n a0 a1 a2 a3 a4 a5 a6 w).symm.trans g⟩
  · cases h
theorem H_X2_cellOfFirst (fu : Nat) : ∀ as w o, U_X2_cellOfFirst fu as w = some o → ∃ a r, as = .ref a :: r ∧ r.length = 3 ∧ isO w a 2 = true := by
  intro as w o h
  unfold U_X2_cellOfFirst at h
  split at h
  next =>
    split at h
    next hh => exact ⟨_, _, rfl, rfl, hh⟩
    next => cases h
  next => cases h
set_option maxRecDepth 100000 in
set_option maxHeartbeats 4000000 in
theorem S_X2_cellOfFirst (fu : Nat) {l : Launch} {D : va_G} {cA : Nat → ClassId} {base b : Nat} : CS l D cA base b 6 y_X2_cellOfFirst prog_4_method_5_code 7 (some .int) (U_X2_cellOfFirst fu) ∧ OM (U_X2_cellOfFirst fu) := by
  refine CS_of (d := 5) (y := y_X2_cellOfFirst) (cc := prog_4_method_5_code) (nL := 7) (ret := (some .int)) (F := U_X2_cellOfFirst fu) (fl := fl_BrookStones_Layings) (nl := []) (kl := []) (k2 := []) (mv := [(53, 3, 1, (U_X2_count fu)), (62, 4, 1, (U_X2_firstThatGoesOn fu))]) (ms := [(57, 1, 1, (U_J6_bitCount_0f7a4 fu))]) (mi := []) (ini := false) hI_w hZ_w fl_BrookStones_Layings_ok nil_all nil_all nil_all
    (cons_all (⟨⟨show (1 : Nat) ≠ 3 by decide, y_X2_count, prog_4_method_2_code, 4, (some .int), 5, "BrookStones", 2, TX2, 2, 2, (S_X2_count fu (l := l) (D := D) (cA := cA) (base := base) (b := b)).1, by decide, by decide, rfl, H_X2_count fu, rfl, mi_X2_count.1, mi_X2_count.2.1, mi_X2_count.2.2.1, mi_X2_count.2.2.2.1, mi_X2_count.2.2.2.2, Or.inl (tblG_of (i := 621) rfl rfl)⟩, (S_X2_count fu (l := l) (D := D) (cA := cA) (base := base) (b := b)).2⟩) (cons_all (⟨⟨show (1 : Nat) ≠ 3 by decide, y_X2_firstThatGoesOn, prog_4_method_6_code, 6, (some .int), 4, "BrookStones", 2, TX2, 2, 3, (S_X2_firstThatGoesOn fu (l := l) (D := D) (cA := cA) (base := base) (b := b)).1, by decide, by decide, rfl, H_X2_firstThatGoesOn fu, rfl, mi_X2_firstThatGoesOn.1, mi_X2_firstThatGoesOn.2.1, mi_X2_firstThatGoesOn.2.2.1, mi_X2_firstThatGoesOn.2.2.2.1, mi_X2_firstThatGoesOn.2.2.2.2, Or.inl (tblG_of (i := 623) rfl rfl)⟩, (S_X2_firstThatGoesOn fu (l := l) (D := D) (cA := cA) (base := base) (b := b)).2⟩) (nil_all)))
    (cons_all (⟨Or.inl ⟨show (1 : Nat) ≠ 3 by decide, y_J6_bitCount_0f7a4, prog_11_method_49_code, 1, (some .int), 1, "BrookStones", (S_J6_bitCount_0f7a4 fu (l := l) (D := D) (cA := cA) (base := base) (b := b)).1, by decide, by decide, mi_J6_bitCount_0f7a4.1, mi_J6_bitCount_0f7a4.2.1, mi_J6_bitCount_0f7a4.2.2.1, mi_J6_bitCount_0f7a4.2.2.2, Or.inl (tblG_of (i := 622) rfl rfl)⟩, (S_J6_bitCount_0f7a4 fu (l := l) (D := D) (cA := cA) (base := base) (b := b)).2⟩) (nil_all))
    (nil_all)
    (T := T_X2_cellOfFirst) (by decide +kernel) (cut := [33]) (N := 44) (D_X2_cellOfFirst fu) (by decide +kernel) (fun h => absurd h (by decide)) (fun as w o h => ?_)
  unfold U_X2_cellOfFirst at h
  split at h
  next =>
    split at h
    next => exact ⟨Nat.le_of_ble_eq_true rfl, fu, (E_X2_cellOfFirst fu _ _ _ _ w).symm.trans h⟩
    next => cases h
  next => cases h
def T_X7_order : List (Nat × Instr) := [(0, .iload_n 1), (1, .iconst 1), (2, .bipush 9), (4, .invokestatic 105), (7, .ifCond .ne 6), (10, .bipush (-2)), (12, .ireturn), (13, .iload_n 2), (14, .ifCond .ge 5), (17, .iconst (-1)), (18, .ireturn), (19, .aload_n 0), (20, .getfield 12), (23, .invokevirtual 109), (26, .ifCond .ne 6), (29, .bipush (-3)), (31, .ireturn), (32, .aload_n 0), (33, .getfield 49), (36, .aload_n 0), (37, .getfield 12), (40, .iload_n 1), (41, .iload_n 2), (42, .invokevirtual 241), (45, .ireturn)]
def op_X7_order (fu : Nat) : Nat → Kont → XL → List Value → XW → Instr → Option XO := opK 3 (rzOf (some .int)) fl_BrookStones nl_BrookStones [] k2_BrookStones [(109, 1, 1, (U_X0_isThere fu)), (241, 4, 1, (U_X2_cellOfFirst fu))] [(105, 3, 1, (U_X7_isWithin fu))] []
def M_X7_order (fu : Nat) (a0 : Nat) (a1 : Int32) (a2 : Int32) (w : XW) : Option XO :=
  cI (U_X7_isWithin fu [.int a1, .int (1 : Int32), .int (9 : Int32)] w) fun x2 w1 =>
  (if x2 = 0 then
    some (some (.int (-2 : Int32)), w1)
  else
    (if a2 < 0 then
      some (some (.int (-1 : Int32)), w1)
    else
      (gR w1 a0 6 0).bind fun r3 =>
      cI (U_X0_isThere fu [.ref r3] w1) fun x5 w4 =>
      (if x5 = 0 then
        some (some (.int (-3 : Int32)), w4)
      else
        (gR w4 a0 6 5).bind fun r6 =>
        (gR w4 a0 6 0).bind fun r7 =>
        cI (U_X2_cellOfFirst fu [.ref r6, .ref r7, .int a1, .int a2] w4) fun x9 w8 =>
        some (some (.int x9), w8))))
def U_X7_order (fu : Nat) : Orc := fun as w => match as with
  | [.ref a0, .int a1, .int a2] => if isO w a0 6 = true then M_X7_order fu a0 a1 a2 w else none
  | _ => none
def K_X7_order (fu : Nat) (n : Nat) : Kont := fun pc ls st w => none
set_option maxRecDepth 100000 in
set_option maxHeartbeats 4000000 in
theorem E_X7_order (fu : Nat) (a0 : Nat) (a1 : Int32) (a2 : Int32) (w : XW) : M_X7_order fu a0 a1 a2 w = ev T_X7_order (op_X7_order fu) [] (K_X7_order fu fu) 27 0 (lv_args 0 [.ref a0, .int a1, .int a2]) [] w := by
  rfl
theorem D_X7_order (fu : Nat) : DS T_X7_order (op_X7_order fu) [] 27 (K_X7_order fu) := by
  refine ⟨fun pc ls st w => rfl, fun n pc ls st w o h => ?_⟩
  cases h
theorem H_X7_order (fu : Nat) : ∀ as w o, U_X7_order fu as w = some o → ∃ a r, as = .ref a :: r ∧ r.length = 2 ∧ isO w a 6 = true := by
  intro as w o h
  unfold U_X7_order at h
  split at h
  next =>
    split at h
    next hh => exact ⟨_, _, rfl, rfl, hh⟩
    next => cases h
  next => cases h
set_option maxRecDepth 100000 in
set_option maxHeartbeats 4000000 in
theorem S_X7_order (fu : Nat) {l : Launch} {D : va_G} {cA : Nat → ClassId} {base b : Nat} : CS l D cA base b 7 y_X7_order prog_1_method_24_code 3 (some .int) (U_X7_order fu) ∧ OM (U_X7_order fu) := by
  refine CS_of (d := 6) (y := y_X7_order) (cc := prog_1_method_24_code) (nL := 3) (ret := (some .int)) (F := U_X7_order fu) (fl := fl_BrookStones) (nl := nl_BrookStones) (kl := []) (k2 := k2_BrookStones) (mv := [(109, 1, 1, (U_X0_isThere fu)), (241, 4, 1, (U_X2_cellOfFirst fu))]) (ms := [(105, 3, 1, (U_X7_isWithin fu))]) (mi := []) (ini := false) hI_w hZ_w fl_BrookStones_ok nl_BrookStones_ok nil_all k2_BrookStones_ok
    (cons_all (⟨⟨show (1 : Nat) ≠ 3 by decide, y_X0_isThere, prog_2_method_3_code, 1, (some .boolean), 1, "BrookStones", 0, TX0, 15, 0, (S_X0_isThere fu (l := l) (D := D) (cA := cA) (base := base) (b := b)).1, by decide, by decide, rfl, H_X0_isThere fu, rfl, mi_X0_isThere.1, mi_X0_isThere.2.1, mi_X0_isThere.2.2.1, mi_X0_isThere.2.2.2.1, mi_X0_isThere.2.2.2.2, Or.inr (tblN_of (i := 334) rfl rfl)⟩, (S_X0_isThere fu (l := l) (D := D) (cA := cA) (base := base) (b := b)).2⟩) (cons_all (⟨⟨show (1 : Nat) ≠ 3 by decide, y_X2_cellOfFirst, prog_4_method_5_code, 7, (some .int), 6, "BrookStones", 2, TX2, 2, 3, (S_X2_cellOfFirst fu (l := l) (D := D) (cA := cA) (base := base) (b := b)).1, by decide, by decide, rfl, H_X2_cellOfFirst fu, rfl, mi_X2_cellOfFirst.1, mi_X2_cellOfFirst.2.1, mi_X2_cellOfFirst.2.2.1, mi_X2_cellOfFirst.2.2.2.1, mi_X2_cellOfFirst.2.2.2.2, Or.inr (tblN_of (i := 617) rfl rfl)⟩, (S_X2_cellOfFirst fu (l := l) (D := D) (cA := cA) (base := base) (b := b)).2⟩) (nil_all)))
    (cons_all (⟨Or.inl ⟨show (1 : Nat) ≠ 3 by decide, y_X7_isWithin, prog_1_method_46_code, 3, (some .boolean), 1, "BrookStones", (S_X7_isWithin fu (l := l) (D := D) (cA := cA) (base := base) (b := b)).1, by decide, by decide, mi_X7_isWithin.1, mi_X7_isWithin.2.1, mi_X7_isWithin.2.2.1, mi_X7_isWithin.2.2.2, Or.inl (tblG_of (i := 333) rfl rfl)⟩, (S_X7_isWithin fu (l := l) (D := D) (cA := cA) (base := base) (b := b)).2⟩) (nil_all))
    (nil_all)
    (T := T_X7_order) (by decide +kernel) (cut := []) (N := 27) (D_X7_order fu) (by decide +kernel) (fun h => absurd h (by decide)) (fun as w o h => ?_)
  unfold U_X7_order at h
  split at h
  next =>
    split at h
    next => exact ⟨Nat.le_of_ble_eq_true rfl, fu, (E_X7_order fu _ _ _ w).symm.trans h⟩
    next => cases h
  next => cases h
def T_X8_order : List (Nat × Instr) := [(0, .iload_n 1), (1, .iconst 1), (2, .bipush 9), (4, .invokestatic 89), (7, .ifCond .ne 6), (10, .bipush (-2)), (12, .ireturn), (13, .iload_n 2), (14, .ifCond .ge 5), (17, .iconst (-1)), (18, .ireturn), (19, .aload_n 0), (20, .getfield 93), (23, .ifCond .ne 6), (26, .bipush (-3)), (28, .ireturn), (29, .aload_n 0), (30, .iload_n 1), (31, .invokevirtual 238), (34, .iconst 0), (35, .istore_n 3), (36, .iconst 0), (37, .istore 4), (39, .aload_n 0), (40, .getfield 81), (43, .iload_n 3), (44, .iaload), (45, .ifCond .le 107), (48, .iload 4), (50, .iload_n 2), (51, .if_icmp .gt 101), (54, .iconst 0), (55, .istore 5), (57, .iload 5), (59, .aload_n 0), (60, .getfield 93), (63, .if_icmp .ge 55), (66, .aload_n 0), (67, .getfield 29), (70, .iload 5), (72, .iaload), (73, .bipush (-9)), (75, .if_icmp .eq 37), (78, .iload_n 3), (79, .iload 5), (81, .invokestatic 191), (84, .ifCond .ne 28), (87, .aload_n 0), (88, .getfield 81), (91, .iload_n 3), (92, .iconst 1), (93, .iload 5), (95, .ishl), (96, .ior), (97, .iaload), (98, .ifCond .eq 14), (101, .aload_n 0), (102, .iload_n 3), (103, .iload 5), (105, .iload_n 1), (106, .invokevirtual 235), (109, .ifCond .ne 9), (112, .iinc 5 1), (115, .goto (-58)), (118, .iload 5), (120, .aload_n 0), (121, .getfield 93), (124, .if_icmp .ne 6), (127, .bipush (-9)), (129, .ireturn), (130, .iload 4), (132, .iload_n 2), (133, .if_icmp .ne 6), (136, .iload 5), (138, .ireturn), (139, .iload_n 3), (140, .iconst 1), (141, .iload 5), (143, .ishl), (144, .ior), (145, .istore_n 3), (146, .iinc 4 1), (149, .goto (-110)), (152, .bipush (-9)), (154, .ireturn)]
def op_X8_order (fu : Nat) : Nat → Kont → XL → List Value → XW → Instr → Option XO := opK 6 (rzOf (some .int)) fl_BrookStonesModel [] kl_BrookStonesModel k2_BrookStonesModel [(238, 2, 0, (U_X8_layWays fu)), (235, 4, 1, (U_X8_isLaid fu))] [(89, 3, 1, (U_X8_within fu)), (191, 2, 1, (U_X8_has fu))] []
def F_X8_order (fu : Nat) : Nat → (Nat → Int32 → Int32 → Int32 → Int32 → XW → Option XO) × (Nat → Int32 → Int32 → Int32 → Int32 → Int32 → XW → Option XO) × (Nat → Int32 → Int32 → Int32 → Int32 → Int32 → XW → Option XO)
  | 0 => (fun _ _ _ _ _ _ => none, fun _ _ _ _ _ _ _ => none, fun _ _ _ _ _ _ _ => none)
  | n + 1 => ((fun a0 a1 a2 a3 a4 w =>
    (gR w a0 7 36).bind fun r1 =>
    (aI w r1 a3).bind fun x2 =>
    (if 0 < x2 then
      (if a2 < a4 then
        some (some (.int (-9 : Int32)), w)
      else
        (F_X8_order fu n).2.1 a0 a1 a2 a3 a4 (0 : Int32) w)
    else
      some (some (.int (-9 : Int32)), w))),
   (fun a0 a1 a2 a3 a4 a5 w =>
    (gI w a0 7 5).bind fun x3 =>
    (if a5 < x3 then
      (gR w a0 7 11).bind fun r4 =>
      (aI w r4 a5).bind fun x5 =>
      (if x5 = (-9 : Int32) then
        (F_X8_order fu n).2.1 a0 a1 a2 a3 a4 (a5 + (1 : Int32)) w
      else
        cI (U_X8_has fu [.int a3, .int a5] w) fun x7 w6 =>
        (if x7 = 0 then
          (gR w6 a0 7 36).bind fun r8 =>
          (aI w6 r8 (a3 ||| ((1 : Int32) <<< (a5 &&& 31)))).bind fun x9 =>
          (if x9 = 0 then
            (F_X8_order fu n).2.1 a0 a1 a2 a3 a4 (a5 + (1 : Int32)) w6
          else
            cI (U_X8_isLaid fu [.ref a0, .int a3, .int a5, .int a1] w6) fun x11 w10 =>
            (if x11 = 0 then
              (F_X8_order fu n).2.1 a0 a1 a2 a3 a4 (a5 + (1 : Int32)) w10
            else
              (F_X8_order fu n).2.2 a0 a1 a2 a3 a4 a5 w10))
        else
          (F_X8_order fu n).2.1 a0 a1 a2 a3 a4 (a5 + (1 : Int32)) w6))
    else
      (F_X8_order fu n).2.2 a0 a1 a2 a3 a4 a5 w)),
   (fun a0 a1 a2 a3 a4 a5 w =>
    (gI w a0 7 5).bind fun x12 =>
    (if a5 = x12 then
      some (some (.int (-9 : Int32)), w)
    else
      (if a4 = a2 then
        some (some (.int a5), w)
      else
        (F_X8_order fu n).1 a0 a1 a2 (a3 ||| ((1 : Int32) <<< (a5 &&& 31))) (a4 + (1 : Int32)) w))))
def M_X8_order (fu : Nat) (a0 : Nat) (a1 : Int32) (a2 : Int32) (w : XW) : Option XO :=
  cI (U_X8_within fu [.int a1, .int (1 : Int32), .int (9 : Int32)] w) fun x14 w13 =>
  (if x14 = 0 then
    some (some (.int (-2 : Int32)), w13)
  else
    (if a2 < 0 then
      some (some (.int (-1 : Int32)), w13)
    else
      (gI w13 a0 7 5).bind fun x15 =>
      (if x15 = 0 then
        some (some (.int (-3 : Int32)), w13)
      else
        cV (U_X8_layWays fu [.ref a0, .int a1] w13) fun w16 =>
        (F_X8_order fu fu).1 a0 a1 a2 (0 : Int32) (0 : Int32) w16)))
def U_X8_order (fu : Nat) : Orc := fun as w => match as with
  | [.ref a0, .int a1, .int a2] => if isO w a0 7 = true then M_X8_order fu a0 a1 a2 w else none
  | _ => none
def K_X8_order (fu : Nat) (n : Nat) : Kont := fun pc ls st w => bif pc == 39 then ((xr ls 0).bind fun a0 => (xi ls 1).bind fun a1 => (xi ls 2).bind fun a2 => (xi ls 3).bind fun a3 => (xi ls 4).bind fun a4 => skN st ((F_X8_order fu n).1 a0 a1 a2 a3 a4 w)) else bif pc == 57 then ((xr ls 0).bind fun a0 => (xi ls 1).bind fun a1 => (xi ls 2).bind fun a2 => (xi ls 3).bind fun a3 => (xi ls 4).bind fun a4 => (xi ls 5).bind fun a5 => skN st ((F_X8_order fu n).2.1 a0 a1 a2 a3 a4 a5 w)) else bif pc == 118 then ((xr ls 0).bind fun a0 => (xi ls 1).bind fun a1 => (xi ls 2).bind fun a2 => (xi ls 3).bind fun a3 => (xi ls 4).bind fun a4 => (xi ls 5).bind fun a5 => skN st ((F_X8_order fu n).2.2 a0 a1 a2 a3 a4 a5 w)) else none
set_option maxRecDepth 100000 in
set_option maxHeartbeats 4000000 in
theorem E_X8_order_39 (fu : Nat) (n : Nat) (a0 : Nat) (a1 : Int32) (a2 : Int32) (a3 : Int32) (a4 : Int32) (w : XW) : (F_X8_order fu (n + 1)).1 a0 a1 a2 a3 a4 w = ev T_X8_order (op_X8_order fu) [39, 57, 118] (K_X8_order fu n) 87 39 [(0, .ref a0), (1, .int a1), (2, .int a2), (3, .int a3), (4, .int a4)] [] w := by
  rfl
set_option maxRecDepth 100000 in
set_option maxHeartbeats 4000000 in
theorem E_X8_order_57 (fu : Nat) (n : Nat) (a0 : Nat) (a1 : Int32) (a2 : Int32) (a3 : Int32) (a4 : Int32) (a5 : Int32) (w : XW) : (F_X8_order fu (n + 1)).2.1 a0 a1 a2 a3 a4 a5 w = ev T_X8_order (op_X8_order fu) [39, 57, 118] (K_X8_order fu n) 87 57 [(0, .ref a0), (1, .int a1), (2, .int a2), (3, .int a3), (4, .int a4), (5, .int a5)] [] w := by
  rfl
set_option maxRecDepth 100000 in
set_option maxHeartbeats 4000000 in
theorem E_X8_order_118 (fu : Nat) (n : Nat) (a0 : Nat) (a1 : Int32) (a2 : Int32) (a3 : Int32) (a4 : Int32) (a5 : Int32) (w : XW) : (F_X8_order fu (n + 1)).2.2 a0 a1 a2 a3 a4 a5 w = ev T_X8_order (op_X8_order fu) [39, 57, 118] (K_X8_order fu n) 87 118 [(0, .ref a0), (1, .int a1), (2, .int a2), (3, .int a3), (4, .int a4), (5, .int a5)] [] w := by
  rfl
set_option maxRecDepth 100000 in
set_option maxHeartbeats 4000000 in
theorem E_X8_order (fu : Nat) (a0 : Nat) (a1 : Int32) (a2 : Int32) (w : XW) : M_X8_order fu a0 a1 a2 w = ev T_X8_order (op_X8_order fu) [39, 57, 118] (K_X8_order fu fu) 87 0 (lv_args 0 [.ref a0, .int a1, .int a2]) [] w := by
  rfl
theorem D_X8_order (fu : Nat) : DS T_X8_order (op_X8_order fu) [39, 57, 118] 87 (K_X8_order fu) := by
  refine ⟨fun pc ls st w => c_none (b_none fun _ => b_none fun _ => b_none fun _ => b_none fun _ => b_none fun _ => skN_none rfl) (c_none (b_none fun _ => b_none fun _ => b_none fun _ => b_none fun _ => b_none fun _ => b_none fun _ => skN_none rfl) (c_none (b_none fun _ => b_none fun _ => b_none fun _ => b_none fun _ => b_none fun _ => b_none fun _ => skN_none rfl) (rfl))), fun n pc ls st w o h => ?_⟩
  rcases c_some h with ⟨rfl, h⟩ | h
  · obtain ⟨a0, h0, h⟩ := some_of h; obtain ⟨a1, h1, h⟩ := some_of h; obtain ⟨a2, h2, h⟩ := some_of h; obtain ⟨a3, h3, h⟩ := some_of h; obtain ⟨a4, h4, h⟩ := some_of h;
    obtain ⟨e, g⟩ := skN_of h
    subst e
    exact ⟨[(0, .ref a0), (1, .int a1), (2, .int a2), (3, .int a3), (4, .int a4)], cons_all (xr_of h0) (cons_all (xi_of h1) (cons_all (xi_of h2) (cons_all (xi_of h3) (cons_all (xi_of h4) (nil_all))))), (E_X8_order_39 fu n a0 a1 a2 a3 a4 w).symm.trans g⟩
  rcases c_some h with ⟨rfl, h⟩ | h
  · obtain ⟨a0, h0, h⟩ := some_of h; obtain ⟨a1, h1, h⟩ := some_of h; obtain ⟨a2, h2, h⟩ := some_of h; obtain ⟨a3, h3, h⟩ := some_of h; obtain ⟨a4, h4, h⟩ := some_of h; obtain ⟨a5, h5, h⟩ := some_of h;
    obtain ⟨e, g⟩ := skN_of h
    subst e
    exact ⟨[(0, .ref a0), (1, .int a1), (2, .int a2), (3, .int a3), (4, .int a4), (5, .int a5)], cons_all (xr_of h0) (cons_all (xi_of h1) (cons_all (xi_of h2) (cons_all (xi_of h3) (cons_all (xi_of h4) (cons_all (xi_of h5) (nil_all)))))), (E_X8_order_57 fu n a0 a1 a2 a3 a4 a5 w).symm.trans g⟩
  rcases c_some h with ⟨rfl, h⟩ | h
  · obtain ⟨a0, h0, h⟩ := some_of h; obtain ⟨a1, h1, h⟩ := some_of h; obtain ⟨a2, h2, h⟩ := some_of h; obtain ⟨a3, h3, h⟩ := some_of h; obtain ⟨a4, h4, h⟩ := some_of h; obtain ⟨a5, h5, h⟩ := some_of h;
    obtain ⟨e, g⟩ := skN_of h
    subst e
    exact ⟨[(0, .ref a0), (1, .int a1), (2, .int a2), (3, .int a3), (4, .int a4), (5, .int a5)], cons_all (xr_of h0) (cons_all (xi_of h1) (cons_all (xi_of h2) (cons_all (xi_of h3) (cons_all (xi_of h4) (cons_all (xi_of h5) (nil_all)))))), (E_X8_order_118 fu n a0 a1 a2 a3 a4 a5 w).symm.trans g⟩
  · cases h
theorem H_X8_order (fu : Nat) : ∀ as w o, U_X8_order fu as w = some o → ∃ a r, as = .ref a :: r ∧ r.length = 2 ∧ isO w a 7 = true := by
  intro as w o h
  unfold U_X8_order at h
  split at h
  next =>
    split at h
    next hh => exact ⟨_, _, rfl, rfl, hh⟩
    next => cases h
  next => cases h
set_option maxRecDepth 100000 in
set_option maxHeartbeats 4000000 in
theorem S_X8_order (fu : Nat) {l : Launch} {D : va_G} {cA : Nat → ClassId} {base b : Nat} : CS l D cA base b 7 y_X8_order prog_10_method_62_code 6 (some .int) (U_X8_order fu) ∧ OM (U_X8_order fu) := by
  refine CS_of (d := 6) (y := y_X8_order) (cc := prog_10_method_62_code) (nL := 6) (ret := (some .int)) (F := U_X8_order fu) (fl := fl_BrookStonesModel) (nl := []) (kl := kl_BrookStonesModel) (k2 := k2_BrookStonesModel) (mv := [(238, 2, 0, (U_X8_layWays fu)), (235, 4, 1, (U_X8_isLaid fu))]) (ms := [(89, 3, 1, (U_X8_within fu)), (191, 2, 1, (U_X8_has fu))]) (mi := []) (ini := false) hI_w hZ_w fl_BrookStonesModel_ok nil_all kl_BrookStonesModel_ok k2_BrookStonesModel_ok
    (cons_all (⟨⟨show (0 : Nat) ≠ 3 by decide, y_X8_layWays, prog_10_method_60_code, 5, (none), 6, "BrookStones", 7, TX8, 37, 1, (S_X8_layWays fu (l := l) (D := D) (cA := cA) (base := base) (b := b)).1, by decide, by decide, rfl, H_X8_layWays fu, rfl, mi_X8_layWays.1, mi_X8_layWays.2.1, mi_X8_layWays.2.2.1, mi_X8_layWays.2.2.2.1, mi_X8_layWays.2.2.2.2, Or.inl (tblG_of (i := 1073) rfl rfl)⟩, (S_X8_layWays fu (l := l) (D := D) (cA := cA) (base := base) (b := b)).2⟩) (cons_all (⟨⟨show (1 : Nat) ≠ 3 by decide, y_X8_isLaid, prog_10_method_59_code, 5, (some .boolean), 5, "BrookStones", 7, TX8, 37, 3, (S_X8_isLaid fu (l := l) (D := D) (cA := cA) (base := base) (b := b)).1, by decide, by decide, rfl, H_X8_isLaid fu, rfl, mi_X8_isLaid.1, mi_X8_isLaid.2.1, mi_X8_isLaid.2.2.1, mi_X8_isLaid.2.2.2.1, mi_X8_isLaid.2.2.2.2, Or.inl (tblG_of (i := 1077) rfl rfl)⟩, (S_X8_isLaid fu (l := l) (D := D) (cA := cA) (base := base) (b := b)).2⟩) (nil_all)))
    (cons_all (⟨Or.inl ⟨show (1 : Nat) ≠ 3 by decide, y_X8_within, prog_10_method_5_code, 3, (some .boolean), 1, "BrookStones", (S_X8_within fu (l := l) (D := D) (cA := cA) (base := base) (b := b)).1, by decide, by decide, mi_X8_within.1, mi_X8_within.2.1, mi_X8_within.2.2.1, mi_X8_within.2.2.2, Or.inl (tblG_of (i := 861) rfl rfl)⟩, (S_X8_within fu (l := l) (D := D) (cA := cA) (base := base) (b := b)).2⟩) (cons_all (⟨Or.inl ⟨show (1 : Nat) ≠ 3 by decide, y_X8_has, prog_10_method_6_code, 2, (some .boolean), 1, "BrookStones", (S_X8_has fu (l := l) (D := D) (cA := cA) (base := base) (b := b)).1, by decide, by decide, mi_X8_has.1, mi_X8_has.2.1, mi_X8_has.2.2.1, mi_X8_has.2.2.2, Or.inl (tblG_of (i := 1000) rfl rfl)⟩, (S_X8_has fu (l := l) (D := D) (cA := cA) (base := base) (b := b)).2⟩) (nil_all)))
    (nil_all)
    (T := T_X8_order) (by decide +kernel) (cut := [39, 57, 118]) (N := 87) (D_X8_order fu) (by decide +kernel) (fun h => absurd h (by decide)) (fun as w o h => ?_)
  unfold U_X8_order at h
  split at h
  next =>
    split at h
    next => exact ⟨Nat.le_of_ble_eq_true rfl, fu, (E_X8_order fu _ _ _ w).symm.trans h⟩
    next => cases h
  next => cases h
def T_X7_fits : List (Nat × Instr) := [(0, .iload_n 1), (1, .iconst (-1)), (2, .aload_n 0), (3, .getfield 12), (6, .getfield 74), (9, .ishl), (10, .iand), (11, .ifCond .ne 13), (14, .iload_n 2), (15, .iconst 0), (16, .bipush 30), (18, .invokestatic 105), (21, .ifCond .ne 6), (24, .bipush (-2)), (26, .ireturn), (27, .aload_n 0), (28, .getfield 12), (31, .invokevirtual 109), (34, .ifCond .ne 6), (37, .bipush (-3)), (39, .ireturn), (40, .iconst 0), (41, .istore_n 3), (42, .iconst 0), (43, .istore 4), (45, .iload 4), (47, .bipush 10), (49, .if_icmp .ge 48), (52, .aload_n 0), (53, .getfield 35), (56, .aload_n 0), (57, .getfield 12), (60, .aload_n 0), (61, .getfield 12), (64, .getfield 91), (67, .iload 4), (69, .iload_n 2), (70, .invokevirtual 203), (73, .aload_n 0), (74, .getfield 35), (77, .getfield 207), (80, .iload_n 1), (81, .if_icmp .ne 10), (84, .iload_n 3), (85, .iconst 1), (86, .iload 4), (88, .ishl), (89, .ior), (90, .istore_n 3), (91, .iinc 4 1), (94, .goto (-49)), (97, .iload_n 3), (98, .ireturn)]
def op_X7_fits (fu : Nat) : Nat → Kont → XL → List Value → XW → Instr → Option XO := opK 5 (rzOf (some .int)) fl_BrookStones nl_BrookStones [] k2_BrookStones [(109, 1, 1, (U_X0_isThere fu)), (203, 5, 0, (U_X1_run fu))] [(105, 3, 1, (U_X7_isWithin fu))] []
def F_X7_fits (fu : Nat) : Nat → (Nat → Int32 → Int32 → Int32 → Int32 → XW → Option XO)
  | 0 => fun _ _ _ _ _ _ => none
  | n + 1 => (fun a0 a1 a2 a3 a4 w =>
    (if a4 < (10 : Int32) then
      (gR w a0 6 3).bind fun r1 =>
      (gR w a0 6 0).bind fun r2 =>
      (gR w a0 6 0).bind fun r3 =>
      (gI w r3 0 10).bind fun x4 =>
      cV (U_X1_run fu [.ref r1, .ref r2, .int x4, .int a4, .int a2] w) fun w5 =>
      (gR w5 a0 6 3).bind fun r6 =>
      (gI w5 r6 1 2).bind fun x7 =>
      (if x7 = a1 then
        (F_X7_fits fu n) a0 a1 a2 (a3 ||| ((1 : Int32) <<< (a4 &&& 31))) (a4 + (1 : Int32)) w5
      else
        (F_X7_fits fu n) a0 a1 a2 a3 (a4 + (1 : Int32)) w5)
    else
      some (some (.int a3), w)))
def M_X7_fits (fu : Nat) (a0 : Nat) (a1 : Int32) (a2 : Int32) (w : XW) : Option XO :=
  (gR w a0 6 0).bind fun r8 =>
  (gI w r8 0 8).bind fun x9 =>
  (if (a1 &&& ((-1 : Int32) <<< (x9 &&& 31))) = 0 then
    cI (U_X7_isWithin fu [.int a2, .int (0 : Int32), .int (30 : Int32)] w) fun x11 w10 =>
    (if x11 = 0 then
      some (some (.int (-2 : Int32)), w10)
    else
      (gR w10 a0 6 0).bind fun r12 =>
      cI (U_X0_isThere fu [.ref r12] w10) fun x14 w13 =>
      (if x14 = 0 then
        some (some (.int (-3 : Int32)), w13)
      else
        (F_X7_fits fu fu) a0 a1 a2 (0 : Int32) (0 : Int32) w13))
  else
    some (some (.int (-2 : Int32)), w))
def U_X7_fits (fu : Nat) : Orc := fun as w => match as with
  | [.ref a0, .int a1, .int a2] => if isO w a0 6 = true then M_X7_fits fu a0 a1 a2 w else none
  | _ => none
def K_X7_fits (fu : Nat) (n : Nat) : Kont := fun pc ls st w => bif pc == 45 then ((xr ls 0).bind fun a0 => (xi ls 1).bind fun a1 => (xi ls 2).bind fun a2 => (xi ls 3).bind fun a3 => (xi ls 4).bind fun a4 => skN st ((F_X7_fits fu n) a0 a1 a2 a3 a4 w)) else none
set_option maxRecDepth 100000 in
set_option maxHeartbeats 4000000 in
theorem E_X7_fits_45 (fu : Nat) (n : Nat) (a0 : Nat) (a1 : Int32) (a2 : Int32) (a3 : Int32) (a4 : Int32) (w : XW) : (F_X7_fits fu (n + 1)) a0 a1 a2 a3 a4 w = ev T_X7_fits (op_X7_fits fu) [45] (K_X7_fits fu n) 55 45 [(0, .ref a0), (1, .int a1), (2, .int a2), (3, .int a3), (4, .int a4)] [] w := by
  rfl
set_option maxRecDepth 100000 in
set_option maxHeartbeats 4000000 in
theorem E_X7_fits (fu : Nat) (a0 : Nat) (a1 : Int32) (a2 : Int32) (w : XW) : M_X7_fits fu a0 a1 a2 w = ev T_X7_fits (op_X7_fits fu) [45] (K_X7_fits fu fu) 55 0 (lv_args 0 [.ref a0, .int a1, .int a2]) [] w := by
  rfl
theorem D_X7_fits (fu : Nat) : DS T_X7_fits (op_X7_fits fu) [45] 55 (K_X7_fits fu) := by
  refine ⟨fun pc ls st w => c_none (b_none fun _ => b_none fun _ => b_none fun _ => b_none fun _ => b_none fun _ => skN_none rfl) (rfl), fun n pc ls st w o h => ?_⟩
  rcases c_some h with ⟨rfl, h⟩ | h
  · obtain ⟨a0, h0, h⟩ := some_of h; obtain ⟨a1, h1, h⟩ := some_of h; obtain ⟨a2, h2, h⟩ := some_of h; obtain ⟨a3, h3, h⟩ := some_of h; obtain ⟨a4, h4, h⟩ := some_of h;
    obtain ⟨e, g⟩ := skN_of h
    subst e
    exact ⟨[(0, .ref a0), (1, .int a1), (2, .int a2), (3, .int a3), (4, .int a4)], cons_all (xr_of h0) (cons_all (xi_of h1) (cons_all (xi_of h2) (cons_all (xi_of h3) (cons_all (xi_of h4) (nil_all))))), (E_X7_fits_45 fu n a0 a1 a2 a3 a4 w).symm.trans g⟩
  · cases h
theorem H_X7_fits (fu : Nat) : ∀ as w o, U_X7_fits fu as w = some o → ∃ a r, as = .ref a :: r ∧ r.length = 2 ∧ isO w a 6 = true := by
  intro as w o h
  unfold U_X7_fits at h
  split at h
  next =>
    split at h
    next hh => exact ⟨_, _, rfl, rfl, hh⟩
    next => cases h
  next => cases h
set_option maxRecDepth 100000 in
set_option maxHeartbeats 4000000 in
theorem S_X7_fits (fu : Nat) {l : Launch} {D : va_G} {cA : Nat → ClassId} {base b : Nat} : CS l D cA base b 4 y_X7_fits prog_1_method_25_code 5 (some .int) (U_X7_fits fu) ∧ OM (U_X7_fits fu) := by
  refine CS_of (d := 3) (y := y_X7_fits) (cc := prog_1_method_25_code) (nL := 5) (ret := (some .int)) (F := U_X7_fits fu) (fl := fl_BrookStones) (nl := nl_BrookStones) (kl := []) (k2 := k2_BrookStones) (mv := [(109, 1, 1, (U_X0_isThere fu)), (203, 5, 0, (U_X1_run fu))]) (ms := [(105, 3, 1, (U_X7_isWithin fu))]) (mi := []) (ini := false) hI_w hZ_w fl_BrookStones_ok nl_BrookStones_ok nil_all k2_BrookStones_ok
    (cons_all (⟨⟨show (1 : Nat) ≠ 3 by decide, y_X0_isThere, prog_2_method_3_code, 1, (some .boolean), 1, "BrookStones", 0, TX0, 15, 0, (S_X0_isThere fu (l := l) (D := D) (cA := cA) (base := base) (b := b)).1, by decide, by decide, rfl, H_X0_isThere fu, rfl, mi_X0_isThere.1, mi_X0_isThere.2.1, mi_X0_isThere.2.2.1, mi_X0_isThere.2.2.2.1, mi_X0_isThere.2.2.2.2, Or.inr (tblN_of (i := 334) rfl rfl)⟩, (S_X0_isThere fu (l := l) (D := D) (cA := cA) (base := base) (b := b)).2⟩) (cons_all (⟨⟨show (0 : Nat) ≠ 3 by decide, y_X1_run, prog_3_method_2_code, 7, (none), 3, "BrookStones", 1, TX1, 3, 4, (S_X1_run fu (l := l) (D := D) (cA := cA) (base := base) (b := b)).1, by decide, by decide, rfl, H_X1_run fu, rfl, mi_X1_run.1, mi_X1_run.2.1, mi_X1_run.2.2.1, mi_X1_run.2.2.2.1, mi_X1_run.2.2.2.2, Or.inr (tblN_of (i := 475) rfl rfl)⟩, (S_X1_run fu (l := l) (D := D) (cA := cA) (base := base) (b := b)).2⟩) (nil_all)))
    (cons_all (⟨Or.inl ⟨show (1 : Nat) ≠ 3 by decide, y_X7_isWithin, prog_1_method_46_code, 3, (some .boolean), 1, "BrookStones", (S_X7_isWithin fu (l := l) (D := D) (cA := cA) (base := base) (b := b)).1, by decide, by decide, mi_X7_isWithin.1, mi_X7_isWithin.2.1, mi_X7_isWithin.2.2.1, mi_X7_isWithin.2.2.2, Or.inl (tblG_of (i := 333) rfl rfl)⟩, (S_X7_isWithin fu (l := l) (D := D) (cA := cA) (base := base) (b := b)).2⟩) (nil_all))
    (nil_all)
    (T := T_X7_fits) (by decide +kernel) (cut := [45]) (N := 55) (D_X7_fits fu) (by decide +kernel) (fun h => absurd h (by decide)) (fun as w o h => ?_)
  unfold U_X7_fits at h
  split at h
  next =>
    split at h
    next => exact ⟨Nat.le_of_ble_eq_true rfl, fu, (E_X7_fits fu _ _ _ w).symm.trans h⟩
    next => cases h
  next => cases h
