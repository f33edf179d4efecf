def T_X8_guards : List (Nat × Instr) := [(0, .iconst 0), (1, .istore_n 1), (2, .iconst 0), (3, .istore_n 2), (4, .iload_n 2), (5, .aload_n 0), (6, .getfield 93), (9, .if_icmp .ge 26), (12, .iload_n 1), (13, .aload_n 0), (14, .getfield 25), (17, .iload_n 2), (18, .baload), (19, .ifCond .eq 7), (22, .iconst 1), (23, .goto 4), (26, .iconst 0), (27, .iadd), (28, .istore_n 1), (29, .iinc 2 1), (32, .goto (-28)), (35, .iload_n 1), (36, .ireturn)]
def op_X8_guards (fu : Nat) : Nat → Kont → XL → List Value → XW → Instr → Option XO := opK 3 (rzOf (some .int)) fl_BrookStonesModel [] kl_BrookStonesModel k2_BrookStonesModel [] [] []
def F_X8_guards (fu : Nat) : Nat → (Nat → Int32 → Int32 → XW → Option XO)
  | 0 => fun _ _ _ _ => none
  | n + 1 => (fun a0 a1 a2 w =>
    (gI w a0 7 5).bind fun x1 =>
    (if a2 < x1 then
      (gR w a0 7 10).bind fun r2 =>
      (aZ w r2 a2).bind fun x3 =>
      (if x3 = 0 then
        (F_X8_guards fu n) a0 (a1 + (0 : Int32)) (a2 + (1 : Int32)) w
      else
        (F_X8_guards fu n) a0 (a1 + (1 : Int32)) (a2 + (1 : Int32)) w)
    else
      some (some (.int a1), w)))
def M_X8_guards (fu : Nat) (a0 : Nat) (w : XW) : Option XO :=
  (F_X8_guards fu fu) a0 (0 : Int32) (0 : Int32) w
def U_X8_guards (fu : Nat) : Orc := fun as w => match as with
  | [.ref a0] => if isO w a0 7 = true then M_X8_guards fu a0 w else none
  | _ => none
def K_X8_guards (fu : Nat) (n : Nat) : Kont := fun pc ls st w => bif pc == 4 then ((xr ls 0).bind fun a0 => (xi ls 1).bind fun a1 => (xi ls 2).bind fun a2 => skN st ((F_X8_guards fu n) a0 a1 a2 w)) else none
set_option maxRecDepth 100000 in
set_option maxHeartbeats 4000000 in
theorem E_X8_guards_4 (fu : Nat) (n : Nat) (a0 : Nat) (a1 : Int32) (a2 : Int32) (w : XW) : (F_X8_guards fu (n + 1)) a0 a1 a2 w = ev T_X8_guards (op_X8_guards fu) [4] (K_X8_guards fu n) 25 4 [(0, .ref a0), (1, .int a1), (2, .int a2)] [] w := by
  rfl
set_option maxRecDepth 100000 in
set_option maxHeartbeats 4000000 in
theorem E_X8_guards (fu : Nat) (a0 : Nat) (w : XW) : M_X8_guards fu a0 w = ev T_X8_guards (op_X8_guards fu) [4] (K_X8_guards fu fu) 25 0 (lv_args 0 [.ref a0]) [] w := by
  rfl
theorem D_X8_guards (fu : Nat) : DS T_X8_guards (op_X8_guards fu) [4] 25 (K_X8_guards fu) := by
  refine ⟨fun pc ls st w => c_none (b_none fun _ => b_none fun _ => b_none fun _ => skN_none rfl) (rfl), fun n pc ls st w o h => ?_⟩
  rcases c_some h with ⟨rfl, h⟩ | h
  · obtain ⟨a0, h0, h⟩ := some_of h; obtain ⟨a1, h1, h⟩ := some_of h; obtain ⟨a2, h2, h⟩ := some_of h;
    obtain ⟨e, g⟩ := skN_of h
    subst e
    exact ⟨[(0, .ref a0), (1, .int a1), (2, .int a2)], cons_all (xr_of h0) (cons_all (xi_of h1) (cons_all (xi_of h2) (nil_all))), (E_X8_guards_4 fu n a0 a1 a2 w).symm.trans g⟩
  · cases h
theorem H_X8_guards (fu : Nat) : ∀ as w o, U_X8_guards fu as w = some o → ∃ a r, as = .ref a :: r ∧ r.length = 0 ∧ isO w a 7 = true := by
  intro as w o h
  unfold U_X8_guards at h
  split at h
  next =>
    split at h
    next hh => exact ⟨_, _, rfl, rfl, hh⟩
    next => cases h
  next => cases h
set_option maxRecDepth 100000 in
set_option maxHeartbeats 4000000 in
theorem S_X8_guards (fu : Nat) {l : Launch} {D : va_G} {cA : Nat → ClassId} {base b : Nat} : CS l D cA base b 1 y_X8_guards prog_10_method_78_code 3 (some .int) (U_X8_guards fu) ∧ OM (U_X8_guards fu) := by
  refine CS_of (d := 0) (y := y_X8_guards) (cc := prog_10_method_78_code) (nL := 3) (ret := (some .int)) (F := U_X8_guards fu) (fl := fl_BrookStonesModel) (nl := []) (kl := kl_BrookStonesModel) (k2 := k2_BrookStonesModel) (mv := []) (ms := []) (mi := []) (ini := false) hI_w hZ_w fl_BrookStonesModel_ok nil_all kl_BrookStonesModel_ok k2_BrookStonesModel_ok
    (nil_all)
    (nil_all)
    (nil_all)
    (T := T_X8_guards) (by decide +kernel) (cut := [4]) (N := 25) (D_X8_guards fu) (by decide +kernel) (fun h => absurd h (by decide)) (fun as w o h => ?_)
  unfold U_X8_guards at h
  split at h
  next =>
    split at h
    next => exact ⟨Nat.le_of_ble_eq_true rfl, fu, (E_X8_guards fu _ w).symm.trans h⟩
    next => cases h
  next => cases h
def T_X8_many : List (Nat × Instr) := [(0, .iload_n 1), (1, .tableswitch 80 0 6 #[43, 48, 53, 58, 64, 70, 75]), (44, .aload_n 0), (45, .getfield 93), (48, .ireturn), (49, .aload_n 0), (50, .getfield 129), (53, .ireturn), (54, .aload_n 0), (55, .getfield 132), (58, .ireturn), (59, .aload_n 0), (60, .iconst 0), (61, .invokevirtual 256), (64, .ireturn), (65, .aload_n 0), (66, .iconst 1), (67, .invokevirtual 256), (70, .ireturn), (71, .aload_n 0), (72, .invokevirtual 260), (75, .ireturn), (76, .aload_n 0), (77, .getfield 126), (80, .ireturn), (81, .bipush (-2)), (83, .ireturn)]
def op_X8_many (fu : Nat) : Nat → Kont → XL → List Value → XW → Instr → Option XO := opK 2 (rzOf (some .int)) fl_BrookStonesModel [] kl_BrookStonesModel k2_BrookStonesModel [(256, 2, 1, (U_X8_stonesIn fu)), (260, 1, 1, (U_X8_guards fu))] [] []
def M_X8_many (fu : Nat) (a0 : Nat) (a1 : Int32) (w : XW) : Option XO :=
  (if a1 = (0 : Int32) then
    (gI w a0 7 5).bind fun x1 =>
    some (some (.int x1), w)
  else
  (if a1 = (1 : Int32) then
    (gI w a0 7 17).bind fun x2 =>
    some (some (.int x2), w)
  else
  (if a1 = (2 : Int32) then
    (gI w a0 7 23).bind fun x3 =>
    some (some (.int x3), w)
  else
  (if a1 = (3 : Int32) then
    cI (U_X8_stonesIn fu [.ref a0, .int (0 : Int32)] w) fun x5 w4 =>
    some (some (.int x5), w4)
  else
  (if a1 = (4 : Int32) then
    cI (U_X8_stonesIn fu [.ref a0, .int (1 : Int32)] w) fun x7 w6 =>
    some (some (.int x7), w6)
  else
  (if a1 = (5 : Int32) then
    cI (U_X8_guards fu [.ref a0] w) fun x9 w8 =>
    some (some (.int x9), w8)
  else
  (if a1 = (6 : Int32) then
    (gI w a0 7 7).bind fun x10 =>
    some (some (.int x10), w)
  else
  some (some (.int (-2 : Int32)), w))))))))
def U_X8_many (fu : Nat) : Orc := fun as w => match as with
  | [.ref a0, .int a1] => if isO w a0 7 = true then M_X8_many fu a0 a1 w else none
  | _ => none
def K_X8_many (fu : Nat) (n : Nat) : Kont := fun pc ls st w => none
set_option maxRecDepth 100000 in
set_option maxHeartbeats 4000000 in
theorem E_X8_many (fu : Nat) (a0 : Nat) (a1 : Int32) (w : XW) : M_X8_many fu a0 a1 w = ev T_X8_many (op_X8_many fu) [] (K_X8_many fu fu) 29 0 (lv_args 0 [.ref a0, .int a1]) [] w := by
  rfl
theorem D_X8_many (fu : Nat) : DS T_X8_many (op_X8_many fu) [] 29 (K_X8_many fu) := by
  refine ⟨fun pc ls st w => rfl, fun n pc ls st w o h => ?_⟩
  cases h
theorem H_X8_many (fu : Nat) : ∀ as w o, U_X8_many fu as w = some o → ∃ a r, as = .ref a :: r ∧ r.length = 1 ∧ isO w a 7 = true := by
  intro as w o h
  unfold U_X8_many at h
  split at h
  next =>
    split at h
    next hh => exact ⟨_, _, rfl, rfl, hh⟩
    next => cases h
  next => cases h
set_option maxRecDepth 100000 in
set_option maxHeartbeats 4000000 in
theorem S_X8_many (fu : Nat) {l : Launch} {D : va_G} {cA : Nat → ClassId} {base b : Nat} : CS l D cA base b 2 y_X8_many prog_10_method_79_code 2 (some .int) (U_X8_many fu) ∧ OM (U_X8_many fu) := by
  refine CS_of (d := 1) (y := y_X8_many) (cc := prog_10_method_79_code) (nL := 2) (ret := (some .int)) (F := U_X8_many fu) (fl := fl_BrookStonesModel) (nl := []) (kl := kl_BrookStonesModel) (k2 := k2_BrookStonesModel) (mv := [(256, 2, 1, (U_X8_stonesIn fu)), (260, 1, 1, (U_X8_guards fu))]) (ms := []) (mi := []) (ini := false) hI_w hZ_w fl_BrookStonesModel_ok nil_all kl_BrookStonesModel_ok k2_BrookStonesModel_ok
    (cons_all (⟨⟨show (1 : Nat) ≠ 3 by decide, y_X8_stonesIn, prog_10_method_77_code, 4, (some .int), 1, "BrookStones", 7, TX8, 37, 1, (S_X8_stonesIn fu (l := l) (D := D) (cA := cA) (base := base) (b := b)).1, by decide, by decide, rfl, H_X8_stonesIn fu, rfl, mi_X8_stonesIn.1, mi_X8_stonesIn.2.1, mi_X8_stonesIn.2.2.1, mi_X8_stonesIn.2.2.2.1, mi_X8_stonesIn.2.2.2.2, Or.inl (tblG_of (i := 1149) rfl rfl)⟩, (S_X8_stonesIn fu (l := l) (D := D) (cA := cA) (base := base) (b := b)).2⟩) (cons_all (⟨⟨show (1 : Nat) ≠ 3 by decide, y_X8_guards, prog_10_method_78_code, 3, (some .int), 1, "BrookStones", 7, TX8, 37, 0, (S_X8_guards fu (l := l) (D := D) (cA := cA) (base := base) (b := b)).1, by decide, by decide, rfl, H_X8_guards fu, rfl, mi_X8_guards.1, mi_X8_guards.2.1, mi_X8_guards.2.2.1, mi_X8_guards.2.2.2.1, mi_X8_guards.2.2.2.2, Or.inl (tblG_of (i := 1153) rfl rfl)⟩, (S_X8_guards fu (l := l) (D := D) (cA := cA) (base := base) (b := b)).2⟩) (nil_all)))
    (nil_all)
    (nil_all)
    (T := T_X8_many) (by decide +kernel) (cut := []) (N := 29) (D_X8_many fu) (by decide +kernel) (fun h => absurd h (by decide)) (fun as w o h => ?_)
  unfold U_X8_many at h
  split at h
  next =>
    split at h
    next => exact ⟨Nat.le_of_ble_eq_true rfl, fu, (E_X8_many fu _ _ w).symm.trans h⟩
    next => cases h
  next => cases h
