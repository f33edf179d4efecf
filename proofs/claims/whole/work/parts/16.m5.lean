def T_X8_fits : List (Nat × Instr) := [(0, .iload_n 1), (1, .ifCond .lt 23), (4, .iload_n 1), (5, .iconst 1), (6, .aload_n 0), (7, .getfield 93), (10, .ishl), (11, .if_icmp .ge 13), (14, .iload_n 2), (15, .iconst 0), (16, .bipush 30), (18, .invokestatic 89), (21, .ifCond .ne 6), (24, .bipush (-2)), (26, .ireturn), (27, .aload_n 0), (28, .getfield 93), (31, .ifCond .ne 6), (34, .bipush (-3)), (36, .ireturn), (37, .iconst 0), (38, .istore_n 3), (39, .iconst 0), (40, .istore 4), (42, .iload 4), (44, .bipush 10), (46, .if_icmp .ge 39), (49, .aload_n 0), (50, .invokevirtual 181), (53, .aload_n 0), (54, .iload 4), (56, .iload_n 2), (57, .invokevirtual 203), (60, .iload_n 3), (61, .aload_n 0), (62, .invokevirtual 206), (65, .iload_n 1), (66, .if_icmp .ne 10), (69, .iconst 1), (70, .iload 4), (72, .ishl), (73, .goto 4), (76, .iconst 0), (77, .ior), (78, .istore_n 3), (79, .iinc 4 1), (82, .goto (-40)), (85, .iload_n 3), (86, .ireturn)]
def op_X8_fits (fu : Nat) : Nat → Kont → XL → List Value → XW → Instr → Option XO := opK 5 (rzOf (some .int)) fl_BrookStonesModel [] kl_BrookStonesModel k2_BrookStonesModel [(181, 1, 0, (U_X8_layNow fu)), (203, 3, 0, (U_X8_goFlood fu)), (206, 1, 1, (U_X8_standing fu))] [(89, 3, 1, (U_X8_within fu))] []
def F_X8_fits (fu : Nat) : Nat → (Nat → Int32 → Int32 → Int32 → Int32 → XW → Option XO)
  | 0 => fun _ _ _ _ _ _ => none
  | n + 1 => (fun a0 a1 a2 a3 a4 w =>
    (if a4 < (10 : Int32) then
      cV (U_X8_layNow fu [.ref a0] w) fun w1 =>
      cV (U_X8_goFlood fu [.ref a0, .int a4, .int a2] w1) fun w2 =>
      cI (U_X8_standing fu [.ref a0] w2) fun x4 w3 =>
      (if x4 = a1 then
        (F_X8_fits fu n) a0 a1 a2 (a3 ||| ((1 : Int32) <<< (a4 &&& 31))) (a4 + (1 : Int32)) w3
      else
        (F_X8_fits fu n) a0 a1 a2 (a3 ||| (0 : Int32)) (a4 + (1 : Int32)) w3)
    else
      some (some (.int a3), w)))
def M_X8_fits (fu : Nat) (a0 : Nat) (a1 : Int32) (a2 : Int32) (w : XW) : Option XO :=
  (if a1 < 0 then
    some (some (.int (-2 : Int32)), w)
  else
    (gI w a0 7 5).bind fun x5 =>
    (if a1 < ((1 : Int32) <<< (x5 &&& 31)) then
      cI (U_X8_within fu [.int a2, .int (0 : Int32), .int (30 : Int32)] w) fun x7 w6 =>
      (if x7 = 0 then
        some (some (.int (-2 : Int32)), w6)
      else
        (gI w6 a0 7 5).bind fun x8 =>
        (if x8 = 0 then
          some (some (.int (-3 : Int32)), w6)
        else
          (F_X8_fits fu fu) a0 a1 a2 (0 : Int32) (0 : Int32) w6))
    else
      some (some (.int (-2 : Int32)), w)))
def U_X8_fits (fu : Nat) : Orc := fun as w => match as with
  | [.ref a0, .int a1, .int a2] => if isO w a0 7 = true then M_X8_fits fu a0 a1 a2 w else none
  | _ => none
def K_X8_fits (fu : Nat) (n : Nat) : Kont := fun pc ls st w => bif pc == 42 then ((xr ls 0).bind fun a0 => (xi ls 1).bind fun a1 => (xi ls 2).bind fun a2 => (xi ls 3).bind fun a3 => (xi ls 4).bind fun a4 => skN st ((F_X8_fits fu n) a0 a1 a2 a3 a4 w)) else none
set_option maxRecDepth 100000 in
set_option maxHeartbeats 4000000 in
theorem E_X8_fits_42 (fu : Nat) (n : Nat) (a0 : Nat) (a1 : Int32) (a2 : Int32) (a3 : Int32) (a4 : Int32) (w : XW) : (F_X8_fits fu (n + 1)) a0 a1 a2 a3 a4 w = ev T_X8_fits (op_X8_fits fu) [42] (K_X8_fits fu n) 51 42 [(0, .ref a0), (1, .int a1), (2, .int a2), (3, .int a3), (4, .int a4)] [] w := by
  rfl
set_option maxRecDepth 100000 in
set_option maxHeartbeats 4000000 in
theorem E_X8_fits (fu : Nat) (a0 : Nat) (a1 : Int32) (a2 : Int32) (w : XW) : M_X8_fits fu a0 a1 a2 w = ev T_X8_fits (op_X8_fits fu) [42] (K_X8_fits fu fu) 51 0 (lv_args 0 [.ref a0, .int a1, .int a2]) [] w := by
  rfl
theorem D_X8_fits (fu : Nat) : DS T_X8_fits (op_X8_fits fu) [42] 51 (K_X8_fits fu) := by
  refine ⟨fun pc ls st w => c_none (b_none fun _ => b_none fun _ => b_none fun _ => b_none fun _ => b_none fun _ => skN_none rfl) (rfl), fun n pc ls st w o h => ?_⟩
  rcases c_some h with ⟨rfl, h⟩ | h
  · obtain ⟨a0, h0, h⟩ := some_of h; obtain ⟨a1, h1, h⟩ := some_of h; obtain ⟨a2, h2, h⟩ := some_of h; obtain ⟨a3, h3, h⟩ := some_of h; obtain ⟨a4, h4, h⟩ := some_of h;
    obtain ⟨e, g⟩ := skN_of h
    subst e
    exact ⟨[(0, .ref a0), (1, .int a1), (2, .int a2), (3, .int a3), (4, .int a4)], cons_all (xr_of h0) (cons_all (xi_of h1) (cons_all (xi_of h2) (cons_all (xi_of h3) (cons_all (xi_of h4) (nil_all))))), (E_X8_fits_42 fu n a0 a1 a2 a3 a4 w).symm.trans g⟩
  · cases h
theorem H_X8_fits (fu : Nat) : ∀ as w o, U_X8_fits fu as w = some o → ∃ a r, as = .ref a :: r ∧ r.length = 2 ∧ isO w a 7 = true := by
  intro as w o h
  unfold U_X8_fits at h
  split at h
  next =>
    split at h
    next hh => exact ⟨_, _, rfl, rfl, hh⟩
    next => cases h
  next => cases h
set_option maxRecDepth 100000 in
set_option maxHeartbeats 4000000 in
theorem S_X8_fits (fu : Nat) {l : Launch} {D : va_G} {cA : Nat → ClassId} {base b : Nat} : CS l D cA base b 3 y_X8_fits prog_10_method_63_code 5 (some .int) (U_X8_fits fu) ∧ OM (U_X8_fits fu) := by
  refine CS_of (d := 2) (y := y_X8_fits) (cc := prog_10_method_63_code) (nL := 5) (ret := (some .int)) (F := U_X8_fits fu) (fl := fl_BrookStonesModel) (nl := []) (kl := kl_BrookStonesModel) (k2 := k2_BrookStonesModel) (mv := [(181, 1, 0, (U_X8_layNow fu)), (203, 3, 0, (U_X8_goFlood fu)), (206, 1, 1, (U_X8_standing fu))]) (ms := [(89, 3, 1, (U_X8_within fu))]) (mi := []) (ini := false) hI_w hZ_w fl_BrookStonesModel_ok nil_all kl_BrookStonesModel_ok k2_BrookStonesModel_ok
    (cons_all (⟨⟨show (0 : Nat) ≠ 3 by decide, y_X8_layNow, prog_10_method_29_code, 2, (none), 1, "BrookStones", 7, TX8, 37, 0, (S_X8_layNow fu (l := l) (D := D) (cA := cA) (base := base) (b := b)).1, by decide, by decide, rfl, H_X8_layNow fu, rfl, mi_X8_layNow.1, mi_X8_layNow.2.1, mi_X8_layNow.2.2.1, mi_X8_layNow.2.2.2.1, mi_X8_layNow.2.2.2.2, Or.inl (tblG_of (i := 951) rfl rfl)⟩, (S_X8_layNow fu (l := l) (D := D) (cA := cA) (base := base) (b := b)).2⟩) (cons_all (⟨⟨show (0 : Nat) ≠ 3 by decide, y_X8_goFlood, prog_10_method_45_code, 6, (none), 2, "BrookStones", 7, TX8, 37, 2, (S_X8_goFlood fu (l := l) (D := D) (cA := cA) (base := base) (b := b)).1, by decide, by decide, rfl, H_X8_goFlood fu, rfl, mi_X8_goFlood.1, mi_X8_goFlood.2.1, mi_X8_goFlood.2.2.1, mi_X8_goFlood.2.2.2.1, mi_X8_goFlood.2.2.2.2, Or.inl (tblG_of (i := 1014) rfl rfl)⟩, (S_X8_goFlood fu (l := l) (D := D) (cA := cA) (base := base) (b := b)).2⟩) (cons_all (⟨⟨show (1 : Nat) ≠ 3 by decide, y_X8_standing, prog_10_method_46_code, 3, (some .int), 1, "BrookStones", 7, TX8, 37, 0, (S_X8_standing fu (l := l) (D := D) (cA := cA) (base := base) (b := b)).1, by decide, by decide, rfl, H_X8_standing fu, rfl, mi_X8_standing.1, mi_X8_standing.2.1, mi_X8_standing.2.2.1, mi_X8_standing.2.2.2.1, mi_X8_standing.2.2.2.2, Or.inl (tblG_of (i := 1022) rfl rfl)⟩, (S_X8_standing fu (l := l) (D := D) (cA := cA) (base := base) (b := b)).2⟩) (nil_all))))
    (cons_all (⟨Or.inl ⟨show (1 : Nat) ≠ 3 by decide, y_X8_within, prog_10_method_5_code, 3, (some .boolean), 1, "BrookStones", (S_X8_within fu (l := l) (D := D) (cA := cA) (base := base) (b := b)).1, by decide, by decide, mi_X8_within.1, mi_X8_within.2.1, mi_X8_within.2.2.1, mi_X8_within.2.2.2, Or.inl (tblG_of (i := 861) rfl rfl)⟩, (S_X8_within fu (l := l) (D := D) (cA := cA) (base := base) (b := b)).2⟩) (nil_all))
    (nil_all)
    (T := T_X8_fits) (by decide +kernel) (cut := [42]) (N := 51) (D_X8_fits fu) (by decide +kernel) (fun h => absurd h (by decide)) (fun as w o h => ?_)
  unfold U_X8_fits at h
  split at h
  next =>
    split at h
    next => exact ⟨Nat.le_of_ble_eq_true rfl, fu, (E_X8_fits fu _ _ _ w).symm.trans h⟩
    next => cases h
  next => cases h
def T_X4_sum : List (Nat × Instr) := [(0, .iconst 0), (1, .istore 4), (3, .iload_n 2), (4, .istore 5), (6, .iload 5), (8, .iload_n 2), (9, .iload_n 3), (10, .iadd), (11, .if_icmp .ge 21), (14, .iload 4), (16, .aload_n 0), (17, .iload_n 1), (18, .iload 5), (20, .invokevirtual 51), (23, .iadd), (24, .istore 4), (26, .iinc 5 1), (29, .goto (-23)), (32, .iload 4), (34, .ireturn)]
def op_X4_sum (fu : Nat) : Nat → Kont → XL → List Value → XW → Instr → Option XO := opK 6 (rzOf (some .int)) fl_BrookStones_Sheets [] [] [] [(51, 3, 1, (U_X4_at fu))] [] []
def F_X4_sum (fu : Nat) : Nat → (Nat → Int32 → Int32 → Int32 → Int32 → Int32 → XW → Option XO)
  | 0 => fun _ _ _ _ _ _ _ => none
  | n + 1 => (fun a0 a1 a2 a3 a4 a5 w =>
    (if a5 < (a2 + a3) then
      cI (U_X4_at fu [.ref a0, .int a1, .int a5] w) fun x2 w1 =>
      (F_X4_sum fu n) a0 a1 a2 a3 (a4 + x2) (a5 + (1 : Int32)) w1
    else
      some (some (.int a4), w)))
def M_X4_sum (fu : Nat) (a0 : Nat) (a1 : Int32) (a2 : Int32) (a3 : Int32) (w : XW) : Option XO :=
  (F_X4_sum fu fu) a0 a1 a2 a3 (0 : Int32) a2 w
def U_X4_sum (fu : Nat) : Orc := fun as w => match as with
  | [.ref a0, .int a1, .int a2, .int a3] => if isO w a0 4 = true then M_X4_sum fu a0 a1 a2 a3 w else none
  | _ => none
def K_X4_sum (fu : Nat) (n : Nat) : Kont := fun pc ls st w => bif pc == 6 then ((xr ls 0).bind fun a0 => (xi ls 1).bind fun a1 => (xi ls 2).bind fun a2 => (xi ls 3).bind fun a3 => (xi ls 4).bind fun a4 => (xi ls 5).bind fun a5 => skN st ((F_X4_sum fu n) a0 a1 a2 a3 a4 a5 w)) else none
set_option maxRecDepth 100000 in
set_option maxHeartbeats 4000000 in
theorem E_X4_sum_6 (fu : Nat) (n : Nat) (a0 : Nat) (a1 : Int32) (a2 : Int32) (a3 : Int32) (a4 : Int32) (a5 : Int32) (w : XW) : (F_X4_sum fu (n + 1)) a0 a1 a2 a3 a4 a5 w = ev T_X4_sum (op_X4_sum fu) [6] (K_X4_sum fu n) 22 6 [(0, .ref a0), (1, .int a1), (2, .int a2), (3, .int a3), (4, .int a4), (5, .int a5)] [] w := by
  rfl
set_option maxRecDepth 100000 in
set_option maxHeartbeats 4000000 in
theorem E_X4_sum (fu : Nat) (a0 : Nat) (a1 : Int32) (a2 : Int32) (a3 : Int32) (w : XW) : M_X4_sum fu a0 a1 a2 a3 w = ev T_X4_sum (op_X4_sum fu) [6] (K_X4_sum fu fu) 22 0 (lv_args 0 [.ref a0, .int a1, .int a2, .int a3]) [] w := by
  rfl
theorem D_X4_sum (fu : Nat) : DS T_X4_sum (op_X4_sum fu) [6] 22 (K_X4_sum fu) := by
  refine ⟨fun pc ls st w => c_none (b_none fun _ => b_none fun _ => b_none fun _ => b_none fun _ => b_none fun _ => b_none fun _ => skN_none rfl) (rfl), fun n pc ls st w o h => ?_⟩
  rcases c_some h with ⟨rfl, h⟩ | h
  · obtain ⟨a0, h0, h⟩ := some_of h; obtain ⟨a1, h1, h⟩ := some_of h; obtain ⟨a2, h2, h⟩ := some_of h; obtain ⟨a3, h3, h⟩ := some_of h; obtain ⟨a4, h4, h⟩ := some_of h; obtain ⟨a5, h5, h⟩ := some_of h;
    obtain ⟨e, g⟩ := skN_of h
    subst e
    exact ⟨[(0, .ref a0), (1, .int a1), (2, .int a2), (3, .int a3), (4, .int a4), (5, .int a5)], cons_all (xr_of h0) (cons_all (xi_of h1) (cons_all (xi_of h2) (cons_all (xi_of h3) (cons_all (xi_of h4) (cons_all (xi_of h5) (nil_all)))))), (E_X4_sum_6 fu n a0 a1 a2 a3 a4 a5 w).symm.trans g⟩
  · cases h
theorem H_X4_sum (fu : Nat) : ∀ as w o, U_X4_sum fu as w = some o → ∃ a r, as = .ref a :: r ∧ r.length = 3 ∧ isO w a 4 = true := by
  intro as w o h
  unfold U_X4_sum at h
  split at h
  next =>
    split at h
    next hh => exact ⟨_, _, rfl, rfl, hh⟩
    next => cases h
  next => cases h
set_option maxRecDepth 100000 in
set_option maxHeartbeats 4000000 in
theorem S_X4_sum (fu : Nat) {l : Launch} {D : va_G} {cA : Nat → ClassId} {base b : Nat} : CS l D cA base b 2 y_X4_sum prog_6_method_14_code 6 (some .int) (U_X4_sum fu) ∧ OM (U_X4_sum fu) := by
  refine CS_of (d := 1) (y := y_X4_sum) (cc := prog_6_method_14_code) (nL := 6) (ret := (some .int)) (F := U_X4_sum fu) (fl := fl_BrookStones_Sheets) (nl := []) (kl := []) (k2 := []) (mv := [(51, 3, 1, (U_X4_at fu))]) (ms := []) (mi := []) (ini := false) hI_w hZ_w fl_BrookStones_Sheets_ok nil_all nil_all nil_all
    (cons_all (⟨⟨show (1 : Nat) ≠ 3 by decide, y_X4_at, prog_6_method_7_code, 3, (some .int), 1, "BrookStones", 4, TX4, 3, 2, (S_X4_at fu (l := l) (D := D) (cA := cA) (base := base) (b := b)).1, by decide, by decide, rfl, H_X4_at fu, rfl, mi_X4_at.1, mi_X4_at.2.1, mi_X4_at.2.2.1, mi_X4_at.2.2.2.1, mi_X4_at.2.2.2.2, Or.inl (tblG_of (i := 466) rfl rfl)⟩, (S_X4_at fu (l := l) (D := D) (cA := cA) (base := base) (b := b)).2⟩) (nil_all))
    (nil_all)
    (nil_all)
    (T := T_X4_sum) (by decide +kernel) (cut := [6]) (N := 22) (D_X4_sum fu) (by decide +kernel) (fun h => absurd h (by decide)) (fun as w o h => ?_)
  unfold U_X4_sum at h
  split at h
  next =>
    split at h
    next => exact ⟨Nat.le_of_ble_eq_true rfl, fu, (E_X4_sum fu _ _ _ _ w).symm.trans h⟩
    next => cases h
  next => cases h
def T_X7_weightAcross : List (Nat × Instr) := [(0, .iconst 0), (1, .istore 5), (3, .iconst 0), (4, .istore 6), (6, .iload 6), (8, .bipush 10), (10, .if_icmp .ge 81), (13, .aload_n 0), (14, .getfield 35), (17, .aload_n 0), (18, .getfield 12), (21, .aload_n 0), (22, .getfield 12), (25, .getfield 91), (28, .iload 6), (30, .iload 4), (32, .invokevirtual 203), (35, .aload_n 0), (36, .getfield 12), (39, .aload_n 0), (40, .getfield 35), (43, .getfield 207), (46, .aload_n 0), (47, .getfield 12), (50, .getfield 98), (53, .aload_n 0), (54, .getfield 12), (57, .iload_n 1), (58, .iconst 0), (59, .invokevirtual 168), (62, .invokevirtual 172), (65, .ifCond .eq 20), (68, .iload 5), (70, .aload_n 0), (71, .getfield 21), (74, .iload_n 2), (75, .iload_n 3), (76, .iload 6), (78, .iadd), (79, .invokevirtual 197), (82, .iadd), (83, .istore 5), (85, .iinc 6 1), (88, .goto (-82)), (91, .iload 5), (93, .ireturn)]
def op_X7_weightAcross (fu : Nat) : Nat → Kont → XL → List Value → XW → Instr → Option XO := opK 7 (rzOf (some .int)) fl_BrookStones nl_BrookStones [] k2_BrookStones [(203, 5, 0, (U_X1_run fu)), (168, 3, 1, (U_X0_reachOf fu)), (172, 4, 1, (U_X0_isCrossed fu)), (197, 3, 1, (U_X4_at fu))] [] []
def F_X7_weightAcross (fu : Nat) : Nat → (Nat → Int32 → Int32 → Int32 → Int32 → Int32 → Int32 → XW → Option XO)
  | 0 => fun _ _ _ _ _ _ _ _ => none
  | n + 1 => (fun a0 a1 a2 a3 a4 a5 a6 w =>
    (if a6 < (10 : Int32) then
      (gR w a0 6 3).bind fun r1 =>
      (gR w a0 6 0).bind fun r2 =>
      (gR w a0 6 0).bind fun r3 =>
      (gI w r3 0 10).bind fun x4 =>
      cV (U_X1_run fu [.ref r1, .ref r2, .int x4, .int a6, .int a4] w) fun w5 =>
      (gR w5 a0 6 0).bind fun r6 =>
      (gR w5 a0 6 3).bind fun r7 =>
      (gI w5 r7 1 2).bind fun x8 =>
      (gR w5 a0 6 0).bind fun r9 =>
      (gI w5 r9 0 11).bind fun x10 =>
      (gR w5 a0 6 0).bind fun r11 =>
      cI (U_X0_reachOf fu [.ref r11, .int a1, .int (0 : Int32)] w5) fun x13 w12 =>
      cI (U_X0_isCrossed fu [.ref r6, .int x8, .int x10, .int x13] w12) fun x15 w14 =>
      (if x15 = 0 then
        (F_X7_weightAcross fu n) a0 a1 a2 a3 a4 a5 (a6 + (1 : Int32)) w14
      else
        (gR w14 a0 6 1).bind fun r16 =>
        cI (U_X4_at fu [.ref r16, .int a2, .int (a3 + a6)] w14) fun x18 w17 =>
        (F_X7_weightAcross fu n) a0 a1 a2 a3 a4 (a5 + x18) (a6 + (1 : Int32)) w17)
    else
      some (some (.int a5), w)))
def M_X7_weightAcross (fu : Nat) (a0 : Nat) (a1 : Int32) (a2 : Int32) (a3 : Int32) (a4 : Int32) (w : XW) : Option XO :=
  (F_X7_weightAcross fu fu) a0 a1 a2 a3 a4 (0 : Int32) (0 : Int32) w
def U_X7_weightAcross (fu : Nat) : Orc := fun as w => match as with
  | [.ref a0, .int a1, .int a2, .int a3, .int a4] => if isO w a0 6 = true then M_X7_weightAcross fu a0 a1 a2 a3 a4 w else none
  | _ => none
def K_X7_weightAcross (fu : Nat) (n : Nat) : Kont := fun pc ls st w => bif pc == 6 then ((xr ls 0).bind fun a0 => (xi ls 1).bind fun a1 => (xi ls 2).bind fun a2 => (xi ls 3).bind fun a3 => (xi ls 4).bind fun a4 => (xi ls 5).bind fun a5 => (xi ls 6).bind fun a6 => skN st ((F_X7_weightAcross fu n) a0 a1 a2 a3 a4 a5 a6 w)) else none
set_option maxRecDepth 100000 in
set_option maxHeartbeats 4000000 in
theorem E_X7_weightAcross_6 (fu : Nat) (n : Nat) (a0 : Nat) (a1 : Int32) (a2 : Int32) (a3 : Int32) (a4 : Int32) (a5 : Int32) (a6 : Int32) (w : XW) : (F_X7_weightAcross fu (n + 1)) a0 a1 a2 a3 a4 a5 a6 w = ev T_X7_weightAcross (op_X7_weightAcross fu) [6] (K_X7_weightAcross fu n) 48 6 [(0, .ref a0), (1, .int a1), (2, .int a2), (3, .int a3), (4, .int a4), (5, .int a5), (6, .int a6)] [] w := by
  rfl
set_option maxRecDepth 100000 in
set_option maxHeartbeats 4000000 in
theorem E_X7_weightAcross (fu : Nat) (a0 : Nat) (a1 : Int32) (a2 : Int32) (a3 : Int32) (a4 : Int32) (w : XW) : M_X7_weightAcross fu a0 a1 a2 a3 a4 w = ev T_X7_weightAcross (op_X7_weightAcross fu) [6] (K_X7_weightAcross fu fu) 48 0 (lv_args 0 [.ref a0, .int a1, .int a2, .int a3, .int a4]) [] w := by
  rfl
theorem D_X7_weightAcross (fu : Nat) : DS T_X7_weightAcross (op_X7_weightAcross fu) [6] 48 (K_X7_weightAcross fu) := by
  refine ⟨fun pc ls st w => c_none (b_none fun _ => b_none fun _ => b_none fun _ => b_none fun _ => b_none fun _ => b_none fun _ => b_none fun _ => skN_none rfl) (rfl), fun n pc ls st w o h => ?_⟩
  rcases c_some h with ⟨rfl, h⟩ | h
  · obtain ⟨a0, h0, h⟩ := some_of h; obtain ⟨a1, h1, h⟩ := some_of h; obtain ⟨a2, h2, h⟩ := some_of h; obtain ⟨a3, h3, h⟩ := some_of h; obtain ⟨a4, h4, h⟩ := some_of h; obtain ⟨a5, h5, h⟩ := some_of h; obtain ⟨a6, h6, h⟩ := some_of h;
    obtain ⟨e, g⟩ := skN_of h
    subst e
    exact ⟨[(0, .ref a0), (1, .int a1), (2, .int a2), (3, .int a3), (4, .int a4), (5, .int a5), (6, .int a6)], cons_all (xr_of h0) (cons_all (xi_of h1) (cons_all (xi_of h2) (cons_all (xi_of h3) (cons_all (xi_of h4) (cons_all (xi_of h5) (cons_all (xi_of h6) (nil_all))))))), (E_X7_weightAcross_6 fu n a0 a1 a2 a3 a4 a5 a6 w).symm.trans g⟩
  · cases h
theorem H_X7_weightAcross (fu : Nat) : ∀ as w o, U_X7_weightAcross fu as w = some o → ∃ a r, as = .ref a :: r ∧ r.length = 4 ∧ isO w a 6 = true := by
  intro as w o h
  unfold U_X7_weightAcross at h
  split at h
  next =>
    split at h
    next hh => exact ⟨_, _, rfl, rfl, hh⟩
    next => cases h
  next => cases h
set_option maxRecDepth 100000 in
set_option maxHeartbeats 4000000 in
theorem S_X7_weightAcross (fu : Nat) {l : Launch} {D : va_G} {cA : Nat → ClassId} {base b : Nat} : CS l D cA base b 4 y_X7_weightAcross prog_1_method_27_code 7 (some .int) (U_X7_weightAcross fu) ∧ OM (U_X7_weightAcross fu) := by
  refine CS_of (d := 3) (y := y_X7_weightAcross) (cc := prog_1_method_27_code) (nL := 7) (ret := (some .int)) (F := U_X7_weightAcross fu) (fl := fl_BrookStones) (nl := nl_BrookStones) (kl := []) (k2 := k2_BrookStones) (mv := [(203, 5, 0, (U_X1_run fu)), (168, 3, 1, (U_X0_reachOf fu)), (172, 4, 1, (U_X0_isCrossed fu)), (197, 3, 1, (U_X4_at fu))]) (ms := []) (mi := []) (ini := false) hI_w hZ_w fl_BrookStones_ok nl_BrookStones_ok nil_all k2_BrookStones_ok
    (cons_all (⟨⟨show (0 : Nat) ≠ 3 by decide, y_X1_run, prog_3_method_2_code, 7, (none), 3, "BrookStones", 1, TX1, 3, 4, (S_X1_run fu (l := l) (D := D) (cA := cA) (base := base) (b := b)).1, by decide, by decide, rfl, H_X1_run fu, rfl, mi_X1_run.1, mi_X1_run.2.1, mi_X1_run.2.2.1, mi_X1_run.2.2.2.1, mi_X1_run.2.2.2.2, Or.inr (tblN_of (i := 475) rfl rfl)⟩, (S_X1_run fu (l := l) (D := D) (cA := cA) (base := base) (b := b)).2⟩) (cons_all (⟨⟨show (1 : Nat) ≠ 3 by decide, y_X0_reachOf, prog_2_method_9_code, 3, (some .int), 1, "BrookStones", 0, TX0, 15, 2, (S_X0_reachOf fu (l := l) (D := D) (cA := cA) (base := base) (b := b)).1, by decide, by decide, rfl, H_X0_reachOf fu, rfl, mi_X0_reachOf.1, mi_X0_reachOf.2.1, mi_X0_reachOf.2.2.1, mi_X0_reachOf.2.2.2.1, mi_X0_reachOf.2.2.2.2, Or.inr (tblN_of (i := 407) rfl rfl)⟩, (S_X0_reachOf fu (l := l) (D := D) (cA := cA) (base := base) (b := b)).2⟩) (cons_all (⟨⟨show (1 : Nat) ≠ 3 by decide, y_X0_isCrossed, prog_2_method_20_code, 4, (some .boolean), 3, "BrookStones", 0, TX0, 15, 3, (S_X0_isCrossed fu (l := l) (D := D) (cA := cA) (base := base) (b := b)).1, by decide, by decide, rfl, H_X0_isCrossed fu, rfl, mi_X0_isCrossed.1, mi_X0_isCrossed.2.1, mi_X0_isCrossed.2.2.1, mi_X0_isCrossed.2.2.2.1, mi_X0_isCrossed.2.2.2.2, Or.inr (tblN_of (i := 411) rfl rfl)⟩, (S_X0_isCrossed fu (l := l) (D := D) (cA := cA) (base := base) (b := b)).2⟩) (cons_all (⟨⟨show (1 : Nat) ≠ 3 by decide, y_X4_at, prog_6_method_7_code, 3, (some .int), 1, "BrookStones", 4, TX4, 3, 2, (S_X4_at fu (l := l) (D := D) (cA := cA) (base := base) (b := b)).1, by decide, by decide, rfl, H_X4_at fu, rfl, mi_X4_at.1, mi_X4_at.2.1, mi_X4_at.2.2.1, mi_X4_at.2.2.2.1, mi_X4_at.2.2.2.2, Or.inr (tblN_of (i := 467) rfl rfl)⟩, (S_X4_at fu (l := l) (D := D) (cA := cA) (base := base) (b := b)).2⟩) (nil_all)))))
    (nil_all)
    (nil_all)
    (T := T_X7_weightAcross) (by decide +kernel) (cut := [6]) (N := 48) (D_X7_weightAcross fu) (by decide +kernel) (fun h => absurd h (by decide)) (fun as w o h => ?_)
  unfold U_X7_weightAcross at h
  split at h
  next =>
    split at h
    next => exact ⟨Nat.le_of_ble_eq_true rfl, fu, (E_X7_weightAcross fu _ _ _ _ _ w).symm.trans h⟩
    next => cases h
  next => cases h
def T_X7_commonDivisor : List (Nat × Instr) := [(0, .iload_n 1), (1, .istore_n 2), (2, .iload_n 0), (3, .istore_n 3), (4, .iconst 0), (5, .istore 4), (7, .iload 4), (9, .bipush 64), (11, .if_icmp .ge 23), (14, .iload_n 3), (15, .ifCond .eq 19), (18, .iload_n 2), (19, .iload_n 3), (20, .irem), (21, .istore 5), (23, .iload_n 3), (24, .istore_n 2), (25, .iload 5), (27, .istore_n 3), (28, .iinc 4 1), (31, .goto (-24)), (34, .iload_n 2), (35, .ireturn)]
def op_X7_commonDivisor (fu : Nat) : Nat → Kont → XL → List Value → XW → Instr → Option XO := opK 6 (rzOf (some .int)) fl_BrookStones nl_BrookStones [] k2_BrookStones [] [] []
def F_X7_commonDivisor (fu : Nat) : Nat → (Int32 → Int32 → Int32 → XW → Option XO)
  | 0 => fun _ _ _ _ => none
  | n + 1 => (fun a2 a3 a4 w =>
    (if a4 < (64 : Int32) then
      (if a3 = 0 then
        some (some (.int a2), w)
      else
        (if a3 = 0 then none else
        (F_X7_commonDivisor fu n) a3 (a2 - a2 / a3 * a3) (a4 + (1 : Int32)) w))
    else
      some (some (.int a2), w)))
def M_X7_commonDivisor (fu : Nat) (a0 : Int32) (a1 : Int32) (w : XW) : Option XO :=
  (F_X7_commonDivisor fu fu) a1 a0 (0 : Int32) w
def U_X7_commonDivisor (fu : Nat) : Orc := fun as w => match as with
  | [.int a0, .int a1] => M_X7_commonDivisor fu a0 a1 w
  | _ => none
def K_X7_commonDivisor (fu : Nat) (n : Nat) : Kont := fun pc ls st w => bif pc == 7 then ((xi ls 2).bind fun a2 => (xi ls 3).bind fun a3 => (xi ls 4).bind fun a4 => skN st ((F_X7_commonDivisor fu n) a2 a3 a4 w)) else none
set_option maxRecDepth 100000 in
set_option maxHeartbeats 4000000 in
theorem E_X7_commonDivisor_7 (fu : Nat) (n : Nat) (a2 : Int32) (a3 : Int32) (a4 : Int32) (w : XW) : (F_X7_commonDivisor fu (n + 1)) a2 a3 a4 w = ev T_X7_commonDivisor (op_X7_commonDivisor fu) [7] (K_X7_commonDivisor fu n) 25 7 [(2, .int a2), (3, .int a3), (4, .int a4)] [] w := by
  rfl
set_option maxRecDepth 100000 in
set_option maxHeartbeats 4000000 in
theorem E_X7_commonDivisor (fu : Nat) (a0 : Int32) (a1 : Int32) (w : XW) : M_X7_commonDivisor fu a0 a1 w = ev T_X7_commonDivisor (op_X7_commonDivisor fu) [7] (K_X7_commonDivisor fu fu) 25 0 (lv_args 0 [.int a0, .int a1]) [] w := by
  rfl
theorem D_X7_commonDivisor (fu : Nat) : DS T_X7_commonDivisor (op_X7_commonDivisor fu) [7] 25 (K_X7_commonDivisor fu) := by
  refine ⟨fun pc ls st w => c_none (b_none fun _ => b_none fun _ => b_none fun _ => skN_none rfl) (rfl), fun n pc ls st w o h => ?_⟩
  rcases c_some h with ⟨rfl, h⟩ | h
  · obtain ⟨a2, h2, h⟩ := some_of h; obtain ⟨a3, h3, h⟩ := some_of h; obtain ⟨a4, h4, h⟩ := some_of h;
    obtain ⟨e, g⟩ := skN_of h
    subst e
    exact ⟨[(2, .int a2), (3, .int a3), (4, .int a4)], cons_all (xi_of h2) (cons_all (xi_of h3) (cons_all (xi_of h4) (nil_all))), (E_X7_commonDivisor_7 fu n a2 a3 a4 w).symm.trans g⟩
  · cases h
set_option maxRecDepth 100000 in
set_option maxHeartbeats 4000000 in
theorem S_X7_commonDivisor (fu : Nat) {l : Launch} {D : va_G} {cA : Nat → ClassId} {base b : Nat} : CS l D cA base b 1 y_X7_commonDivisor prog_1_method_48_code 6 (some .int) (U_X7_commonDivisor fu) ∧ OM (U_X7_commonDivisor fu) := by
  refine CS_of (d := 0) (y := y_X7_commonDivisor) (cc := prog_1_method_48_code) (nL := 6) (ret := (some .int)) (F := U_X7_commonDivisor fu) (fl := fl_BrookStones) (nl := nl_BrookStones) (kl := []) (k2 := k2_BrookStones) (mv := []) (ms := []) (mi := []) (ini := false) hI_w hZ_w fl_BrookStones_ok nl_BrookStones_ok nil_all k2_BrookStones_ok
    (nil_all)
    (nil_all)
    (nil_all)
    (T := T_X7_commonDivisor) (by decide +kernel) (cut := [7]) (N := 25) (D_X7_commonDivisor fu) (by decide +kernel) (fun h => absurd h (by decide)) (fun as w o h => ?_)
  unfold U_X7_commonDivisor at h
  split at h
  next =>
    exact ⟨Nat.le_of_ble_eq_true rfl, fu, (E_X7_commonDivisor fu _ _ w).symm.trans h⟩
  next => cases h
def T_X7_odds : List (Nat × Instr) := [(0, .aload_n 0), (1, .iconst 0), (2, .putfield 53), (5, .aload_n 0), (6, .getfield 12), (9, .iload_n 1), (10, .invokevirtual 158), (13, .ifCond .eq 16), (16, .aload_n 0), (17, .iload_n 2), (18, .iload_n 3), (19, .iload 4), (21, .bipush 10), (23, .invokevirtual 57), (26, .ifCond .eq 7), (29, .ldc2_w 245), (32, .lreturn), (33, .aload_n 0), (34, .getfield 21), (37, .iload_n 2), (38, .iload 4), (40, .bipush 10), (42, .bipush 99), (44, .invokevirtual 193), (47, .ifCond .ne 7), (50, .ldc2_w 245), (53, .lreturn), (54, .aload_n 0), (55, .getfield 21), (58, .iload_n 2), (59, .iload 4), (61, .bipush 10), (63, .invokevirtual 247), (66, .istore 7), (68, .iload 7), (70, .ifCond .le 24), (73, .iload 5), (75, .iconst 0), (76, .bipush 30), (78, .invokestatic 105), (81, .ifCond .eq 13), (84, .iload 6), (86, .iconst 0), (87, .iconst 1), (88, .invokestatic 105), (91, .ifCond .ne 7), (94, .ldc2_w 245), (97, .lreturn), (98, .aload_n 0), (99, .iload_n 1), (100, .iload_n 2), (101, .iload 4), (103, .iload 5), (105, .invokevirtual 250), (108, .istore 8), (110, .iload 8), (112, .iload 7), (114, .invokestatic 253), (117, .istore 9), (119, .iload 9), (121, .ifCond .gt 7), (124, .ldc2_w 245), (127, .lreturn), (128, .iload 6), (130, .ifCond .ne 12), (133, .iload 8), (135, .iload 9), (137, .idiv), (138, .i2l), (139, .goto 9), (142, .iload 7), (144, .iload 9), (146, .idiv), (147, .i2l), (148, .lreturn)]
def op_X7_odds (fu : Nat) : Nat → Kont → XL → List Value → XW → Instr → Option XO := opK 10 (rzOf (some .long)) fl_BrookStones nl_BrookStones [] k2_BrookStones [(158, 2, 1, (U_X0_isWalker fu)), (57, 5, 1, (U_X7_refusalOfCells fu)), (193, 5, 1, (U_X4_areWithin fu)), (247, 4, 1, (U_X4_sum fu)), (250, 5, 1, (U_X7_weightAcross fu))] [(105, 3, 1, (U_X7_isWithin fu)), (253, 2, 1, (U_X7_commonDivisor fu))] []
def M_X7_odds (fu : Nat) (a0 : Nat) (a1 : Int32) (a2 : Int32) (a3 : Int32) (a4 : Int32) (a5 : Int32) (a6 : Int32) (w : XW) : Option XO :=
  (pF w a0 6 7 (.int (0 : Int32))).bind fun w1 =>
  (gR w1 a0 6 0).bind fun r2 =>
  cI (U_X0_isWalker fu [.ref r2, .int a1] w1) fun x4 w3 =>
  (if x4 = 0 then
    some (some (.long (-9223372036854775808 : Int64)), w3)
  else
    cI (U_X7_refusalOfCells fu [.ref a0, .int a2, .int a3, .int a4, .int (10 : Int32)] w3) fun x6 w5 =>
    (if x6 = 0 then
      (gR w5 a0 6 1).bind fun r7 =>
      cI (U_X4_areWithin fu [.ref r7, .int a2, .int a4, .int (10 : Int32), .int (99 : Int32)] w5) fun x9 w8 =>
      (if x9 = 0 then
        some (some (.long (-9223372036854775808 : Int64)), w8)
      else
        (gR w8 a0 6 1).bind fun r10 =>
        cI (U_X4_sum fu [.ref r10, .int a2, .int a4, .int (10 : Int32)] w8) fun x12 w11 =>
        (if 0 < x12 then
          cI (U_X7_isWithin fu [.int a5, .int (0 : Int32), .int (30 : Int32)] w11) fun x14 w13 =>
          (if x14 = 0 then
            some (some (.long (-9223372036854775808 : Int64)), w13)
          else
            cI (U_X7_isWithin fu [.int a6, .int (0 : Int32), .int (1 : Int32)] w13) fun x16 w15 =>
            (if x16 = 0 then
              some (some (.long (-9223372036854775808 : Int64)), w15)
            else
              cI (U_X7_weightAcross fu [.ref a0, .int a1, .int a2, .int a4, .int a5] w15) fun x18 w17 =>
              cI (U_X7_commonDivisor fu [.int x18, .int x12] w17) fun x20 w19 =>
              (if 0 < x20 then
                (if a6 = 0 then
                  (if x20 = 0 then none else
                  some (some (.long (Int32.toInt64 (x18 / x20))), w19))
                else
                  (if x20 = 0 then none else
                  some (some (.long (Int32.toInt64 (x12 / x20))), w19)))
              else
                some (some (.long (-9223372036854775808 : Int64)), w19))))
        else
          some (some (.long (-9223372036854775808 : Int64)), w11)))
    else
      some (some (.long (-9223372036854775808 : Int64)), w5)))
def U_X7_odds (fu : Nat) : Orc := fun as w => match as with
  | [.ref a0, .int a1, .int a2, .int a3, .int a4, .int a5, .int a6] => if isO w a0 6 = true then M_X7_odds fu a0 a1 a2 a3 a4 a5 a6 w else none
  | _ => none
def K_X7_odds (fu : Nat) (n : Nat) : Kont := fun pc ls st w => none
set_option maxRecDepth 100000 in
set_option maxHeartbeats 4000000 in
theorem E_X7_odds (fu : Nat) (a0 : Nat) (a1 : Int32) (a2 : Int32) (a3 : Int32) (a4 : Int32) (a5 : Int32) (a6 : Int32) (w : XW) : M_X7_odds fu a0 a1 a2 a3 a4 a5 a6 w = ev T_X7_odds (op_X7_odds fu) [] (K_X7_odds fu fu) 77 0 (lv_args 0 [.ref a0, .int a1, .int a2, .int a3, .int a4, .int a5, .int a6]) [] w := by
  rfl
theorem D_X7_odds (fu : Nat) : DS T_X7_odds (op_X7_odds fu) [] 77 (K_X7_odds fu) := by
  refine ⟨fun pc ls st w => rfl, fun n pc ls st w o h => ?_⟩
  cases h
theorem H_X7_odds (fu : Nat) : ∀ as w o, U_X7_odds fu as w = some o → ∃ a r, as = .ref a :: r ∧ r.length = 6 ∧ isO w a 6 = true := by
  intro as w o h
  unfold U_X7_odds at h
  split at h
  next =>
    split at h
    next hh => exact ⟨_, _, rfl, rfl, hh⟩
    next => cases h
  next => cases h
set_option maxRecDepth 100000 in
set_option maxHeartbeats 4000000 in
theorem S_X7_odds (fu : Nat) {l : Launch} {D : va_G} {cA : Nat → ClassId} {base b : Nat} : CS l D cA base b 5 y_X7_odds prog_1_method_26_code 10 (some .long) (U_X7_odds fu) ∧ OM (U_X7_odds fu) := by
  refine CS_of (d := 4) (y := y_X7_odds) (cc := prog_1_method_26_code) (nL := 10) (ret := (some .long)) (F := U_X7_odds fu) (fl := fl_BrookStones) (nl := nl_BrookStones) (kl := []) (k2 := k2_BrookStones) (mv := [(158, 2, 1, (U_X0_isWalker fu)), (57, 5, 1, (U_X7_refusalOfCells fu)), (193, 5, 1, (U_X4_areWithin fu)), (247, 4, 1, (U_X4_sum fu)), (250, 5, 1, (U_X7_weightAcross fu))]) (ms := [(105, 3, 1, (U_X7_isWithin fu)), (253, 2, 1, (U_X7_commonDivisor fu))]) (mi := []) (ini := false) hI_w hZ_w fl_BrookStones_ok nl_BrookStones_ok nil_all k2_BrookStones_ok
    (cons_all (⟨⟨show (1 : Nat) ≠ 3 by decide, y_X0_isWalker, prog_2_method_6_code, 2, (some .boolean), 1, "BrookStones", 0, TX0, 15, 1, (S_X0_isWalker fu (l := l) (D := D) (cA := cA) (base := base) (b := b)).1, by decide, by decide, rfl, H_X0_isWalker fu, rfl, mi_X0_isWalker.1, mi_X0_isWalker.2.1, mi_X0_isWalker.2.2.1, mi_X0_isWalker.2.2.2.1, mi_X0_isWalker.2.2.2.2, Or.inr (tblN_of (i := 391) rfl rfl)⟩, (S_X0_isWalker fu (l := l) (D := D) (cA := cA) (base := base) (b := b)).2⟩) (cons_all (⟨⟨show (1 : Nat) ≠ 3 by decide, y_X7_refusalOfCells, prog_1_method_39_code, 6, (some .int), 3, "BrookStones", 6, TX7, 8, 4, (S_X7_refusalOfCells fu (l := l) (D := D) (cA := cA) (base := base) (b := b)).1, by decide, by decide, rfl, H_X7_refusalOfCells fu, rfl, mi_X7_refusalOfCells.1, mi_X7_refusalOfCells.2.1, mi_X7_refusalOfCells.2.2.1, mi_X7_refusalOfCells.2.2.2.1, mi_X7_refusalOfCells.2.2.2.2, Or.inl (tblG_of (i := 248) rfl rfl)⟩, (S_X7_refusalOfCells fu (l := l) (D := D) (cA := cA) (base := base) (b := b)).2⟩) (cons_all (⟨⟨show (1 : Nat) ≠ 3 by decide, y_X4_areWithin, prog_6_method_13_code, 6, (some .boolean), 2, "BrookStones", 4, TX4, 3, 4, (S_X4_areWithin fu (l := l) (D := D) (cA := cA) (base := base) (b := b)).1, by decide, by decide, rfl, H_X4_areWithin fu, rfl, mi_X4_areWithin.1, mi_X4_areWithin.2.1, mi_X4_areWithin.2.2.1, mi_X4_areWithin.2.2.2.1, mi_X4_areWithin.2.2.2.2, Or.inr (tblN_of (i := 462) rfl rfl)⟩, (S_X4_areWithin fu (l := l) (D := D) (cA := cA) (base := base) (b := b)).2⟩) (cons_all (⟨⟨show (1 : Nat) ≠ 3 by decide, y_X4_sum, prog_6_method_14_code, 6, (some .int), 2, "BrookStones", 4, TX4, 3, 3, (S_X4_sum fu (l := l) (D := D) (cA := cA) (base := base) (b := b)).1, by decide, by decide, rfl, H_X4_sum fu, rfl, mi_X4_sum.1, mi_X4_sum.2.1, mi_X4_sum.2.2.1, mi_X4_sum.2.2.2.1, mi_X4_sum.2.2.2.2, Or.inr (tblN_of (i := 636) rfl rfl)⟩, (S_X4_sum fu (l := l) (D := D) (cA := cA) (base := base) (b := b)).2⟩) (cons_all (⟨⟨show (1 : Nat) ≠ 3 by decide, y_X7_weightAcross, prog_1_method_27_code, 7, (some .int), 4, "BrookStones", 6, TX7, 8, 4, (S_X7_weightAcross fu (l := l) (D := D) (cA := cA) (base := base) (b := b)).1, by decide, by decide, rfl, H_X7_weightAcross fu, rfl, mi_X7_weightAcross.1, mi_X7_weightAcross.2.1, mi_X7_weightAcross.2.2.1, mi_X7_weightAcross.2.2.2.1, mi_X7_weightAcross.2.2.2.2, Or.inl (tblG_of (i := 640) rfl rfl)⟩, (S_X7_weightAcross fu (l := l) (D := D) (cA := cA) (base := base) (b := b)).2⟩) (nil_all))))))
    (cons_all (⟨Or.inl ⟨show (1 : Nat) ≠ 3 by decide, y_X7_isWithin, prog_1_method_46_code, 3, (some .boolean), 1, "BrookStones", (S_X7_isWithin fu (l := l) (D := D) (cA := cA) (base := base) (b := b)).1, by decide, by decide, mi_X7_isWithin.1, mi_X7_isWithin.2.1, mi_X7_isWithin.2.2.1, mi_X7_isWithin.2.2.2, Or.inl (tblG_of (i := 333) rfl rfl)⟩, (S_X7_isWithin fu (l := l) (D := D) (cA := cA) (base := base) (b := b)).2⟩) (cons_all (⟨Or.inl ⟨show (1 : Nat) ≠ 3 by decide, y_X7_commonDivisor, prog_1_method_48_code, 6, (some .int), 1, "BrookStones", (S_X7_commonDivisor fu (l := l) (D := D) (cA := cA) (base := base) (b := b)).1, by decide, by decide, mi_X7_commonDivisor.1, mi_X7_commonDivisor.2.1, mi_X7_commonDivisor.2.2.1, mi_X7_commonDivisor.2.2.2, Or.inl (tblG_of (i := 644) rfl rfl)⟩, (S_X7_commonDivisor fu (l := l) (D := D) (cA := cA) (base := base) (b := b)).2⟩) (nil_all)))
    (nil_all)
    (T := T_X7_odds) (by decide +kernel) (cut := []) (N := 77) (D_X7_odds fu) (by decide +kernel) (fun h => absurd h (by decide)) (fun as w o h => ?_)
  unfold U_X7_odds at h
  split at h
  next =>
    split at h
    next => exact ⟨Nat.le_of_ble_eq_true rfl, fu, (E_X7_odds fu _ _ _ _ _ _ _ w).symm.trans h⟩
    next => cases h
  next => cases h
def T_X8_lost : List (Nat × Instr) := [(0, .aload_n 0), (1, .iload_n 1), (2, .putfield 84), (5, .ldc2_w 87), (8, .lreturn)]
def op_X8_lost (fu : Nat) : Nat → Kont → XL → List Value → XW → Instr → Option XO := opK 2 (rzOf (some .long)) fl_BrookStonesModel [] kl_BrookStonesModel k2_BrookStonesModel [] [] []
def M_X8_lost (fu : Nat) (a0 : Nat) (a1 : Int32) (w : XW) : Option XO :=
  (pF w a0 7 0 (.int a1)).bind fun w1 =>
  some (some (.long (-9223372036854775808 : Int64)), w1)
def U_X8_lost (fu : Nat) : Orc := fun as w => match as with
  | [.ref a0, .int a1] => if isO w a0 7 = true then M_X8_lost fu a0 a1 w else none
  | _ => none
def K_X8_lost (fu : Nat) (n : Nat) : Kont := fun pc ls st w => none
set_option maxRecDepth 100000 in
set_option maxHeartbeats 4000000 in
theorem E_X8_lost (fu : Nat) (a0 : Nat) (a1 : Int32) (w : XW) : M_X8_lost fu a0 a1 w = ev T_X8_lost (op_X8_lost fu) [] (K_X8_lost fu fu) 7 0 (lv_args 0 [.ref a0, .int a1]) [] w := by
  rfl
theorem D_X8_lost (fu : Nat) : DS T_X8_lost (op_X8_lost fu) [] 7 (K_X8_lost fu) := by
  refine ⟨fun pc ls st w => rfl, fun n pc ls st w o h => ?_⟩
  cases h
theorem H_X8_lost (fu : Nat) : ∀ as w o, U_X8_lost fu as w = some o → ∃ a r, as = .ref a :: r ∧ r.length = 1 ∧ isO w a 7 = true := by
  intro as w o h
  unfold U_X8_lost at h
  split at h
  next =>
    split at h
    next hh => exact ⟨_, _, rfl, rfl, hh⟩
    next => cases h
  next => cases h
set_option maxRecDepth 100000 in
set_option maxHeartbeats 4000000 in
theorem S_X8_lost (fu : Nat) {l : Launch} {D : va_G} {cA : Nat → ClassId} {base b : Nat} : CS l D cA base b 1 y_X8_lost prog_10_method_4_code 2 (some .long) (U_X8_lost fu) ∧ OM (U_X8_lost fu) := by
  refine CS_of (d := 0) (y := y_X8_lost) (cc := prog_10_method_4_code) (nL := 2) (ret := (some .long)) (F := U_X8_lost fu) (fl := fl_BrookStonesModel) (nl := []) (kl := kl_BrookStonesModel) (k2 := k2_BrookStonesModel) (mv := []) (ms := []) (mi := []) (ini := false) hI_w hZ_w fl_BrookStonesModel_ok nil_all kl_BrookStonesModel_ok k2_BrookStonesModel_ok
    (nil_all)
    (nil_all)
    (nil_all)
    (T := T_X8_lost) (by decide +kernel) (cut := []) (N := 7) (D_X8_lost fu) (by decide +kernel) (fun h => absurd h (by decide)) (fun as w o h => ?_)
  unfold U_X8_lost at h
  split at h
  next =>
    split at h
    next => exact ⟨Nat.le_of_ble_eq_true rfl, fu, (E_X8_lost fu _ _ w).symm.trans h⟩
    next => cases h
  next => cases h
def T_X8_common : List (Nat × Instr) := [(0, .lload_n 0), (1, .lstore 4), (3, .lload_n 2), (4, .lstore 6), (6, .lload 6), (8, .lconst 0), (9, .lcmp), (10, .ifCond .eq 21), (13, .lload 4), (15, .lload 6), (17, .lrem), (18, .lstore 8), (20, .lload 6), (22, .lstore 4), (24, .lload 8), (26, .lstore 6), (28, .goto (-22)), (31, .lload 4), (33, .lreturn)]
def op_X8_common (fu : Nat) : Nat → Kont → XL → List Value → XW → Instr → Option XO := opK 10 (rzOf (some .long)) fl_BrookStonesModel [] kl_BrookStonesModel k2_BrookStonesModel [] [] []
def F_X8_common (fu : Nat) : Nat → (Int64 → Int64 → XW → Option XO)
  | 0 => fun _ _ _ => none
  | n + 1 => (fun a4 a6 w =>
    (if (lg_cmp a6 (0 : Int64)) = 0 then
      some (some (.long a4), w)
    else
      (if a6 = 0 then none else
      (F_X8_common fu n) a6 (a4 - a4 / a6 * a6) w)))
def M_X8_common (fu : Nat) (a0 : Int64) (a2 : Int64) (w : XW) : Option XO :=
  (F_X8_common fu fu) a0 a2 w
def U_X8_common (fu : Nat) : Orc := fun as w => match as with
  | [.long a0, .long a2] => M_X8_common fu a0 a2 w
  | _ => none
def K_X8_common (fu : Nat) (n : Nat) : Kont := fun pc ls st w => bif pc == 6 then ((xj ls 4).bind fun a4 => (xj ls 6).bind fun a6 => skN st ((F_X8_common fu n) a4 a6 w)) else none
set_option maxRecDepth 100000 in
set_option maxHeartbeats 4000000 in
theorem E_X8_common_6 (fu : Nat) (n : Nat) (a4 : Int64) (a6 : Int64) (w : XW) : (F_X8_common fu (n + 1)) a4 a6 w = ev T_X8_common (op_X8_common fu) [6] (K_X8_common fu n) 21 6 [(4, .long a4), (6, .long a6)] [] w := by
  rfl
set_option maxRecDepth 100000 in
set_option maxHeartbeats 4000000 in
theorem E_X8_common (fu : Nat) (a0 : Int64) (a2 : Int64) (w : XW) : M_X8_common fu a0 a2 w = ev T_X8_common (op_X8_common fu) [6] (K_X8_common fu fu) 21 0 (lv_args 0 [.long a0, .long a2]) [] w := by
  rfl
theorem D_X8_common (fu : Nat) : DS T_X8_common (op_X8_common fu) [6] 21 (K_X8_common fu) := by
  refine ⟨fun pc ls st w => c_none (b_none fun _ => b_none fun _ => skN_none rfl) (rfl), fun n pc ls st w o h => ?_⟩
  rcases c_some h with ⟨rfl, h⟩ | h
  · obtain ⟨a4, h4, h⟩ := some_of h; obtain ⟨a6, h6, h⟩ := some_of h;
    obtain ⟨e, g⟩ := skN_of h
    subst e
    exact ⟨[(4, .long a4), (6, .long a6)], cons_all (xj_of h4) (cons_all (xj_of h6) (nil_all)), (E_X8_common_6 fu n a4 a6 w).symm.trans g⟩
  · cases h
set_option maxRecDepth 100000 in
set_option maxHeartbeats 4000000 in
theorem S_X8_common (fu : Nat) {l : Launch} {D : va_G} {cA : Nat → ClassId} {base b : Nat} : CS l D cA base b 1 y_X8_common prog_10_method_64_code 10 (some .long) (U_X8_common fu) ∧ OM (U_X8_common fu) := by
  refine CS_of (d := 0) (y := y_X8_common) (cc := prog_10_method_64_code) (nL := 10) (ret := (some .long)) (F := U_X8_common fu) (fl := fl_BrookStonesModel) (nl := []) (kl := kl_BrookStonesModel) (k2 := k2_BrookStonesModel) (mv := []) (ms := []) (mi := []) (ini := false) hI_w hZ_w fl_BrookStonesModel_ok nil_all kl_BrookStonesModel_ok k2_BrookStonesModel_ok
    (nil_all)
    (nil_all)
    (nil_all)
    (T := T_X8_common) (by decide +kernel) (cut := [6]) (N := 21) (D_X8_common fu) (by decide +kernel) (fun h => absurd h (by decide)) (fun as w o h => ?_)
  unfold U_X8_common at h
  split at h
  next =>
    exact ⟨Nat.le_of_ble_eq_true rfl, fu, (E_X8_common fu _ _ w).symm.trans h⟩
  next => cases h
def T_X8_odds : List (Nat × Instr) := [(0, .aload_n 0), (1, .iconst 0), (2, .putfield 84), (5, .aload_n 0), (6, .iload_n 1), (7, .invokevirtual 158), (10, .ifCond .eq 17), (13, .iload_n 2), (14, .invokestatic 99), (17, .ifCond .eq 10), (20, .iload_n 3), (21, .invokestatic 103), (24, .ifCond .ne 7), (27, .ldc2_w 87), (30, .lreturn), (31, .aload_n 0), (32, .iload_n 2), (33, .iload_n 3), (34, .iload 4), (36, .bipush 10), (38, .invokevirtual 106), (41, .istore 7), (43, .iload 7), (45, .ifCond .eq 10), (48, .aload_n 0), (49, .iload 7), (51, .invokevirtual 242), (54, .lreturn), (55, .bipush 60), (57, .iload_n 2), (58, .imul), (59, .iload 4), (61, .iadd), (62, .istore 8), (64, .iconst 0), (65, .istore 9), (67, .iconst 0), (68, .istore 10), (70, .iload 10), (72, .bipush 10), (74, .if_icmp .ge 47), (77, .aload_n 0), (78, .getfield 16), (81, .iload 8), (83, .iload 10), (85, .iadd), (86, .iaload), (87, .iconst 0), (88, .bipush 99), (90, .invokestatic 89), (93, .ifCond .ne 7), (96, .ldc2_w 87), (99, .lreturn), (100, .iload 9), (102, .aload_n 0), (103, .getfield 16), (106, .iload 8), (108, .iload 10), (110, .iadd), (111, .iaload), (112, .iadd), (113, .istore 9), (115, .iinc 10 1), (118, .goto (-48)), (121, .iload 9), (123, .ifCond .eq 24), (126, .iload 5), (128, .iconst 0), (129, .bipush 30), (131, .invokestatic 89), (134, .ifCond .eq 13), (137, .iload 6), (139, .iconst 0), (140, .iconst 1), (141, .invokestatic 89), (144, .ifCond .ne 7), (147, .ldc2_w 87), (150, .lreturn), (151, .iconst 0), (152, .istore 10), (154, .iconst 0), (155, .istore 11), (157, .iload 11), (159, .bipush 10), (161, .if_icmp .ge 53), (164, .aload_n 0), (165, .invokevirtual 181), (168, .aload_n 0), (169, .iload 11), (171, .iload 5), (173, .invokevirtual 203), (176, .iload 10), (178, .aload_n 0), (179, .aload_n 0), (180, .getfield 53), (183, .iload_n 1), (184, .iaload), (185, .invokevirtual 188), (188, .ifCond .eq 16), (191, .aload_n 0), (192, .getfield 16), (195, .iload 8), (197, .iload 11), (199, .iadd), (200, .iaload), (201, .goto 4), (204, .iconst 0), (205, .iadd), (206, .istore 10), (208, .iinc 11 1), (211, .goto (-54)), (214, .iload 10), (216, .i2l), (217, .iload 9), (219, .i2l), (220, .invokestatic 246), (223, .lstore 11), (225, .iload 6), (227, .ifCond .ne 12), (230, .iload 10), (232, .i2l), (233, .lload 11), (235, .ldiv), (236, .goto 9), (239, .iload 9), (241, .i2l), (242, .lload 11), (244, .ldiv), (245, .lreturn)]
def op_X8_odds (fu : Nat) : Nat → Kont → XL → List Value → XW → Instr → Option XO := opK 13 (rzOf (some .long)) fl_BrookStonesModel [] kl_BrookStonesModel k2_BrookStonesModel [(158, 2, 1, (U_X8_isWalker fu)), (106, 5, 1, (U_X8_against fu)), (242, 2, 2, (U_X8_lost fu)), (181, 1, 0, (U_X8_layNow fu)), (203, 3, 0, (U_X8_goFlood fu)), (188, 2, 1, (U_X8_comes fu))] [(99, 1, 1, (U_X8_isSheet fu)), (103, 1, 1, (U_X8_isSort fu)), (89, 3, 1, (U_X8_within fu)), (246, 2, 2, (U_X8_common fu))] []
def F_X8_odds (fu : Nat) : Nat → (Nat → Int32 → Int32 → Int32 → Int32 → Int32 → Int32 → XW → Option XO) × (Nat → Int32 → Int32 → Int32 → Int32 → Int32 → Int32 → Int32 → XW → Option XO)
  | 0 => (fun _ _ _ _ _ _ _ _ => none, fun _ _ _ _ _ _ _ _ _ => none)
  | n + 1 => ((fun a0 a1 a5 a6 a8 a9 a10 w =>
    (if a10 < (10 : Int32) then
      (gR w a0 7 4).bind fun r5 =>
      (aI w r5 (a8 + a10)).bind fun x6 =>
      cI (U_X8_within fu [.int x6, .int (0 : Int32), .int (99 : Int32)] w) fun x8 w7 =>
      (if x8 = 0 then
        some (some (.long (-9223372036854775808 : Int64)), w7)
      else
        (gR w7 a0 7 4).bind fun r9 =>
        (aI w7 r9 (a8 + a10)).bind fun x10 =>
        (F_X8_odds fu n).1 a0 a1 a5 a6 a8 (a9 + x10) (a10 + (1 : Int32)) w7)
    else
      (if a9 = 0 then
        some (some (.long (-9223372036854775808 : Int64)), w)
      else
        cI (U_X8_within fu [.int a5, .int (0 : Int32), .int (30 : Int32)] w) fun x2 w1 =>
        (if x2 = 0 then
          some (some (.long (-9223372036854775808 : Int64)), w1)
        else
          cI (U_X8_within fu [.int a6, .int (0 : Int32), .int (1 : Int32)] w1) fun x4 w3 =>
          (if x4 = 0 then
            some (some (.long (-9223372036854775808 : Int64)), w3)
          else
            (F_X8_odds fu n).2 a0 a1 a5 a6 a8 a9 (0 : Int32) (0 : Int32) w3))))),
   (fun a0 a1 a5 a6 a8 a9 a10 a11 w =>
    (if a11 < (10 : Int32) then
      cV (U_X8_layNow fu [.ref a0] w) fun w13 =>
      cV (U_X8_goFlood fu [.ref a0, .int a11, .int a5] w13) fun w14 =>
      (gR w14 a0 7 24).bind fun r15 =>
      (aI w14 r15 a1).bind fun x16 =>
      cI (U_X8_comes fu [.ref a0, .int x16] w14) fun x18 w17 =>
      (if x18 = 0 then
        (F_X8_odds fu n).2 a0 a1 a5 a6 a8 a9 (a10 + (0 : Int32)) (a11 + (1 : Int32)) w17
      else
        (gR w17 a0 7 4).bind fun r19 =>
        (aI w17 r19 (a8 + a11)).bind fun x20 =>
        (F_X8_odds fu n).2 a0 a1 a5 a6 a8 a9 (a10 + x20) (a11 + (1 : Int32)) w17)
    else
      cL (U_X8_common fu [.long (Int32.toInt64 a10), .long (Int32.toInt64 a9)] w) fun x12 w11 =>
      (if a6 = 0 then
        (if x12 = 0 then none else
        some (some (.long ((Int32.toInt64 a10) / x12)), w11))
      else
        (if x12 = 0 then none else
        some (some (.long ((Int32.toInt64 a9) / x12)), w11))))))
def M_X8_odds (fu : Nat) (a0 : Nat) (a1 : Int32) (a2 : Int32) (a3 : Int32) (a4 : Int32) (a5 : Int32) (a6 : Int32) (w : XW) : Option XO :=
  (pF w a0 7 0 (.int (0 : Int32))).bind fun w21 =>
  cI (U_X8_isWalker fu [.ref a0, .int a1] w21) fun x23 w22 =>
  (if x23 = 0 then
    some (some (.long (-9223372036854775808 : Int64)), w22)
  else
    cI (U_X8_isSheet fu [.int a2] w22) fun x25 w24 =>
    (if x25 = 0 then
      some (some (.long (-9223372036854775808 : Int64)), w24)
    else
      cI (U_X8_isSort fu [.int a3] w24) fun x27 w26 =>
      (if x27 = 0 then
        some (some (.long (-9223372036854775808 : Int64)), w26)
      else
        cI (U_X8_against fu [.ref a0, .int a2, .int a3, .int a4, .int (10 : Int32)] w26) fun x29 w28 =>
        (if x29 = 0 then
          (F_X8_odds fu fu).1 a0 a1 a5 a6 (((60 : Int32) * a2) + a4) (0 : Int32) (0 : Int32) w28
        else
          cL (U_X8_lost fu [.ref a0, .int x29] w28) fun x31 w30 =>
          some (some (.long x31), w30)))))
def U_X8_odds (fu : Nat) : Orc := fun as w => match as with
  | [.ref a0, .int a1, .int a2, .int a3, .int a4, .int a5, .int a6] => if isO w a0 7 = true then M_X8_odds fu a0 a1 a2 a3 a4 a5 a6 w else none
  | _ => none
def K_X8_odds (fu : Nat) (n : Nat) : Kont := fun pc ls st w => bif pc == 70 then ((xr ls 0).bind fun a0 => (xi ls 1).bind fun a1 => (xi ls 5).bind fun a5 => (xi ls 6).bind fun a6 => (xi ls 8).bind fun a8 => (xi ls 9).bind fun a9 => (xi ls 10).bind fun a10 => skN st ((F_X8_odds fu n).1 a0 a1 a5 a6 a8 a9 a10 w)) else bif pc == 157 then ((xr ls 0).bind fun a0 => (xi ls 1).bind fun a1 => (xi ls 5).bind fun a5 => (xi ls 6).bind fun a6 => (xi ls 8).bind fun a8 => (xi ls 9).bind fun a9 => (xi ls 10).bind fun a10 => (xi ls 11).bind fun a11 => skN st ((F_X8_odds fu n).2 a0 a1 a5 a6 a8 a9 a10 a11 w)) else none
set_option maxRecDepth 100000 in
set_option maxHeartbeats 4000000 in
theorem E_X8_odds_70 (fu : Nat) (n : Nat) (a0 : Nat) (a1 : Int32) (a5 : Int32) (a6 : Int32) (a8 : Int32) (a9 : Int32) (a10 : Int32) (w : XW) : (F_X8_odds fu (n + 1)).1 a0 a1 a5 a6 a8 a9 a10 w = ev T_X8_odds (op_X8_odds fu) [70, 157] (K_X8_odds fu n) 131 70 [(0, .ref a0), (1, .int a1), (5, .int a5), (6, .int a6), (8, .int a8), (9, .int a9), (10, .int a10)] [] w := by
  rfl
set_option maxRecDepth 100000 in
set_option maxHeartbeats 4000000 in
theorem E_X8_odds_157 (fu : Nat) (n : Nat) (a0 : Nat) (a1 : Int32) (a5 : Int32) (a6 : Int32) (a8 : Int32) (a9 : Int32) (a10 : Int32) (a11 : Int32) (w : XW) : (F_X8_odds fu (n + 1)).2 a0 a1 a5 a6 a8 a9 a10 a11 w = ev T_X8_odds (op_X8_odds fu) [70, 157] (K_X8_odds fu n) 131 157 [(0, .ref a0), (1, .int a1), (5, .int a5), (6, .int a6), (8, .int a8), (9, .int a9), (10, .int a10), (11, .int a11)] [] w := by
  rfl
set_option maxRecDepth 100000 in
set_option maxHeartbeats 4000000 in
theorem E_X8_odds (fu : Nat) (a0 : Nat) (a1 : Int32) (a2 : Int32) (a3 : Int32) (a4 : Int32) (a5 : Int32) (a6 : Int32) (w : XW) : M_X8_odds fu a0 a1 a2 a3 a4 a5 a6 w = ev T_X8_odds (op_X8_odds fu) [70, 157] (K_X8_odds fu fu) 131 0 (lv_args 0 [.ref a0, .int a1, .int a2, .int a3, .int a4, .int a5, .int a6]) [] w := by
  rfl
theorem D_X8_odds (fu : Nat) : DS T_X8_odds (op_X8_odds fu) [70, 157] 131 (K_X8_odds fu) := by
  refine ⟨fun pc ls st w => c_none (b_none fun _ => b_none fun _ => b_none fun _ => b_none fun _ => b_none fun _ => b_none fun _ => b_none fun _ => skN_none rfl) (c_none (b_none fun _ => b_none fun _ => b_none fun _ => b_none fun _ => b_none fun _ => b_none fun _ => b_none fun _ => b_none fun _ => skN_none rfl) (rfl)), fun n pc ls st w o h => ?_⟩
  rcases c_some h with ⟨rfl, h⟩ | h
  · obtain ⟨a0, h0, h⟩ := some_of h; obtain ⟨a1, h1, h⟩ := some_of h; obtain ⟨a5, h5, h⟩ := some_of h; obtain ⟨a6, h6, h⟩ := some_of h; obtain ⟨a8, h8, h⟩ := some_of h; obtain ⟨a9, h9, h⟩ := some_of h; obtain ⟨a10, h10, h⟩ := some_of h;
    obtain ⟨e, g⟩ := skN_of h
    subst e
    exact ⟨[(0, .ref a0), (1, .int a1), (5, .int a5), (6, .int a6), (8, .int a8), (9, .int a9), (10, .int a10)], cons_all (xr_of h0) (cons_all (xi_of h1) (cons_all (xi_of h5) (cons_all (xi_of h6) (cons_all (xi_of h8) (cons_all (xi_of h9) (cons_all (xi_of h10) (nil_all))))))), (E_X8_odds_70 fu n a0 a1 a5 a6 a8 a9 a10 w).symm.trans g⟩
  rcases c_some h with ⟨rfl, h⟩ | h
  · obtain ⟨a0, h0, h⟩ := some_of h; obtain ⟨a1, h1, h⟩ := some_of h; obtain ⟨a5, h5, h⟩ := some_of h; obtain ⟨a6, h6, h⟩ := some_of h; obtain ⟨a8, h8, h⟩ := some_of h; obtain ⟨a9, h9, h⟩ := some_of h; obtain ⟨a10, h10, h⟩ := some_of h; obtain ⟨a11, h11, h⟩ := some_of h;
    obtain ⟨e, g⟩ := skN_of h
    subst e
    exact ⟨[(0, .ref a0), (1, .int a1), (5, .int a5), (6, .int a6), (8, .int a8), (9, .int a9), (10, .int a10), (11, .int a11)], cons_all (xr_of h0) (cons_all (xi_of h1) (cons_all (xi_of h5) (cons_all (xi_of h6) (cons_all (xi_of h8) (cons_all (xi_of h9) (cons_all (xi_of h10) (cons_all (xi_of h11) (nil_all)))))))), (E_X8_odds_157 fu n a0 a1 a5 a6 a8 a9 a10 a11 w).symm.trans g⟩
  · cases h
theorem H_X8_odds (fu : Nat) : ∀ as w o, U_X8_odds fu as w = some o → ∃ a r, as = .ref a :: r ∧ r.length = 6 ∧ isO w a 7 = true := by
  intro as w o h
  unfold U_X8_odds at h
  split at h
  next =>
    split at h
    next hh => exact ⟨_, _, rfl, rfl, hh⟩
    next => cases h
  next => cases h
set_option maxRecDepth 100000 in
set_option maxHeartbeats 4000000 in
theorem S_X8_odds (fu : Nat) {l : Launch} {D : va_G} {cA : Nat → ClassId} {base b : Nat} : CS l D cA base b 6 y_X8_odds prog_10_method_65_code 13 (some .long) (U_X8_odds fu) ∧ OM (U_X8_odds fu) := by
  refine CS_of (d := 5) (y := y_X8_odds) (cc := prog_10_method_65_code) (nL := 13) (ret := (some .long)) (F := U_X8_odds fu) (fl := fl_BrookStonesModel) (nl := []) (kl := kl_BrookStonesModel) (k2 := k2_BrookStonesModel) (mv := [(158, 2, 1, (U_X8_isWalker fu)), (106, 5, 1, (U_X8_against fu)), (242, 2, 2, (U_X8_lost fu)), (181, 1, 0, (U_X8_layNow fu)), (203, 3, 0, (U_X8_goFlood fu)), (188, 2, 1, (U_X8_comes fu))]) (ms := [(99, 1, 1, (U_X8_isSheet fu)), (103, 1, 1, (U_X8_isSort fu)), (89, 3, 1, (U_X8_within fu)), (246, 2, 2, (U_X8_common fu))]) (mi := []) (ini := false) hI_w hZ_w fl_BrookStonesModel_ok nil_all kl_BrookStonesModel_ok k2_BrookStonesModel_ok
    (cons_all (⟨⟨show (1 : Nat) ≠ 3 by decide, y_X8_isWalker, prog_10_method_26_code, 2, (some .boolean), 1, "BrookStones", 7, TX8, 37, 1, (S_X8_isWalker fu (l := l) (D := D) (cA := cA) (base := base) (b := b)).1, by decide, by decide, rfl, H_X8_isWalker fu, rfl, mi_X8_isWalker.1, mi_X8_isWalker.2.1, mi_X8_isWalker.2.2.1, mi_X8_isWalker.2.2.2.1, mi_X8_isWalker.2.2.2.2, Or.inl (tblG_of (i := 943) rfl rfl)⟩, (S_X8_isWalker fu (l := l) (D := D) (cA := cA) (base := base) (b := b)).2⟩) (cons_all (⟨⟨show (1 : Nat) ≠ 3 by decide, y_X8_against, prog_10_method_9_code, 5, (some .int), 1, "BrookStones", 7, TX8, 37, 4, (S_X8_against fu (l := l) (D := D) (cA := cA) (base := base) (b := b)).1, by decide, by decide, rfl, H_X8_against fu, rfl, mi_X8_against.1, mi_X8_against.2.1, mi_X8_against.2.2.1, mi_X8_against.2.2.2.1, mi_X8_against.2.2.2.2, Or.inl (tblG_of (i := 867) rfl rfl)⟩, (S_X8_against fu (l := l) (D := D) (cA := cA) (base := base) (b := b)).2⟩) (cons_all (⟨⟨show (2 : Nat) ≠ 3 by decide, y_X8_lost, prog_10_method_4_code, 2, (some .long), 1, "BrookStones", 7, TX8, 37, 1, (S_X8_lost fu (l := l) (D := D) (cA := cA) (base := base) (b := b)).1, by decide, by decide, rfl, H_X8_lost fu, rfl, mi_X8_lost.1, mi_X8_lost.2.1, mi_X8_lost.2.2.1, mi_X8_lost.2.2.2.1, mi_X8_lost.2.2.2.2, Or.inl (tblG_of (i := 1094) rfl rfl)⟩, (S_X8_lost fu (l := l) (D := D) (cA := cA) (base := base) (b := b)).2⟩) (cons_all (⟨⟨show (0 : Nat) ≠ 3 by decide, y_X8_layNow, prog_10_method_29_code, 2, (none), 1, "BrookStones", 7, TX8, 37, 0, (S_X8_layNow fu (l := l) (D := D) (cA := cA) (base := base) (b := b)).1, by decide, by decide, rfl, H_X8_layNow fu, rfl, mi_X8_layNow.1, mi_X8_layNow.2.1, mi_X8_layNow.2.2.1, mi_X8_layNow.2.2.2.1, mi_X8_layNow.2.2.2.2, Or.inl (tblG_of (i := 951) rfl rfl)⟩, (S_X8_layNow fu (l := l) (D := D) (cA := cA) (base := base) (b := b)).2⟩) (cons_all (⟨⟨show (0 : Nat) ≠ 3 by decide, y_X8_goFlood, prog_10_method_45_code, 6, (none), 2, "BrookStones", 7, TX8, 37, 2, (S_X8_goFlood fu (l := l) (D := D) (cA := cA) (base := base) (b := b)).1, by decide, by decide, rfl, H_X8_goFlood fu, rfl, mi_X8_goFlood.1, mi_X8_goFlood.2.1, mi_X8_goFlood.2.2.1, mi_X8_goFlood.2.2.2.1, mi_X8_goFlood.2.2.2.2, Or.inl (tblG_of (i := 1014) rfl rfl)⟩, (S_X8_goFlood fu (l := l) (D := D) (cA := cA) (base := base) (b := b)).2⟩) (cons_all (⟨⟨show (1 : Nat) ≠ 3 by decide, y_X8_comes, prog_10_method_35_code, 2, (some .boolean), 5, "BrookStones", 7, TX8, 37, 1, (S_X8_comes fu (l := l) (D := D) (cA := cA) (base := base) (b := b)).1, by decide, by decide, rfl, H_X8_comes fu, rfl, mi_X8_comes.1, mi_X8_comes.2.1, mi_X8_comes.2.2.1, mi_X8_comes.2.2.2.1, mi_X8_comes.2.2.2.2, Or.inl (tblG_of (i := 959) rfl rfl)⟩, (S_X8_comes fu (l := l) (D := D) (cA := cA) (base := base) (b := b)).2⟩) (nil_all)))))))
    (cons_all (⟨Or.inl ⟨show (1 : Nat) ≠ 3 by decide, y_X8_isSheet, prog_10_method_7_code, 1, (some .boolean), 2, "BrookStones", (S_X8_isSheet fu (l := l) (D := D) (cA := cA) (base := base) (b := b)).1, by decide, by decide, mi_X8_isSheet.1, mi_X8_isSheet.2.1, mi_X8_isSheet.2.2.1, mi_X8_isSheet.2.2.2, Or.inl (tblG_of (i := 858) rfl rfl)⟩, (S_X8_isSheet fu (l := l) (D := D) (cA := cA) (base := base) (b := b)).2⟩) (cons_all (⟨Or.inl ⟨show (1 : Nat) ≠ 3 by decide, y_X8_isSort, prog_10_method_8_code, 1, (some .boolean), 2, "BrookStones", (S_X8_isSort fu (l := l) (D := D) (cA := cA) (base := base) (b := b)).1, by decide, by decide, mi_X8_isSort.1, mi_X8_isSort.2.1, mi_X8_isSort.2.2.1, mi_X8_isSort.2.2.2, Or.inl (tblG_of (i := 864) rfl rfl)⟩, (S_X8_isSort fu (l := l) (D := D) (cA := cA) (base := base) (b := b)).2⟩) (cons_all (⟨Or.inl ⟨show (1 : Nat) ≠ 3 by decide, y_X8_within, prog_10_method_5_code, 3, (some .boolean), 1, "BrookStones", (S_X8_within fu (l := l) (D := D) (cA := cA) (base := base) (b := b)).1, by decide, by decide, mi_X8_within.1, mi_X8_within.2.1, mi_X8_within.2.2.1, mi_X8_within.2.2.2, Or.inl (tblG_of (i := 861) rfl rfl)⟩, (S_X8_within fu (l := l) (D := D) (cA := cA) (base := base) (b := b)).2⟩) (cons_all (⟨Or.inl ⟨show (2 : Nat) ≠ 3 by decide, y_X8_common, prog_10_method_64_code, 10, (some .long), 1, "BrookStones", (S_X8_common fu (l := l) (D := D) (cA := cA) (base := base) (b := b)).1, by decide, by decide, mi_X8_common.1, mi_X8_common.2.1, mi_X8_common.2.2.1, mi_X8_common.2.2.2, Or.inl (tblG_of (i := 1098) rfl rfl)⟩, (S_X8_common fu (l := l) (D := D) (cA := cA) (base := base) (b := b)).2⟩) (nil_all)))))
    (nil_all)
    (T := T_X8_odds) (by decide +kernel) (cut := [70, 157]) (N := 131) (D_X8_odds fu) (by decide +kernel) (fun h => absurd h (by decide)) (fun as w o h => ?_)
  unfold U_X8_odds at h
  split at h
  next =>
    split at h
    next => exact ⟨Nat.le_of_ble_eq_true rfl, fu, (E_X8_odds fu _ _ _ _ _ _ _ w).symm.trans h⟩
    next => cases h
  next => cases h
def T_J7_rangeCheck_23922 : List (Nat × Instr) := [(0, .iload_n 1), (1, .iload_n 2), (2, .if_icmp .le 44), (5, .new 43), (8, .dup), (9, .new 45), (12, .dup), (13, .invokespecial 47), (16, .ldc 48), (18, .invokevirtual 50), (21, .iload_n 1), (22, .invokevirtual 54), (25, .ldc 57), (27, .invokevirtual 50), (30, .iload_n 2), (31, .invokevirtual 54), (34, .ldc 59), (36, .invokevirtual 50), (39, .invokevirtual 61), (42, .invokespecial 65), (45, .athrow), (46, .iload_n 1), (47, .ifCond .ge 12), (50, .new 68), (53, .dup), (54, .iload_n 1), (55, .invokespecial 70), (58, .athrow), (59, .iload_n 2), (60, .iload_n 0), (61, .if_icmp .le 12), (64, .new 68), (67, .dup), (68, .iload_n 2), (69, .invokespecial 70), (72, .athrow), (73, .return_)]
def op_J7_rangeCheck_23922 (fu : Nat) : Nat → Kont → XL → List Value → XW → Instr → Option XO := opK 3 (rzOf (none)) [] [] [] [] [] [] []
def M_J7_rangeCheck_23922 (fu : Nat) (a0 : Int32) (a1 : Int32) (a2 : Int32) (w : XW) : Option XO :=
  (if a2 < a1 then
    none
  else
    (if a1 < 0 then
      none
    else
      (if a0 < a2 then
        none
      else
        some (none, w))))
def U_J7_rangeCheck_23922 (fu : Nat) : Orc := fun as w => match as with
  | [.int a0, .int a1, .int a2] => M_J7_rangeCheck_23922 fu a0 a1 a2 w
  | _ => none
def K_J7_rangeCheck_23922 (fu : Nat) (n : Nat) : Kont := fun pc ls st w => none
set_option maxRecDepth 100000 in
set_option maxHeartbeats 4000000 in
theorem E_J7_rangeCheck_23922 (fu : Nat) (a0 : Int32) (a1 : Int32) (a2 : Int32) (w : XW) : M_J7_rangeCheck_23922 fu a0 a1 a2 w = ev T_J7_rangeCheck_23922 (op_J7_rangeCheck_23922 fu) [] (K_J7_rangeCheck_23922 fu fu) 39 0 (lv_args 0 [.int a0, .int a1, .int a2]) [] w := by
  rfl
theorem D_J7_rangeCheck_23922 (fu : Nat) : DS T_J7_rangeCheck_23922 (op_J7_rangeCheck_23922 fu) [] 39 (K_J7_rangeCheck_23922 fu) := by
  refine ⟨fun pc ls st w => rfl, fun n pc ls st w o h => ?_⟩
  cases h
set_option maxRecDepth 100000 in
set_option maxHeartbeats 4000000 in
theorem S_J7_rangeCheck_23922 (fu : Nat) {l : Launch} {D : va_G} {cA : Nat → ClassId} {base b : Nat} : CS l D cA base b 1 y_J7_rangeCheck_23922 prog_14_method_30_code 3 (none) (U_J7_rangeCheck_23922 fu) ∧ OM (U_J7_rangeCheck_23922 fu) := by
  refine CS_of (d := 0) (y := y_J7_rangeCheck_23922) (cc := prog_14_method_30_code) (nL := 3) (ret := (none)) (F := U_J7_rangeCheck_23922 fu) (fl := []) (nl := []) (kl := []) (k2 := []) (mv := []) (ms := []) (mi := []) (ini := false) hI_w hZ_w nil_all nil_all nil_all nil_all
    (nil_all)
    (nil_all)
    (nil_all)
    (T := T_J7_rangeCheck_23922) (by decide +kernel) (cut := []) (N := 39) (D_J7_rangeCheck_23922 fu) (by decide +kernel) (fun h => absurd h (by decide)) (fun as w o h => ?_)
  unfold U_J7_rangeCheck_23922 at h
  split at h
  next =>
    exact ⟨Nat.le_of_ble_eq_true rfl, fu, (E_J7_rangeCheck_23922 fu _ _ _ w).symm.trans h⟩
  next => cases h
def T_J7_fill_fda19 : List (Nat × Instr) := [(0, .aload_n 0), (1, .arraylength), (2, .iload_n 1), (3, .iload_n 2), (4, .invokestatic 13), (7, .iload_n 1), (8, .istore 4), (10, .iload 4), (12, .iload_n 2), (13, .if_icmp .ge 14), (16, .aload_n 0), (17, .iload 4), (19, .iload_n 3), (20, .iastore), (21, .iinc 4 1), (24, .goto (-14)), (27, .return_)]
def op_J7_fill_fda19 (fu : Nat) : Nat → Kont → XL → List Value → XW → Instr → Option XO := opK 5 (rzOf (none)) [] [] [] [] [] [(13, 3, 0, (U_J7_rangeCheck_23922 fu))] []
def F_J7_fill_fda19 (fu : Nat) : Nat → (Nat → Int32 → Int32 → Int32 → XW → Option XO)
  | 0 => fun _ _ _ _ _ => none
  | n + 1 => (fun a0 a2 a3 a4 w =>
    (if a4 < a2 then
      (sI w a0 a4 a3).bind fun w1 =>
      (F_J7_fill_fda19 fu n) a0 a2 a3 (a4 + (1 : Int32)) w1
    else
      some (none, w)))
def M_J7_fill_fda19 (fu : Nat) (a0 : Nat) (a1 : Int32) (a2 : Int32) (a3 : Int32) (w : XW) : Option XO :=
  (aL w a0).bind fun x2 =>
  cV (U_J7_rangeCheck_23922 fu [.int x2, .int a1, .int a2] w) fun w3 =>
  (F_J7_fill_fda19 fu fu) a0 a2 a3 a1 w3
def U_J7_fill_fda19 (fu : Nat) : Orc := fun as w => match as with
  | [.ref a0, .int a1, .int a2, .int a3] => M_J7_fill_fda19 fu a0 a1 a2 a3 w
  | _ => none
def K_J7_fill_fda19 (fu : Nat) (n : Nat) : Kont := fun pc ls st w => bif pc == 10 then ((xr ls 0).bind fun a0 => (xi ls 2).bind fun a2 => (xi ls 3).bind fun a3 => (xi ls 4).bind fun a4 => skN st ((F_J7_fill_fda19 fu n) a0 a2 a3 a4 w)) else none
set_option maxRecDepth 100000 in
set_option maxHeartbeats 4000000 in
theorem E_J7_fill_fda19_10 (fu : Nat) (n : Nat) (a0 : Nat) (a2 : Int32) (a3 : Int32) (a4 : Int32) (w : XW) : (F_J7_fill_fda19 fu (n + 1)) a0 a2 a3 a4 w = ev T_J7_fill_fda19 (op_J7_fill_fda19 fu) [10] (K_J7_fill_fda19 fu n) 19 10 [(0, .ref a0), (2, .int a2), (3, .int a3), (4, .int a4)] [] w := by
  rfl
set_option maxRecDepth 100000 in
set_option maxHeartbeats 4000000 in
theorem E_J7_fill_fda19 (fu : Nat) (a0 : Nat) (a1 : Int32) (a2 : Int32) (a3 : Int32) (w : XW) : M_J7_fill_fda19 fu a0 a1 a2 a3 w = ev T_J7_fill_fda19 (op_J7_fill_fda19 fu) [10] (K_J7_fill_fda19 fu fu) 19 0 (lv_args 0 [.ref a0, .int a1, .int a2, .int a3]) [] w := by
  rfl
theorem D_J7_fill_fda19 (fu : Nat) : DS T_J7_fill_fda19 (op_J7_fill_fda19 fu) [10] 19 (K_J7_fill_fda19 fu) := by
  refine ⟨fun pc ls st w => c_none (b_none fun _ => b_none fun _ => b_none fun _ => b_none fun _ => skN_none rfl) (rfl), fun n pc ls st w o h => ?_⟩
  rcases c_some h with ⟨rfl, h⟩ | h
  · obtain ⟨a0, h0, h⟩ := some_of h; obtain ⟨a2, h2, h⟩ := some_of h; obtain ⟨a3, h3, h⟩ := some_of h; obtain ⟨a4, h4, h⟩ := some_of h;
    obtain ⟨e, g⟩ := skN_of h
    subst e
    exact ⟨[(0, .ref a0), (2, .int a2), (3, .int a3), (4, .int a4)], cons_all (xr_of h0) (cons_all (xi_of h2) (cons_all (xi_of h3) (cons_all (xi_of h4) (nil_all)))), (E_J7_fill_fda19_10 fu n a0 a2 a3 a4 w).symm.trans g⟩
  · cases h
set_option maxRecDepth 100000 in
set_option maxHeartbeats 4000000 in
theorem S_J7_fill_fda19 (fu : Nat) {l : Launch} {D : va_G} {cA : Nat → ClassId} {base b : Nat} : CS l D cA base b 2 y_J7_fill_fda19 prog_14_method_104_code 5 (none) (U_J7_fill_fda19 fu) ∧ OM (U_J7_fill_fda19 fu) := by
  refine CS_of (d := 1) (y := y_J7_fill_fda19) (cc := prog_14_method_104_code) (nL := 5) (ret := (none)) (F := U_J7_fill_fda19 fu) (fl := []) (nl := []) (kl := []) (k2 := []) (mv := []) (ms := [(13, 3, 0, (U_J7_rangeCheck_23922 fu))]) (mi := []) (ini := false) hI_w hZ_w nil_all nil_all nil_all nil_all
    (nil_all)
    (cons_all (⟨Or.inl ⟨show (0 : Nat) ≠ 3 by decide, y_J7_rangeCheck_23922, prog_14_method_30_code, 3, (none), 1, "BrookStones", (S_J7_rangeCheck_23922 fu (l := l) (D := D) (cA := cA) (base := base) (b := b)).1, by decide, by decide, mi_J7_rangeCheck_23922.1, mi_J7_rangeCheck_23922.2.1, mi_J7_rangeCheck_23922.2.2.1, mi_J7_rangeCheck_23922.2.2.2, Or.inl (tblG_of (i := 658) rfl rfl)⟩, (S_J7_rangeCheck_23922 fu (l := l) (D := D) (cA := cA) (base := base) (b := b)).2⟩) (nil_all))
    (nil_all)
    (T := T_J7_fill_fda19) (by decide +kernel) (cut := [10]) (N := 19) (D_J7_fill_fda19 fu) (by decide +kernel) (fun h => absurd h (by decide)) (fun as w o h => ?_)
  unfold U_J7_fill_fda19 at h
  split at h
  next =>
    exact ⟨Nat.le_of_ble_eq_true rfl, fu, (E_J7_fill_fda19 fu _ _ _ _ w).symm.trans h⟩
  next => cases h
def T_X4_renew : List (Nat × Instr) := [(0, .aload_n 0), (1, .getfield 9), (4, .iload_n 1), (5, .iload_n 2), (6, .iastore), (7, .aload_n 0), (8, .getfield 15), (11, .iload_n 1), (12, .iload_n 3), (13, .iastore), (14, .iload_n 1), (15, .bipush 60), (17, .imul), (18, .istore 4), (20, .aload_n 0), (21, .getfield 18), (24, .iload 4), (26, .iload 4), (28, .iload_n 3), (29, .iadd), (30, .iconst 0), (31, .invokestatic 31), (34, .return_)]
def op_X4_renew (fu : Nat) : Nat → Kont → XL → List Value → XW → Instr → Option XO := opK 5 (rzOf (none)) fl_BrookStones_Sheets [] [] [] [] [(31, 4, 0, (U_J7_fill_fda19 fu))] []
def M_X4_renew (fu : Nat) (a0 : Nat) (a1 : Int32) (a2 : Int32) (a3 : Int32) (w : XW) : Option XO :=
  (gR w a0 4 0).bind fun r1 =>
  (sI w r1 a1 a2).bind fun w2 =>
  (gR w2 a0 4 1).bind fun r3 =>
  (sI w2 r3 a1 a3).bind fun w4 =>
  (gR w4 a0 4 2).bind fun r5 =>
  cV (U_J7_fill_fda19 fu [.ref r5, .int (a1 * (60 : Int32)), .int ((a1 * (60 : Int32)) + a3), .int (0 : Int32)] w4) fun w6 =>
  some (none, w6)
def U_X4_renew (fu : Nat) : Orc := fun as w => match as with
  | [.ref a0, .int a1, .int a2, .int a3] => if isO w a0 4 = true then M_X4_renew fu a0 a1 a2 a3 w else none
  | _ => none
def K_X4_renew (fu : Nat) (n : Nat) : Kont := fun pc ls st w => none
set_option maxRecDepth 100000 in
set_option maxHeartbeats 4000000 in
theorem E_X4_renew (fu : Nat) (a0 : Nat) (a1 : Int32) (a2 : Int32) (a3 : Int32) (w : XW) : M_X4_renew fu a0 a1 a2 a3 w = ev T_X4_renew (op_X4_renew fu) [] (K_X4_renew fu fu) 25 0 (lv_args 0 [.ref a0, .int a1, .int a2, .int a3]) [] w := by
  rfl
theorem D_X4_renew (fu : Nat) : DS T_X4_renew (op_X4_renew fu) [] 25 (K_X4_renew fu) := by
  refine ⟨fun pc ls st w => rfl, fun n pc ls st w o h => ?_⟩
  cases h
theorem H_X4_renew (fu : Nat) : ∀ as w o, U_X4_renew fu as w = some o → ∃ a r, as = .ref a :: r ∧ r.length = 3 ∧ isO w a 4 = true := by
  intro as w o h
  unfold U_X4_renew at h
  split at h
  next =>
    split at h
    next hh => exact ⟨_, _, rfl, rfl, hh⟩
    next => cases h
  next => cases h
set_option maxRecDepth 100000 in
set_option maxHeartbeats 4000000 in
theorem S_X4_renew (fu : Nat) {l : Launch} {D : va_G} {cA : Nat → ClassId} {base b : Nat} : CS l D cA base b 3 y_X4_renew prog_6_method_6_code 5 (none) (U_X4_renew fu) ∧ OM (U_X4_renew fu) := by
  refine CS_of (d := 2) (y := y_X4_renew) (cc := prog_6_method_6_code) (nL := 5) (ret := (none)) (F := U_X4_renew fu) (fl := fl_BrookStones_Sheets) (nl := []) (kl := []) (k2 := []) (mv := []) (ms := [(31, 4, 0, (U_J7_fill_fda19 fu))]) (mi := []) (ini := false) hI_w hZ_w fl_BrookStones_Sheets_ok nil_all nil_all nil_all
    (nil_all)
    (cons_all (⟨Or.inl ⟨show (0 : Nat) ≠ 3 by decide, y_J7_fill_fda19, prog_14_method_104_code, 5, (none), 2, "BrookStones", (S_J7_fill_fda19 fu (l := l) (D := D) (cA := cA) (base := base) (b := b)).1, by decide, by decide, mi_J7_fill_fda19.1, mi_J7_fill_fda19.2.1, mi_J7_fill_fda19.2.2.1, mi_J7_fill_fda19.2.2.2, Or.inl (tblG_of (i := 655) rfl rfl)⟩, (S_J7_fill_fda19 fu (l := l) (D := D) (cA := cA) (base := base) (b := b)).2⟩) (nil_all))
    (nil_all)
    (T := T_X4_renew) (by decide +kernel) (cut := []) (N := 25) (D_X4_renew fu) (by decide +kernel) (fun h => absurd h (by decide)) (fun as w o h => ?_)
  unfold U_X4_renew at h
  split at h
  next =>
    split at h
    next => exact ⟨Nat.le_of_ble_eq_true rfl, fu, (E_X4_renew fu _ _ _ _ w).symm.trans h⟩
    next => cases h
  next => cases h
def T_X7_sheet : List (Nat × Instr) := [(0, .aload_n 0), (1, .iconst 0), (2, .putfield 53), (5, .iload_n 1), (6, .invokestatic 256), (9, .ifCond .ne 5), (12, .iconst (-1)), (13, .ireturn), (14, .iload_n 2), (15, .invokestatic 259), (18, .ifCond .eq 9), (21, .iload_n 3), (22, .bipush 60), (24, .if_icmp .le 6), (27, .bipush (-2)), (29, .ireturn), (30, .iload_n 3), (31, .ifCond .ge 9), (34, .aload_n 0), (35, .iconst 4), (36, .invokevirtual 262), (39, .ireturn), (40, .aload_n 0), (41, .getfield 21), (44, .iload_n 1), (45, .iload_n 2), (46, .iload_n 3), (47, .invokevirtual 265), (50, .iconst 1), (51, .ireturn)]
def op_X7_sheet (fu : Nat) : Nat → Kont → XL → List Value → XW → Instr → Option XO := opK 4 (rzOf (some .int)) fl_BrookStones nl_BrookStones [] k2_BrookStones [(262, 2, 1, (U_X7_failBy fu)), (265, 4, 0, (U_X4_renew fu))] [(256, 1, 1, (U_X4_isSheet fu)), (259, 1, 1, (U_X4_isSort fu))] []
def M_X7_sheet (fu : Nat) (a0 : Nat) (a1 : Int32) (a2 : Int32) (a3 : Int32) (w : XW) : Option XO :=
  (pF w a0 6 7 (.int (0 : Int32))).bind fun w1 =>
  cI (U_X4_isSheet fu [.int a1] w1) fun x3 w2 =>
  (if x3 = 0 then
    some (some (.int (-1 : Int32)), w2)
  else
    cI (U_X4_isSort fu [.int a2] w2) fun x5 w4 =>
    (if x5 = 0 then
      some (some (.int (-2 : Int32)), w4)
    else
      (if (60 : Int32) < a3 then
        some (some (.int (-2 : Int32)), w4)
      else
        (if a3 < 0 then
          cI (U_X7_failBy fu [.ref a0, .int (4 : Int32)] w4) fun x9 w8 =>
          some (some (.int x9), w8)
        else
          (gR w4 a0 6 1).bind fun r6 =>
          cV (U_X4_renew fu [.ref r6, .int a1, .int a2, .int a3] w4) fun w7 =>
          some (some (.int (1 : Int32)), w7)))))
def U_X7_sheet (fu : Nat) : Orc := fun as w => match as with
  | [.ref a0, .int a1, .int a2, .int a3] => if isO w a0 6 = true then M_X7_sheet fu a0 a1 a2 a3 w else none
  | _ => none
def K_X7_sheet (fu : Nat) (n : Nat) : Kont := fun pc ls st w => none
set_option maxRecDepth 100000 in
set_option maxHeartbeats 4000000 in
theorem E_X7_sheet (fu : Nat) (a0 : Nat) (a1 : Int32) (a2 : Int32) (a3 : Int32) (w : XW) : M_X7_sheet fu a0 a1 a2 a3 w = ev T_X7_sheet (op_X7_sheet fu) [] (K_X7_sheet fu fu) 32 0 (lv_args 0 [.ref a0, .int a1, .int a2, .int a3]) [] w := by
  rfl
theorem D_X7_sheet (fu : Nat) : DS T_X7_sheet (op_X7_sheet fu) [] 32 (K_X7_sheet fu) := by
  refine ⟨fun pc ls st w => rfl, fun n pc ls st w o h => ?_⟩
  cases h
theorem H_X7_sheet (fu : Nat) : ∀ as w o, U_X7_sheet fu as w = some o → ∃ a r, as = .ref a :: r ∧ r.length = 3 ∧ isO w a 6 = true := by
  intro as w o h
  unfold U_X7_sheet at h
  split at h
  next =>
    split at h
    next hh => exact ⟨_, _, rfl, rfl, hh⟩
    next => cases h
  next => cases h
set_option maxRecDepth 100000 in
set_option maxHeartbeats 4000000 in
theorem S_X7_sheet (fu : Nat) {l : Launch} {D : va_G} {cA : Nat → ClassId} {base b : Nat} : CS l D cA base b 4 y_X7_sheet prog_1_method_28_code 4 (some .int) (U_X7_sheet fu) ∧ OM (U_X7_sheet fu) := by
  refine CS_of (d := 3) (y := y_X7_sheet) (cc := prog_1_method_28_code) (nL := 4) (ret := (some .int)) (F := U_X7_sheet fu) (fl := fl_BrookStones) (nl := nl_BrookStones) (kl := []) (k2 := k2_BrookStones) (mv := [(262, 2, 1, (U_X7_failBy fu)), (265, 4, 0, (U_X4_renew fu))]) (ms := [(256, 1, 1, (U_X4_isSheet fu)), (259, 1, 1, (U_X4_isSort fu))]) (mi := []) (ini := false) hI_w hZ_w fl_BrookStones_ok nl_BrookStones_ok nil_all k2_BrookStones_ok
    (cons_all (⟨⟨show (1 : Nat) ≠ 3 by decide, y_X7_failBy, prog_1_method_40_code, 2, (some .int), 1, "BrookStones", 6, TX7, 8, 1, (S_X7_failBy fu (l := l) (D := D) (cA := cA) (base := base) (b := b)).1, by decide, by decide, rfl, H_X7_failBy fu, rfl, mi_X7_failBy.1, mi_X7_failBy.2.1, mi_X7_failBy.2.2.1, mi_X7_failBy.2.2.2.1, mi_X7_failBy.2.2.2.2, Or.inl (tblG_of (i := 273) rfl rfl)⟩, (S_X7_failBy fu (l := l) (D := D) (cA := cA) (base := base) (b := b)).2⟩) (cons_all (⟨⟨show (0 : Nat) ≠ 3 by decide, y_X4_renew, prog_6_method_6_code, 5, (none), 3, "BrookStones", 4, TX4, 3, 3, (S_X4_renew fu (l := l) (D := D) (cA := cA) (base := base) (b := b)).1, by decide, by decide, rfl, H_X4_renew fu, rfl, mi_X4_renew.1, mi_X4_renew.2.1, mi_X4_renew.2.2.1, mi_X4_renew.2.2.2.1, mi_X4_renew.2.2.2.2, Or.inr (tblN_of (i := 651) rfl rfl)⟩, (S_X4_renew fu (l := l) (D := D) (cA := cA) (base := base) (b := b)).2⟩) (nil_all)))
    (cons_all (⟨Or.inl ⟨show (1 : Nat) ≠ 3 by decide, y_X4_isSheet, prog_6_method_2_code, 1, (some .boolean), 2, "BrookStones", (S_X4_isSheet fu (l := l) (D := D) (cA := cA) (base := base) (b := b)).1, by decide, by decide, mi_X4_isSheet.1, mi_X4_isSheet.2.1, mi_X4_isSheet.2.2.1, mi_X4_isSheet.2.2.2, Or.inr (tblN_of (i := 252) rfl rfl)⟩, (S_X4_isSheet fu (l := l) (D := D) (cA := cA) (base := base) (b := b)).2⟩) (cons_all (⟨Or.inl ⟨show (1 : Nat) ≠ 3 by decide, y_X4_isSort, prog_6_method_3_code, 1, (some .boolean), 2, "BrookStones", (S_X4_isSort fu (l := l) (D := D) (cA := cA) (base := base) (b := b)).1, by decide, by decide, mi_X4_isSort.1, mi_X4_isSort.2.1, mi_X4_isSort.2.2.1, mi_X4_isSort.2.2.2, Or.inr (tblN_of (i := 258) rfl rfl)⟩, (S_X4_isSort fu (l := l) (D := D) (cA := cA) (base := base) (b := b)).2⟩) (nil_all)))
    (nil_all)
    (T := T_X7_sheet) (by decide +kernel) (cut := []) (N := 32) (D_X7_sheet fu) (by decide +kernel) (fun h => absurd h (by decide)) (fun as w o h => ?_)
  unfold U_X7_sheet at h
  split at h
  next =>
    split at h
    next => exact ⟨Nat.le_of_ble_eq_true rfl, fu, (E_X7_sheet fu _ _ _ _ w).symm.trans h⟩
    next => cases h
  next => cases h
def T_X8_sheet : List (Nat × Instr) := [(0, .aload_n 0), (1, .iconst 0), (2, .putfield 84), (5, .iload_n 1), (6, .invokestatic 99), (9, .ifCond .ne 5), (12, .iconst (-1)), (13, .ireturn), (14, .iload_n 2), (15, .invokestatic 103), (18, .ifCond .eq 9), (21, .iload_n 3), (22, .bipush 60), (24, .if_icmp .le 6), (27, .bipush (-2)), (29, .ireturn), (30, .iload_n 3), (31, .ifCond .ge 9), (34, .aload_n 0), (35, .iconst 4), (36, .invokevirtual 110), (39, .ireturn), (40, .aload_n 0), (41, .getfield 9), (44, .iload_n 1), (45, .iload_n 2), (46, .iastore), (47, .aload_n 0), (48, .getfield 13), (51, .iload_n 1), (52, .iload_n 3), (53, .iastore), (54, .iconst 0), (55, .istore 4), (57, .iload 4), (59, .bipush 60), (61, .if_icmp .ge 22), (64, .aload_n 0), (65, .getfield 16), (68, .bipush 60), (70, .iload_n 1), (71, .imul), (72, .iload 4), (74, .iadd), (75, .iconst 0), (76, .iastore), (77, .iinc 4 1), (80, .goto (-23)), (83, .iconst 1), (84, .ireturn)]
def op_X8_sheet (fu : Nat) : Nat → Kont → XL → List Value → XW → Instr → Option XO := opK 5 (rzOf (some .int)) fl_BrookStonesModel [] kl_BrookStonesModel k2_BrookStonesModel [(110, 2, 1, (U_X8_fails fu))] [(99, 1, 1, (U_X8_isSheet fu)), (103, 1, 1, (U_X8_isSort fu))] []
def F_X8_sheet (fu : Nat) : Nat → (Nat → Int32 → Int32 → XW → Option XO)
  | 0 => fun _ _ _ _ => none
  | n + 1 => (fun a0 a1 a4 w =>
    (if a4 < (60 : Int32) then
      (gR w a0 7 4).bind fun r1 =>
      (sI w r1 (((60 : Int32) * a1) + a4) (0 : Int32)).bind fun w2 =>
      (F_X8_sheet fu n) a0 a1 (a4 + (1 : Int32)) w2
    else
      some (some (.int (1 : Int32)), w)))
def M_X8_sheet (fu : Nat) (a0 : Nat) (a1 : Int32) (a2 : Int32) (a3 : Int32) (w : XW) : Option XO :=
  (pF w a0 7 0 (.int (0 : Int32))).bind fun w3 =>
  cI (U_X8_isSheet fu [.int a1] w3) fun x5 w4 =>
  (if x5 = 0 then
    some (some (.int (-1 : Int32)), w4)
  else
    cI (U_X8_isSort fu [.int a2] w4) fun x7 w6 =>
    (if x7 = 0 then
      some (some (.int (-2 : Int32)), w6)
    else
      (if (60 : Int32) < a3 then
        some (some (.int (-2 : Int32)), w6)
      else
        (if a3 < 0 then
          cI (U_X8_fails fu [.ref a0, .int (4 : Int32)] w6) fun x13 w12 =>
          some (some (.int x13), w12)
        else
          (gR w6 a0 7 2).bind fun r8 =>
          (sI w6 r8 a1 a2).bind fun w9 =>
          (gR w9 a0 7 3).bind fun r10 =>
          (sI w9 r10 a1 a3).bind fun w11 =>
          (F_X8_sheet fu fu) a0 a1 (0 : Int32) w11))))
def U_X8_sheet (fu : Nat) : Orc := fun as w => match as with
  | [.ref a0, .int a1, .int a2, .int a3] => if isO w a0 7 = true then M_X8_sheet fu a0 a1 a2 a3 w else none
  | _ => none
def K_X8_sheet (fu : Nat) (n : Nat) : Kont := fun pc ls st w => bif pc == 57 then ((xr ls 0).bind fun a0 => (xi ls 1).bind fun a1 => (xi ls 4).bind fun a4 => skN st ((F_X8_sheet fu n) a0 a1 a4 w)) else none
set_option maxRecDepth 100000 in
set_option maxHeartbeats 4000000 in
theorem E_X8_sheet_57 (fu : Nat) (n : Nat) (a0 : Nat) (a1 : Int32) (a4 : Int32) (w : XW) : (F_X8_sheet fu (n + 1)) a0 a1 a4 w = ev T_X8_sheet (op_X8_sheet fu) [57] (K_X8_sheet fu n) 52 57 [(0, .ref a0), (1, .int a1), (4, .int a4)] [] w := by
  rfl
set_option maxRecDepth 100000 in
set_option maxHeartbeats 4000000 in
theorem E_X8_sheet (fu : Nat) (a0 : Nat) (a1 : Int32) (a2 : Int32) (a3 : Int32) (w : XW) : M_X8_sheet fu a0 a1 a2 a3 w = ev T_X8_sheet (op_X8_sheet fu) [57] (K_X8_sheet fu fu) 52 0 (lv_args 0 [.ref a0, .int a1, .int a2, .int a3]) [] w := by
  rfl
theorem D_X8_sheet (fu : Nat) : DS T_X8_sheet (op_X8_sheet fu) [57] 52 (K_X8_sheet fu) := by
  refine ⟨fun pc ls st w => c_none (b_none fun _ => b_none fun _ => b_none fun _ => skN_none rfl) (rfl), fun n pc ls st w o h => ?_⟩
  rcases c_some h with ⟨rfl, h⟩ | h
  · obtain ⟨a0, h0, h⟩ := some_of h; obtain ⟨a1, h1, h⟩ := some_of h; obtain ⟨a4, h4, h⟩ := some_of h;
    obtain ⟨e, g⟩ := skN_of h
    subst e
    exact ⟨[(0, .ref a0), (1, .int a1), (4, .int a4)], cons_all (xr_of h0) (cons_all (xi_of h1) (cons_all (xi_of h4) (nil_all))), (E_X8_sheet_57 fu n a0 a1 a4 w).symm.trans g⟩
  · cases h
theorem H_X8_sheet (fu : Nat) : ∀ as w o, U_X8_sheet fu as w = some o → ∃ a r, as = .ref a :: r ∧ r.length = 3 ∧ isO w a 7 = true := by
  intro as w o h
  unfold U_X8_sheet at h
  split at h
  next =>
    split at h
    next hh => exact ⟨_, _, rfl, rfl, hh⟩
    next => cases h
  next => cases h
set_option maxRecDepth 100000 in
set_option maxHeartbeats 4000000 in
theorem S_X8_sheet (fu : Nat) {l : Launch} {D : va_G} {cA : Nat → ClassId} {base b : Nat} : CS l D cA base b 3 y_X8_sheet prog_10_method_66_code 5 (some .int) (U_X8_sheet fu) ∧ OM (U_X8_sheet fu) := by
  refine CS_of (d := 2) (y := y_X8_sheet) (cc := prog_10_method_66_code) (nL := 5) (ret := (some .int)) (F := U_X8_sheet fu) (fl := fl_BrookStonesModel) (nl := []) (kl := kl_BrookStonesModel) (k2 := k2_BrookStonesModel) (mv := [(110, 2, 1, (U_X8_fails fu))]) (ms := [(99, 1, 1, (U_X8_isSheet fu)), (103, 1, 1, (U_X8_isSort fu))]) (mi := []) (ini := false) hI_w hZ_w fl_BrookStonesModel_ok nil_all kl_BrookStonesModel_ok k2_BrookStonesModel_ok
    (cons_all (⟨⟨show (1 : Nat) ≠ 3 by decide, y_X8_fails, prog_10_method_3_code, 2, (some .int), 1, "BrookStones", 7, TX8, 37, 1, (S_X8_fails fu (l := l) (D := D) (cA := cA) (base := base) (b := b)).1, by decide, by decide, rfl, H_X8_fails fu, rfl, mi_X8_fails.1, mi_X8_fails.2.1, mi_X8_fails.2.2.1, mi_X8_fails.2.2.2.1, mi_X8_fails.2.2.2.2, Or.inl (tblG_of (i := 871) rfl rfl)⟩, (S_X8_fails fu (l := l) (D := D) (cA := cA) (base := base) (b := b)).2⟩) (nil_all))
    (cons_all (⟨Or.inl ⟨show (1 : Nat) ≠ 3 by decide, y_X8_isSheet, prog_10_method_7_code, 1, (some .boolean), 2, "BrookStones", (S_X8_isSheet fu (l := l) (D := D) (cA := cA) (base := base) (b := b)).1, by decide, by decide, mi_X8_isSheet.1, mi_X8_isSheet.2.1, mi_X8_isSheet.2.2.1, mi_X8_isSheet.2.2.2, Or.inl (tblG_of (i := 858) rfl rfl)⟩, (S_X8_isSheet fu (l := l) (D := D) (cA := cA) (base := base) (b := b)).2⟩) (cons_all (⟨Or.inl ⟨show (1 : Nat) ≠ 3 by decide, y_X8_isSort, prog_10_method_8_code, 1, (some .boolean), 2, "BrookStones", (S_X8_isSort fu (l := l) (D := D) (cA := cA) (base := base) (b := b)).1, by decide, by decide, mi_X8_isSort.1, mi_X8_isSort.2.1, mi_X8_isSort.2.2.1, mi_X8_isSort.2.2.2, Or.inl (tblG_of (i := 864) rfl rfl)⟩, (S_X8_isSort fu (l := l) (D := D) (cA := cA) (base := base) (b := b)).2⟩) (nil_all)))
    (nil_all)
    (T := T_X8_sheet) (by decide +kernel) (cut := [57]) (N := 52) (D_X8_sheet fu) (by decide +kernel) (fun h => absurd h (by decide)) (fun as w o h => ?_)
  unfold U_X8_sheet at h
  split at h
  next =>
    split at h
    next => exact ⟨Nat.le_of_ble_eq_true rfl, fu, (E_X8_sheet fu _ _ _ _ w).symm.trans h⟩
    next => cases h
  next => cases h
def T_X4_clear : List (Nat × Instr) := [(0, .aload_n 0), (1, .getfield 15), (4, .iload_n 1), (5, .iconst (-1)), (6, .iastore), (7, .return_)]
def op_X4_clear (fu : Nat) : Nat → Kont → XL → List Value → XW → Instr → Option XO := opK 2 (rzOf (none)) fl_BrookStones_Sheets [] [] [] [] [] []
def M_X4_clear (fu : Nat) (a0 : Nat) (a1 : Int32) (w : XW) : Option XO :=
  (gR w a0 4 1).bind fun r1 =>
  (sI w r1 a1 (-1 : Int32)).bind fun w2 =>
  some (none, w2)
def U_X4_clear (fu : Nat) : Orc := fun as w => match as with
  | [.ref a0, .int a1] => if isO w a0 4 = true then M_X4_clear fu a0 a1 w else none
  | _ => none
def K_X4_clear (fu : Nat) (n : Nat) : Kont := fun pc ls st w => none
set_option maxRecDepth 100000 in
set_option maxHeartbeats 4000000 in
theorem E_X4_clear (fu : Nat) (a0 : Nat) (a1 : Int32) (w : XW) : M_X4_clear fu a0 a1 w = ev T_X4_clear (op_X4_clear fu) [] (K_X4_clear fu fu) 8 0 (lv_args 0 [.ref a0, .int a1]) [] w := by
  rfl
theorem D_X4_clear (fu : Nat) : DS T_X4_clear (op_X4_clear fu) [] 8 (K_X4_clear fu) := by
  refine ⟨fun pc ls st w => rfl, fun n pc ls st w o h => ?_⟩
  cases h
theorem H_X4_clear (fu : Nat) : ∀ as w o, U_X4_clear fu as w = some o → ∃ a r, as = .ref a :: r ∧ r.length = 1 ∧ isO w a 4 = true := by
  intro as w o h
  unfold U_X4_clear at h
  split at h
  next =>
    split at h
    next hh => exact ⟨_, _, rfl, rfl, hh⟩
    next => cases h
  next => cases h
set_option maxRecDepth 100000 in
set_option maxHeartbeats 4000000 in
theorem S_X4_clear (fu : Nat) {l : Launch} {D : va_G} {cA : Nat → ClassId} {base b : Nat} : CS l D cA base b 1 y_X4_clear prog_6_method_5_code 2 (none) (U_X4_clear fu) ∧ OM (U_X4_clear fu) := by
  refine CS_of (d := 0) (y := y_X4_clear) (cc := prog_6_method_5_code) (nL := 2) (ret := (none)) (F := U_X4_clear fu) (fl := fl_BrookStones_Sheets) (nl := []) (kl := []) (k2 := []) (mv := []) (ms := []) (mi := []) (ini := false) hI_w hZ_w fl_BrookStones_Sheets_ok nil_all nil_all nil_all
    (nil_all)
    (nil_all)
    (nil_all)
    (T := T_X4_clear) (by decide +kernel) (cut := []) (N := 8) (D_X4_clear fu) (by decide +kernel) (fun h => absurd h (by decide)) (fun as w o h => ?_)
  unfold U_X4_clear at h
  split at h
  next =>
    split at h
    next => exact ⟨Nat.le_of_ble_eq_true rfl, fu, (E_X4_clear fu _ _ w).symm.trans h⟩
    next => cases h
  next => cases h
def T_X7_lose : List (Nat × Instr) := [(0, .iload_n 1), (1, .invokestatic 256), (4, .ifCond .ne 5), (7, .iconst (-1)), (8, .ireturn), (9, .aload_n 0), (10, .getfield 21), (13, .iload_n 1), (14, .invokevirtual 269), (17, .ifCond .ne 5), (20, .iconst 0), (21, .ireturn), (22, .aload_n 0), (23, .getfield 21), (26, .iload_n 1), (27, .invokevirtual 271), (30, .iconst 1), (31, .ireturn)]
def op_X7_lose (fu : Nat) : Nat → Kont → XL → List Value → XW → Instr → Option XO := opK 2 (rzOf (some .int)) fl_BrookStones nl_BrookStones [] k2_BrookStones [(269, 2, 1, (U_X4_isThere fu)), (271, 2, 0, (U_X4_clear fu))] [(256, 1, 1, (U_X4_isSheet fu))] []
def M_X7_lose (fu : Nat) (a0 : Nat) (a1 : Int32) (w : XW) : Option XO :=
  cI (U_X4_isSheet fu [.int a1] w) fun x2 w1 =>
  (if x2 = 0 then
    some (some (.int (-1 : Int32)), w1)
  else
    (gR w1 a0 6 1).bind fun r3 =>
    cI (U_X4_isThere fu [.ref r3, .int a1] w1) fun x5 w4 =>
    (if x5 = 0 then
      some (some (.int (0 : Int32)), w4)
    else
      (gR w4 a0 6 1).bind fun r6 =>
      cV (U_X4_clear fu [.ref r6, .int a1] w4) fun w7 =>
      some (some (.int (1 : Int32)), w7)))
def U_X7_lose (fu : Nat) : Orc := fun as w => match as with
  | [.ref a0, .int a1] => if isO w a0 6 = true then M_X7_lose fu a0 a1 w else none
  | _ => none
def K_X7_lose (fu : Nat) (n : Nat) : Kont := fun pc ls st w => none
set_option maxRecDepth 100000 in
set_option maxHeartbeats 4000000 in
theorem E_X7_lose (fu : Nat) (a0 : Nat) (a1 : Int32) (w : XW) : M_X7_lose fu a0 a1 w = ev T_X7_lose (op_X7_lose fu) [] (K_X7_lose fu fu) 20 0 (lv_args 0 [.ref a0, .int a1]) [] w := by
  rfl
theorem D_X7_lose (fu : Nat) : DS T_X7_lose (op_X7_lose fu) [] 20 (K_X7_lose fu) := by
  refine ⟨fun pc ls st w => rfl, fun n pc ls st w o h => ?_⟩
  cases h
theorem H_X7_lose (fu : Nat) : ∀ as w o, U_X7_lose fu as w = some o → ∃ a r, as = .ref a :: r ∧ r.length = 1 ∧ isO w a 6 = true := by
  intro as w o h
  unfold U_X7_lose at h
  split at h
  next =>
    split at h
    next hh => exact ⟨_, _, rfl, rfl, hh⟩
    next => cases h
  next => cases h
set_option maxRecDepth 100000 in
set_option maxHeartbeats 4000000 in
theorem S_X7_lose (fu : Nat) {l : Launch} {D : va_G} {cA : Nat → ClassId} {base b : Nat} : CS l D cA base b 3 y_X7_lose prog_1_method_29_code 2 (some .int) (U_X7_lose fu) ∧ OM (U_X7_lose fu) := by
  refine CS_of (d := 2) (y := y_X7_lose) (cc := prog_1_method_29_code) (nL := 2) (ret := (some .int)) (F := U_X7_lose fu) (fl := fl_BrookStones) (nl := nl_BrookStones) (kl := []) (k2 := k2_BrookStones) (mv := [(269, 2, 1, (U_X4_isThere fu)), (271, 2, 0, (U_X4_clear fu))]) (ms := [(256, 1, 1, (U_X4_isSheet fu))]) (mi := []) (ini := false) hI_w hZ_w fl_BrookStones_ok nl_BrookStones_ok nil_all k2_BrookStones_ok
    (cons_all (⟨⟨show (1 : Nat) ≠ 3 by decide, y_X4_isThere, prog_6_method_4_code, 2, (some .boolean), 1, "BrookStones", 4, TX4, 3, 1, (S_X4_isThere fu (l := l) (D := D) (cA := cA) (base := base) (b := b)).1, by decide, by decide, rfl, H_X4_isThere fu, rfl, mi_X4_isThere.1, mi_X4_isThere.2.1, mi_X4_isThere.2.2.1, mi_X4_isThere.2.2.2.1, mi_X4_isThere.2.2.2.2, Or.inr (tblN_of (i := 665) rfl rfl)⟩, (S_X4_isThere fu (l := l) (D := D) (cA := cA) (base := base) (b := b)).2⟩) (cons_all (⟨⟨show (0 : Nat) ≠ 3 by decide, y_X4_clear, prog_6_method_5_code, 2, (none), 1, "BrookStones", 4, TX4, 3, 1, (S_X4_clear fu (l := l) (D := D) (cA := cA) (base := base) (b := b)).1, by decide, by decide, rfl, H_X4_clear fu, rfl, mi_X4_clear.1, mi_X4_clear.2.1, mi_X4_clear.2.2.1, mi_X4_clear.2.2.2.1, mi_X4_clear.2.2.2.2, Or.inr (tblN_of (i := 666) rfl rfl)⟩, (S_X4_clear fu (l := l) (D := D) (cA := cA) (base := base) (b := b)).2⟩) (nil_all)))
    (cons_all (⟨Or.inl ⟨show (1 : Nat) ≠ 3 by decide, y_X4_isSheet, prog_6_method_2_code, 1, (some .boolean), 2, "BrookStones", (S_X4_isSheet fu (l := l) (D := D) (cA := cA) (base := base) (b := b)).1, by decide, by decide, mi_X4_isSheet.1, mi_X4_isSheet.2.1, mi_X4_isSheet.2.2.1, mi_X4_isSheet.2.2.2, Or.inr (tblN_of (i := 252) rfl rfl)⟩, (S_X4_isSheet fu (l := l) (D := D) (cA := cA) (base := base) (b := b)).2⟩) (nil_all))
    (nil_all)
    (T := T_X7_lose) (by decide +kernel) (cut := []) (N := 20) (D_X7_lose fu) (by decide +kernel) (fun h => absurd h (by decide)) (fun as w o h => ?_)
  unfold U_X7_lose at h
  split at h
  next =>
    split at h
    next => exact ⟨Nat.le_of_ble_eq_true rfl, fu, (E_X7_lose fu _ _ w).symm.trans h⟩
    next => cases h
  next => cases h
def T_X8_lose : List (Nat × Instr) := [(0, .iload_n 1), (1, .invokestatic 99), (4, .ifCond .ne 5), (7, .iconst (-1)), (8, .ireturn), (9, .aload_n 0), (10, .getfield 9), (13, .iload_n 1), (14, .iaload), (15, .bipush (-9)), (17, .if_icmp .ne 7), (20, .iconst 0), (21, .goto 4), (24, .iconst 1), (25, .istore_n 2), (26, .aload_n 0), (27, .getfield 9), (30, .iload_n 1), (31, .bipush (-9)), (33, .iastore), (34, .iload_n 2), (35, .ireturn)]
def op_X8_lose (fu : Nat) : Nat → Kont → XL → List Value → XW → Instr → Option XO := opK 3 (rzOf (some .int)) fl_BrookStonesModel [] kl_BrookStonesModel k2_BrookStonesModel [] [(99, 1, 1, (U_X8_isSheet fu))] []
def M_X8_lose (fu : Nat) (a0 : Nat) (a1 : Int32) (w : XW) : Option XO :=
  cI (U_X8_isSheet fu [.int a1] w) fun x2 w1 =>
  (if x2 = 0 then
    some (some (.int (-1 : Int32)), w1)
  else
    (gR w1 a0 7 2).bind fun r3 =>
    (aI w1 r3 a1).bind fun x4 =>
    (if x4 = (-9 : Int32) then
      (gR w1 a0 7 2).bind fun r7 =>
      (sI w1 r7 a1 (-9 : Int32)).bind fun w8 =>
      some (some (.int (0 : Int32)), w8)
    else
      (gR w1 a0 7 2).bind fun r5 =>
      (sI w1 r5 a1 (-9 : Int32)).bind fun w6 =>
      some (some (.int (1 : Int32)), w6)))
def U_X8_lose (fu : Nat) : Orc := fun as w => match as with
  | [.ref a0, .int a1] => if isO w a0 7 = true then M_X8_lose fu a0 a1 w else none
  | _ => none
def K_X8_lose (fu : Nat) (n : Nat) : Kont := fun pc ls st w => none
set_option maxRecDepth 100000 in
set_option maxHeartbeats 4000000 in
theorem E_X8_lose (fu : Nat) (a0 : Nat) (a1 : Int32) (w : XW) : M_X8_lose fu a0 a1 w = ev T_X8_lose (op_X8_lose fu) [] (K_X8_lose fu fu) 24 0 (lv_args 0 [.ref a0, .int a1]) [] w := by
  rfl
theorem D_X8_lose (fu : Nat) : DS T_X8_lose (op_X8_lose fu) [] 24 (K_X8_lose fu) := by
  refine ⟨fun pc ls st w => rfl, fun n pc ls st w o h => ?_⟩
  cases h
theorem H_X8_lose (fu : Nat) : ∀ as w o, U_X8_lose fu as w = some o → ∃ a r, as = .ref a :: r ∧ r.length = 1 ∧ isO w a 7 = true := by
  intro as w o h
  unfold U_X8_lose at h
  split at h
  next =>
    split at h
    next hh => exact ⟨_, _, rfl, rfl, hh⟩
    next => cases h
  next => cases h
set_option maxRecDepth 100000 in
set_option maxHeartbeats 4000000 in
theorem S_X8_lose (fu : Nat) {l : Launch} {D : va_G} {cA : Nat → ClassId} {base b : Nat} : CS l D cA base b 3 y_X8_lose prog_10_method_67_code 3 (some .int) (U_X8_lose fu) ∧ OM (U_X8_lose fu) := by
  refine CS_of (d := 2) (y := y_X8_lose) (cc := prog_10_method_67_code) (nL := 3) (ret := (some .int)) (F := U_X8_lose fu) (fl := fl_BrookStonesModel) (nl := []) (kl := kl_BrookStonesModel) (k2 := k2_BrookStonesModel) (mv := []) (ms := [(99, 1, 1, (U_X8_isSheet fu))]) (mi := []) (ini := false) hI_w hZ_w fl_BrookStonesModel_ok nil_all kl_BrookStonesModel_ok k2_BrookStonesModel_ok
    (nil_all)
    (cons_all (⟨Or.inl ⟨show (1 : Nat) ≠ 3 by decide, y_X8_isSheet, prog_10_method_7_code, 1, (some .boolean), 2, "BrookStones", (S_X8_isSheet fu (l := l) (D := D) (cA := cA) (base := base) (b := b)).1, by decide, by decide, mi_X8_isSheet.1, mi_X8_isSheet.2.1, mi_X8_isSheet.2.2.1, mi_X8_isSheet.2.2.2, Or.inl (tblG_of (i := 858) rfl rfl)⟩, (S_X8_isSheet fu (l := l) (D := D) (cA := cA) (base := base) (b := b)).2⟩) (nil_all))
    (nil_all)
    (T := T_X8_lose) (by decide +kernel) (cut := []) (N := 24) (D_X8_lose fu) (by decide +kernel) (fun h => absurd h (by decide)) (fun as w o h => ?_)
  unfold U_X8_lose at h
  split at h
  next =>
    split at h
    next => exact ⟨Nat.le_of_ble_eq_true rfl, fu, (E_X8_lose fu _ _ w).symm.trans h⟩
    next => cases h
  next => cases h
def T_X4_cut : List (Nat × Instr) := [(0, .iload_n 1), (1, .lookupswitch 33 #[(0, 27), (1, 30)]), (28, .iload_n 0), (29, .i2b), (30, .ireturn), (31, .iload_n 0), (32, .i2s), (33, .ireturn), (34, .iload_n 0), (35, .ireturn)]
def op_X4_cut (fu : Nat) : Nat → Kont → XL → List Value → XW → Instr → Option XO := opK 2 (rzOf (some .int)) fl_BrookStones_Sheets [] [] [] [] [] []
def M_X4_cut (fu : Nat) (a0 : Int32) (a1 : Int32) (w : XW) : Option XO :=
  (if a1 = (0 : Int32) then
    some (some (.int (Int8.toInt32 (Int32.toInt8 a0))), w)
  else
  (if a1 = (1 : Int32) then
    some (some (.int (Int16.toInt32 (Int32.toInt16 a0))), w)
  else
  some (some (.int a0), w)))
def U_X4_cut (fu : Nat) : Orc := fun as w => match as with
  | [.int a0, .int a1] => M_X4_cut fu a0 a1 w
  | _ => none
def K_X4_cut (fu : Nat) (n : Nat) : Kont := fun pc ls st w => none
set_option maxRecDepth 100000 in
set_option maxHeartbeats 4000000 in
theorem E_X4_cut (fu : Nat) (a0 : Int32) (a1 : Int32) (w : XW) : M_X4_cut fu a0 a1 w = ev T_X4_cut (op_X4_cut fu) [] (K_X4_cut fu fu) 12 0 (lv_args 0 [.int a0, .int a1]) [] w := by
  rfl
theorem D_X4_cut (fu : Nat) : DS T_X4_cut (op_X4_cut fu) [] 12 (K_X4_cut fu) := by
  refine ⟨fun pc ls st w => rfl, fun n pc ls st w o h => ?_⟩
  cases h
set_option maxRecDepth 100000 in
set_option maxHeartbeats 4000000 in
theorem S_X4_cut (fu : Nat) {l : Launch} {D : va_G} {cA : Nat → ClassId} {base b : Nat} : CS l D cA base b 1 y_X4_cut prog_6_method_9_code 2 (some .int) (U_X4_cut fu) ∧ OM (U_X4_cut fu) := by
  refine CS_of (d := 0) (y := y_X4_cut) (cc := prog_6_method_9_code) (nL := 2) (ret := (some .int)) (F := U_X4_cut fu) (fl := fl_BrookStones_Sheets) (nl := []) (kl := []) (k2 := []) (mv := []) (ms := []) (mi := []) (ini := false) hI_w hZ_w fl_BrookStones_Sheets_ok nil_all nil_all nil_all
    (nil_all)
    (nil_all)
    (nil_all)
    (T := T_X4_cut) (by decide +kernel) (cut := []) (N := 12) (D_X4_cut fu) (by decide +kernel) (fun h => absurd h (by decide)) (fun as w o h => ?_)
  unfold U_X4_cut at h
  split at h
  next =>
    exact ⟨Nat.le_of_ble_eq_true rfl, fu, (E_X4_cut fu _ _ w).symm.trans h⟩
  next => cases h
def T_X4_write : List (Nat × Instr) := [(0, .aload_n 0), (1, .getfield 18), (4, .iload_n 1), (5, .bipush 60), (7, .imul), (8, .iload_n 2), (9, .iadd), (10, .iload_n 3), (11, .aload_n 0), (12, .getfield 9), (15, .iload_n 1), (16, .iaload), (17, .invokestatic 34), (20, .iastore), (21, .return_)]
def op_X4_write (fu : Nat) : Nat → Kont → XL → List Value → XW → Instr → Option XO := opK 4 (rzOf (none)) fl_BrookStones_Sheets [] [] [] [] [(34, 2, 1, (U_X4_cut fu))] []
def M_X4_write (fu : Nat) (a0 : Nat) (a1 : Int32) (a2 : Int32) (a3 : Int32) (w : XW) : Option XO :=
  (gR w a0 4 2).bind fun r1 =>
  (gR w a0 4 0).bind fun r2 =>
  (aI w r2 a1).bind fun x3 =>
  cI (U_X4_cut fu [.int a3, .int x3] w) fun x5 w4 =>
  (sI w4 r1 ((a1 * (60 : Int32)) + a2) x5).bind fun w6 =>
  some (none, w6)
def U_X4_write (fu : Nat) : Orc := fun as w => match as with
  | [.ref a0, .int a1, .int a2, .int a3] => if isO w a0 4 = true then M_X4_write fu a0 a1 a2 a3 w else none
  | _ => none
def K_X4_write (fu : Nat) (n : Nat) : Kont := fun pc ls st w => none
set_option maxRecDepth 100000 in
set_option maxHeartbeats 4000000 in
theorem E_X4_write (fu : Nat) (a0 : Nat) (a1 : Int32) (a2 : Int32) (a3 : Int32) (w : XW) : M_X4_write fu a0 a1 a2 a3 w = ev T_X4_write (op_X4_write fu) [] (K_X4_write fu fu) 17 0 (lv_args 0 [.ref a0, .int a1, .int a2, .int a3]) [] w := by
  rfl
theorem D_X4_write (fu : Nat) : DS T_X4_write (op_X4_write fu) [] 17 (K_X4_write fu) := by
  refine ⟨fun pc ls st w => rfl, fun n pc ls st w o h => ?_⟩
  cases h
theorem H_X4_write (fu : Nat) : ∀ as w o, U_X4_write fu as w = some o → ∃ a r, as = .ref a :: r ∧ r.length = 3 ∧ isO w a 4 = true := by
  intro as w o h
  unfold U_X4_write at h
  split at h
  next =>
    split at h
    next hh => exact ⟨_, _, rfl, rfl, hh⟩
    next => cases h
  next => cases h
set_option maxRecDepth 100000 in
set_option maxHeartbeats 4000000 in
theorem S_X4_write (fu : Nat) {l : Launch} {D : va_G} {cA : Nat → ClassId} {base b : Nat} : CS l D cA base b 2 y_X4_write prog_6_method_8_code 4 (none) (U_X4_write fu) ∧ OM (U_X4_write fu) := by
  refine CS_of (d := 1) (y := y_X4_write) (cc := prog_6_method_8_code) (nL := 4) (ret := (none)) (F := U_X4_write fu) (fl := fl_BrookStones_Sheets) (nl := []) (kl := []) (k2 := []) (mv := []) (ms := [(34, 2, 1, (U_X4_cut fu))]) (mi := []) (ini := false) hI_w hZ_w fl_BrookStones_Sheets_ok nil_all nil_all nil_all
    (nil_all)
    (cons_all (⟨Or.inl ⟨show (1 : Nat) ≠ 3 by decide, y_X4_cut, prog_6_method_9_code, 2, (some .int), 1, "BrookStones", (S_X4_cut fu (l := l) (D := D) (cA := cA) (base := base) (b := b)).1, by decide, by decide, mi_X4_cut.1, mi_X4_cut.2.1, mi_X4_cut.2.2.1, mi_X4_cut.2.2.2, Or.inl (tblG_of (i := 678) rfl rfl)⟩, (S_X4_cut fu (l := l) (D := D) (cA := cA) (base := base) (b := b)).2⟩) (nil_all))
    (nil_all)
    (T := T_X4_write) (by decide +kernel) (cut := []) (N := 17) (D_X4_write fu) (by decide +kernel) (fun h => absurd h (by decide)) (fun as w o h => ?_)
  unfold U_X4_write at h
  split at h
  next =>
    split at h
    next => exact ⟨Nat.le_of_ble_eq_true rfl, fu, (E_X4_write fu _ _ _ _ w).symm.trans h⟩
    next => cases h
  next => cases h
def T_X7_put : List (Nat × Instr) := [(0, .aload_n 0), (1, .iconst 0), (2, .putfield 53), (5, .iload_n 1), (6, .invokestatic 256), (9, .ifCond .ne 5), (12, .iconst (-1)), (13, .ireturn), (14, .aload_n 0), (15, .getfield 21), (18, .iload_n 1), (19, .invokevirtual 269), (22, .ifCond .ne 9), (25, .aload_n 0), (26, .iconst 1), (27, .invokevirtual 262), (30, .ireturn), (31, .iload_n 2), (32, .iconst 0), (33, .aload_n 0), (34, .getfield 21), (37, .getfield 274), (40, .iload_n 1), (41, .iaload), (42, .iconst 1), (43, .isub), (44, .invokestatic 105), (47, .ifCond .ne 9), (50, .aload_n 0), (51, .iconst 3), (52, .invokevirtual 262), (55, .ireturn), (56, .aload_n 0), (57, .getfield 21), (60, .iload_n 1), (61, .iload_n 2), (62, .iload_n 3), (63, .invokevirtual 277), (66, .iconst 1), (67, .ireturn)]
def op_X7_put (fu : Nat) : Nat → Kont → XL → List Value → XW → Instr → Option XO := opK 4 (rzOf (some .int)) fl_BrookStones nl_BrookStones [] k2_BrookStones [(269, 2, 1, (U_X4_isThere fu)), (262, 2, 1, (U_X7_failBy fu)), (277, 4, 0, (U_X4_write fu))] [(256, 1, 1, (U_X4_isSheet fu)), (105, 3, 1, (U_X7_isWithin fu))] []
def M_X7_put (fu : Nat) (a0 : Nat) (a1 : Int32) (a2 : Int32) (a3 : Int32) (w : XW) : Option XO :=
  (pF w a0 6 7 (.int (0 : Int32))).bind fun w1 =>
  cI (U_X4_isSheet fu [.int a1] w1) fun x3 w2 =>
  (if x3 = 0 then
    some (some (.int (-1 : Int32)), w2)
  else
    (gR w2 a0 6 1).bind fun r4 =>
    cI (U_X4_isThere fu [.ref r4, .int a1] w2) fun x6 w5 =>
    (if x6 = 0 then
      cI (U_X7_failBy fu [.ref a0, .int (1 : Int32)] w5) fun x17 w16 =>
      some (some (.int x17), w16)
    else
      (gR w5 a0 6 1).bind fun r7 =>
      (gR w5 r7 4 1).bind fun r8 =>
      (aI w5 r8 a1).bind fun x9 =>
      cI (U_X7_isWithin fu [.int a2, .int (0 : Int32), .int (x9 - (1 : Int32))] w5) fun x11 w10 =>
      (if x11 = 0 then
        cI (U_X7_failBy fu [.ref a0, .int (3 : Int32)] w10) fun x15 w14 =>
        some (some (.int x15), w14)
      else
        (gR w10 a0 6 1).bind fun r12 =>
        cV (U_X4_write fu [.ref r12, .int a1, .int a2, .int a3] w10) fun w13 =>
        some (some (.int (1 : Int32)), w13))))
def U_X7_put (fu : Nat) : Orc := fun as w => match as with
  | [.ref a0, .int a1, .int a2, .int a3] => if isO w a0 6 = true then M_X7_put fu a0 a1 a2 a3 w else none
  | _ => none
def K_X7_put (fu : Nat) (n : Nat) : Kont := fun pc ls st w => none
set_option maxRecDepth 100000 in
set_option maxHeartbeats 4000000 in
theorem E_X7_put (fu : Nat) (a0 : Nat) (a1 : Int32) (a2 : Int32) (a3 : Int32) (w : XW) : M_X7_put fu a0 a1 a2 a3 w = ev T_X7_put (op_X7_put fu) [] (K_X7_put fu fu) 42 0 (lv_args 0 [.ref a0, .int a1, .int a2, .int a3]) [] w := by
  rfl
theorem D_X7_put (fu : Nat) : DS T_X7_put (op_X7_put fu) [] 42 (K_X7_put fu) := by
  refine ⟨fun pc ls st w => rfl, fun n pc ls st w o h => ?_⟩
  cases h
theorem H_X7_put (fu : Nat) : ∀ as w o, U_X7_put fu as w = some o → ∃ a r, as = .ref a :: r ∧ r.length = 3 ∧ isO w a 6 = true := by
  intro as w o h
  unfold U_X7_put at h
  split at h
  next =>
    split at h
    next hh => exact ⟨_, _, rfl, rfl, hh⟩
    next => cases h
  next => cases h
set_option maxRecDepth 100000 in
set_option maxHeartbeats 4000000 in
theorem S_X7_put (fu : Nat) {l : Launch} {D : va_G} {cA : Nat → ClassId} {base b : Nat} : CS l D cA base b 3 y_X7_put prog_1_method_30_code 4 (some .int) (U_X7_put fu) ∧ OM (U_X7_put fu) := by
  refine CS_of (d := 2) (y := y_X7_put) (cc := prog_1_method_30_code) (nL := 4) (ret := (some .int)) (F := U_X7_put fu) (fl := fl_BrookStones) (nl := nl_BrookStones) (kl := []) (k2 := k2_BrookStones) (mv := [(269, 2, 1, (U_X4_isThere fu)), (262, 2, 1, (U_X7_failBy fu)), (277, 4, 0, (U_X4_write fu))]) (ms := [(256, 1, 1, (U_X4_isSheet fu)), (105, 3, 1, (U_X7_isWithin fu))]) (mi := []) (ini := false) hI_w hZ_w fl_BrookStones_ok nl_BrookStones_ok nil_all k2_BrookStones_ok
    (cons_all (⟨⟨show (1 : Nat) ≠ 3 by decide, y_X4_isThere, prog_6_method_4_code, 2, (some .boolean), 1, "BrookStones", 4, TX4, 3, 1, (S_X4_isThere fu (l := l) (D := D) (cA := cA) (base := base) (b := b)).1, by decide, by decide, rfl, H_X4_isThere fu, rfl, mi_X4_isThere.1, mi_X4_isThere.2.1, mi_X4_isThere.2.2.1, mi_X4_isThere.2.2.2.1, mi_X4_isThere.2.2.2.2, Or.inr (tblN_of (i := 665) rfl rfl)⟩, (S_X4_isThere fu (l := l) (D := D) (cA := cA) (base := base) (b := b)).2⟩) (cons_all (⟨⟨show (1 : Nat) ≠ 3 by decide, y_X7_failBy, prog_1_method_40_code, 2, (some .int), 1, "BrookStones", 6, TX7, 8, 1, (S_X7_failBy fu (l := l) (D := D) (cA := cA) (base := base) (b := b)).1, by decide, by decide, rfl, H_X7_failBy fu, rfl, mi_X7_failBy.1, mi_X7_failBy.2.1, mi_X7_failBy.2.2.1, mi_X7_failBy.2.2.2.1, mi_X7_failBy.2.2.2.2, Or.inl (tblG_of (i := 273) rfl rfl)⟩, (S_X7_failBy fu (l := l) (D := D) (cA := cA) (base := base) (b := b)).2⟩) (cons_all (⟨⟨show (0 : Nat) ≠ 3 by decide, y_X4_write, prog_6_method_8_code, 4, (none), 2, "BrookStones", 4, TX4, 3, 3, (S_X4_write fu (l := l) (D := D) (cA := cA) (base := base) (b := b)).1, by decide, by decide, rfl, H_X4_write fu, rfl, mi_X4_write.1, mi_X4_write.2.1, mi_X4_write.2.2.1, mi_X4_write.2.2.2.1, mi_X4_write.2.2.2.2, Or.inr (tblN_of (i := 674) rfl rfl)⟩, (S_X4_write fu (l := l) (D := D) (cA := cA) (base := base) (b := b)).2⟩) (nil_all))))
    (cons_all (⟨Or.inl ⟨show (1 : Nat) ≠ 3 by decide, y_X4_isSheet, prog_6_method_2_code, 1, (some .boolean), 2, "BrookStones", (S_X4_isSheet fu (l := l) (D := D) (cA := cA) (base := base) (b := b)).1, by decide, by decide, mi_X4_isSheet.1, mi_X4_isSheet.2.1, mi_X4_isSheet.2.2.1, mi_X4_isSheet.2.2.2, Or.inr (tblN_of (i := 252) rfl rfl)⟩, (S_X4_isSheet fu (l := l) (D := D) (cA := cA) (base := base) (b := b)).2⟩) (cons_all (⟨Or.inl ⟨show (1 : Nat) ≠ 3 by decide, y_X7_isWithin, prog_1_method_46_code, 3, (some .boolean), 1, "BrookStones", (S_X7_isWithin fu (l := l) (D := D) (cA := cA) (base := base) (b := b)).1, by decide, by decide, mi_X7_isWithin.1, mi_X7_isWithin.2.1, mi_X7_isWithin.2.2.1, mi_X7_isWithin.2.2.2, Or.inl (tblG_of (i := 333) rfl rfl)⟩, (S_X7_isWithin fu (l := l) (D := D) (cA := cA) (base := base) (b := b)).2⟩) (nil_all)))
    (nil_all)
    (T := T_X7_put) (by decide +kernel) (cut := []) (N := 42) (D_X7_put fu) (by decide +kernel) (fun h => absurd h (by decide)) (fun as w o h => ?_)
  unfold U_X7_put at h
  split at h
  next =>
    split at h
    next => exact ⟨Nat.le_of_ble_eq_true rfl, fu, (E_X7_put fu _ _ _ _ w).symm.trans h⟩
    next => cases h
  next => cases h
def T_X8_put : List (Nat × Instr) := [(0, .aload_n 0), (1, .iconst 0), (2, .putfield 84), (5, .iload_n 1), (6, .invokestatic 99), (9, .ifCond .ne 5), (12, .iconst (-1)), (13, .ireturn), (14, .aload_n 0), (15, .getfield 9), (18, .iload_n 1), (19, .iaload), (20, .bipush (-9)), (22, .if_icmp .ne 9), (25, .aload_n 0), (26, .iconst 1), (27, .invokevirtual 110), (30, .ireturn), (31, .iload_n 2), (32, .iconst 0), (33, .aload_n 0), (34, .getfield 13), (37, .iload_n 1), (38, .iaload), (39, .iconst 1), (40, .isub), (41, .invokestatic 89), (44, .ifCond .ne 9), (47, .aload_n 0), (48, .iconst 3), (49, .invokevirtual 110), (52, .ireturn), (53, .aload_n 0), (54, .getfield 16), (57, .bipush 60), (59, .iload_n 1), (60, .imul), (61, .iload_n 2), (62, .iadd), (63, .aload_n 0), (64, .getfield 9), (67, .iload_n 1), (68, .iaload), (69, .ifCond .ne 8), (72, .iload_n 3), (73, .i2b), (74, .goto 19), (77, .aload_n 0), (78, .getfield 9), (81, .iload_n 1), (82, .iaload), (83, .iconst 1), (84, .if_icmp .ne 8), (87, .iload_n 3), (88, .i2s), (89, .goto 4), (92, .iload_n 3), (93, .iastore), (94, .iconst 1), (95, .ireturn)]
def op_X8_put (fu : Nat) : Nat → Kont → XL → List Value → XW → Instr → Option XO := opK 4 (rzOf (some .int)) fl_BrookStonesModel [] kl_BrookStonesModel k2_BrookStonesModel [(110, 2, 1, (U_X8_fails fu))] [(99, 1, 1, (U_X8_isSheet fu)), (89, 3, 1, (U_X8_within fu))] []
def M_X8_put (fu : Nat) (a0 : Nat) (a1 : Int32) (a2 : Int32) (a3 : Int32) (w : XW) : Option XO :=
  (pF w a0 7 0 (.int (0 : Int32))).bind fun w1 =>
  cI (U_X8_isSheet fu [.int a1] w1) fun x3 w2 =>
  (if x3 = 0 then
    some (some (.int (-1 : Int32)), w2)
  else
    (gR w2 a0 7 2).bind fun r4 =>
    (aI w2 r4 a1).bind fun x5 =>
    (if x5 = (-9 : Int32) then
      cI (U_X8_fails fu [.ref a0, .int (1 : Int32)] w2) fun x21 w20 =>
      some (some (.int x21), w20)
    else
      (gR w2 a0 7 3).bind fun r6 =>
      (aI w2 r6 a1).bind fun x7 =>
      cI (U_X8_within fu [.int a2, .int (0 : Int32), .int (x7 - (1 : Int32))] w2) fun x9 w8 =>
      (if x9 = 0 then
        cI (U_X8_fails fu [.ref a0, .int (3 : Int32)] w8) fun x19 w18 =>
        some (some (.int x19), w18)
      else
        (gR w8 a0 7 4).bind fun r10 =>
        (gR w8 a0 7 2).bind fun r11 =>
        (aI w8 r11 a1).bind fun x12 =>
        (if x12 = 0 then
          (sI w8 r10 (((60 : Int32) * a1) + a2) (Int8.toInt32 (Int32.toInt8 a3))).bind fun w17 =>
          some (some (.int (1 : Int32)), w17)
        else
          (gR w8 a0 7 2).bind fun r13 =>
          (aI w8 r13 a1).bind fun x14 =>
          (if x14 = (1 : Int32) then
            (sI w8 r10 (((60 : Int32) * a1) + a2) (Int16.toInt32 (Int32.toInt16 a3))).bind fun w16 =>
            some (some (.int (1 : Int32)), w16)
          else
            (sI w8 r10 (((60 : Int32) * a1) + a2) a3).bind fun w15 =>
            some (some (.int (1 : Int32)), w15))))))
def U_X8_put (fu : Nat) : Orc := fun as w => match as with
  | [.ref a0, .int a1, .int a2, .int a3] => if isO w a0 7 = true then M_X8_put fu a0 a1 a2 a3 w else none
  | _ => none
def K_X8_put (fu : Nat) (n : Nat) : Kont := fun pc ls st w => none
set_option maxRecDepth 100000 in
set_option maxHeartbeats 4000000 in
theorem E_X8_put (fu : Nat) (a0 : Nat) (a1 : Int32) (a2 : Int32) (a3 : Int32) (w : XW) : M_X8_put fu a0 a1 a2 a3 w = ev T_X8_put (op_X8_put fu) [] (K_X8_put fu fu) 62 0 (lv_args 0 [.ref a0, .int a1, .int a2, .int a3]) [] w := by
  rfl
theorem D_X8_put (fu : Nat) : DS T_X8_put (op_X8_put fu) [] 62 (K_X8_put fu) := by
  refine ⟨fun pc ls st w => rfl, fun n pc ls st w o h => ?_⟩
  cases h
theorem H_X8_put (fu : Nat) : ∀ as w o, U_X8_put fu as w = some o → ∃ a r, as = .ref a :: r ∧ r.length = 3 ∧ isO w a 7 = true := by
  intro as w o h
  unfold U_X8_put at h
  split at h
  next =>
    split at h
    next hh => exact ⟨_, _, rfl, rfl, hh⟩
    next => cases h
  next => cases h
set_option maxRecDepth 100000 in
set_option maxHeartbeats 4000000 in
theorem S_X8_put (fu : Nat) {l : Launch} {D : va_G} {cA : Nat → ClassId} {base b : Nat} : CS l D cA base b 3 y_X8_put prog_10_method_68_code 4 (some .int) (U_X8_put fu) ∧ OM (U_X8_put fu) := by
  refine CS_of (d := 2) (y := y_X8_put) (cc := prog_10_method_68_code) (nL := 4) (ret := (some .int)) (F := U_X8_put fu) (fl := fl_BrookStonesModel) (nl := []) (kl := kl_BrookStonesModel) (k2 := k2_BrookStonesModel) (mv := [(110, 2, 1, (U_X8_fails fu))]) (ms := [(99, 1, 1, (U_X8_isSheet fu)), (89, 3, 1, (U_X8_within fu))]) (mi := []) (ini := false) hI_w hZ_w fl_BrookStonesModel_ok nil_all kl_BrookStonesModel_ok k2_BrookStonesModel_ok
    (cons_all (⟨⟨show (1 : Nat) ≠ 3 by decide, y_X8_fails, prog_10_method_3_code, 2, (some .int), 1, "BrookStones", 7, TX8, 37, 1, (S_X8_fails fu (l := l) (D := D) (cA := cA) (base := base) (b := b)).1, by decide, by decide, rfl, H_X8_fails fu, rfl, mi_X8_fails.1, mi_X8_fails.2.1, mi_X8_fails.2.2.1, mi_X8_fails.2.2.2.1, mi_X8_fails.2.2.2.2, Or.inl (tblG_of (i := 871) rfl rfl)⟩, (S_X8_fails fu (l := l) (D := D) (cA := cA) (base := base) (b := b)).2⟩) (nil_all))
    (cons_all (⟨Or.inl ⟨show (1 : Nat) ≠ 3 by decide, y_X8_isSheet, prog_10_method_7_code, 1, (some .boolean), 2, "BrookStones", (S_X8_isSheet fu (l := l) (D := D) (cA := cA) (base := base) (b := b)).1, by decide, by decide, mi_X8_isSheet.1, mi_X8_isSheet.2.1, mi_X8_isSheet.2.2.1, mi_X8_isSheet.2.2.2, Or.inl (tblG_of (i := 858) rfl rfl)⟩, (S_X8_isSheet fu (l := l) (D := D) (cA := cA) (base := base) (b := b)).2⟩) (cons_all (⟨Or.inl ⟨show (1 : Nat) ≠ 3 by decide, y_X8_within, prog_10_method_5_code, 3, (some .boolean), 1, "BrookStones", (S_X8_within fu (l := l) (D := D) (cA := cA) (base := base) (b := b)).1, by decide, by decide, mi_X8_within.1, mi_X8_within.2.1, mi_X8_within.2.2.1, mi_X8_within.2.2.2, Or.inl (tblG_of (i := 861) rfl rfl)⟩, (S_X8_within fu (l := l) (D := D) (cA := cA) (base := base) (b := b)).2⟩) (nil_all)))
    (nil_all)
    (T := T_X8_put) (by decide +kernel) (cut := []) (N := 62) (D_X8_put fu) (by decide +kernel) (fun h => absurd h (by decide)) (fun as w o h => ?_)
  unfold U_X8_put at h
  split at h
  next =>
    split at h
    next => exact ⟨Nat.le_of_ble_eq_true rfl, fu, (E_X8_put fu _ _ _ _ w).symm.trans h⟩
    next => cases h
  next => cases h
def T_X7_cell : List (Nat × Instr) := [(0, .aload_n 0), (1, .iconst 0), (2, .putfield 53), (5, .aload_n 0), (6, .iload_n 1), (7, .iload_n 3), (8, .iload_n 2), (9, .iconst 1), (10, .invokevirtual 57), (13, .ifCond .ne 16), (16, .aload_n 0), (17, .getfield 21), (20, .iload_n 1), (21, .iload_n 2), (22, .invokevirtual 197), (25, .i2l), (26, .goto 6), (29, .ldc2_w 245), (32, .lreturn)]
def op_X7_cell (fu : Nat) : Nat → Kont → XL → List Value → XW → Instr → Option XO := opK 4 (rzOf (some .long)) fl_BrookStones nl_BrookStones [] k2_BrookStones [(57, 5, 1, (U_X7_refusalOfCells fu)), (197, 3, 1, (U_X4_at fu))] [] []
def M_X7_cell (fu : Nat) (a0 : Nat) (a1 : Int32) (a2 : Int32) (a3 : Int32) (w : XW) : Option XO :=
  (pF w a0 6 7 (.int (0 : Int32))).bind fun w1 =>
  cI (U_X7_refusalOfCells fu [.ref a0, .int a1, .int a3, .int a2, .int (1 : Int32)] w1) fun x3 w2 =>
  (if x3 = 0 then
    (gR w2 a0 6 1).bind fun r4 =>
    cI (U_X4_at fu [.ref r4, .int a1, .int a2] w2) fun x6 w5 =>
    some (some (.long (Int32.toInt64 x6)), w5)
  else
    some (some (.long (-9223372036854775808 : Int64)), w2))
def U_X7_cell (fu : Nat) : Orc := fun as w => match as with
  | [.ref a0, .int a1, .int a2, .int a3] => if isO w a0 6 = true then M_X7_cell fu a0 a1 a2 a3 w else none
  | _ => none
def K_X7_cell (fu : Nat) (n : Nat) : Kont := fun pc ls st w => none
set_option maxRecDepth 100000 in
set_option maxHeartbeats 4000000 in
theorem E_X7_cell (fu : Nat) (a0 : Nat) (a1 : Int32) (a2 : Int32) (a3 : Int32) (w : XW) : M_X7_cell fu a0 a1 a2 a3 w = ev T_X7_cell (op_X7_cell fu) [] (K_X7_cell fu fu) 21 0 (lv_args 0 [.ref a0, .int a1, .int a2, .int a3]) [] w := by
  rfl
theorem D_X7_cell (fu : Nat) : DS T_X7_cell (op_X7_cell fu) [] 21 (K_X7_cell fu) := by
  refine ⟨fun pc ls st w => rfl, fun n pc ls st w o h => ?_⟩
  cases h
theorem H_X7_cell (fu : Nat) : ∀ as w o, U_X7_cell fu as w = some o → ∃ a r, as = .ref a :: r ∧ r.length = 3 ∧ isO w a 6 = true := by
  intro as w o h
  unfold U_X7_cell at h
  split at h
  next =>
    split at h
    next hh => exact ⟨_, _, rfl, rfl, hh⟩
    next => cases h
  next => cases h
set_option maxRecDepth 100000 in
set_option maxHeartbeats 4000000 in
theorem S_X7_cell (fu : Nat) {l : Launch} {D : va_G} {cA : Nat → ClassId} {base b : Nat} : CS l D cA base b 4 y_X7_cell prog_1_method_31_code 4 (some .long) (U_X7_cell fu) ∧ OM (U_X7_cell fu) := by
  refine CS_of (d := 3) (y := y_X7_cell) (cc := prog_1_method_31_code) (nL := 4) (ret := (some .long)) (F := U_X7_cell fu) (fl := fl_BrookStones) (nl := nl_BrookStones) (kl := []) (k2 := k2_BrookStones) (mv := [(57, 5, 1, (U_X7_refusalOfCells fu)), (197, 3, 1, (U_X4_at fu))]) (ms := []) (mi := []) (ini := false) hI_w hZ_w fl_BrookStones_ok nl_BrookStones_ok nil_all k2_BrookStones_ok
    (cons_all (⟨⟨show (1 : Nat) ≠ 3 by decide, y_X7_refusalOfCells, prog_1_method_39_code, 6, (some .int), 3, "BrookStones", 6, TX7, 8, 4, (S_X7_refusalOfCells fu (l := l) (D := D) (cA := cA) (base := base) (b := b)).1, by decide, by decide, rfl, H_X7_refusalOfCells fu, rfl, mi_X7_refusalOfCells.1, mi_X7_refusalOfCells.2.1, mi_X7_refusalOfCells.2.2.1, mi_X7_refusalOfCells.2.2.2.1, mi_X7_refusalOfCells.2.2.2.2, Or.inl (tblG_of (i := 248) rfl rfl)⟩, (S_X7_refusalOfCells fu (l := l) (D := D) (cA := cA) (base := base) (b := b)).2⟩) (cons_all (⟨⟨show (1 : Nat) ≠ 3 by decide, y_X4_at, prog_6_method_7_code, 3, (some .int), 1, "BrookStones", 4, TX4, 3, 2, (S_X4_at fu (l := l) (D := D) (cA := cA) (base := base) (b := b)).1, by decide, by decide, rfl, H_X4_at fu, rfl, mi_X4_at.1, mi_X4_at.2.1, mi_X4_at.2.2.1, mi_X4_at.2.2.2.1, mi_X4_at.2.2.2.2, Or.inr (tblN_of (i := 467) rfl rfl)⟩, (S_X4_at fu (l := l) (D := D) (cA := cA) (base := base) (b := b)).2⟩) (nil_all)))
    (nil_all)
    (nil_all)
    (T := T_X7_cell) (by decide +kernel) (cut := []) (N := 21) (D_X7_cell fu) (by decide +kernel) (fun h => absurd h (by decide)) (fun as w o h => ?_)
  unfold U_X7_cell at h
  split at h
  next =>
    split at h
    next => exact ⟨Nat.le_of_ble_eq_true rfl, fu, (E_X7_cell fu _ _ _ _ w).symm.trans h⟩
    next => cases h
  next => cases h
def T_X8_cell : List (Nat × Instr) := [(0, .aload_n 0), (1, .iconst 0), (2, .putfield 84), (5, .iload_n 1), (6, .invokestatic 99), (9, .ifCond .eq 10), (12, .iload_n 3), (13, .invokestatic 103), (16, .ifCond .ne 7), (19, .ldc2_w 87), (22, .lreturn), (23, .aload_n 0), (24, .getfield 9), (27, .iload_n 1), (28, .iaload), (29, .bipush (-9)), (31, .if_icmp .eq 19), (34, .aload_n 0), (35, .getfield 9), (38, .iload_n 1), (39, .iaload), (40, .iload_n 3), (41, .if_icmp .eq 9), (44, .aload_n 0), (45, .iconst 2), (46, .invokevirtual 242), (49, .lreturn), (50, .aload_n 0), (51, .getfield 9), (54, .iload_n 1), (55, .iaload), (56, .bipush (-9)), (58, .if_icmp .ne 9), (61, .aload_n 0), (62, .iconst 1), (63, .invokevirtual 242), (66, .lreturn), (67, .iload_n 2), (68, .iconst 0), (69, .aload_n 0), (70, .getfield 13), (73, .iload_n 1), (74, .iaload), (75, .iconst 1), (76, .isub), (77, .invokestatic 89), (80, .ifCond .ne 9), (83, .aload_n 0), (84, .iconst 3), (85, .invokevirtual 242), (88, .lreturn), (89, .aload_n 0), (90, .getfield 16), (93, .bipush 60), (95, .iload_n 1), (96, .imul), (97, .iload_n 2), (98, .iadd), (99, .iaload), (100, .i2l), (101, .lreturn)]
def op_X8_cell (fu : Nat) : Nat → Kont → XL → List Value → XW → Instr → Option XO := opK 4 (rzOf (some .long)) fl_BrookStonesModel [] kl_BrookStonesModel k2_BrookStonesModel [(242, 2, 2, (U_X8_lost fu))] [(99, 1, 1, (U_X8_isSheet fu)), (103, 1, 1, (U_X8_isSort fu)), (89, 3, 1, (U_X8_within fu))] []
def F_X8_cell (fu : Nat) : Nat → (Nat → Int32 → Int32 → XW → Option XO)
  | 0 => fun _ _ _ _ => none
  | n + 1 => (fun a0 a1 a2 w =>
    (gR w a0 7 2).bind fun r1 =>
    (aI w r1 a1).bind fun x2 =>
    (if x2 = (-9 : Int32) then
      cL (U_X8_lost fu [.ref a0, .int (1 : Int32)] w) fun x12 w11 =>
      some (some (.long x12), w11)
    else
      (gR w a0 7 3).bind fun r3 =>
      (aI w r3 a1).bind fun x4 =>
      cI (U_X8_within fu [.int a2, .int (0 : Int32), .int (x4 - (1 : Int32))] w) fun x6 w5 =>
      (if x6 = 0 then
        cL (U_X8_lost fu [.ref a0, .int (3 : Int32)] w5) fun x10 w9 =>
        some (some (.long x10), w9)
      else
        (gR w5 a0 7 4).bind fun r7 =>
        (aI w5 r7 (((60 : Int32) * a1) + a2)).bind fun x8 =>
        some (some (.long (Int32.toInt64 x8)), w5))))
def M_X8_cell (fu : Nat) (a0 : Nat) (a1 : Int32) (a2 : Int32) (a3 : Int32) (w : XW) : Option XO :=
  (pF w a0 7 0 (.int (0 : Int32))).bind fun w13 =>
  cI (U_X8_isSheet fu [.int a1] w13) fun x15 w14 =>
  (if x15 = 0 then
    some (some (.long (-9223372036854775808 : Int64)), w14)
  else
    cI (U_X8_isSort fu [.int a3] w14) fun x17 w16 =>
    (if x17 = 0 then
      some (some (.long (-9223372036854775808 : Int64)), w16)
    else
      (gR w16 a0 7 2).bind fun r18 =>
      (aI w16 r18 a1).bind fun x19 =>
      (if x19 = (-9 : Int32) then
        (F_X8_cell fu fu) a0 a1 a2 w16
      else
        (gR w16 a0 7 2).bind fun r20 =>
        (aI w16 r20 a1).bind fun x21 =>
        (if x21 = a3 then
          (F_X8_cell fu fu) a0 a1 a2 w16
        else
          cL (U_X8_lost fu [.ref a0, .int (2 : Int32)] w16) fun x23 w22 =>
          some (some (.long x23), w22)))))
def U_X8_cell (fu : Nat) : Orc := fun as w => match as with
  | [.ref a0, .int a1, .int a2, .int a3] => if isO w a0 7 = true then M_X8_cell fu a0 a1 a2 a3 w else none
  | _ => none
def K_X8_cell (fu : Nat) (n : Nat) : Kont := fun pc ls st w => bif pc == 50 then ((xr ls 0).bind fun a0 => (xi ls 1).bind fun a1 => (xi ls 2).bind fun a2 => skN st ((F_X8_cell fu n) a0 a1 a2 w)) else none
set_option maxRecDepth 100000 in
set_option maxHeartbeats 4000000 in
theorem E_X8_cell_50 (fu : Nat) (n : Nat) (a0 : Nat) (a1 : Int32) (a2 : Int32) (w : XW) : (F_X8_cell fu (n + 1)) a0 a1 a2 w = ev T_X8_cell (op_X8_cell fu) [50] (K_X8_cell fu n) 63 50 [(0, .ref a0), (1, .int a1), (2, .int a2)] [] w := by
  rfl
set_option maxRecDepth 100000 in
set_option maxHeartbeats 4000000 in
theorem E_X8_cell (fu : Nat) (a0 : Nat) (a1 : Int32) (a2 : Int32) (a3 : Int32) (w : XW) : M_X8_cell fu a0 a1 a2 a3 w = ev T_X8_cell (op_X8_cell fu) [50] (K_X8_cell fu fu) 63 0 (lv_args 0 [.ref a0, .int a1, .int a2, .int a3]) [] w := by
  rfl
theorem D_X8_cell (fu : Nat) : DS T_X8_cell (op_X8_cell fu) [50] 63 (K_X8_cell fu) := by
  refine ⟨fun pc ls st w => c_none (b_none fun _ => b_none fun _ => b_none fun _ => skN_none rfl) (rfl), fun n pc ls st w o h => ?_⟩
  rcases c_some h with ⟨rfl, h⟩ | h
  · obtain ⟨a0, h0, h⟩ := some_of h; obtain ⟨a1, h1, h⟩ := some_of h; obtain ⟨a2, h2, h⟩ := some_of h;
    obtain ⟨e, g⟩ := skN_of h
    subst e
    exact ⟨[(0, .ref a0), (1, .int a1), (2, .int a2)], cons_all (xr_of h0) (cons_all (xi_of h1) (cons_all (xi_of h2) (nil_all))), (E_X8_cell_50 fu n a0 a1 a2 w).symm.trans g⟩
  · cases h
theorem H_X8_cell (fu : Nat) : ∀ as w o, U_X8_cell fu as w = some o → ∃ a r, as = .ref a :: r ∧ r.length = 3 ∧ isO w a 7 = true := by
  intro as w o h
  unfold U_X8_cell at h
  split at h
  next =>
    split at h
    next hh => exact ⟨_, _, rfl, rfl, hh⟩
    next => cases h
  next => cases h
set_option maxRecDepth 100000 in
set_option maxHeartbeats 4000000 in
theorem S_X8_cell (fu : Nat) {l : Launch} {D : va_G} {cA : Nat → ClassId} {base b : Nat} : CS l D cA base b 3 y_X8_cell prog_10_method_69_code 4 (some .long) (U_X8_cell fu) ∧ OM (U_X8_cell fu) := by
  refine CS_of (d := 2) (y := y_X8_cell) (cc := prog_10_method_69_code) (nL := 4) (ret := (some .long)) (F := U_X8_cell fu) (fl := fl_BrookStonesModel) (nl := []) (kl := kl_BrookStonesModel) (k2 := k2_BrookStonesModel) (mv := [(242, 2, 2, (U_X8_lost fu))]) (ms := [(99, 1, 1, (U_X8_isSheet fu)), (103, 1, 1, (U_X8_isSort fu)), (89, 3, 1, (U_X8_within fu))]) (mi := []) (ini := false) hI_w hZ_w fl_BrookStonesModel_ok nil_all kl_BrookStonesModel_ok k2_BrookStonesModel_ok
    (cons_all (⟨⟨show (2 : Nat) ≠ 3 by decide, y_X8_lost, prog_10_method_4_code, 2, (some .long), 1, "BrookStones", 7, TX8, 37, 1, (S_X8_lost fu (l := l) (D := D) (cA := cA) (base := base) (b := b)).1, by decide, by decide, rfl, H_X8_lost fu, rfl, mi_X8_lost.1, mi_X8_lost.2.1, mi_X8_lost.2.2.1, mi_X8_lost.2.2.2.1, mi_X8_lost.2.2.2.2, Or.inl (tblG_of (i := 1094) rfl rfl)⟩, (S_X8_lost fu (l := l) (D := D) (cA := cA) (base := base) (b := b)).2⟩) (nil_all))
    (cons_all (⟨Or.inl ⟨show (1 : Nat) ≠ 3 by decide, y_X8_isSheet, prog_10_method_7_code, 1, (some .boolean), 2, "BrookStones", (S_X8_isSheet fu (l := l) (D := D) (cA := cA) (base := base) (b := b)).1, by decide, by decide, mi_X8_isSheet.1, mi_X8_isSheet.2.1, mi_X8_isSheet.2.2.1, mi_X8_isSheet.2.2.2, Or.inl (tblG_of (i := 858) rfl rfl)⟩, (S_X8_isSheet fu (l := l) (D := D) (cA := cA) (base := base) (b := b)).2⟩) (cons_all (⟨Or.inl ⟨show (1 : Nat) ≠ 3 by decide, y_X8_isSort, prog_10_method_8_code, 1, (some .boolean), 2, "BrookStones", (S_X8_isSort fu (l := l) (D := D) (cA := cA) (base := base) (b := b)).1, by decide, by decide, mi_X8_isSort.1, mi_X8_isSort.2.1, mi_X8_isSort.2.2.1, mi_X8_isSort.2.2.2, Or.inl (tblG_of (i := 864) rfl rfl)⟩, (S_X8_isSort fu (l := l) (D := D) (cA := cA) (base := base) (b := b)).2⟩) (cons_all (⟨Or.inl ⟨show (1 : Nat) ≠ 3 by decide, y_X8_within, prog_10_method_5_code, 3, (some .boolean), 1, "BrookStones", (S_X8_within fu (l := l) (D := D) (cA := cA) (base := base) (b := b)).1, by decide, by decide, mi_X8_within.1, mi_X8_within.2.1, mi_X8_within.2.2.1, mi_X8_within.2.2.2, Or.inl (tblG_of (i := 861) rfl rfl)⟩, (S_X8_within fu (l := l) (D := D) (cA := cA) (base := base) (b := b)).2⟩) (nil_all))))
    (nil_all)
    (T := T_X8_cell) (by decide +kernel) (cut := [50]) (N := 63) (D_X8_cell fu) (by decide +kernel) (fun h => absurd h (by decide)) (fun as w o h => ?_)
  unfold U_X8_cell at h
  split at h
  next =>
    split at h
    next => exact ⟨Nat.le_of_ble_eq_true rfl, fu, (E_X8_cell fu _ _ _ _ w).symm.trans h⟩
    next => cases h
  next => cases h
def T_X4_move : List (Nat × Instr) := [(0, .aload_n 0), (1, .getfield 18), (4, .iload_n 1), (5, .bipush 60), (7, .imul), (8, .iload_n 2), (9, .iadd), (10, .aload_n 0), (11, .getfield 18), (14, .iload_n 3), (15, .bipush 60), (17, .imul), (18, .iload 4), (20, .iadd), (21, .iload 5), (23, .invokestatic 38), (26, .return_)]
def op_X4_move (fu : Nat) : Nat → Kont → XL → List Value → XW → Instr → Option XO := opK 6 (rzOf (none)) fl_BrookStones_Sheets [] [] [] [] [(38, 5, 0, oCopy)] []
def M_X4_move (fu : Nat) (a0 : Nat) (a1 : Int32) (a2 : Int32) (a3 : Int32) (a4 : Int32) (a5 : Int32) (w : XW) : Option XO :=
  (gR w a0 4 2).bind fun r1 =>
  (gR w a0 4 2).bind fun r2 =>
  cV (oCopy [.ref r1, .int ((a1 * (60 : Int32)) + a2), .ref r2, .int ((a3 * (60 : Int32)) + a4), .int a5] w) fun w3 =>
  some (none, w3)
def U_X4_move (fu : Nat) : Orc := fun as w => match as with
  | [.ref a0, .int a1, .int a2, .int a3, .int a4, .int a5] => if isO w a0 4 = true then M_X4_move fu a0 a1 a2 a3 a4 a5 w else none
  | _ => none
def K_X4_move (fu : Nat) (n : Nat) : Kont := fun pc ls st w => none
set_option maxRecDepth 100000 in
set_option maxHeartbeats 4000000 in
theorem E_X4_move (fu : Nat) (a0 : Nat) (a1 : Int32) (a2 : Int32) (a3 : Int32) (a4 : Int32) (a5 : Int32) (w : XW) : M_X4_move fu a0 a1 a2 a3 a4 a5 w = ev T_X4_move (op_X4_move fu) [] (K_X4_move fu fu) 19 0 (lv_args 0 [.ref a0, .int a1, .int a2, .int a3, .int a4, .int a5]) [] w := by
  rfl
theorem D_X4_move (fu : Nat) : DS T_X4_move (op_X4_move fu) [] 19 (K_X4_move fu) := by
  refine ⟨fun pc ls st w => rfl, fun n pc ls st w o h => ?_⟩
  cases h
theorem H_X4_move (fu : Nat) : ∀ as w o, U_X4_move fu as w = some o → ∃ a r, as = .ref a :: r ∧ r.length = 5 ∧ isO w a 4 = true := by
  intro as w o h
  unfold U_X4_move at h
  split at h
  next =>
    split at h
    next hh => exact ⟨_, _, rfl, rfl, hh⟩
    next => cases h
  next => cases h
set_option maxRecDepth 100000 in
set_option maxHeartbeats 4000000 in
theorem S_X4_move (fu : Nat) {l : Launch} {D : va_G} {cA : Nat → ClassId} {base b : Nat} : CS l D cA base b 1 y_X4_move prog_6_method_10_code 6 (none) (U_X4_move fu) ∧ OM (U_X4_move fu) := by
  refine CS_of (d := 0) (y := y_X4_move) (cc := prog_6_method_10_code) (nL := 6) (ret := (none)) (F := U_X4_move fu) (fl := fl_BrookStones_Sheets) (nl := []) (kl := []) (k2 := []) (mv := []) (ms := [(38, 5, 0, oCopy)]) (mi := []) (ini := false) hI_w hZ_w fl_BrookStones_Sheets_ok nil_all nil_all nil_all
    (nil_all)
    (cons_all (⟨Or.inr (Or.inl ⟨rfl, rfl, rfl, tblG_of (i := 694) rfl rfl, tblG_of (i := 579) rfl rfl, tblG_of (i := 578) rfl rfl, tblG_of (i := 13) rfl rfl⟩), om_copy⟩) (nil_all))
    (nil_all)
    (T := T_X4_move) (by decide +kernel) (cut := []) (N := 19) (D_X4_move fu) (by decide +kernel) (fun h => absurd h (by decide)) (fun as w o h => ?_)
  unfold U_X4_move at h
  split at h
  next =>
    split at h
    next => exact ⟨Nat.le_of_ble_eq_true rfl, fu, (E_X4_move fu _ _ _ _ _ _ w).symm.trans h⟩
    next => cases h
  next => cases h
def T_X7_copy : List (Nat × Instr) := [(0, .aload_n 0), (1, .iconst 0), (2, .putfield 53), (5, .iload_n 1), (6, .invokestatic 256), (9, .ifCond .eq 10), (12, .iload_n 3), (13, .invokestatic 256), (16, .ifCond .ne 5), (19, .iconst (-1)), (20, .ireturn), (21, .aload_n 0), (22, .getfield 21), (25, .iload_n 1), (26, .invokevirtual 269), (29, .ifCond .eq 14), (32, .aload_n 0), (33, .getfield 21), (36, .iload_n 3), (37, .invokevirtual 269), (40, .ifCond .ne 9), (43, .aload_n 0), (44, .iconst 1), (45, .invokevirtual 262), (48, .ireturn), (49, .aload_n 0), (50, .getfield 21), (53, .getfield 280), (56, .iload_n 1), (57, .iaload), (58, .aload_n 0), (59, .getfield 21), (62, .getfield 280), (65, .iload_n 3), (66, .iaload), (67, .if_icmp .eq 9), (70, .aload_n 0), (71, .iconst 2), (72, .invokevirtual 262), (75, .ireturn), (76, .iload 5), (78, .ifCond .lt 32), (81, .aload_n 0), (82, .getfield 21), (85, .iload_n 1), (86, .iload_n 2), (87, .iload 5), (89, .invokevirtual 283), (92, .ifCond .eq 18), (95, .aload_n 0), (96, .getfield 21), (99, .iload_n 3), (100, .iload 4), (102, .iload 5), (104, .invokevirtual 283), (107, .ifCond .ne 9), (110, .aload_n 0), (111, .iconst 3), (112, .invokevirtual 262), (115, .ireturn), (116, .aload_n 0), (117, .getfield 21), (120, .iload_n 1), (121, .iload_n 2), (122, .iload_n 3), (123, .iload 4), (125, .iload 5), (127, .invokevirtual 286), (130, .iload 5), (132, .ireturn)]
def op_X7_copy (fu : Nat) : Nat → Kont → XL → List Value → XW → Instr → Option XO := opK 6 (rzOf (some .int)) fl_BrookStones nl_BrookStones [] k2_BrookStones [(269, 2, 1, (U_X4_isThere fu)), (262, 2, 1, (U_X7_failBy fu)), (283, 4, 1, (U_X4_reaches fu)), (286, 6, 0, (U_X4_move fu))] [(256, 1, 1, (U_X4_isSheet fu))] []
def M_X7_copy (fu : Nat) (a0 : Nat) (a1 : Int32) (a2 : Int32) (a3 : Int32) (a4 : Int32) (a5 : Int32) (w : XW) : Option XO :=
  (pF w a0 6 7 (.int (0 : Int32))).bind fun w1 =>
  cI (U_X4_isSheet fu [.int a1] w1) fun x3 w2 =>
  (if x3 = 0 then
    some (some (.int (-1 : Int32)), w2)
  else
    cI (U_X4_isSheet fu [.int a3] w2) fun x5 w4 =>
    (if x5 = 0 then
      some (some (.int (-1 : Int32)), w4)
    else
      (gR w4 a0 6 1).bind fun r6 =>
      cI (U_X4_isThere fu [.ref r6, .int a1] w4) fun x8 w7 =>
      (if x8 = 0 then
        cI (U_X7_failBy fu [.ref a0, .int (1 : Int32)] w7) fun x10 w9 =>
        some (some (.int x10), w9)
      else
        (gR w7 a0 6 1).bind fun r11 =>
        cI (U_X4_isThere fu [.ref r11, .int a3] w7) fun x13 w12 =>
        (if x13 = 0 then
          cI (U_X7_failBy fu [.ref a0, .int (1 : Int32)] w12) fun x37 w36 =>
          some (some (.int x37), w36)
        else
          (gR w12 a0 6 1).bind fun r14 =>
          (gR w12 r14 4 0).bind fun r15 =>
          (aI w12 r15 a1).bind fun x16 =>
          (gR w12 a0 6 1).bind fun r17 =>
          (gR w12 r17 4 0).bind fun r18 =>
          (aI w12 r18 a3).bind fun x19 =>
          (if x16 = x19 then
            (if a5 < 0 then
              cI (U_X7_failBy fu [.ref a0, .int (3 : Int32)] w12) fun x21 w20 =>
              some (some (.int x21), w20)
            else
              (gR w12 a0 6 1).bind fun r22 =>
              cI (U_X4_reaches fu [.ref r22, .int a1, .int a2, .int a5] w12) fun x24 w23 =>
              (if x24 = 0 then
                cI (U_X7_failBy fu [.ref a0, .int (3 : Int32)] w23) fun x26 w25 =>
                some (some (.int x26), w25)
              else
                (gR w23 a0 6 1).bind fun r27 =>
                cI (U_X4_reaches fu [.ref r27, .int a3, .int a4, .int a5] w23) fun x29 w28 =>
                (if x29 = 0 then
                  cI (U_X7_failBy fu [.ref a0, .int (3 : Int32)] w28) fun x33 w32 =>
                  some (some (.int x33), w32)
                else
                  (gR w28 a0 6 1).bind fun r30 =>
                  cV (U_X4_move fu [.ref r30, .int a1, .int a2, .int a3, .int a4, .int a5] w28) fun w31 =>
                  some (some (.int a5), w31))))
          else
            cI (U_X7_failBy fu [.ref a0, .int (2 : Int32)] w12) fun x35 w34 =>
            some (some (.int x35), w34))))))
def U_X7_copy (fu : Nat) : Orc := fun as w => match as with
  | [.ref a0, .int a1, .int a2, .int a3, .int a4, .int a5] => if isO w a0 6 = true then M_X7_copy fu a0 a1 a2 a3 a4 a5 w else none
  | _ => none
def K_X7_copy (fu : Nat) (n : Nat) : Kont := fun pc ls st w => none
set_option maxRecDepth 100000 in
set_option maxHeartbeats 4000000 in
theorem E_X7_copy (fu : Nat) (a0 : Nat) (a1 : Int32) (a2 : Int32) (a3 : Int32) (a4 : Int32) (a5 : Int32) (w : XW) : M_X7_copy fu a0 a1 a2 a3 a4 a5 w = ev T_X7_copy (op_X7_copy fu) [] (K_X7_copy fu fu) 72 0 (lv_args 0 [.ref a0, .int a1, .int a2, .int a3, .int a4, .int a5]) [] w := by
  rfl
theorem D_X7_copy (fu : Nat) : DS T_X7_copy (op_X7_copy fu) [] 72 (K_X7_copy fu) := by
  refine ⟨fun pc ls st w => rfl, fun n pc ls st w o h => ?_⟩
  cases h
theorem H_X7_copy (fu : Nat) : ∀ as w o, U_X7_copy fu as w = some o → ∃ a r, as = .ref a :: r ∧ r.length = 5 ∧ isO w a 6 = true := by
  intro as w o h
  unfold U_X7_copy at h
  split at h
  next =>
    split at h
    next hh => exact ⟨_, _, rfl, rfl, hh⟩
    next => cases h
  next => cases h
set_option maxRecDepth 100000 in
set_option maxHeartbeats 4000000 in
theorem S_X7_copy (fu : Nat) {l : Launch} {D : va_G} {cA : Nat → ClassId} {base b : Nat} : CS l D cA base b 3 y_X7_copy prog_1_method_32_code 6 (some .int) (U_X7_copy fu) ∧ OM (U_X7_copy fu) := by
  refine CS_of (d := 2) (y := y_X7_copy) (cc := prog_1_method_32_code) (nL := 6) (ret := (some .int)) (F := U_X7_copy fu) (fl := fl_BrookStones) (nl := nl_BrookStones) (kl := []) (k2 := k2_BrookStones) (mv := [(269, 2, 1, (U_X4_isThere fu)), (262, 2, 1, (U_X7_failBy fu)), (283, 4, 1, (U_X4_reaches fu)), (286, 6, 0, (U_X4_move fu))]) (ms := [(256, 1, 1, (U_X4_isSheet fu))]) (mi := []) (ini := false) hI_w hZ_w fl_BrookStones_ok nl_BrookStones_ok nil_all k2_BrookStones_ok
    (cons_all (⟨⟨show (1 : Nat) ≠ 3 by decide, y_X4_isThere, prog_6_method_4_code, 2, (some .boolean), 1, "BrookStones", 4, TX4, 3, 1, (S_X4_isThere fu (l := l) (D := D) (cA := cA) (base := base) (b := b)).1, by decide, by decide, rfl, H_X4_isThere fu, rfl, mi_X4_isThere.1, mi_X4_isThere.2.1, mi_X4_isThere.2.2.1, mi_X4_isThere.2.2.2.1, mi_X4_isThere.2.2.2.2, Or.inr (tblN_of (i := 665) rfl rfl)⟩, (S_X4_isThere fu (l := l) (D := D) (cA := cA) (base := base) (b := b)).2⟩) (cons_all (⟨⟨show (1 : Nat) ≠ 3 by decide, y_X7_failBy, prog_1_method_40_code, 2, (some .int), 1, "BrookStones", 6, TX7, 8, 1, (S_X7_failBy fu (l := l) (D := D) (cA := cA) (base := base) (b := b)).1, by decide, by decide, rfl, H_X7_failBy fu, rfl, mi_X7_failBy.1, mi_X7_failBy.2.1, mi_X7_failBy.2.2.1, mi_X7_failBy.2.2.2.1, mi_X7_failBy.2.2.2.2, Or.inl (tblG_of (i := 273) rfl rfl)⟩, (S_X7_failBy fu (l := l) (D := D) (cA := cA) (base := base) (b := b)).2⟩) (cons_all (⟨⟨show (1 : Nat) ≠ 3 by decide, y_X4_reaches, prog_6_method_11_code, 4, (some .boolean), 1, "BrookStones", 4, TX4, 3, 3, (S_X4_reaches fu (l := l) (D := D) (cA := cA) (base := base) (b := b)).1, by decide, by decide, rfl, H_X4_reaches fu, rfl, mi_X4_reaches.1, mi_X4_reaches.2.1, mi_X4_reaches.2.2.1, mi_X4_reaches.2.2.2.1, mi_X4_reaches.2.2.2.2, Or.inr (tblN_of (i := 689) rfl rfl)⟩, (S_X4_reaches fu (l := l) (D := D) (cA := cA) (base := base) (b := b)).2⟩) (cons_all (⟨⟨show (0 : Nat) ≠ 3 by decide, y_X4_move, prog_6_method_10_code, 6, (none), 1, "BrookStones", 4, TX4, 3, 5, (S_X4_move fu (l := l) (D := D) (cA := cA) (base := base) (b := b)).1, by decide, by decide, rfl, H_X4_move fu, rfl, mi_X4_move.1, mi_X4_move.2.1, mi_X4_move.2.2.1, mi_X4_move.2.2.2.1, mi_X4_move.2.2.2.2, Or.inr (tblN_of (i := 690) rfl rfl)⟩, (S_X4_move fu (l := l) (D := D) (cA := cA) (base := base) (b := b)).2⟩) (nil_all)))))
    (cons_all (⟨Or.inl ⟨show (1 : Nat) ≠ 3 by decide, y_X4_isSheet, prog_6_method_2_code, 1, (some .boolean), 2, "BrookStones", (S_X4_isSheet fu (l := l) (D := D) (cA := cA) (base := base) (b := b)).1, by decide, by decide, mi_X4_isSheet.1, mi_X4_isSheet.2.1, mi_X4_isSheet.2.2.1, mi_X4_isSheet.2.2.2, Or.inr (tblN_of (i := 252) rfl rfl)⟩, (S_X4_isSheet fu (l := l) (D := D) (cA := cA) (base := base) (b := b)).2⟩) (nil_all))
    (nil_all)
    (T := T_X7_copy) (by decide +kernel) (cut := []) (N := 72) (D_X7_copy fu) (by decide +kernel) (fun h => absurd h (by decide)) (fun as w o h => ?_)
  unfold U_X7_copy at h
  split at h
  next =>
    split at h
    next => exact ⟨Nat.le_of_ble_eq_true rfl, fu, (E_X7_copy fu _ _ _ _ _ _ w).symm.trans h⟩
    next => cases h
  next => cases h
def T_X8_copy : List (Nat × Instr) := [(0, .aload_n 0), (1, .iconst 0), (2, .putfield 84), (5, .iload_n 1), (6, .invokestatic 99), (9, .ifCond .eq 10), (12, .iload_n 3), (13, .invokestatic 99), (16, .ifCond .ne 5), (19, .iconst (-1)), (20, .ireturn), (21, .aload_n 0), (22, .getfield 9), (25, .iload_n 1), (26, .iaload), (27, .bipush (-9)), (29, .if_icmp .eq 14), (32, .aload_n 0), (33, .getfield 9), (36, .iload_n 3), (37, .iaload), (38, .bipush (-9)), (40, .if_icmp .ne 9), (43, .aload_n 0), (44, .iconst 1), (45, .invokevirtual 110), (48, .ireturn), (49, .aload_n 0), (50, .getfield 9), (53, .iload_n 1), (54, .iaload), (55, .aload_n 0), (56, .getfield 9), (59, .iload_n 3), (60, .iaload), (61, .if_icmp .eq 9), (64, .aload_n 0), (65, .iconst 2), (66, .invokevirtual 110), (69, .ireturn), (70, .iload_n 2), (71, .ifCond .lt 38), (74, .iload 4), (76, .ifCond .lt 33), (79, .iload 5), (81, .ifCond .lt 28), (84, .iload_n 2), (85, .aload_n 0), (86, .getfield 13), (89, .iload_n 1), (90, .iaload), (91, .if_icmp .gt 18), (94, .iload 4), (96, .aload_n 0), (97, .getfield 13), (100, .iload_n 3), (101, .iaload), (102, .if_icmp .gt 7), (105, .iconst 1), (106, .goto 4), (109, .iconst 0), (110, .istore 6), (112, .iload 6), (114, .ifCond .eq 30), (117, .iload 5), (119, .aload_n 0), (120, .getfield 13), (123, .iload_n 1), (124, .iaload), (125, .iload_n 2), (126, .isub), (127, .if_icmp .gt 17), (130, .iload 5), (132, .aload_n 0), (133, .getfield 13), (136, .iload_n 3), (137, .iaload), (138, .iload 4), (140, .isub), (141, .if_icmp .le 9), (144, .aload_n 0), (145, .iconst 3), (146, .invokevirtual 110), (149, .ireturn), (150, .iload_n 2), (151, .iload 4), (153, .if_icmp .ge 7), (156, .iconst 1), (157, .goto 4), (160, .iconst 0), (161, .istore 7), (163, .iconst 0), (164, .istore 8), (166, .iload 8), (168, .iload 5), (170, .if_icmp .ge 57), (173, .iload 7), (175, .ifCond .eq 13), (178, .iload 5), (180, .iconst 1), (181, .isub), (182, .iload 8), (184, .isub), (185, .goto 5), (188, .iload 8), (190, .istore 9), (192, .aload_n 0), (193, .getfield 16), (196, .bipush 60), (198, .iload_n 3), (199, .imul), (200, .iload 4), (202, .iadd), (203, .iload 9), (205, .iadd), (206, .aload_n 0), (207, .getfield 16), (210, .bipush 60), (212, .iload_n 1), (213, .imul), (214, .iload_n 2), (215, .iadd), (216, .iload 9), (218, .iadd), (219, .iaload), (220, .iastore), (221, .iinc 8 1), (224, .goto (-58)), (227, .iload 5), (229, .ireturn)]
def op_X8_copy (fu : Nat) : Nat → Kont → XL → List Value → XW → Instr → Option XO := opK 10 (rzOf (some .int)) fl_BrookStonesModel [] kl_BrookStonesModel k2_BrookStonesModel [(110, 2, 1, (U_X8_fails fu))] [(99, 1, 1, (U_X8_isSheet fu))] []
def F_X8_copy (fu : Nat) : Nat → (Nat → Int32 → Int32 → Int32 → Int32 → Int32 → Int32 → XW → Option XO) × (Nat → Int32 → Int32 → Int32 → Int32 → Int32 → Int32 → Int32 → XW → Option XO) × (Nat → Int32 → Int32 → Int32 → Int32 → Int32 → Int32 → Int32 → Int32 → XW → Option XO)
  | 0 => (fun _ _ _ _ _ _ _ _ => none, fun _ _ _ _ _ _ _ _ _ => none, fun _ _ _ _ _ _ _ _ _ _ => none)
  | n + 1 => ((fun a0 a1 a2 a3 a4 a5 s0 w =>
    (if s0 = 0 then
      cI (U_X8_fails fu [.ref a0, .int (3 : Int32)] w) fun x2 w1 =>
      some (some (.int x2), w1)
    else
      (gR w a0 7 3).bind fun r3 =>
      (aI w r3 a1).bind fun x4 =>
      (if (x4 - a2) < a5 then
        cI (U_X8_fails fu [.ref a0, .int (3 : Int32)] w) fun x6 w5 =>
        some (some (.int x6), w5)
      else
        (gR w a0 7 3).bind fun r7 =>
        (aI w r7 a3).bind fun x8 =>
        (if (x8 - a4) < a5 then
          cI (U_X8_fails fu [.ref a0, .int (3 : Int32)] w) fun x10 w9 =>
          some (some (.int x10), w9)
        else
          (if a2 < a4 then
            (F_X8_copy fu n).2.1 a0 a1 a2 a3 a4 a5 (1 : Int32) (0 : Int32) w
          else
            (F_X8_copy fu n).2.1 a0 a1 a2 a3 a4 a5 (0 : Int32) (0 : Int32) w))))),
   (fun a0 a1 a2 a3 a4 a5 a7 a8 w =>
    (if a8 < a5 then
      (if a7 = 0 then
        (F_X8_copy fu n).2.2 a0 a1 a2 a3 a4 a5 a7 a8 a8 w
      else
        (F_X8_copy fu n).2.2 a0 a1 a2 a3 a4 a5 a7 a8 ((a5 - (1 : Int32)) - a8) w)
    else
      some (some (.int a5), w))),
   (fun a0 a1 a2 a3 a4 a5 a7 a8 s0 w =>
    (gR w a0 7 4).bind fun r11 =>
    (gR w a0 7 4).bind fun r12 =>
    (aI w r12 ((((60 : Int32) * a1) + a2) + s0)).bind fun x13 =>
    (sI w r11 ((((60 : Int32) * a3) + a4) + s0) x13).bind fun w14 =>
    (F_X8_copy fu n).2.1 a0 a1 a2 a3 a4 a5 a7 (a8 + (1 : Int32)) w14))
def M_X8_copy (fu : Nat) (a0 : Nat) (a1 : Int32) (a2 : Int32) (a3 : Int32) (a4 : Int32) (a5 : Int32) (w : XW) : Option XO :=
  (pF w a0 7 0 (.int (0 : Int32))).bind fun w15 =>
  cI (U_X8_isSheet fu [.int a1] w15) fun x17 w16 =>
  (if x17 = 0 then
    some (some (.int (-1 : Int32)), w16)
  else
    cI (U_X8_isSheet fu [.int a3] w16) fun x19 w18 =>
    (if x19 = 0 then
      some (some (.int (-1 : Int32)), w18)
    else
      (gR w18 a0 7 2).bind fun r20 =>
      (aI w18 r20 a1).bind fun x21 =>
      (if x21 = (-9 : Int32) then
        cI (U_X8_fails fu [.ref a0, .int (1 : Int32)] w18) fun x23 w22 =>
        some (some (.int x23), w22)
      else
        (gR w18 a0 7 2).bind fun r24 =>
        (aI w18 r24 a3).bind fun x25 =>
        (if x25 = (-9 : Int32) then
          cI (U_X8_fails fu [.ref a0, .int (1 : Int32)] w18) fun x37 w36 =>
          some (some (.int x37), w36)
        else
          (gR w18 a0 7 2).bind fun r26 =>
          (aI w18 r26 a1).bind fun x27 =>
          (gR w18 a0 7 2).bind fun r28 =>
          (aI w18 r28 a3).bind fun x29 =>
          (if x27 = x29 then
            (if a2 < 0 then
              (F_X8_copy fu fu).1 a0 a1 a2 a3 a4 a5 (0 : Int32) w18
            else
              (if a4 < 0 then
                (F_X8_copy fu fu).1 a0 a1 a2 a3 a4 a5 (0 : Int32) w18
              else
                (if a5 < 0 then
                  (F_X8_copy fu fu).1 a0 a1 a2 a3 a4 a5 (0 : Int32) w18
                else
                  (gR w18 a0 7 3).bind fun r30 =>
                  (aI w18 r30 a1).bind fun x31 =>
                  (if x31 < a2 then
                    (F_X8_copy fu fu).1 a0 a1 a2 a3 a4 a5 (0 : Int32) w18
                  else
                    (gR w18 a0 7 3).bind fun r32 =>
                    (aI w18 r32 a3).bind fun x33 =>
                    (if x33 < a4 then
                      (F_X8_copy fu fu).1 a0 a1 a2 a3 a4 a5 (0 : Int32) w18
                    else
                      (F_X8_copy fu fu).1 a0 a1 a2 a3 a4 a5 (1 : Int32) w18)))))
          else
            cI (U_X8_fails fu [.ref a0, .int (2 : Int32)] w18) fun x35 w34 =>
            some (some (.int x35), w34))))))
def U_X8_copy (fu : Nat) : Orc := fun as w => match as with
  | [.ref a0, .int a1, .int a2, .int a3, .int a4, .int a5] => if isO w a0 7 = true then M_X8_copy fu a0 a1 a2 a3 a4 a5 w else none
  | _ => none
def K_X8_copy (fu : Nat) (n : Nat) : Kont := fun pc ls st w => bif pc == 110 then ((xr ls 0).bind fun a0 => (xi ls 1).bind fun a1 => (xi ls 2).bind fun a2 => (xi ls 3).bind fun a3 => (xi ls 4).bind fun a4 => (xi ls 5).bind fun a5 => skI st fun s0 st => skN st ((F_X8_copy fu n).1 a0 a1 a2 a3 a4 a5 s0 w)) else bif pc == 166 then ((xr ls 0).bind fun a0 => (xi ls 1).bind fun a1 => (xi ls 2).bind fun a2 => (xi ls 3).bind fun a3 => (xi ls 4).bind fun a4 => (xi ls 5).bind fun a5 => (xi ls 7).bind fun a7 => (xi ls 8).bind fun a8 => skN st ((F_X8_copy fu n).2.1 a0 a1 a2 a3 a4 a5 a7 a8 w)) else bif pc == 190 then ((xr ls 0).bind fun a0 => (xi ls 1).bind fun a1 => (xi ls 2).bind fun a2 => (xi ls 3).bind fun a3 => (xi ls 4).bind fun a4 => (xi ls 5).bind fun a5 => (xi ls 7).bind fun a7 => (xi ls 8).bind fun a8 => skI st fun s0 st => skN st ((F_X8_copy fu n).2.2 a0 a1 a2 a3 a4 a5 a7 a8 s0 w)) else none
set_option maxRecDepth 100000 in
set_option maxHeartbeats 4000000 in
theorem E_X8_copy_110 (fu : Nat) (n : Nat) (a0 : Nat) (a1 : Int32) (a2 : Int32) (a3 : Int32) (a4 : Int32) (a5 : Int32) (s0 : Int32) (w : XW) : (F_X8_copy fu (n + 1)).1 a0 a1 a2 a3 a4 a5 s0 w = ev T_X8_copy (op_X8_copy fu) [110, 166, 190] (K_X8_copy fu n) 132 110 [(0, .ref a0), (1, .int a1), (2, .int a2), (3, .int a3), (4, .int a4), (5, .int a5)] [.int s0] w := by
  rfl
set_option maxRecDepth 100000 in
set_option maxHeartbeats 4000000 in
theorem E_X8_copy_166 (fu : Nat) (n : Nat) (a0 : Nat) (a1 : Int32) (a2 : Int32) (a3 : Int32) (a4 : Int32) (a5 : Int32) (a7 : Int32) (a8 : Int32) (w : XW) : (F_X8_copy fu (n + 1)).2.1 a0 a1 a2 a3 a4 a5 a7 a8 w = ev T_X8_copy (op_X8_copy fu) [110, 166, 190] (K_X8_copy fu n) 132 166 [(0, .ref a0), (1, .int a1), (2, .int a2), (3, .int a3), (4, .int a4), (5, .int a5), (7, .int a7), (8, .int a8)] [] w := by
  rfl
set_option maxRecDepth 100000 in
set_option maxHeartbeats 4000000 in
theorem E_X8_copy_190 (fu : Nat) (n : Nat) (a0 : Nat) (a1 : Int32) (a2 : Int32) (a3 : Int32) (a4 : Int32) (a5 : Int32) (a7 : Int32) (a8 : Int32) (s0 : Int32) (w : XW) : (F_X8_copy fu (n + 1)).2.2 a0 a1 a2 a3 a4 a5 a7 a8 s0 w = ev T_X8_copy (op_X8_copy fu) [110, 166, 190] (K_X8_copy fu n) 132 190 [(0, .ref a0), (1, .int a1), (2, .int a2), (3, .int a3), (4, .int a4), (5, .int a5), (7, .int a7), (8, .int a8)] [.int s0] w := by
  rfl
set_option maxRecDepth 100000 in
set_option maxHeartbeats 4000000 in
theorem E_X8_copy (fu : Nat) (a0 : Nat) (a1 : Int32) (a2 : Int32) (a3 : Int32) (a4 : Int32) (a5 : Int32) (w : XW) : M_X8_copy fu a0 a1 a2 a3 a4 a5 w = ev T_X8_copy (op_X8_copy fu) [110, 166, 190] (K_X8_copy fu fu) 132 0 (lv_args 0 [.ref a0, .int a1, .int a2, .int a3, .int a4, .int a5]) [] w := by
  rfl
theorem D_X8_copy (fu : Nat) : DS T_X8_copy (op_X8_copy fu) [110, 166, 190] 132 (K_X8_copy fu) := by
  refine ⟨fun pc ls st w => c_none (b_none fun _ => b_none fun _ => b_none fun _ => b_none fun _ => b_none fun _ => b_none fun _ => skI_none fun _ _ => skN_none rfl) (c_none (b_none fun _ => b_none fun _ => b_none fun _ => b_none fun _ => b_none fun _ => b_none fun _ => b_none fun _ => b_none fun _ => skN_none rfl) (c_none (b_none fun _ => b_none fun _ => b_none fun _ => b_none fun _ => b_none fun _ => b_none fun _ => b_none fun _ => b_none fun _ => skI_none fun _ _ => skN_none rfl) (rfl))), fun n pc ls st w o h => ?_⟩
  rcases c_some h with ⟨rfl, h⟩ | h
  · obtain ⟨a0, h0, h⟩ := some_of h; obtain ⟨a1, h1, h⟩ := some_of h; obtain ⟨a2, h2, h⟩ := some_of h; obtain ⟨a3, h3, h⟩ := some_of h; obtain ⟨a4, h4, h⟩ := some_of h; obtain ⟨a5, h5, h⟩ := some_of h;
    obtain ⟨s0, st0, e0, g0⟩ := skI_of h
    obtain ⟨e, g⟩ := skN_of g0
    subst e
    subst e0
    exact ⟨[(0, .ref a0), (1, .int a1), (2, .int a2), (3, .int a3), (4, .int a4), (5, .int a5)], cons_all (xr_of h0) (cons_all (xi_of h1) (cons_all (xi_of h2) (cons_all (xi_of h3) (cons_all (xi_of h4) (cons_all (xi_of h5) (nil_all)))))), (E_X8_copy_110 fu n a0 a1 a2 a3 a4 a5 s0 w).symm.trans g⟩
  rcases c_some h with ⟨rfl, h⟩ | h
  · obtain ⟨a0, h0, h⟩ := some_of h; obtain ⟨a1, h1, h⟩ := some_of h; obtain ⟨a2, h2, h⟩ := some_of h; obtain ⟨a3, h3, h⟩ := some_of h; obtain ⟨a4, h4, h⟩ := some_of h; obtain ⟨a5, h5, h⟩ := some_of h; obtain ⟨a7, h7, h⟩ := some_of h; obtain ⟨a8, h8, h⟩ := some_of h;
    obtain ⟨e, g⟩ := skN_of h
    subst e
    exact ⟨[(0, .ref a0), (1, .int a1), (2, .int a2), (3, .int a3), (4, .int a4), (5, .int a5), (7, .int a7), (8, .int a8)], cons_all (xr_of h0) (cons_all (xi_of h1) (cons_all (xi_of h2) (cons_all (xi_of h3) (cons_all (xi_of h4) (cons_all (xi_of h5) (cons_all (xi_of h7) (cons_all (xi_of h8) (nil_all)))))))), (E_X8_copy_166 fu n a0 a1 a2 a3 a4 a5 a7 a8 w).symm.trans g⟩
  rcases c_some h with ⟨rfl, h⟩ | h
  · obtain ⟨a0, h0, h⟩ := some_of h; obtain ⟨a1, h1, h⟩ := some_of h; obtain ⟨a2, h2, h⟩ := some_of h; obtain ⟨a3, h3, h⟩ := some_of h; obtain ⟨a4, h4, h⟩ := some_of h; obtain ⟨a5, h5, h⟩ := some_of h; obtain ⟨a7, h7, h⟩ := some_of h; obtain ⟨a8, h8, h⟩ := some_of h;
    obtain ⟨s0, st0, e0, g0⟩ := skI_of h
    obtain ⟨e, g⟩ := skN_of g0
    subst e
    subst e0
    exact ⟨[(0, .ref a0), (1, .int a1), (2, .int a2), (3, .int a3), (4, .int a4), (5, .int a5), (7, .int a7), (8, .int a8)], cons_all (xr_of h0) (cons_all (xi_of h1) (cons_all (xi_of h2) (cons_all (xi_of h3) (cons_all (xi_of h4) (cons_all (xi_of h5) (cons_all (xi_of h7) (cons_all (xi_of h8) (nil_all)))))))), (E_X8_copy_190 fu n a0 a1 a2 a3 a4 a5 a7 a8 s0 w).symm.trans g⟩
  · cases h
theorem H_X8_copy (fu : Nat) : ∀ as w o, U_X8_copy fu as w = some o → ∃ a r, as = .ref a :: r ∧ r.length = 5 ∧ isO w a 7 = true := by
  intro as w o h
  unfold U_X8_copy at h
  split at h
  next =>
    split at h
    next hh => exact ⟨_, _, rfl, rfl, hh⟩
    next => cases h
  next => cases h
set_option maxRecDepth 100000 in
set_option maxHeartbeats 4000000 in
theorem S_X8_copy (fu : Nat) {l : Launch} {D : va_G} {cA : Nat → ClassId} {base b : Nat} : CS l D cA base b 3 y_X8_copy prog_10_method_70_code 10 (some .int) (U_X8_copy fu) ∧ OM (U_X8_copy fu) := by
  refine CS_of (d := 2) (y := y_X8_copy) (cc := prog_10_method_70_code) (nL := 10) (ret := (some .int)) (F := U_X8_copy fu) (fl := fl_BrookStonesModel) (nl := []) (kl := kl_BrookStonesModel) (k2 := k2_BrookStonesModel) (mv := [(110, 2, 1, (U_X8_fails fu))]) (ms := [(99, 1, 1, (U_X8_isSheet fu))]) (mi := []) (ini := false) hI_w hZ_w fl_BrookStonesModel_ok nil_all kl_BrookStonesModel_ok k2_BrookStonesModel_ok
    (cons_all (⟨⟨show (1 : Nat) ≠ 3 by decide, y_X8_fails, prog_10_method_3_code, 2, (some .int), 1, "BrookStones", 7, TX8, 37, 1, (S_X8_fails fu (l := l) (D := D) (cA := cA) (base := base) (b := b)).1, by decide, by decide, rfl, H_X8_fails fu, rfl, mi_X8_fails.1, mi_X8_fails.2.1, mi_X8_fails.2.2.1, mi_X8_fails.2.2.2.1, mi_X8_fails.2.2.2.2, Or.inl (tblG_of (i := 871) rfl rfl)⟩, (S_X8_fails fu (l := l) (D := D) (cA := cA) (base := base) (b := b)).2⟩) (nil_all))
    (cons_all (⟨Or.inl ⟨show (1 : Nat) ≠ 3 by decide, y_X8_isSheet, prog_10_method_7_code, 1, (some .boolean), 2, "BrookStones", (S_X8_isSheet fu (l := l) (D := D) (cA := cA) (base := base) (b := b)).1, by decide, by decide, mi_X8_isSheet.1, mi_X8_isSheet.2.1, mi_X8_isSheet.2.2.1, mi_X8_isSheet.2.2.2, Or.inl (tblG_of (i := 858) rfl rfl)⟩, (S_X8_isSheet fu (l := l) (D := D) (cA := cA) (base := base) (b := b)).2⟩) (nil_all))
    (nil_all)
    (T := T_X8_copy) (by decide +kernel) (cut := [110, 166, 190]) (N := 132) (D_X8_copy fu) (by decide +kernel) (fun h => absurd h (by decide)) (fun as w o h => ?_)
  unfold U_X8_copy at h
  split at h
  next =>
    split at h
    next => exact ⟨Nat.le_of_ble_eq_true rfl, fu, (E_X8_copy fu _ _ _ _ _ _ w).symm.trans h⟩
    next => cases h
  next => cases h
def T_X7_leave : List (Nat × Instr) := [(0, .aload_n 0), (1, .bipush 31), (3, .aload_n 0), (4, .getfield 302), (7, .imul), (8, .iload_n 1), (9, .iadd), (10, .putfield 302), (13, .return_)]
def op_X7_leave (fu : Nat) : Nat → Kont → XL → List Value → XW → Instr → Option XO := opK 2 (rzOf (none)) fl_BrookStones nl_BrookStones [] k2_BrookStones [] [] []
def M_X7_leave (fu : Nat) (a0 : Nat) (a1 : Int32) (w : XW) : Option XO :=
  (gI w a0 6 6).bind fun x1 =>
  (pF w a0 6 6 (.int (((31 : Int32) * x1) + a1))).bind fun w2 =>
  some (none, w2)
def U_X7_leave (fu : Nat) : Orc := fun as w => match as with
  | [.ref a0, .int a1] => if isO w a0 6 = true then M_X7_leave fu a0 a1 w else none
  | _ => none
def K_X7_leave (fu : Nat) (n : Nat) : Kont := fun pc ls st w => none
set_option maxRecDepth 100000 in
set_option maxHeartbeats 4000000 in
theorem E_X7_leave (fu : Nat) (a0 : Nat) (a1 : Int32) (w : XW) : M_X7_leave fu a0 a1 w = ev T_X7_leave (op_X7_leave fu) [] (K_X7_leave fu fu) 11 0 (lv_args 0 [.ref a0, .int a1]) [] w := by
  rfl
theorem D_X7_leave (fu : Nat) : DS T_X7_leave (op_X7_leave fu) [] 11 (K_X7_leave fu) := by
  refine ⟨fun pc ls st w => rfl, fun n pc ls st w o h => ?_⟩
  cases h
theorem H_X7_leave (fu : Nat) : ∀ as w o, U_X7_leave fu as w = some o → ∃ a r, as = .ref a :: r ∧ r.length = 1 ∧ isO w a 6 = true := by
  intro as w o h
  unfold U_X7_leave at h
  split at h
  next =>
    split at h
    next hh => exact ⟨_, _, rfl, rfl, hh⟩
    next => cases h
  next => cases h
set_option maxRecDepth 100000 in
set_option maxHeartbeats 4000000 in
theorem S_X7_leave (fu : Nat) {l : Launch} {D : va_G} {cA : Nat → ClassId} {base b : Nat} : CS l D cA base b 1 y_X7_leave prog_1_method_44_code 2 (none) (U_X7_leave fu) ∧ OM (U_X7_leave fu) := by
  refine CS_of (d := 0) (y := y_X7_leave) (cc := prog_1_method_44_code) (nL := 2) (ret := (none)) (F := U_X7_leave fu) (fl := fl_BrookStones) (nl := nl_BrookStones) (kl := []) (k2 := k2_BrookStones) (mv := []) (ms := []) (mi := []) (ini := false) hI_w hZ_w fl_BrookStones_ok nl_BrookStones_ok nil_all k2_BrookStones_ok
    (nil_all)
    (nil_all)
    (nil_all)
    (T := T_X7_leave) (by decide +kernel) (cut := []) (N := 11) (D_X7_leave fu) (by decide +kernel) (fun h => absurd h (by decide)) (fun as w o h => ?_)
  unfold U_X7_leave at h
  split at h
  next =>
    split at h
    next => exact ⟨Nat.le_of_ble_eq_true rfl, fu, (E_X7_leave fu _ _ w).symm.trans h⟩
    next => cases h
  next => cases h
def T_X7_tellAsStone : List (Nat × Instr) := [(0, .aload_n 0), (1, .iconst 1), (2, .invokevirtual 299), (5, .aload_n 0), (6, .getfield 12), (9, .getfield 128), (12, .iload_n 1), (13, .iaload), (14, .ireturn)]
def op_X7_tellAsStone (fu : Nat) : Nat → Kont → XL → List Value → XW → Instr → Option XO := opK 2 (rzOf (some .int)) fl_BrookStones nl_BrookStones [] k2_BrookStones [(299, 2, 0, (U_X7_leave fu))] [] []
def M_X7_tellAsStone (fu : Nat) (a0 : Nat) (a1 : Int32) (w : XW) : Option XO :=
  cV (U_X7_leave fu [.ref a0, .int (1 : Int32)] w) fun w1 =>
  (gR w1 a0 6 0).bind fun r2 =>
  (gR w1 r2 0 5).bind fun r3 =>
  (aI w1 r3 a1).bind fun x4 =>
  some (some (.int x4), w1)
def U_X7_tellAsStone (fu : Nat) : Orc := fun as w => match as with
  | [.ref a0, .int a1] => if isO w a0 6 = true then M_X7_tellAsStone fu a0 a1 w else none
  | _ => none
def K_X7_tellAsStone (fu : Nat) (n : Nat) : Kont := fun pc ls st w => none
set_option maxRecDepth 100000 in
set_option maxHeartbeats 4000000 in
theorem E_X7_tellAsStone (fu : Nat) (a0 : Nat) (a1 : Int32) (w : XW) : M_X7_tellAsStone fu a0 a1 w = ev T_X7_tellAsStone (op_X7_tellAsStone fu) [] (K_X7_tellAsStone fu fu) 11 0 (lv_args 0 [.ref a0, .int a1]) [] w := by
  rfl
theorem D_X7_tellAsStone (fu : Nat) : DS T_X7_tellAsStone (op_X7_tellAsStone fu) [] 11 (K_X7_tellAsStone fu) := by
  refine ⟨fun pc ls st w => rfl, fun n pc ls st w o h => ?_⟩
  cases h
theorem H_X7_tellAsStone (fu : Nat) : ∀ as w o, U_X7_tellAsStone fu as w = some o → ∃ a r, as = .ref a :: r ∧ r.length = 1 ∧ isO w a 6 = true := by
  intro as w o h
  unfold U_X7_tellAsStone at h
  split at h
  next =>
    split at h
    next hh => exact ⟨_, _, rfl, rfl, hh⟩
    next => cases h
  next => cases h
set_option maxRecDepth 100000 in
set_option maxHeartbeats 4000000 in
theorem S_X7_tellAsStone (fu : Nat) {l : Launch} {D : va_G} {cA : Nat → ClassId} {base b : Nat} : CS l D cA base b 2 y_X7_tellAsStone prog_1_method_41_code 2 (some .int) (U_X7_tellAsStone fu) ∧ OM (U_X7_tellAsStone fu) := by
  refine CS_of (d := 1) (y := y_X7_tellAsStone) (cc := prog_1_method_41_code) (nL := 2) (ret := (some .int)) (F := U_X7_tellAsStone fu) (fl := fl_BrookStones) (nl := nl_BrookStones) (kl := []) (k2 := k2_BrookStones) (mv := [(299, 2, 0, (U_X7_leave fu))]) (ms := []) (mi := []) (ini := false) hI_w hZ_w fl_BrookStones_ok nl_BrookStones_ok nil_all k2_BrookStones_ok
    (cons_all (⟨⟨show (0 : Nat) ≠ 3 by decide, y_X7_leave, prog_1_method_44_code, 2, (none), 1, "BrookStones", 6, TX7, 8, 1, (S_X7_leave fu (l := l) (D := D) (cA := cA) (base := base) (b := b)).1, by decide, by decide, rfl, H_X7_leave fu, rfl, mi_X7_leave.1, mi_X7_leave.2.1, mi_X7_leave.2.2.1, mi_X7_leave.2.2.2.1, mi_X7_leave.2.2.2.2, Or.inl (tblG_of (i := 703) rfl rfl)⟩, (S_X7_leave fu (l := l) (D := D) (cA := cA) (base := base) (b := b)).2⟩) (nil_all))
    (nil_all)
    (nil_all)
    (T := T_X7_tellAsStone) (by decide +kernel) (cut := []) (N := 11) (D_X7_tellAsStone fu) (by decide +kernel) (fun h => absurd h (by decide)) (fun as w o h => ?_)
  unfold U_X7_tellAsStone at h
  split at h
  next =>
    split at h
    next => exact ⟨Nat.le_of_ble_eq_true rfl, fu, (E_X7_tellAsStone fu _ _ w).symm.trans h⟩
    next => cases h
  next => cases h
def T_X7_tellAsFlat : List (Nat × Instr) := [(0, .aload_n 0), (1, .iconst 2), (2, .invokevirtual 299), (5, .aload_n 0), (6, .iload_n 1), (7, .invokevirtual 296), (10, .bipush 100), (12, .iadd), (13, .ireturn)]
def op_X7_tellAsFlat (fu : Nat) : Nat → Kont → XL → List Value → XW → Instr → Option XO := opK 2 (rzOf (some .int)) fl_BrookStones nl_BrookStones [] k2_BrookStones [(299, 2, 0, (U_X7_leave fu)), (296, 2, 1, (U_X7_tellAsStone fu))] [] []
def M_X7_tellAsFlat (fu : Nat) (a0 : Nat) (a1 : Int32) (w : XW) : Option XO :=
  cV (U_X7_leave fu [.ref a0, .int (2 : Int32)] w) fun w1 =>
  cI (U_X7_tellAsStone fu [.ref a0, .int a1] w1) fun x3 w2 =>
  some (some (.int (x3 + (100 : Int32))), w2)
def U_X7_tellAsFlat (fu : Nat) : Orc := fun as w => match as with
  | [.ref a0, .int a1] => if isO w a0 6 = true then M_X7_tellAsFlat fu a0 a1 w else none
  | _ => none
def K_X7_tellAsFlat (fu : Nat) (n : Nat) : Kont := fun pc ls st w => none
set_option maxRecDepth 100000 in
set_option maxHeartbeats 4000000 in
theorem E_X7_tellAsFlat (fu : Nat) (a0 : Nat) (a1 : Int32) (w : XW) : M_X7_tellAsFlat fu a0 a1 w = ev T_X7_tellAsFlat (op_X7_tellAsFlat fu) [] (K_X7_tellAsFlat fu fu) 11 0 (lv_args 0 [.ref a0, .int a1]) [] w := by
  rfl
theorem D_X7_tellAsFlat (fu : Nat) : DS T_X7_tellAsFlat (op_X7_tellAsFlat fu) [] 11 (K_X7_tellAsFlat fu) := by
  refine ⟨fun pc ls st w => rfl, fun n pc ls st w o h => ?_⟩
  cases h
theorem H_X7_tellAsFlat (fu : Nat) : ∀ as w o, U_X7_tellAsFlat fu as w = some o → ∃ a r, as = .ref a :: r ∧ r.length = 1 ∧ isO w a 6 = true := by
  intro as w o h
  unfold U_X7_tellAsFlat at h
  split at h
  next =>
    split at h
    next hh => exact ⟨_, _, rfl, rfl, hh⟩
    next => cases h
  next => cases h
set_option maxRecDepth 100000 in
set_option maxHeartbeats 4000000 in
theorem S_X7_tellAsFlat (fu : Nat) {l : Launch} {D : va_G} {cA : Nat → ClassId} {base b : Nat} : CS l D cA base b 3 y_X7_tellAsFlat prog_1_method_42_code 2 (some .int) (U_X7_tellAsFlat fu) ∧ OM (U_X7_tellAsFlat fu) := by
  refine CS_of (d := 2) (y := y_X7_tellAsFlat) (cc := prog_1_method_42_code) (nL := 2) (ret := (some .int)) (F := U_X7_tellAsFlat fu) (fl := fl_BrookStones) (nl := nl_BrookStones) (kl := []) (k2 := k2_BrookStones) (mv := [(299, 2, 0, (U_X7_leave fu)), (296, 2, 1, (U_X7_tellAsStone fu))]) (ms := []) (mi := []) (ini := false) hI_w hZ_w fl_BrookStones_ok nl_BrookStones_ok nil_all k2_BrookStones_ok
    (cons_all (⟨⟨show (0 : Nat) ≠ 3 by decide, y_X7_leave, prog_1_method_44_code, 2, (none), 1, "BrookStones", 6, TX7, 8, 1, (S_X7_leave fu (l := l) (D := D) (cA := cA) (base := base) (b := b)).1, by decide, by decide, rfl, H_X7_leave fu, rfl, mi_X7_leave.1, mi_X7_leave.2.1, mi_X7_leave.2.2.1, mi_X7_leave.2.2.2.1, mi_X7_leave.2.2.2.2, Or.inl (tblG_of (i := 703) rfl rfl)⟩, (S_X7_leave fu (l := l) (D := D) (cA := cA) (base := base) (b := b)).2⟩) (cons_all (⟨⟨show (1 : Nat) ≠ 3 by decide, y_X7_tellAsStone, prog_1_method_41_code, 2, (some .int), 2, "BrookStones", 6, TX7, 8, 1, (S_X7_tellAsStone fu (l := l) (D := D) (cA := cA) (base := base) (b := b)).1, by decide, by decide, rfl, H_X7_tellAsStone fu, rfl, mi_X7_tellAsStone.1, mi_X7_tellAsStone.2.1, mi_X7_tellAsStone.2.2.1, mi_X7_tellAsStone.2.2.2.1, mi_X7_tellAsStone.2.2.2.2, Or.inl (tblG_of (i := 711) rfl rfl)⟩, (S_X7_tellAsStone fu (l := l) (D := D) (cA := cA) (base := base) (b := b)).2⟩) (nil_all)))
    (nil_all)
    (nil_all)
    (T := T_X7_tellAsFlat) (by decide +kernel) (cut := []) (N := 11) (D_X7_tellAsFlat fu) (by decide +kernel) (fun h => absurd h (by decide)) (fun as w o h => ?_)
  unfold U_X7_tellAsFlat at h
  split at h
  next =>
    split at h
    next => exact ⟨Nat.le_of_ble_eq_true rfl, fu, (E_X7_tellAsFlat fu _ _ w).symm.trans h⟩
    next => cases h
  next => cases h
def T_X7_tellAsTable : List (Nat × Instr) := [(0, .aload_n 0), (1, .iconst 3), (2, .invokevirtual 299), (5, .aload_n 0), (6, .iload_n 1), (7, .invokevirtual 293), (10, .istore_n 2), (11, .iload_n 2), (12, .aload_n 0), (13, .iload_n 1), (14, .invokevirtual 296), (17, .iadd), (18, .ireturn)]
def op_X7_tellAsTable (fu : Nat) : Nat → Kont → XL → List Value → XW → Instr → Option XO := opK 3 (rzOf (some .int)) fl_BrookStones nl_BrookStones [] k2_BrookStones [(299, 2, 0, (U_X7_leave fu)), (293, 2, 1, (U_X7_tellAsFlat fu)), (296, 2, 1, (U_X7_tellAsStone fu))] [] []
def M_X7_tellAsTable (fu : Nat) (a0 : Nat) (a1 : Int32) (w : XW) : Option XO :=
  cV (U_X7_leave fu [.ref a0, .int (3 : Int32)] w) fun w1 =>
  cI (U_X7_tellAsFlat fu [.ref a0, .int a1] w1) fun x3 w2 =>
  cI (U_X7_tellAsStone fu [.ref a0, .int a1] w2) fun x5 w4 =>
  some (some (.int (x3 + x5)), w4)
def U_X7_tellAsTable (fu : Nat) : Orc := fun as w => match as with
  | [.ref a0, .int a1] => if isO w a0 6 = true then M_X7_tellAsTable fu a0 a1 w else none
  | _ => none
def K_X7_tellAsTable (fu : Nat) (n : Nat) : Kont := fun pc ls st w => none
set_option maxRecDepth 100000 in
set_option maxHeartbeats 4000000 in
theorem E_X7_tellAsTable (fu : Nat) (a0 : Nat) (a1 : Int32) (w : XW) : M_X7_tellAsTable fu a0 a1 w = ev T_X7_tellAsTable (op_X7_tellAsTable fu) [] (K_X7_tellAsTable fu fu) 15 0 (lv_args 0 [.ref a0, .int a1]) [] w := by
  rfl
theorem D_X7_tellAsTable (fu : Nat) : DS T_X7_tellAsTable (op_X7_tellAsTable fu) [] 15 (K_X7_tellAsTable fu) := by
  refine ⟨fun pc ls st w => rfl, fun n pc ls st w o h => ?_⟩
  cases h
theorem H_X7_tellAsTable (fu : Nat) : ∀ as w o, U_X7_tellAsTable fu as w = some o → ∃ a r, as = .ref a :: r ∧ r.length = 1 ∧ isO w a 6 = true := by
  intro as w o h
  unfold U_X7_tellAsTable at h
  split at h
  next =>
    split at h
    next hh => exact ⟨_, _, rfl, rfl, hh⟩
    next => cases h
  next => cases h
set_option maxRecDepth 100000 in
set_option maxHeartbeats 4000000 in
theorem S_X7_tellAsTable (fu : Nat) {l : Launch} {D : va_G} {cA : Nat → ClassId} {base b : Nat} : CS l D cA base b 4 y_X7_tellAsTable prog_1_method_43_code 3 (some .int) (U_X7_tellAsTable fu) ∧ OM (U_X7_tellAsTable fu) := by
  refine CS_of (d := 3) (y := y_X7_tellAsTable) (cc := prog_1_method_43_code) (nL := 3) (ret := (some .int)) (F := U_X7_tellAsTable fu) (fl := fl_BrookStones) (nl := nl_BrookStones) (kl := []) (k2 := k2_BrookStones) (mv := [(299, 2, 0, (U_X7_leave fu)), (293, 2, 1, (U_X7_tellAsFlat fu)), (296, 2, 1, (U_X7_tellAsStone fu))]) (ms := []) (mi := []) (ini := false) hI_w hZ_w fl_BrookStones_ok nl_BrookStones_ok nil_all k2_BrookStones_ok
    (cons_all (⟨⟨show (0 : Nat) ≠ 3 by decide, y_X7_leave, prog_1_method_44_code, 2, (none), 1, "BrookStones", 6, TX7, 8, 1, (S_X7_leave fu (l := l) (D := D) (cA := cA) (base := base) (b := b)).1, by decide, by decide, rfl, H_X7_leave fu, rfl, mi_X7_leave.1, mi_X7_leave.2.1, mi_X7_leave.2.2.1, mi_X7_leave.2.2.2.1, mi_X7_leave.2.2.2.2, Or.inl (tblG_of (i := 703) rfl rfl)⟩, (S_X7_leave fu (l := l) (D := D) (cA := cA) (base := base) (b := b)).2⟩) (cons_all (⟨⟨show (1 : Nat) ≠ 3 by decide, y_X7_tellAsFlat, prog_1_method_42_code, 2, (some .int), 3, "BrookStones", 6, TX7, 8, 1, (S_X7_tellAsFlat fu (l := l) (D := D) (cA := cA) (base := base) (b := b)).1, by decide, by decide, rfl, H_X7_tellAsFlat fu, rfl, mi_X7_tellAsFlat.1, mi_X7_tellAsFlat.2.1, mi_X7_tellAsFlat.2.2.1, mi_X7_tellAsFlat.2.2.2.1, mi_X7_tellAsFlat.2.2.2.2, Or.inl (tblG_of (i := 707) rfl rfl)⟩, (S_X7_tellAsFlat fu (l := l) (D := D) (cA := cA) (base := base) (b := b)).2⟩) (cons_all (⟨⟨show (1 : Nat) ≠ 3 by decide, y_X7_tellAsStone, prog_1_method_41_code, 2, (some .int), 2, "BrookStones", 6, TX7, 8, 1, (S_X7_tellAsStone fu (l := l) (D := D) (cA := cA) (base := base) (b := b)).1, by decide, by decide, rfl, H_X7_tellAsStone fu, rfl, mi_X7_tellAsStone.1, mi_X7_tellAsStone.2.1, mi_X7_tellAsStone.2.2.1, mi_X7_tellAsStone.2.2.2.1, mi_X7_tellAsStone.2.2.2.2, Or.inl (tblG_of (i := 711) rfl rfl)⟩, (S_X7_tellAsStone fu (l := l) (D := D) (cA := cA) (base := base) (b := b)).2⟩) (nil_all))))
    (nil_all)
    (nil_all)
    (T := T_X7_tellAsTable) (by decide +kernel) (cut := []) (N := 15) (D_X7_tellAsTable fu) (by decide +kernel) (fun h => absurd h (by decide)) (fun as w o h => ?_)
  unfold U_X7_tellAsTable at h
  split at h
  next =>
    split at h
    next => exact ⟨Nat.le_of_ble_eq_true rfl, fu, (E_X7_tellAsTable fu _ _ w).symm.trans h⟩
    next => cases h
  next => cases h
def T_X7_tell : List (Nat × Instr) := [(0, .aload_n 0), (1, .getfield 12), (4, .iload_n 1), (5, .invokevirtual 119), (8, .ifCond .ne 5), (11, .iconst (-1)), (12, .ireturn), (13, .aload_n 0), (14, .getfield 12), (17, .getfield 122), (20, .iload_n 1), (21, .iaload), (22, .lookupswitch 38 #[(1, 32), (2, 26)]), (48, .aload_n 0), (49, .iload_n 1), (50, .invokevirtual 290), (53, .ireturn), (54, .aload_n 0), (55, .iload_n 1), (56, .invokevirtual 293), (59, .ireturn), (60, .aload_n 0), (61, .iload_n 1), (62, .invokevirtual 296), (65, .ireturn)]
def op_X7_tell (fu : Nat) : Nat → Kont → XL → List Value → XW → Instr → Option XO := opK 2 (rzOf (some .int)) fl_BrookStones nl_BrookStones [] k2_BrookStones [(119, 2, 1, (U_X0_isStone fu)), (290, 2, 1, (U_X7_tellAsTable fu)), (293, 2, 1, (U_X7_tellAsFlat fu)), (296, 2, 1, (U_X7_tellAsStone fu))] [] []
def M_X7_tell (fu : Nat) (a0 : Nat) (a1 : Int32) (w : XW) : Option XO :=
  (gR w a0 6 0).bind fun r1 =>
  cI (U_X0_isStone fu [.ref r1, .int a1] w) fun x3 w2 =>
  (if x3 = 0 then
    some (some (.int (-1 : Int32)), w2)
  else
    (gR w2 a0 6 0).bind fun r4 =>
    (gR w2 r4 0 3).bind fun r5 =>
    (aI w2 r5 a1).bind fun x6 =>
    (if x6 = (1 : Int32) then
      cI (U_X7_tellAsFlat fu [.ref a0, .int a1] w2) fun x8 w7 =>
      some (some (.int x8), w7)
    else
    (if x6 = (2 : Int32) then
      cI (U_X7_tellAsTable fu [.ref a0, .int a1] w2) fun x10 w9 =>
      some (some (.int x10), w9)
    else
    cI (U_X7_tellAsStone fu [.ref a0, .int a1] w2) fun x12 w11 =>
    some (some (.int x12), w11))))
def U_X7_tell (fu : Nat) : Orc := fun as w => match as with
  | [.ref a0, .int a1] => if isO w a0 6 = true then M_X7_tell fu a0 a1 w else none
  | _ => none
def K_X7_tell (fu : Nat) (n : Nat) : Kont := fun pc ls st w => none
set_option maxRecDepth 100000 in
set_option maxHeartbeats 4000000 in
theorem E_X7_tell (fu : Nat) (a0 : Nat) (a1 : Int32) (w : XW) : M_X7_tell fu a0 a1 w = ev T_X7_tell (op_X7_tell fu) [] (K_X7_tell fu fu) 27 0 (lv_args 0 [.ref a0, .int a1]) [] w := by
  rfl
theorem D_X7_tell (fu : Nat) : DS T_X7_tell (op_X7_tell fu) [] 27 (K_X7_tell fu) := by
  refine ⟨fun pc ls st w => rfl, fun n pc ls st w o h => ?_⟩
  cases h
theorem H_X7_tell (fu : Nat) : ∀ as w o, U_X7_tell fu as w = some o → ∃ a r, as = .ref a :: r ∧ r.length = 1 ∧ isO w a 6 = true := by
  intro as w o h
  unfold U_X7_tell at h
  split at h
  next =>
    split at h
    next hh => exact ⟨_, _, rfl, rfl, hh⟩
    next => cases h
  next => cases h
set_option maxRecDepth 100000 in
set_option maxHeartbeats 4000000 in
theorem S_X7_tell (fu : Nat) {l : Launch} {D : va_G} {cA : Nat → ClassId} {base b : Nat} : CS l D cA base b 5 y_X7_tell prog_1_method_33_code 2 (some .int) (U_X7_tell fu) ∧ OM (U_X7_tell fu) := by
  refine CS_of (d := 4) (y := y_X7_tell) (cc := prog_1_method_33_code) (nL := 2) (ret := (some .int)) (F := U_X7_tell fu) (fl := fl_BrookStones) (nl := nl_BrookStones) (kl := []) (k2 := k2_BrookStones) (mv := [(119, 2, 1, (U_X0_isStone fu)), (290, 2, 1, (U_X7_tellAsTable fu)), (293, 2, 1, (U_X7_tellAsFlat fu)), (296, 2, 1, (U_X7_tellAsStone fu))]) (ms := []) (mi := []) (ini := false) hI_w hZ_w fl_BrookStones_ok nl_BrookStones_ok nil_all k2_BrookStones_ok
    (cons_all (⟨⟨show (1 : Nat) ≠ 3 by decide, y_X0_isStone, prog_2_method_5_code, 2, (some .boolean), 1, "BrookStones", 0, TX0, 15, 1, (S_X0_isStone fu (l := l) (D := D) (cA := cA) (base := base) (b := b)).1, by decide, by decide, rfl, H_X0_isStone fu, rfl, mi_X0_isStone.1, mi_X0_isStone.2.1, mi_X0_isStone.2.2.1, mi_X0_isStone.2.2.2.1, mi_X0_isStone.2.2.2.2, Or.inr (tblN_of (i := 350) rfl rfl)⟩, (S_X0_isStone fu (l := l) (D := D) (cA := cA) (base := base) (b := b)).2⟩) (cons_all (⟨⟨show (1 : Nat) ≠ 3 by decide, y_X7_tellAsTable, prog_1_method_43_code, 3, (some .int), 4, "BrookStones", 6, TX7, 8, 1, (S_X7_tellAsTable fu (l := l) (D := D) (cA := cA) (base := base) (b := b)).1, by decide, by decide, rfl, H_X7_tellAsTable fu, rfl, mi_X7_tellAsTable.1, mi_X7_tellAsTable.2.1, mi_X7_tellAsTable.2.2.1, mi_X7_tellAsTable.2.2.2.1, mi_X7_tellAsTable.2.2.2.2, Or.inl (tblG_of (i := 699) rfl rfl)⟩, (S_X7_tellAsTable fu (l := l) (D := D) (cA := cA) (base := base) (b := b)).2⟩) (cons_all (⟨⟨show (1 : Nat) ≠ 3 by decide, y_X7_tellAsFlat, prog_1_method_42_code, 2, (some .int), 3, "BrookStones", 6, TX7, 8, 1, (S_X7_tellAsFlat fu (l := l) (D := D) (cA := cA) (base := base) (b := b)).1, by decide, by decide, rfl, H_X7_tellAsFlat fu, rfl, mi_X7_tellAsFlat.1, mi_X7_tellAsFlat.2.1, mi_X7_tellAsFlat.2.2.1, mi_X7_tellAsFlat.2.2.2.1, mi_X7_tellAsFlat.2.2.2.2, Or.inl (tblG_of (i := 707) rfl rfl)⟩, (S_X7_tellAsFlat fu (l := l) (D := D) (cA := cA) (base := base) (b := b)).2⟩) (cons_all (⟨⟨show (1 : Nat) ≠ 3 by decide, y_X7_tellAsStone, prog_1_method_41_code, 2, (some .int), 2, "BrookStones", 6, TX7, 8, 1, (S_X7_tellAsStone fu (l := l) (D := D) (cA := cA) (base := base) (b := b)).1, by decide, by decide, rfl, H_X7_tellAsStone fu, rfl, mi_X7_tellAsStone.1, mi_X7_tellAsStone.2.1, mi_X7_tellAsStone.2.2.1, mi_X7_tellAsStone.2.2.2.1, mi_X7_tellAsStone.2.2.2.2, Or.inl (tblG_of (i := 711) rfl rfl)⟩, (S_X7_tellAsStone fu (l := l) (D := D) (cA := cA) (base := base) (b := b)).2⟩) (nil_all)))))
    (nil_all)
    (nil_all)
    (T := T_X7_tell) (by decide +kernel) (cut := []) (N := 27) (D_X7_tell fu) (by decide +kernel) (fun h => absurd h (by decide)) (fun as w o h => ?_)
  unfold U_X7_tell at h
  split at h
  next =>
    split at h
    next => exact ⟨Nat.le_of_ble_eq_true rfl, fu, (E_X7_tell fu _ _ w).symm.trans h⟩
    next => cases h
  next => cases h
def T_X8_begins : List (Nat × Instr) := [(0, .aload_n 0), (1, .bipush 31), (3, .aload_n 0), (4, .getfield 250), (7, .imul), (8, .iload_n 1), (9, .iadd), (10, .putfield 250), (13, .return_)]
def op_X8_begins (fu : Nat) : Nat → Kont → XL → List Value → XW → Instr → Option XO := opK 2 (rzOf (none)) fl_BrookStonesModel [] kl_BrookStonesModel k2_BrookStonesModel [] [] []
def M_X8_begins (fu : Nat) (a0 : Nat) (a1 : Int32) (w : XW) : Option XO :=
  (gI w a0 7 1).bind fun x1 =>
  (pF w a0 7 1 (.int (((31 : Int32) * x1) + a1))).bind fun w2 =>
  some (none, w2)
def U_X8_begins (fu : Nat) : Orc := fun as w => match as with
  | [.ref a0, .int a1] => if isO w a0 7 = true then M_X8_begins fu a0 a1 w else none
  | _ => none
def K_X8_begins (fu : Nat) (n : Nat) : Kont := fun pc ls st w => none
set_option maxRecDepth 100000 in
set_option maxHeartbeats 4000000 in
theorem E_X8_begins (fu : Nat) (a0 : Nat) (a1 : Int32) (w : XW) : M_X8_begins fu a0 a1 w = ev T_X8_begins (op_X8_begins fu) [] (K_X8_begins fu fu) 11 0 (lv_args 0 [.ref a0, .int a1]) [] w := by
  rfl
theorem D_X8_begins (fu : Nat) : DS T_X8_begins (op_X8_begins fu) [] 11 (K_X8_begins fu) := by
  refine ⟨fun pc ls st w => rfl, fun n pc ls st w o h => ?_⟩
  cases h
theorem H_X8_begins (fu : Nat) : ∀ as w o, U_X8_begins fu as w = some o → ∃ a r, as = .ref a :: r ∧ r.length = 1 ∧ isO w a 7 = true := by
  intro as w o h
  unfold U_X8_begins at h
  split at h
  next =>
    split at h
    next hh => exact ⟨_, _, rfl, rfl, hh⟩
    next => cases h
  next => cases h
set_option maxRecDepth 100000 in
set_option maxHeartbeats 4000000 in
theorem S_X8_begins (fu : Nat) {l : Launch} {D : va_G} {cA : Nat → ClassId} {base b : Nat} : CS l D cA base b 1 y_X8_begins prog_10_method_71_code 2 (none) (U_X8_begins fu) ∧ OM (U_X8_begins fu) := by
  refine CS_of (d := 0) (y := y_X8_begins) (cc := prog_10_method_71_code) (nL := 2) (ret := (none)) (F := U_X8_begins fu) (fl := fl_BrookStonesModel) (nl := []) (kl := kl_BrookStonesModel) (k2 := k2_BrookStonesModel) (mv := []) (ms := []) (mi := []) (ini := false) hI_w hZ_w fl_BrookStonesModel_ok nil_all kl_BrookStonesModel_ok k2_BrookStonesModel_ok
    (nil_all)
    (nil_all)
    (nil_all)
    (T := T_X8_begins) (by decide +kernel) (cut := []) (N := 11) (D_X8_begins fu) (by decide +kernel) (fun h => absurd h (by decide)) (fun as w o h => ?_)
  unfold U_X8_begins at h
  split at h
  next =>
    split at h
    next => exact ⟨Nat.le_of_ble_eq_true rfl, fu, (E_X8_begins fu _ _ w).symm.trans h⟩
    next => cases h
  next => cases h
def T_X8_tell : List (Nat × Instr) := [(0, .aload_n 0), (1, .iload_n 1), (2, .invokevirtual 149), (5, .ifCond .ne 5), (8, .iconst (-1)), (9, .ireturn), (10, .aload_n 0), (11, .getfield 44), (14, .iload_n 1), (15, .iaload), (16, .istore_n 2), (17, .aload_n 0), (18, .getfield 38), (21, .iload_n 1), (22, .iaload), (23, .lookupswitch 67 #[(1, 25), (2, 40)]), (48, .aload_n 0), (49, .iconst 2), (50, .invokevirtual 253), (53, .aload_n 0), (54, .iconst 1), (55, .invokevirtual 253), (58, .iload_n 2), (59, .bipush 100), (61, .iadd), (62, .ireturn), (63, .aload_n 0), (64, .iconst 3), (65, .invokevirtual 253), (68, .aload_n 0), (69, .iconst 2), (70, .invokevirtual 253), (73, .aload_n 0), (74, .iconst 1), (75, .invokevirtual 253), (78, .aload_n 0), (79, .iconst 1), (80, .invokevirtual 253), (83, .iconst 2), (84, .iload_n 2), (85, .imul), (86, .bipush 100), (88, .iadd), (89, .ireturn), (90, .aload_n 0), (91, .iconst 1), (92, .invokevirtual 253), (95, .iload_n 2), (96, .ireturn)]
def op_X8_tell (fu : Nat) : Nat → Kont → XL → List Value → XW → Instr → Option XO := opK 3 (rzOf (some .int)) fl_BrookStonesModel [] kl_BrookStonesModel k2_BrookStonesModel [(149, 2, 1, (U_X8_isStone fu)), (253, 2, 0, (U_X8_begins fu))] [] []
def M_X8_tell (fu : Nat) (a0 : Nat) (a1 : Int32) (w : XW) : Option XO :=
  cI (U_X8_isStone fu [.ref a0, .int a1] w) fun x2 w1 =>
  (if x2 = 0 then
    some (some (.int (-1 : Int32)), w1)
  else
    (gR w1 a0 7 20).bind fun r3 =>
    (aI w1 r3 a1).bind fun x4 =>
    (gR w1 a0 7 18).bind fun r5 =>
    (aI w1 r5 a1).bind fun x6 =>
    (if x6 = (1 : Int32) then
      cV (U_X8_begins fu [.ref a0, .int (2 : Int32)] w1) fun w7 =>
      cV (U_X8_begins fu [.ref a0, .int (1 : Int32)] w7) fun w8 =>
      some (some (.int (x4 + (100 : Int32))), w8)
    else
    (if x6 = (2 : Int32) then
      cV (U_X8_begins fu [.ref a0, .int (3 : Int32)] w1) fun w9 =>
      cV (U_X8_begins fu [.ref a0, .int (2 : Int32)] w9) fun w10 =>
      cV (U_X8_begins fu [.ref a0, .int (1 : Int32)] w10) fun w11 =>
      cV (U_X8_begins fu [.ref a0, .int (1 : Int32)] w11) fun w12 =>
      some (some (.int (((2 : Int32) * x4) + (100 : Int32))), w12)
    else
    cV (U_X8_begins fu [.ref a0, .int (1 : Int32)] w1) fun w13 =>
    some (some (.int x4), w13))))
def U_X8_tell (fu : Nat) : Orc := fun as w => match as with
  | [.ref a0, .int a1] => if isO w a0 7 = true then M_X8_tell fu a0 a1 w else none
  | _ => none
def K_X8_tell (fu : Nat) (n : Nat) : Kont := fun pc ls st w => none
set_option maxRecDepth 100000 in
set_option maxHeartbeats 4000000 in
theorem E_X8_tell (fu : Nat) (a0 : Nat) (a1 : Int32) (w : XW) : M_X8_tell fu a0 a1 w = ev T_X8_tell (op_X8_tell fu) [] (K_X8_tell fu fu) 51 0 (lv_args 0 [.ref a0, .int a1]) [] w := by
  rfl
theorem D_X8_tell (fu : Nat) : DS T_X8_tell (op_X8_tell fu) [] 51 (K_X8_tell fu) := by
  refine ⟨fun pc ls st w => rfl, fun n pc ls st w o h => ?_⟩
  cases h
theorem H_X8_tell (fu : Nat) : ∀ as w o, U_X8_tell fu as w = some o → ∃ a r, as = .ref a :: r ∧ r.length = 1 ∧ isO w a 7 = true := by
  intro as w o h
  unfold U_X8_tell at h
  split at h
  next =>
    split at h
    next hh => exact ⟨_, _, rfl, rfl, hh⟩
    next => cases h
  next => cases h
set_option maxRecDepth 100000 in
set_option maxHeartbeats 4000000 in
theorem S_X8_tell (fu : Nat) {l : Launch} {D : va_G} {cA : Nat → ClassId} {base b : Nat} : CS l D cA base b 2 y_X8_tell prog_10_method_72_code 3 (some .int) (U_X8_tell fu) ∧ OM (U_X8_tell fu) := by
  refine CS_of (d := 1) (y := y_X8_tell) (cc := prog_10_method_72_code) (nL := 3) (ret := (some .int)) (F := U_X8_tell fu) (fl := fl_BrookStonesModel) (nl := []) (kl := kl_BrookStonesModel) (k2 := k2_BrookStonesModel) (mv := [(149, 2, 1, (U_X8_isStone fu)), (253, 2, 0, (U_X8_begins fu))]) (ms := []) (mi := []) (ini := false) hI_w hZ_w fl_BrookStonesModel_ok nil_all kl_BrookStonesModel_ok k2_BrookStonesModel_ok
    (cons_all (⟨⟨show (1 : Nat) ≠ 3 by decide, y_X8_isStone, prog_10_method_19_code, 2, (some .boolean), 1, "BrookStones", 7, TX8, 37, 1, (S_X8_isStone fu (l := l) (D := D) (cA := cA) (base := base) (b := b)).1, by decide, by decide, rfl, H_X8_isStone fu, rfl, mi_X8_isStone.1, mi_X8_isStone.2.1, mi_X8_isStone.2.2.1, mi_X8_isStone.2.2.2.1, mi_X8_isStone.2.2.2.2, Or.inl (tblG_of (i := 915) rfl rfl)⟩, (S_X8_isStone fu (l := l) (D := D) (cA := cA) (base := base) (b := b)).2⟩) (cons_all (⟨⟨show (0 : Nat) ≠ 3 by decide, y_X8_begins, prog_10_method_71_code, 2, (none), 1, "BrookStones", 7, TX8, 37, 1, (S_X8_begins fu (l := l) (D := D) (cA := cA) (base := base) (b := b)).1, by decide, by decide, rfl, H_X8_begins fu, rfl, mi_X8_begins.1, mi_X8_begins.2.1, mi_X8_begins.2.2.1, mi_X8_begins.2.2.2.1, mi_X8_begins.2.2.2.2, Or.inl (tblG_of (i := 1125) rfl rfl)⟩, (S_X8_begins fu (l := l) (D := D) (cA := cA) (base := base) (b := b)).2⟩) (nil_all)))
    (nil_all)
    (nil_all)
    (T := T_X8_tell) (by decide +kernel) (cut := []) (N := 51) (D_X8_tell fu) (by decide +kernel) (fun h => absurd h (by decide)) (fun as w o h => ?_)
  unfold U_X8_tell at h
  split at h
  next =>
    split at h
    next => exact ⟨Nat.le_of_ble_eq_true rfl, fu, (E_X8_tell fu _ _ w).symm.trans h⟩
    next => cases h
  next => cases h
def T_X7_tread : List (Nat × Instr) := [(0, .aload_n 0), (1, .getfield 12), (4, .iload_n 1), (5, .invokevirtual 119), (8, .ifCond .ne 5), (11, .iconst (-1)), (12, .ireturn), (13, .aload_n 0), (14, .getfield 12), (17, .getfield 122), (20, .iload_n 1), (21, .iaload), (22, .iconst 2), (23, .if_icmp .ne 11), (26, .aload_n 0), (27, .iconst 5), (28, .invokevirtual 299), (31, .bipush 30), (33, .ireturn), (34, .aload_n 0), (35, .iconst 4), (36, .invokevirtual 299), (39, .iload_n 1), (40, .ireturn)]
def op_X7_tread (fu : Nat) : Nat → Kont → XL → List Value → XW → Instr → Option XO := opK 2 (rzOf (some .int)) fl_BrookStones nl_BrookStones [] k2_BrookStones [(119, 2, 1, (U_X0_isStone fu)), (299, 2, 0, (U_X7_leave fu))] [] []
def M_X7_tread (fu : Nat) (a0 : Nat) (a1 : Int32) (w : XW) : Option XO :=
  (gR w a0 6 0).bind fun r1 =>
  cI (U_X0_isStone fu [.ref r1, .int a1] w) fun x3 w2 =>
  (if x3 = 0 then
    some (some (.int (-1 : Int32)), w2)
  else
    (gR w2 a0 6 0).bind fun r4 =>
    (gR w2 r4 0 3).bind fun r5 =>
    (aI w2 r5 a1).bind fun x6 =>
    (if x6 = (2 : Int32) then
      cV (U_X7_leave fu [.ref a0, .int (5 : Int32)] w2) fun w8 =>
      some (some (.int (30 : Int32)), w8)
    else
      cV (U_X7_leave fu [.ref a0, .int (4 : Int32)] w2) fun w7 =>
      some (some (.int a1), w7)))
def U_X7_tread (fu : Nat) : Orc := fun as w => match as with
  | [.ref a0, .int a1] => if isO w a0 6 = true then M_X7_tread fu a0 a1 w else none
  | _ => none
def K_X7_tread (fu : Nat) (n : Nat) : Kont := fun pc ls st w => none
set_option maxRecDepth 100000 in
set_option maxHeartbeats 4000000 in
theorem E_X7_tread (fu : Nat) (a0 : Nat) (a1 : Int32) (w : XW) : M_X7_tread fu a0 a1 w = ev T_X7_tread (op_X7_tread fu) [] (K_X7_tread fu fu) 26 0 (lv_args 0 [.ref a0, .int a1]) [] w := by
  rfl
theorem D_X7_tread (fu : Nat) : DS T_X7_tread (op_X7_tread fu) [] 26 (K_X7_tread fu) := by
  refine ⟨fun pc ls st w => rfl, fun n pc ls st w o h => ?_⟩
  cases h
theorem H_X7_tread (fu : Nat) : ∀ as w o, U_X7_tread fu as w = some o → ∃ a r, as = .ref a :: r ∧ r.length = 1 ∧ isO w a 6 = true := by
  intro as w o h
  unfold U_X7_tread at h
  split at h
  next =>
    split at h
    next hh => exact ⟨_, _, rfl, rfl, hh⟩
    next => cases h
  next => cases h
set_option maxRecDepth 100000 in
set_option maxHeartbeats 4000000 in
theorem S_X7_tread (fu : Nat) {l : Launch} {D : va_G} {cA : Nat → ClassId} {base b : Nat} : CS l D cA base b 2 y_X7_tread prog_1_method_34_code 2 (some .int) (U_X7_tread fu) ∧ OM (U_X7_tread fu) := by
  refine CS_of (d := 1) (y := y_X7_tread) (cc := prog_1_method_34_code) (nL := 2) (ret := (some .int)) (F := U_X7_tread fu) (fl := fl_BrookStones) (nl := nl_BrookStones) (kl := []) (k2 := k2_BrookStones) (mv := [(119, 2, 1, (U_X0_isStone fu)), (299, 2, 0, (U_X7_leave fu))]) (ms := []) (mi := []) (ini := false) hI_w hZ_w fl_BrookStones_ok nl_BrookStones_ok nil_all k2_BrookStones_ok
    (cons_all (⟨⟨show (1 : Nat) ≠ 3 by decide, y_X0_isStone, prog_2_method_5_code, 2, (some .boolean), 1, "BrookStones", 0, TX0, 15, 1, (S_X0_isStone fu (l := l) (D := D) (cA := cA) (base := base) (b := b)).1, by decide, by decide, rfl, H_X0_isStone fu, rfl, mi_X0_isStone.1, mi_X0_isStone.2.1, mi_X0_isStone.2.2.1, mi_X0_isStone.2.2.2.1, mi_X0_isStone.2.2.2.2, Or.inr (tblN_of (i := 350) rfl rfl)⟩, (S_X0_isStone fu (l := l) (D := D) (cA := cA) (base := base) (b := b)).2⟩) (cons_all (⟨⟨show (0 : Nat) ≠ 3 by decide, y_X7_leave, prog_1_method_44_code, 2, (none), 1, "BrookStones", 6, TX7, 8, 1, (S_X7_leave fu (l := l) (D := D) (cA := cA) (base := base) (b := b)).1, by decide, by decide, rfl, H_X7_leave fu, rfl, mi_X7_leave.1, mi_X7_leave.2.1, mi_X7_leave.2.2.1, mi_X7_leave.2.2.2.1, mi_X7_leave.2.2.2.2, Or.inl (tblG_of (i := 703) rfl rfl)⟩, (S_X7_leave fu (l := l) (D := D) (cA := cA) (base := base) (b := b)).2⟩) (nil_all)))
    (nil_all)
    (nil_all)
    (T := T_X7_tread) (by decide +kernel) (cut := []) (N := 26) (D_X7_tread fu) (by decide +kernel) (fun h => absurd h (by decide)) (fun as w o h => ?_)
  unfold U_X7_tread at h
  split at h
  next =>
    split at h
    next => exact ⟨Nat.le_of_ble_eq_true rfl, fu, (E_X7_tread fu _ _ w).symm.trans h⟩
    next => cases h
  next => cases h
def T_X8_tread : List (Nat × Instr) := [(0, .aload_n 0), (1, .iload_n 1), (2, .invokevirtual 149), (5, .ifCond .ne 5), (8, .iconst (-1)), (9, .ireturn), (10, .aload_n 0), (11, .aload_n 0), (12, .getfield 38), (15, .iload_n 1), (16, .iaload), (17, .iconst 2), (18, .if_icmp .ne 7), (21, .iconst 5), (22, .goto 4), (25, .iconst 4), (26, .invokevirtual 253), (29, .aload_n 0), (30, .getfield 38), (33, .iload_n 1), (34, .iaload), (35, .iconst 2), (36, .if_icmp .ne 8), (39, .bipush 30), (41, .goto 4), (44, .iload_n 1), (45, .ireturn)]
def op_X8_tread (fu : Nat) : Nat → Kont → XL → List Value → XW → Instr → Option XO := opK 2 (rzOf (some .int)) fl_BrookStonesModel [] kl_BrookStonesModel k2_BrookStonesModel [(149, 2, 1, (U_X8_isStone fu)), (253, 2, 0, (U_X8_begins fu))] [] []
def M_X8_tread (fu : Nat) (a0 : Nat) (a1 : Int32) (w : XW) : Option XO :=
  cI (U_X8_isStone fu [.ref a0, .int a1] w) fun x2 w1 =>
  (if x2 = 0 then
    some (some (.int (-1 : Int32)), w1)
  else
    (gR w1 a0 7 18).bind fun r3 =>
    (aI w1 r3 a1).bind fun x4 =>
    (if x4 = (2 : Int32) then
      cV (U_X8_begins fu [.ref a0, .int (5 : Int32)] w1) fun w8 =>
      (gR w8 a0 7 18).bind fun r9 =>
      (aI w8 r9 a1).bind fun x10 =>
      (if x10 = (2 : Int32) then
        some (some (.int (30 : Int32)), w8)
      else
        some (some (.int a1), w8))
    else
      cV (U_X8_begins fu [.ref a0, .int (4 : Int32)] w1) fun w5 =>
      (gR w5 a0 7 18).bind fun r6 =>
      (aI w5 r6 a1).bind fun x7 =>
      (if x7 = (2 : Int32) then
        some (some (.int (30 : Int32)), w5)
      else
        some (some (.int a1), w5))))
def U_X8_tread (fu : Nat) : Orc := fun as w => match as with
  | [.ref a0, .int a1] => if isO w a0 7 = true then M_X8_tread fu a0 a1 w else none
  | _ => none
def K_X8_tread (fu : Nat) (n : Nat) : Kont := fun pc ls st w => none
set_option maxRecDepth 100000 in
set_option maxHeartbeats 4000000 in
theorem E_X8_tread (fu : Nat) (a0 : Nat) (a1 : Int32) (w : XW) : M_X8_tread fu a0 a1 w = ev T_X8_tread (op_X8_tread fu) [] (K_X8_tread fu fu) 29 0 (lv_args 0 [.ref a0, .int a1]) [] w := by
  rfl
theorem D_X8_tread (fu : Nat) : DS T_X8_tread (op_X8_tread fu) [] 29 (K_X8_tread fu) := by
  refine ⟨fun pc ls st w => rfl, fun n pc ls st w o h => ?_⟩
  cases h
theorem H_X8_tread (fu : Nat) : ∀ as w o, U_X8_tread fu as w = some o → ∃ a r, as = .ref a :: r ∧ r.length = 1 ∧ isO w a 7 = true := by
  intro as w o h
  unfold U_X8_tread at h
  split at h
  next =>
    split at h
    next hh => exact ⟨_, _, rfl, rfl, hh⟩
    next => cases h
  next => cases h
set_option maxRecDepth 100000 in
set_option maxHeartbeats 4000000 in
theorem S_X8_tread (fu : Nat) {l : Launch} {D : va_G} {cA : Nat → ClassId} {base b : Nat} : CS l D cA base b 2 y_X8_tread prog_10_method_73_code 2 (some .int) (U_X8_tread fu) ∧ OM (U_X8_tread fu) := by
  refine CS_of (d := 1) (y := y_X8_tread) (cc := prog_10_method_73_code) (nL := 2) (ret := (some .int)) (F := U_X8_tread fu) (fl := fl_BrookStonesModel) (nl := []) (kl := kl_BrookStonesModel) (k2 := k2_BrookStonesModel) (mv := [(149, 2, 1, (U_X8_isStone fu)), (253, 2, 0, (U_X8_begins fu))]) (ms := []) (mi := []) (ini := false) hI_w hZ_w fl_BrookStonesModel_ok nil_all kl_BrookStonesModel_ok k2_BrookStonesModel_ok
    (cons_all (⟨⟨show (1 : Nat) ≠ 3 by decide, y_X8_isStone, prog_10_method_19_code, 2, (some .boolean), 1, "BrookStones", 7, TX8, 37, 1, (S_X8_isStone fu (l := l) (D := D) (cA := cA) (base := base) (b := b)).1, by decide, by decide, rfl, H_X8_isStone fu, rfl, mi_X8_isStone.1, mi_X8_isStone.2.1, mi_X8_isStone.2.2.1, mi_X8_isStone.2.2.2.1, mi_X8_isStone.2.2.2.2, Or.inl (tblG_of (i := 915) rfl rfl)⟩, (S_X8_isStone fu (l := l) (D := D) (cA := cA) (base := base) (b := b)).2⟩) (cons_all (⟨⟨show (0 : Nat) ≠ 3 by decide, y_X8_begins, prog_10_method_71_code, 2, (none), 1, "BrookStones", 7, TX8, 37, 1, (S_X8_begins fu (l := l) (D := D) (cA := cA) (base := base) (b := b)).1, by decide, by decide, rfl, H_X8_begins fu, rfl, mi_X8_begins.1, mi_X8_begins.2.1, mi_X8_begins.2.2.1, mi_X8_begins.2.2.2.1, mi_X8_begins.2.2.2.2, Or.inl (tblG_of (i := 1125) rfl rfl)⟩, (S_X8_begins fu (l := l) (D := D) (cA := cA) (base := base) (b := b)).2⟩) (nil_all)))
    (nil_all)
    (nil_all)
    (T := T_X8_tread) (by decide +kernel) (cut := []) (N := 29) (D_X8_tread fu) (by decide +kernel) (fun h => absurd h (by decide)) (fun as w o h => ?_)
  unfold U_X8_tread at h
  split at h
  next =>
    split at h
    next => exact ⟨Nat.le_of_ble_eq_true rfl, fu, (E_X8_tread fu _ _ w).symm.trans h⟩
    next => cases h
  next => cases h
def T_X7_as : List (Nat × Instr) := [(0, .aload_n 0), (1, .iconst 0), (2, .putfield 53), (5, .aload_n 0), (6, .getfield 12), (9, .iload_n 1), (10, .invokevirtual 119), (13, .ifCond .ne 5), (16, .iconst (-1)), (17, .ireturn), (18, .iload_n 2), (19, .iconst 0), (20, .iconst 2), (21, .invokestatic 105), (24, .ifCond .ne 6), (27, .bipush (-2)), (29, .ireturn), (30, .aload_n 0), (31, .getfield 12), (34, .getfield 122), (37, .iload_n 1), (38, .iaload), (39, .iload_n 2), (40, .if_icmp .lt 7), (43, .iconst 1), (44, .goto 8), (47, .aload_n 0), (48, .iconst 2), (49, .invokevirtual 262), (52, .ireturn)]
def op_X7_as (fu : Nat) : Nat → Kont → XL → List Value → XW → Instr → Option XO := opK 3 (rzOf (some .int)) fl_BrookStones nl_BrookStones [] k2_BrookStones [(119, 2, 1, (U_X0_isStone fu)), (262, 2, 1, (U_X7_failBy fu))] [(105, 3, 1, (U_X7_isWithin fu))] []
def M_X7_as (fu : Nat) (a0 : Nat) (a1 : Int32) (a2 : Int32) (w : XW) : Option XO :=
  (pF w a0 6 7 (.int (0 : Int32))).bind fun w1 =>
  (gR w1 a0 6 0).bind fun r2 =>
  cI (U_X0_isStone fu [.ref r2, .int a1] w1) fun x4 w3 =>
  (if x4 = 0 then
    some (some (.int (-1 : Int32)), w3)
  else
    cI (U_X7_isWithin fu [.int a2, .int (0 : Int32), .int (2 : Int32)] w3) fun x6 w5 =>
    (if x6 = 0 then
      some (some (.int (-2 : Int32)), w5)
    else
      (gR w5 a0 6 0).bind fun r7 =>
      (gR w5 r7 0 3).bind fun r8 =>
      (aI w5 r8 a1).bind fun x9 =>
      (if x9 < a2 then
        cI (U_X7_failBy fu [.ref a0, .int (2 : Int32)] w5) fun x11 w10 =>
        some (some (.int x11), w10)
      else
        some (some (.int (1 : Int32)), w5))))
def U_X7_as (fu : Nat) : Orc := fun as w => match as with
  | [.ref a0, .int a1, .int a2] => if isO w a0 6 = true then M_X7_as fu a0 a1 a2 w else none
  | _ => none
def K_X7_as (fu : Nat) (n : Nat) : Kont := fun pc ls st w => none
set_option maxRecDepth 100000 in
set_option maxHeartbeats 4000000 in
theorem E_X7_as (fu : Nat) (a0 : Nat) (a1 : Int32) (a2 : Int32) (w : XW) : M_X7_as fu a0 a1 a2 w = ev T_X7_as (op_X7_as fu) [] (K_X7_as fu fu) 32 0 (lv_args 0 [.ref a0, .int a1, .int a2]) [] w := by
  rfl
theorem D_X7_as (fu : Nat) : DS T_X7_as (op_X7_as fu) [] 32 (K_X7_as fu) := by
  refine ⟨fun pc ls st w => rfl, fun n pc ls st w o h => ?_⟩
  cases h
theorem H_X7_as (fu : Nat) : ∀ as w o, U_X7_as fu as w = some o → ∃ a r, as = .ref a :: r ∧ r.length = 2 ∧ isO w a 6 = true := by
  intro as w o h
  unfold U_X7_as at h
  split at h
  next =>
    split at h
    next hh => exact ⟨_, _, rfl, rfl, hh⟩
    next => cases h
  next => cases h
set_option maxRecDepth 100000 in
set_option maxHeartbeats 4000000 in
theorem S_X7_as (fu : Nat) {l : Launch} {D : va_G} {cA : Nat → ClassId} {base b : Nat} : CS l D cA base b 2 y_X7_as prog_1_method_35_code 3 (some .int) (U_X7_as fu) ∧ OM (U_X7_as fu) := by
  refine CS_of (d := 1) (y := y_X7_as) (cc := prog_1_method_35_code) (nL := 3) (ret := (some .int)) (F := U_X7_as fu) (fl := fl_BrookStones) (nl := nl_BrookStones) (kl := []) (k2 := k2_BrookStones) (mv := [(119, 2, 1, (U_X0_isStone fu)), (262, 2, 1, (U_X7_failBy fu))]) (ms := [(105, 3, 1, (U_X7_isWithin fu))]) (mi := []) (ini := false) hI_w hZ_w fl_BrookStones_ok nl_BrookStones_ok nil_all k2_BrookStones_ok
    (cons_all (⟨⟨show (1 : Nat) ≠ 3 by decide, y_X0_isStone, prog_2_method_5_code, 2, (some .boolean), 1, "BrookStones", 0, TX0, 15, 1, (S_X0_isStone fu (l := l) (D := D) (cA := cA) (base := base) (b := b)).1, by decide, by decide, rfl, H_X0_isStone fu, rfl, mi_X0_isStone.1, mi_X0_isStone.2.1, mi_X0_isStone.2.2.1, mi_X0_isStone.2.2.2.1, mi_X0_isStone.2.2.2.2, Or.inr (tblN_of (i := 350) rfl rfl)⟩, (S_X0_isStone fu (l := l) (D := D) (cA := cA) (base := base) (b := b)).2⟩) (cons_all (⟨⟨show (1 : Nat) ≠ 3 by decide, y_X7_failBy, prog_1_method_40_code, 2, (some .int), 1, "BrookStones", 6, TX7, 8, 1, (S_X7_failBy fu (l := l) (D := D) (cA := cA) (base := base) (b := b)).1, by decide, by decide, rfl, H_X7_failBy fu, rfl, mi_X7_failBy.1, mi_X7_failBy.2.1, mi_X7_failBy.2.2.1, mi_X7_failBy.2.2.2.1, mi_X7_failBy.2.2.2.2, Or.inl (tblG_of (i := 273) rfl rfl)⟩, (S_X7_failBy fu (l := l) (D := D) (cA := cA) (base := base) (b := b)).2⟩) (nil_all)))
    (cons_all (⟨Or.inl ⟨show (1 : Nat) ≠ 3 by decide, y_X7_isWithin, prog_1_method_46_code, 3, (some .boolean), 1, "BrookStones", (S_X7_isWithin fu (l := l) (D := D) (cA := cA) (base := base) (b := b)).1, by decide, by decide, mi_X7_isWithin.1, mi_X7_isWithin.2.1, mi_X7_isWithin.2.2.1, mi_X7_isWithin.2.2.2, Or.inl (tblG_of (i := 333) rfl rfl)⟩, (S_X7_isWithin fu (l := l) (D := D) (cA := cA) (base := base) (b := b)).2⟩) (nil_all))
    (nil_all)
    (T := T_X7_as) (by decide +kernel) (cut := []) (N := 32) (D_X7_as fu) (by decide +kernel) (fun h => absurd h (by decide)) (fun as w o h => ?_)
  unfold U_X7_as at h
  split at h
  next =>
    split at h
    next => exact ⟨Nat.le_of_ble_eq_true rfl, fu, (E_X7_as fu _ _ _ w).symm.trans h⟩
    next => cases h
  next => cases h
def T_X8_as : List (Nat × Instr) := [(0, .aload_n 0), (1, .iconst 0), (2, .putfield 84), (5, .aload_n 0), (6, .iload_n 1), (7, .invokevirtual 149), (10, .ifCond .ne 5), (13, .iconst (-1)), (14, .ireturn), (15, .iload_n 2), (16, .iconst 0), (17, .iconst 2), (18, .invokestatic 89), (21, .ifCond .ne 6), (24, .bipush (-2)), (26, .ireturn), (27, .aload_n 0), (28, .getfield 38), (31, .iload_n 1), (32, .iaload), (33, .iload_n 2), (34, .if_icmp .lt 7), (37, .iconst 1), (38, .goto 8), (41, .aload_n 0), (42, .iconst 2), (43, .invokevirtual 110), (46, .ireturn)]
def op_X8_as (fu : Nat) : Nat → Kont → XL → List Value → XW → Instr → Option XO := opK 3 (rzOf (some .int)) fl_BrookStonesModel [] kl_BrookStonesModel k2_BrookStonesModel [(149, 2, 1, (U_X8_isStone fu)), (110, 2, 1, (U_X8_fails fu))] [(89, 3, 1, (U_X8_within fu))] []
def M_X8_as (fu : Nat) (a0 : Nat) (a1 : Int32) (a2 : Int32) (w : XW) : Option XO :=
  (pF w a0 7 0 (.int (0 : Int32))).bind fun w1 =>
  cI (U_X8_isStone fu [.ref a0, .int a1] w1) fun x3 w2 =>
  (if x3 = 0 then
    some (some (.int (-1 : Int32)), w2)
  else
    cI (U_X8_within fu [.int a2, .int (0 : Int32), .int (2 : Int32)] w2) fun x5 w4 =>
    (if x5 = 0 then
      some (some (.int (-2 : Int32)), w4)
    else
      (gR w4 a0 7 18).bind fun r6 =>
      (aI w4 r6 a1).bind fun x7 =>
      (if x7 < a2 then
        cI (U_X8_fails fu [.ref a0, .int (2 : Int32)] w4) fun x9 w8 =>
        some (some (.int x9), w8)
      else
        some (some (.int (1 : Int32)), w4))))
def U_X8_as (fu : Nat) : Orc := fun as w => match as with
  | [.ref a0, .int a1, .int a2] => if isO w a0 7 = true then M_X8_as fu a0 a1 a2 w else none
  | _ => none
def K_X8_as (fu : Nat) (n : Nat) : Kont := fun pc ls st w => none
set_option maxRecDepth 100000 in
set_option maxHeartbeats 4000000 in
theorem E_X8_as (fu : Nat) (a0 : Nat) (a1 : Int32) (a2 : Int32) (w : XW) : M_X8_as fu a0 a1 a2 w = ev T_X8_as (op_X8_as fu) [] (K_X8_as fu fu) 30 0 (lv_args 0 [.ref a0, .int a1, .int a2]) [] w := by
  rfl
theorem D_X8_as (fu : Nat) : DS T_X8_as (op_X8_as fu) [] 30 (K_X8_as fu) := by
  refine ⟨fun pc ls st w => rfl, fun n pc ls st w o h => ?_⟩
  cases h
theorem H_X8_as (fu : Nat) : ∀ as w o, U_X8_as fu as w = some o → ∃ a r, as = .ref a :: r ∧ r.length = 2 ∧ isO w a 7 = true := by
  intro as w o h
  unfold U_X8_as at h
  split at h
  next =>
    split at h
    next hh => exact ⟨_, _, rfl, rfl, hh⟩
    next => cases h
  next => cases h
set_option maxRecDepth 100000 in
set_option maxHeartbeats 4000000 in
theorem S_X8_as (fu : Nat) {l : Launch} {D : va_G} {cA : Nat → ClassId} {base b : Nat} : CS l D cA base b 2 y_X8_as prog_10_method_74_code 3 (some .int) (U_X8_as fu) ∧ OM (U_X8_as fu) := by
  refine CS_of (d := 1) (y := y_X8_as) (cc := prog_10_method_74_code) (nL := 3) (ret := (some .int)) (F := U_X8_as fu) (fl := fl_BrookStonesModel) (nl := []) (kl := kl_BrookStonesModel) (k2 := k2_BrookStonesModel) (mv := [(149, 2, 1, (U_X8_isStone fu)), (110, 2, 1, (U_X8_fails fu))]) (ms := [(89, 3, 1, (U_X8_within fu))]) (mi := []) (ini := false) hI_w hZ_w fl_BrookStonesModel_ok nil_all kl_BrookStonesModel_ok k2_BrookStonesModel_ok
    (cons_all (⟨⟨show (1 : Nat) ≠ 3 by decide, y_X8_isStone, prog_10_method_19_code, 2, (some .boolean), 1, "BrookStones", 7, TX8, 37, 1, (S_X8_isStone fu (l := l) (D := D) (cA := cA) (base := base) (b := b)).1, by decide, by decide, rfl, H_X8_isStone fu, rfl, mi_X8_isStone.1, mi_X8_isStone.2.1, mi_X8_isStone.2.2.1, mi_X8_isStone.2.2.2.1, mi_X8_isStone.2.2.2.2, Or.inl (tblG_of (i := 915) rfl rfl)⟩, (S_X8_isStone fu (l := l) (D := D) (cA := cA) (base := base) (b := b)).2⟩) (cons_all (⟨⟨show (1 : Nat) ≠ 3 by decide, y_X8_fails, prog_10_method_3_code, 2, (some .int), 1, "BrookStones", 7, TX8, 37, 1, (S_X8_fails fu (l := l) (D := D) (cA := cA) (base := base) (b := b)).1, by decide, by decide, rfl, H_X8_fails fu, rfl, mi_X8_fails.1, mi_X8_fails.2.1, mi_X8_fails.2.2.1, mi_X8_fails.2.2.2.1, mi_X8_fails.2.2.2.2, Or.inl (tblG_of (i := 871) rfl rfl)⟩, (S_X8_fails fu (l := l) (D := D) (cA := cA) (base := base) (b := b)).2⟩) (nil_all)))
    (cons_all (⟨Or.inl ⟨show (1 : Nat) ≠ 3 by decide, y_X8_within, prog_10_method_5_code, 3, (some .boolean), 1, "BrookStones", (S_X8_within fu (l := l) (D := D) (cA := cA) (base := base) (b := b)).1, by decide, by decide, mi_X8_within.1, mi_X8_within.2.1, mi_X8_within.2.2.1, mi_X8_within.2.2.2, Or.inl (tblG_of (i := 861) rfl rfl)⟩, (S_X8_within fu (l := l) (D := D) (cA := cA) (base := base) (b := b)).2⟩) (nil_all))
    (nil_all)
    (T := T_X8_as) (by decide +kernel) (cut := []) (N := 30) (D_X8_as fu) (by decide +kernel) (fun h => absurd h (by decide)) (fun as w o h => ?_)
  unfold U_X8_as at h
  split at h
  next =>
    split at h
    next => exact ⟨Nat.le_of_ble_eq_true rfl, fu, (E_X8_as fu _ _ _ w).symm.trans h⟩
    next => cases h
  next => cases h
def T_X7_trace : List (Nat × Instr) := [(0, .aload_n 0), (1, .getfield 302), (4, .ireturn)]
def op_X7_trace (fu : Nat) : Nat → Kont → XL → List Value → XW → Instr → Option XO := opK 1 (rzOf (some .int)) fl_BrookStones nl_BrookStones [] k2_BrookStones [] [] []
def M_X7_trace (fu : Nat) (a0 : Nat) (w : XW) : Option XO :=
  (gI w a0 6 6).bind fun x1 =>
  some (some (.int x1), w)
def U_X7_trace (fu : Nat) : Orc := fun as w => match as with
  | [.ref a0] => if isO w a0 6 = true then M_X7_trace fu a0 w else none
  | _ => none
def K_X7_trace (fu : Nat) (n : Nat) : Kont := fun pc ls st w => none
set_option maxRecDepth 100000 in
set_option maxHeartbeats 4000000 in
theorem E_X7_trace (fu : Nat) (a0 : Nat) (w : XW) : M_X7_trace fu a0 w = ev T_X7_trace (op_X7_trace fu) [] (K_X7_trace fu fu) 5 0 (lv_args 0 [.ref a0]) [] w := by
  rfl
theorem D_X7_trace (fu : Nat) : DS T_X7_trace (op_X7_trace fu) [] 5 (K_X7_trace fu) := by
  refine ⟨fun pc ls st w => rfl, fun n pc ls st w o h => ?_⟩
  cases h
theorem H_X7_trace (fu : Nat) : ∀ as w o, U_X7_trace fu as w = some o → ∃ a r, as = .ref a :: r ∧ r.length = 0 ∧ isO w a 6 = true := by
  intro as w o h
  unfold U_X7_trace at h
  split at h
  next =>
    split at h
    next hh => exact ⟨_, _, rfl, rfl, hh⟩
    next => cases h
  next => cases h
set_option maxRecDepth 100000 in
set_option maxHeartbeats 4000000 in
theorem S_X7_trace (fu : Nat) {l : Launch} {D : va_G} {cA : Nat → ClassId} {base b : Nat} : CS l D cA base b 1 y_X7_trace prog_1_method_36_code 1 (some .int) (U_X7_trace fu) ∧ OM (U_X7_trace fu) := by
  refine CS_of (d := 0) (y := y_X7_trace) (cc := prog_1_method_36_code) (nL := 1) (ret := (some .int)) (F := U_X7_trace fu) (fl := fl_BrookStones) (nl := nl_BrookStones) (kl := []) (k2 := k2_BrookStones) (mv := []) (ms := []) (mi := []) (ini := false) hI_w hZ_w fl_BrookStones_ok nl_BrookStones_ok nil_all k2_BrookStones_ok
    (nil_all)
    (nil_all)
    (nil_all)
    (T := T_X7_trace) (by decide +kernel) (cut := []) (N := 5) (D_X7_trace fu) (by decide +kernel) (fun h => absurd h (by decide)) (fun as w o h => ?_)
  unfold U_X7_trace at h
  split at h
  next =>
    split at h
    next => exact ⟨Nat.le_of_ble_eq_true rfl, fu, (E_X7_trace fu _ w).symm.trans h⟩
    next => cases h
  next => cases h
def T_X8_trace : List (Nat × Instr) := [(0, .aload_n 0), (1, .getfield 250), (4, .ireturn)]
def op_X8_trace (fu : Nat) : Nat → Kont → XL → List Value → XW → Instr → Option XO := opK 1 (rzOf (some .int)) fl_BrookStonesModel [] kl_BrookStonesModel k2_BrookStonesModel [] [] []
def M_X8_trace (fu : Nat) (a0 : Nat) (w : XW) : Option XO :=
  (gI w a0 7 1).bind fun x1 =>
  some (some (.int x1), w)
def U_X8_trace (fu : Nat) : Orc := fun as w => match as with
  | [.ref a0] => if isO w a0 7 = true then M_X8_trace fu a0 w else none
  | _ => none
def K_X8_trace (fu : Nat) (n : Nat) : Kont := fun pc ls st w => none
set_option maxRecDepth 100000 in
set_option maxHeartbeats 4000000 in
theorem E_X8_trace (fu : Nat) (a0 : Nat) (w : XW) : M_X8_trace fu a0 w = ev T_X8_trace (op_X8_trace fu) [] (K_X8_trace fu fu) 5 0 (lv_args 0 [.ref a0]) [] w := by
  rfl
theorem D_X8_trace (fu : Nat) : DS T_X8_trace (op_X8_trace fu) [] 5 (K_X8_trace fu) := by
  refine ⟨fun pc ls st w => rfl, fun n pc ls st w o h => ?_⟩
  cases h
theorem H_X8_trace (fu : Nat) : ∀ as w o, U_X8_trace fu as w = some o → ∃ a r, as = .ref a :: r ∧ r.length = 0 ∧ isO w a 7 = true := by
  intro as w o h
  unfold U_X8_trace at h
  split at h
  next =>
    split at h
    next hh => exact ⟨_, _, rfl, rfl, hh⟩
    next => cases h
  next => cases h
set_option maxRecDepth 100000 in
set_option maxHeartbeats 4000000 in
theorem S_X8_trace (fu : Nat) {l : Launch} {D : va_G} {cA : Nat → ClassId} {base b : Nat} : CS l D cA base b 1 y_X8_trace prog_10_method_75_code 1 (some .int) (U_X8_trace fu) ∧ OM (U_X8_trace fu) := by
  refine CS_of (d := 0) (y := y_X8_trace) (cc := prog_10_method_75_code) (nL := 1) (ret := (some .int)) (F := U_X8_trace fu) (fl := fl_BrookStonesModel) (nl := []) (kl := kl_BrookStonesModel) (k2 := k2_BrookStonesModel) (mv := []) (ms := []) (mi := []) (ini := false) hI_w hZ_w fl_BrookStonesModel_ok nil_all kl_BrookStonesModel_ok k2_BrookStonesModel_ok
    (nil_all)
    (nil_all)
    (nil_all)
    (T := T_X8_trace) (by decide +kernel) (cut := []) (N := 5) (D_X8_trace fu) (by decide +kernel) (fun h => absurd h (by decide)) (fun as w o h => ?_)
  unfold U_X8_trace at h
  split at h
  next =>
    split at h
    next => exact ⟨Nat.le_of_ble_eq_true rfl, fu, (E_X8_trace fu _ w).symm.trans h⟩
    next => cases h
  next => cases h
def T_X7_fault : List (Nat × Instr) := [(0, .aload_n 0), (1, .getfield 53), (4, .ireturn)]
def op_X7_fault (fu : Nat) : Nat → Kont → XL → List Value → XW → Instr → Option XO := opK 1 (rzOf (some .int)) fl_BrookStones nl_BrookStones [] k2_BrookStones [] [] []
def M_X7_fault (fu : Nat) (a0 : Nat) (w : XW) : Option XO :=
  (gI w a0 6 7).bind fun x1 =>
  some (some (.int x1), w)
def U_X7_fault (fu : Nat) : Orc := fun as w => match as with
  | [.ref a0] => if isO w a0 6 = true then M_X7_fault fu a0 w else none
  | _ => none
def K_X7_fault (fu : Nat) (n : Nat) : Kont := fun pc ls st w => none
set_option maxRecDepth 100000 in
set_option maxHeartbeats 4000000 in
theorem E_X7_fault (fu : Nat) (a0 : Nat) (w : XW) : M_X7_fault fu a0 w = ev T_X7_fault (op_X7_fault fu) [] (K_X7_fault fu fu) 5 0 (lv_args 0 [.ref a0]) [] w := by
  rfl
theorem D_X7_fault (fu : Nat) : DS T_X7_fault (op_X7_fault fu) [] 5 (K_X7_fault fu) := by
  refine ⟨fun pc ls st w => rfl, fun n pc ls st w o h => ?_⟩
  cases h
theorem H_X7_fault (fu : Nat) : ∀ as w o, U_X7_fault fu as w = some o → ∃ a r, as = .ref a :: r ∧ r.length = 0 ∧ isO w a 6 = true := by
  intro as w o h
  unfold U_X7_fault at h
  split at h
  next =>
    split at h
    next hh => exact ⟨_, _, rfl, rfl, hh⟩
    next => cases h
  next => cases h
set_option maxRecDepth 100000 in
set_option maxHeartbeats 4000000 in
theorem S_X7_fault (fu : Nat) {l : Launch} {D : va_G} {cA : Nat → ClassId} {base b : Nat} : CS l D cA base b 1 y_X7_fault prog_1_method_37_code 1 (some .int) (U_X7_fault fu) ∧ OM (U_X7_fault fu) := by
  refine CS_of (d := 0) (y := y_X7_fault) (cc := prog_1_method_37_code) (nL := 1) (ret := (some .int)) (F := U_X7_fault fu) (fl := fl_BrookStones) (nl := nl_BrookStones) (kl := []) (k2 := k2_BrookStones) (mv := []) (ms := []) (mi := []) (ini := false) hI_w hZ_w fl_BrookStones_ok nl_BrookStones_ok nil_all k2_BrookStones_ok
    (nil_all)
    (nil_all)
    (nil_all)
    (T := T_X7_fault) (by decide +kernel) (cut := []) (N := 5) (D_X7_fault fu) (by decide +kernel) (fun h => absurd h (by decide)) (fun as w o h => ?_)
  unfold U_X7_fault at h
  split at h
  next =>
    split at h
    next => exact ⟨Nat.le_of_ble_eq_true rfl, fu, (E_X7_fault fu _ w).symm.trans h⟩
    next => cases h
  next => cases h
def T_X8_fault : List (Nat × Instr) := [(0, .aload_n 0), (1, .getfield 84), (4, .ireturn)]
def op_X8_fault (fu : Nat) : Nat → Kont → XL → List Value → XW → Instr → Option XO := opK 1 (rzOf (some .int)) fl_BrookStonesModel [] kl_BrookStonesModel k2_BrookStonesModel [] [] []
def M_X8_fault (fu : Nat) (a0 : Nat) (w : XW) : Option XO :=
  (gI w a0 7 0).bind fun x1 =>
  some (some (.int x1), w)
def U_X8_fault (fu : Nat) : Orc := fun as w => match as with
  | [.ref a0] => if isO w a0 7 = true then M_X8_fault fu a0 w else none
  | _ => none
def K_X8_fault (fu : Nat) (n : Nat) : Kont := fun pc ls st w => none
set_option maxRecDepth 100000 in
set_option maxHeartbeats 4000000 in
theorem E_X8_fault (fu : Nat) (a0 : Nat) (w : XW) : M_X8_fault fu a0 w = ev T_X8_fault (op_X8_fault fu) [] (K_X8_fault fu fu) 5 0 (lv_args 0 [.ref a0]) [] w := by
  rfl
theorem D_X8_fault (fu : Nat) : DS T_X8_fault (op_X8_fault fu) [] 5 (K_X8_fault fu) := by
  refine ⟨fun pc ls st w => rfl, fun n pc ls st w o h => ?_⟩
  cases h
theorem H_X8_fault (fu : Nat) : ∀ as w o, U_X8_fault fu as w = some o → ∃ a r, as = .ref a :: r ∧ r.length = 0 ∧ isO w a 7 = true := by
  intro as w o h
  unfold U_X8_fault at h
  split at h
  next =>
    split at h
    next hh => exact ⟨_, _, rfl, rfl, hh⟩
    next => cases h
  next => cases h
set_option maxRecDepth 100000 in
set_option maxHeartbeats 4000000 in
theorem S_X8_fault (fu : Nat) {l : Launch} {D : va_G} {cA : Nat → ClassId} {base b : Nat} : CS l D cA base b 1 y_X8_fault prog_10_method_76_code 1 (some .int) (U_X8_fault fu) ∧ OM (U_X8_fault fu) := by
  refine CS_of (d := 0) (y := y_X8_fault) (cc := prog_10_method_76_code) (nL := 1) (ret := (some .int)) (F := U_X8_fault fu) (fl := fl_BrookStonesModel) (nl := []) (kl := kl_BrookStonesModel) (k2 := k2_BrookStonesModel) (mv := []) (ms := []) (mi := []) (ini := false) hI_w hZ_w fl_BrookStonesModel_ok nil_all kl_BrookStonesModel_ok k2_BrookStonesModel_ok
    (nil_all)
    (nil_all)
    (nil_all)
    (T := T_X8_fault) (by decide +kernel) (cut := []) (N := 5) (D_X8_fault fu) (by decide +kernel) (fun h => absurd h (by decide)) (fun as w o h => ?_)
  unfold U_X8_fault at h
  split at h
  next =>
    split at h
    next => exact ⟨Nat.le_of_ble_eq_true rfl, fu, (E_X8_fault fu _ w).symm.trans h⟩
    next => cases h
  next => cases h
def T_X7_many : List (Nat × Instr) := [(0, .iload_n 1), (1, .tableswitch 108 0 6 #[43, 51, 59, 67, 78, 89, 100]), (44, .aload_n 0), (45, .getfield 12), (48, .getfield 74), (51, .ireturn), (52, .aload_n 0), (53, .getfield 12), (56, .getfield 113), (59, .ireturn), (60, .aload_n 0), (61, .getfield 12), (64, .getfield 152), (67, .ireturn), (68, .aload_n 0), (69, .getfield 12), (72, .invokevirtual 164), (75, .invokestatic 219), (78, .ireturn), (79, .aload_n 0), (80, .getfield 12), (83, .getfield 138), (86, .invokestatic 219), (89, .ireturn), (90, .aload_n 0), (91, .getfield 12), (94, .getfield 91), (97, .invokestatic 219), (100, .ireturn), (101, .aload_n 0), (102, .getfield 12), (105, .getfield 98), (108, .ireturn), (109, .bipush (-2)), (111, .ireturn)]
def op_X7_many (fu : Nat) : Nat → Kont → XL → List Value → XW → Instr → Option XO := opK 2 (rzOf (some .int)) fl_BrookStones nl_BrookStones [] k2_BrookStones [(164, 1, 1, (U_X0_filled fu))] [(219, 1, 1, (U_J6_bitCount_0f7a4 fu))] []
def M_X7_many (fu : Nat) (a0 : Nat) (a1 : Int32) (w : XW) : Option XO :=
  (if a1 = (0 : Int32) then
    (gR w a0 6 0).bind fun r1 =>
    (gI w r1 0 8).bind fun x2 =>
    some (some (.int x2), w)
  else
  (if a1 = (1 : Int32) then
    (gR w a0 6 0).bind fun r3 =>
    (gI w r3 0 12).bind fun x4 =>
    some (some (.int x4), w)
  else
  (if a1 = (2 : Int32) then
    (gR w a0 6 0).bind fun r5 =>
    (gI w r5 0 14).bind fun x6 =>
    some (some (.int x6), w)
  else
  (if a1 = (3 : Int32) then
    (gR w a0 6 0).bind fun r7 =>
    cI (U_X0_filled fu [.ref r7] w) fun x9 w8 =>
    cI (U_J6_bitCount_0f7a4 fu [.int x9] w8) fun x11 w10 =>
    some (some (.int x11), w10)
  else
  (if a1 = (4 : Int32) then
    (gR w a0 6 0).bind fun r12 =>
    (gI w r12 0 13).bind fun x13 =>
    cI (U_J6_bitCount_0f7a4 fu [.int x13] w) fun x15 w14 =>
    some (some (.int x15), w14)
  else
  (if a1 = (5 : Int32) then
    (gR w a0 6 0).bind fun r16 =>
    (gI w r16 0 10).bind fun x17 =>
    cI (U_J6_bitCount_0f7a4 fu [.int x17] w) fun x19 w18 =>
    some (some (.int x19), w18)
  else
  (if a1 = (6 : Int32) then
    (gR w a0 6 0).bind fun r20 =>
    (gI w r20 0 11).bind fun x21 =>
    some (some (.int x21), w)
  else
  some (some (.int (-2 : Int32)), w))))))))
def U_X7_many (fu : Nat) : Orc := fun as w => match as with
  | [.ref a0, .int a1] => if isO w a0 6 = true then M_X7_many fu a0 a1 w else none
  | _ => none
def K_X7_many (fu : Nat) (n : Nat) : Kont := fun pc ls st w => none
set_option maxRecDepth 100000 in
set_option maxHeartbeats 4000000 in
theorem E_X7_many (fu : Nat) (a0 : Nat) (a1 : Int32) (w : XW) : M_X7_many fu a0 a1 w = ev T_X7_many (op_X7_many fu) [] (K_X7_many fu fu) 37 0 (lv_args 0 [.ref a0, .int a1]) [] w := by
  rfl
theorem D_X7_many (fu : Nat) : DS T_X7_many (op_X7_many fu) [] 37 (K_X7_many fu) := by
  refine ⟨fun pc ls st w => rfl, fun n pc ls st w o h => ?_⟩
  cases h
theorem H_X7_many (fu : Nat) : ∀ as w o, U_X7_many fu as w = some o → ∃ a r, as = .ref a :: r ∧ r.length = 1 ∧ isO w a 6 = true := by
  intro as w o h
  unfold U_X7_many at h
  split at h
  next =>
    split at h
    next hh => exact ⟨_, _, rfl, rfl, hh⟩
    next => cases h
  next => cases h
set_option maxRecDepth 100000 in
set_option maxHeartbeats 4000000 in
theorem S_X7_many (fu : Nat) {l : Launch} {D : va_G} {cA : Nat → ClassId} {base b : Nat} : CS l D cA base b 3 y_X7_many prog_1_method_38_code 2 (some .int) (U_X7_many fu) ∧ OM (U_X7_many fu) := by
  refine CS_of (d := 2) (y := y_X7_many) (cc := prog_1_method_38_code) (nL := 2) (ret := (some .int)) (F := U_X7_many fu) (fl := fl_BrookStones) (nl := nl_BrookStones) (kl := []) (k2 := k2_BrookStones) (mv := [(164, 1, 1, (U_X0_filled fu))]) (ms := [(219, 1, 1, (U_J6_bitCount_0f7a4 fu))]) (mi := []) (ini := false) hI_w hZ_w fl_BrookStones_ok nl_BrookStones_ok nil_all k2_BrookStones_ok
    (cons_all (⟨⟨show (1 : Nat) ≠ 3 by decide, y_X0_filled, prog_2_method_17_code, 1, (some .int), 2, "BrookStones", 0, TX0, 15, 0, (S_X0_filled fu (l := l) (D := D) (cA := cA) (base := base) (b := b)).1, by decide, by decide, rfl, H_X0_filled fu, rfl, mi_X0_filled.1, mi_X0_filled.2.1, mi_X0_filled.2.2.1, mi_X0_filled.2.2.2.1, mi_X0_filled.2.2.2.2, Or.inr (tblN_of (i := 399) rfl rfl)⟩, (S_X0_filled fu (l := l) (D := D) (cA := cA) (base := base) (b := b)).2⟩) (nil_all))
    (cons_all (⟨Or.inl ⟨show (1 : Nat) ≠ 3 by decide, y_J6_bitCount_0f7a4, prog_11_method_49_code, 1, (some .int), 1, "BrookStones", (S_J6_bitCount_0f7a4 fu (l := l) (D := D) (cA := cA) (base := base) (b := b)).1, by decide, by decide, mi_J6_bitCount_0f7a4.1, mi_J6_bitCount_0f7a4.2.1, mi_J6_bitCount_0f7a4.2.2.1, mi_J6_bitCount_0f7a4.2.2.2, Or.inl (tblG_of (i := 507) rfl rfl)⟩, (S_J6_bitCount_0f7a4 fu (l := l) (D := D) (cA := cA) (base := base) (b := b)).2⟩) (nil_all))
    (nil_all)
    (T := T_X7_many) (by decide +kernel) (cut := []) (N := 37) (D_X7_many fu) (by decide +kernel) (fun h => absurd h (by decide)) (fun as w o h => ?_)
  unfold U_X7_many at h
  split at h
  next =>
    split at h
    next => exact ⟨Nat.le_of_ble_eq_true rfl, fu, (E_X7_many fu _ _ w).symm.trans h⟩
    next => cases h
  next => cases h
def T_X8_stonesIn : List (Nat × Instr) := [(0, .iconst 0), (1, .istore_n 2), (2, .iconst 0), (3, .istore_n 3), (4, .iload_n 3), (5, .aload_n 0), (6, .getfield 129), (9, .if_icmp .ge 49), (12, .iload_n 2), (13, .iload_n 1), (14, .ifCond .eq 22), (17, .aload_n 0), (18, .getfield 50), (21, .iload_n 3), (22, .iaload), (23, .bipush (-5)), (25, .if_icmp .ne 7), (28, .iconst 1), (29, .goto 21), (32, .iconst 0), (33, .goto 17), (36, .aload_n 0), (37, .getfield 50), (40, .iload_n 3), (41, .iaload), (42, .ifCond .lt 7), (45, .iconst 1), (46, .goto 4), (49, .iconst 0), (50, .iadd), (51, .istore_n 2), (52, .iinc 3 1), (55, .goto (-51)), (58, .iload_n 2), (59, .ireturn)]
def op_X8_stonesIn (fu : Nat) : Nat → Kont → XL → List Value → XW → Instr → Option XO := opK 4 (rzOf (some .int)) fl_BrookStonesModel [] kl_BrookStonesModel k2_BrookStonesModel [] [] []
def F_X8_stonesIn (fu : Nat) : Nat → (Nat → Int32 → Int32 → Int32 → XW → Option XO)
  | 0 => fun _ _ _ _ _ => none
  | n + 1 => (fun a0 a1 a2 a3 w =>
    (gI w a0 7 17).bind fun x1 =>
    (if a3 < x1 then
      (if a1 = 0 then
        (gR w a0 7 22).bind fun r2 =>
        (aI w r2 a3).bind fun x3 =>
        (if x3 < 0 then
          (F_X8_stonesIn fu n) a0 a1 (a2 + (0 : Int32)) (a3 + (1 : Int32)) w
        else
          (F_X8_stonesIn fu n) a0 a1 (a2 + (1 : Int32)) (a3 + (1 : Int32)) w)
      else
        (gR w a0 7 22).bind fun r4 =>
        (aI w r4 a3).bind fun x5 =>
        (if x5 = (-5 : Int32) then
          (F_X8_stonesIn fu n) a0 a1 (a2 + (1 : Int32)) (a3 + (1 : Int32)) w
        else
          (F_X8_stonesIn fu n) a0 a1 (a2 + (0 : Int32)) (a3 + (1 : Int32)) w))
    else
      some (some (.int a2), w)))
def M_X8_stonesIn (fu : Nat) (a0 : Nat) (a1 : Int32) (w : XW) : Option XO :=
  (F_X8_stonesIn fu fu) a0 a1 (0 : Int32) (0 : Int32) w
def U_X8_stonesIn (fu : Nat) : Orc := fun as w => match as with
  | [.ref a0, .int a1] => if isO w a0 7 = true then M_X8_stonesIn fu a0 a1 w else none
  | _ => none
def K_X8_stonesIn (fu : Nat) (n : Nat) : Kont := fun pc ls st w => bif pc == 4 then ((xr ls 0).bind fun a0 => (xi ls 1).bind fun a1 => (xi ls 2).bind fun a2 => (xi ls 3).bind fun a3 => skN st ((F_X8_stonesIn fu n) a0 a1 a2 a3 w)) else none
set_option maxRecDepth 100000 in
set_option maxHeartbeats 4000000 in
theorem E_X8_stonesIn_4 (fu : Nat) (n : Nat) (a0 : Nat) (a1 : Int32) (a2 : Int32) (a3 : Int32) (w : XW) : (F_X8_stonesIn fu (n + 1)) a0 a1 a2 a3 w = ev T_X8_stonesIn (op_X8_stonesIn fu) [4] (K_X8_stonesIn fu n) 37 4 [(0, .ref a0), (1, .int a1), (2, .int a2), (3, .int a3)] [] w := by
  rfl
set_option maxRecDepth 100000 in
set_option maxHeartbeats 4000000 in
theorem E_X8_stonesIn (fu : Nat) (a0 : Nat) (a1 : Int32) (w : XW) : M_X8_stonesIn fu a0 a1 w = ev T_X8_stonesIn (op_X8_stonesIn fu) [4] (K_X8_stonesIn fu fu) 37 0 (lv_args 0 [.ref a0, .int a1]) [] w := by
  rfl
theorem D_X8_stonesIn (fu : Nat) : DS T_X8_stonesIn (op_X8_stonesIn fu) [4] 37 (K_X8_stonesIn fu) := by
  refine ⟨fun pc ls st w => c_none (b_none fun _ => b_none fun _ => b_none fun _ => b_none fun _ => skN_none rfl) (rfl), fun n pc ls st w o h => ?_⟩
  rcases c_some h with ⟨rfl, h⟩ | h
  · obtain ⟨a0, h0, h⟩ := some_of h; obtain ⟨a1, h1, h⟩ := some_of h; obtain ⟨a2, h2, h⟩ := some_of h; obtain ⟨a3, h3, h⟩ := some_of h;
    obtain ⟨e, g⟩ := skN_of h
    subst e
    exact ⟨[(0, .ref a0), (1, .int a1), (2, .int a2), (3, .int a3)], cons_all (xr_of h0) (cons_all (xi_of h1) (cons_all (xi_of h2) (cons_all (xi_of h3) (nil_all)))), (E_X8_stonesIn_4 fu n a0 a1 a2 a3 w).symm.trans g⟩
  · cases h
theorem H_X8_stonesIn (fu : Nat) : ∀ as w o, U_X8_stonesIn fu as w = some o → ∃ a r, as = .ref a :: r ∧ r.length = 1 ∧ isO w a 7 = true := by
  intro as w o h
  unfold U_X8_stonesIn at h
  split at h
  next =>
    split at h
    next hh => exact ⟨_, _, rfl, rfl, hh⟩
    next => cases h
  next => cases h
set_option maxRecDepth 100000 in
set_option maxHeartbeats 4000000 in
theorem S_X8_stonesIn (fu : Nat) {l : Launch} {D : va_G} {cA : Nat → ClassId} {base b : Nat} : CS l D cA base b 1 y_X8_stonesIn prog_10_method_77_code 4 (some .int) (U_X8_stonesIn fu) ∧ OM (U_X8_stonesIn fu) := by
  refine CS_of (d := 0) (y := y_X8_stonesIn) (cc := prog_10_method_77_code) (nL := 4) (ret := (some .int)) (F := U_X8_stonesIn fu) (fl := fl_BrookStonesModel) (nl := []) (kl := kl_BrookStonesModel) (k2 := k2_BrookStonesModel) (mv := []) (ms := []) (mi := []) (ini := false) hI_w hZ_w fl_BrookStonesModel_ok nil_all kl_BrookStonesModel_ok k2_BrookStonesModel_ok
    (nil_all)
    (nil_all)
    (nil_all)
    (T := T_X8_stonesIn) (by decide +kernel) (cut := [4]) (N := 37) (D_X8_stonesIn fu) (by decide +kernel) (fun h => absurd h (by decide)) (fun as w o h => ?_)
  unfold U_X8_stonesIn at h
  split at h
  next =>
    split at h
    next => exact ⟨Nat.le_of_ble_eq_true rfl, fu, (E_X8_stonesIn fu _ _ w).symm.trans h⟩
    next => cases h
  next => cases h
