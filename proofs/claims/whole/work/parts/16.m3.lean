def T_X7_highest : List (Nat × Instr) := [(0, .aload_n 0), (1, .getfield 12), (4, .iload_n 1), (5, .invokevirtual 158), (8, .ifCond .ne 5), (11, .iconst (-1)), (12, .ireturn), (13, .bipush 9), (15, .istore_n 3), (16, .iload_n 3), (17, .ifCond .lt 38), (20, .aload_n 0), (21, .getfield 12), (24, .aload_n 0), (25, .getfield 12), (28, .invokevirtual 164), (31, .iload_n 3), (32, .aload_n 0), (33, .getfield 12), (36, .iload_n 1), (37, .iload_n 2), (38, .invokevirtual 168), (41, .invokevirtual 172), (44, .ifCond .eq 5), (47, .iload_n 3), (48, .ireturn), (49, .iinc 3 (-1)), (52, .goto (-36)), (55, .bipush (-9)), (57, .ireturn)]
def op_X7_highest (fu : Nat) : Nat → Kont → XL → List Value → XW → Instr → Option XO := opK 4 (rzOf (some .int)) fl_BrookStones nl_BrookStones [] k2_BrookStones [(158, 2, 1, (U_X0_isWalker fu)), (164, 1, 1, (U_X0_filled fu)), (168, 3, 1, (U_X0_reachOf fu)), (172, 4, 1, (U_X0_isCrossed fu))] [] []
def F_X7_highest (fu : Nat) : Nat → (Nat → Int32 → Int32 → Int32 → XW → Option XO)
  | 0 => fun _ _ _ _ _ => none
  | n + 1 => (fun a0 a1 a2 a3 w =>
    (if a3 < 0 then
      some (some (.int (-9 : Int32)), w)
    else
      (gR w a0 6 0).bind fun r1 =>
      (gR w a0 6 0).bind fun r2 =>
      cI (U_X0_filled fu [.ref r2] w) fun x4 w3 =>
      (gR w3 a0 6 0).bind fun r5 =>
      cI (U_X0_reachOf fu [.ref r5, .int a1, .int a2] w3) fun x7 w6 =>
      cI (U_X0_isCrossed fu [.ref r1, .int x4, .int a3, .int x7] w6) fun x9 w8 =>
      (if x9 = 0 then
        (F_X7_highest fu n) a0 a1 a2 (a3 + (-1 : Int32)) w8
      else
        some (some (.int a3), w8))))
def M_X7_highest (fu : Nat) (a0 : Nat) (a1 : Int32) (a2 : Int32) (w : XW) : Option XO :=
  (gR w a0 6 0).bind fun r10 =>
  cI (U_X0_isWalker fu [.ref r10, .int a1] w) fun x12 w11 =>
  (if x12 = 0 then
    some (some (.int (-1 : Int32)), w11)
  else
    (F_X7_highest fu fu) a0 a1 a2 (9 : Int32) w11)
def U_X7_highest (fu : Nat) : Orc := fun as w => match as with
  | [.ref a0, .int a1, .int a2] => if isO w a0 6 = true then M_X7_highest fu a0 a1 a2 w else none
  | _ => none
def K_X7_highest (fu : Nat) (n : Nat) : Kont := fun pc ls st w => bif pc == 16 then ((xr ls 0).bind fun a0 => (xi ls 1).bind fun a1 => (xi ls 2).bind fun a2 => (xi ls 3).bind fun a3 => skN st ((F_X7_highest fu n) a0 a1 a2 a3 w)) else none
set_option maxRecDepth 100000 in
set_option maxHeartbeats 4000000 in
theorem E_X7_highest_16 (fu : Nat) (n : Nat) (a0 : Nat) (a1 : Int32) (a2 : Int32) (a3 : Int32) (w : XW) : (F_X7_highest fu (n + 1)) a0 a1 a2 a3 w = ev T_X7_highest (op_X7_highest fu) [16] (K_X7_highest fu n) 32 16 [(0, .ref a0), (1, .int a1), (2, .int a2), (3, .int a3)] [] w := by
  rfl
set_option maxRecDepth 100000 in
set_option maxHeartbeats 4000000 in
theorem E_X7_highest (fu : Nat) (a0 : Nat) (a1 : Int32) (a2 : Int32) (w : XW) : M_X7_highest fu a0 a1 a2 w = ev T_X7_highest (op_X7_highest fu) [16] (K_X7_highest fu fu) 32 0 (lv_args 0 [.ref a0, .int a1, .int a2]) [] w := by
  rfl
theorem D_X7_highest (fu : Nat) : DS T_X7_highest (op_X7_highest fu) [16] 32 (K_X7_highest fu) := by
  refine ⟨fun pc ls st w => c_none (b_none fun _ => b_none fun _ => b_none fun _ => b_none fun _ => skN_none rfl) (rfl), fun n pc ls st w o h => ?_⟩
  rcases c_some h with ⟨rfl, h⟩ | h
  · obtain ⟨a0, h0, h⟩ := some_of h; obtain ⟨a1, h1, h⟩ := some_of h; obtain ⟨a2, h2, h⟩ := some_of h; obtain ⟨a3, h3, h⟩ := some_of h;
    obtain ⟨e, g⟩ := skN_of h
    subst e
    exact ⟨[(0, .ref a0), (1, .int a1), (2, .int a2), (3, .int a3)], cons_all (xr_of h0) (cons_all (xi_of h1) (cons_all (xi_of h2) (cons_all (xi_of h3) (nil_all)))), (E_X7_highest_16 fu n a0 a1 a2 a3 w).symm.trans g⟩
  · cases h
theorem H_X7_highest (fu : Nat) : ∀ as w o, U_X7_highest fu as w = some o → ∃ a r, as = .ref a :: r ∧ r.length = 2 ∧ isO w a 6 = true := by
  intro as w o h
  unfold U_X7_highest at h
  split at h
  next =>
    split at h
    next hh => exact ⟨_, _, rfl, rfl, hh⟩
    next => cases h
  next => cases h
set_option maxRecDepth 100000 in
set_option maxHeartbeats 4000000 in
theorem S_X7_highest (fu : Nat) {l : Launch} {D : va_G} {cA : Nat → ClassId} {base b : Nat} : CS l D cA base b 4 y_X7_highest prog_1_method_14_code 4 (some .int) (U_X7_highest fu) ∧ OM (U_X7_highest fu) := by
  refine CS_of (d := 3) (y := y_X7_highest) (cc := prog_1_method_14_code) (nL := 4) (ret := (some .int)) (F := U_X7_highest fu) (fl := fl_BrookStones) (nl := nl_BrookStones) (kl := []) (k2 := k2_BrookStones) (mv := [(158, 2, 1, (U_X0_isWalker fu)), (164, 1, 1, (U_X0_filled fu)), (168, 3, 1, (U_X0_reachOf fu)), (172, 4, 1, (U_X0_isCrossed fu))]) (ms := []) (mi := []) (ini := false) hI_w hZ_w fl_BrookStones_ok nl_BrookStones_ok nil_all k2_BrookStones_ok
    (cons_all (⟨⟨show (1 : Nat) ≠ 3 by decide, y_X0_isWalker, prog_2_method_6_code, 2, (some .boolean), 1, "BrookStones", 0, TX0, 15, 1, (S_X0_isWalker fu (l := l) (D := D) (cA := cA) (base := base) (b := b)).1, by decide, by decide, rfl, H_X0_isWalker fu, rfl, mi_X0_isWalker.1, mi_X0_isWalker.2.1, mi_X0_isWalker.2.2.1, mi_X0_isWalker.2.2.2.1, mi_X0_isWalker.2.2.2.2, Or.inr (tblN_of (i := 391) rfl rfl)⟩, (S_X0_isWalker fu (l := l) (D := D) (cA := cA) (base := base) (b := b)).2⟩) (cons_all (⟨⟨show (1 : Nat) ≠ 3 by decide, y_X0_filled, prog_2_method_17_code, 1, (some .int), 2, "BrookStones", 0, TX0, 15, 0, (S_X0_filled fu (l := l) (D := D) (cA := cA) (base := base) (b := b)).1, by decide, by decide, rfl, H_X0_filled fu, rfl, mi_X0_filled.1, mi_X0_filled.2.1, mi_X0_filled.2.2.1, mi_X0_filled.2.2.2.1, mi_X0_filled.2.2.2.2, Or.inr (tblN_of (i := 399) rfl rfl)⟩, (S_X0_filled fu (l := l) (D := D) (cA := cA) (base := base) (b := b)).2⟩) (cons_all (⟨⟨show (1 : Nat) ≠ 3 by decide, y_X0_reachOf, prog_2_method_9_code, 3, (some .int), 1, "BrookStones", 0, TX0, 15, 2, (S_X0_reachOf fu (l := l) (D := D) (cA := cA) (base := base) (b := b)).1, by decide, by decide, rfl, H_X0_reachOf fu, rfl, mi_X0_reachOf.1, mi_X0_reachOf.2.1, mi_X0_reachOf.2.2.1, mi_X0_reachOf.2.2.2.1, mi_X0_reachOf.2.2.2.2, Or.inr (tblN_of (i := 407) rfl rfl)⟩, (S_X0_reachOf fu (l := l) (D := D) (cA := cA) (base := base) (b := b)).2⟩) (cons_all (⟨⟨show (1 : Nat) ≠ 3 by decide, y_X0_isCrossed, prog_2_method_20_code, 4, (some .boolean), 3, "BrookStones", 0, TX0, 15, 3, (S_X0_isCrossed fu (l := l) (D := D) (cA := cA) (base := base) (b := b)).1, by decide, by decide, rfl, H_X0_isCrossed fu, rfl, mi_X0_isCrossed.1, mi_X0_isCrossed.2.1, mi_X0_isCrossed.2.2.1, mi_X0_isCrossed.2.2.2.1, mi_X0_isCrossed.2.2.2.2, Or.inr (tblN_of (i := 411) rfl rfl)⟩, (S_X0_isCrossed fu (l := l) (D := D) (cA := cA) (base := base) (b := b)).2⟩) (nil_all)))))
    (nil_all)
    (nil_all)
    (T := T_X7_highest) (by decide +kernel) (cut := [16]) (N := 32) (D_X7_highest fu) (by decide +kernel) (fun h => absurd h (by decide)) (fun as w o h => ?_)
  unfold U_X7_highest at h
  split at h
  next =>
    split at h
    next => exact ⟨Nat.le_of_ble_eq_true rfl, fu, (E_X7_highest fu _ _ _ w).symm.trans h⟩
    next => cases h
  next => cases h
def T_X8_highest : List (Nat × Instr) := [(0, .aload_n 0), (1, .iload_n 1), (2, .invokevirtual 158), (5, .ifCond .ne 5), (8, .iconst (-1)), (9, .ireturn), (10, .aload_n 0), (11, .invokevirtual 181), (14, .bipush (-9)), (16, .istore_n 3), (17, .iconst 0), (18, .istore 4), (20, .iload 4), (22, .bipush 10), (24, .if_icmp .ge 35), (27, .aload_n 0), (28, .iload 4), (30, .putfield 161), (33, .aload_n 0), (34, .aload_n 0), (35, .iload_n 1), (36, .iload_n 2), (37, .invokevirtual 184), (40, .invokevirtual 188), (43, .ifCond .eq 8), (46, .iload 4), (48, .goto 4), (51, .iload_n 3), (52, .istore_n 3), (53, .iinc 4 1), (56, .goto (-36)), (59, .iload_n 3), (60, .ireturn)]
def op_X8_highest (fu : Nat) : Nat → Kont → XL → List Value → XW → Instr → Option XO := opK 5 (rzOf (some .int)) fl_BrookStonesModel [] kl_BrookStonesModel k2_BrookStonesModel [(158, 2, 1, (U_X8_isWalker fu)), (181, 1, 0, (U_X8_layNow fu)), (184, 3, 1, (U_X8_strideOf fu)), (188, 2, 1, (U_X8_comes fu))] [] []
def F_X8_highest (fu : Nat) : Nat → (Nat → Int32 → Int32 → Int32 → Int32 → XW → Option XO)
  | 0 => fun _ _ _ _ _ _ => none
  | n + 1 => (fun a0 a1 a2 a3 a4 w =>
    (if a4 < (10 : Int32) then
      (pF w a0 7 26 (.int a4)).bind fun w1 =>
      cI (U_X8_strideOf fu [.ref a0, .int a1, .int a2] w1) fun x3 w2 =>
      cI (U_X8_comes fu [.ref a0, .int x3] w2) fun x5 w4 =>
      (if x5 = 0 then
        (F_X8_highest fu n) a0 a1 a2 a3 (a4 + (1 : Int32)) w4
      else
        (F_X8_highest fu n) a0 a1 a2 a4 (a4 + (1 : Int32)) w4)
    else
      some (some (.int a3), w)))
def M_X8_highest (fu : Nat) (a0 : Nat) (a1 : Int32) (a2 : Int32) (w : XW) : Option XO :=
  cI (U_X8_isWalker fu [.ref a0, .int a1] w) fun x7 w6 =>
  (if x7 = 0 then
    some (some (.int (-1 : Int32)), w6)
  else
    cV (U_X8_layNow fu [.ref a0] w6) fun w8 =>
    (F_X8_highest fu fu) a0 a1 a2 (-9 : Int32) (0 : Int32) w8)
def U_X8_highest (fu : Nat) : Orc := fun as w => match as with
  | [.ref a0, .int a1, .int a2] => if isO w a0 7 = true then M_X8_highest fu a0 a1 a2 w else none
  | _ => none
def K_X8_highest (fu : Nat) (n : Nat) : Kont := fun pc ls st w => bif pc == 20 then ((xr ls 0).bind fun a0 => (xi ls 1).bind fun a1 => (xi ls 2).bind fun a2 => (xi ls 3).bind fun a3 => (xi ls 4).bind fun a4 => skN st ((F_X8_highest fu n) a0 a1 a2 a3 a4 w)) else none
set_option maxRecDepth 100000 in
set_option maxHeartbeats 4000000 in
theorem E_X8_highest_20 (fu : Nat) (n : Nat) (a0 : Nat) (a1 : Int32) (a2 : Int32) (a3 : Int32) (a4 : Int32) (w : XW) : (F_X8_highest fu (n + 1)) a0 a1 a2 a3 a4 w = ev T_X8_highest (op_X8_highest fu) [20] (K_X8_highest fu n) 35 20 [(0, .ref a0), (1, .int a1), (2, .int a2), (3, .int a3), (4, .int a4)] [] w := by
  rfl
set_option maxRecDepth 100000 in
set_option maxHeartbeats 4000000 in
theorem E_X8_highest (fu : Nat) (a0 : Nat) (a1 : Int32) (a2 : Int32) (w : XW) : M_X8_highest fu a0 a1 a2 w = ev T_X8_highest (op_X8_highest fu) [20] (K_X8_highest fu fu) 35 0 (lv_args 0 [.ref a0, .int a1, .int a2]) [] w := by
  rfl
theorem D_X8_highest (fu : Nat) : DS T_X8_highest (op_X8_highest fu) [20] 35 (K_X8_highest fu) := by
  refine ⟨fun pc ls st w => c_none (b_none fun _ => b_none fun _ => b_none fun _ => b_none fun _ => b_none fun _ => skN_none rfl) (rfl), fun n pc ls st w o h => ?_⟩
  rcases c_some h with ⟨rfl, h⟩ | h
  · obtain ⟨a0, h0, h⟩ := some_of h; obtain ⟨a1, h1, h⟩ := some_of h; obtain ⟨a2, h2, h⟩ := some_of h; obtain ⟨a3, h3, h⟩ := some_of h; obtain ⟨a4, h4, h⟩ := some_of h;
    obtain ⟨e, g⟩ := skN_of h
    subst e
    exact ⟨[(0, .ref a0), (1, .int a1), (2, .int a2), (3, .int a3), (4, .int a4)], cons_all (xr_of h0) (cons_all (xi_of h1) (cons_all (xi_of h2) (cons_all (xi_of h3) (cons_all (xi_of h4) (nil_all))))), (E_X8_highest_20 fu n a0 a1 a2 a3 a4 w).symm.trans g⟩
  · cases h
theorem H_X8_highest (fu : Nat) : ∀ as w o, U_X8_highest fu as w = some o → ∃ a r, as = .ref a :: r ∧ r.length = 2 ∧ isO w a 7 = true := by
  intro as w o h
  unfold U_X8_highest at h
  split at h
  next =>
    split at h
    next hh => exact ⟨_, _, rfl, rfl, hh⟩
    next => cases h
  next => cases h
set_option maxRecDepth 100000 in
set_option maxHeartbeats 4000000 in
theorem S_X8_highest (fu : Nat) {l : Launch} {D : va_G} {cA : Nat → ClassId} {base b : Nat} : CS l D cA base b 6 y_X8_highest prog_10_method_39_code 5 (some .int) (U_X8_highest fu) ∧ OM (U_X8_highest fu) := by
  refine CS_of (d := 5) (y := y_X8_highest) (cc := prog_10_method_39_code) (nL := 5) (ret := (some .int)) (F := U_X8_highest fu) (fl := fl_BrookStonesModel) (nl := []) (kl := kl_BrookStonesModel) (k2 := k2_BrookStonesModel) (mv := [(158, 2, 1, (U_X8_isWalker fu)), (181, 1, 0, (U_X8_layNow fu)), (184, 3, 1, (U_X8_strideOf fu)), (188, 2, 1, (U_X8_comes fu))]) (ms := []) (mi := []) (ini := false) hI_w hZ_w fl_BrookStonesModel_ok nil_all kl_BrookStonesModel_ok k2_BrookStonesModel_ok
    (cons_all (⟨⟨show (1 : Nat) ≠ 3 by decide, y_X8_isWalker, prog_10_method_26_code, 2, (some .boolean), 1, "BrookStones", 7, TX8, 37, 1, (S_X8_isWalker fu (l := l) (D := D) (cA := cA) (base := base) (b := b)).1, by decide, by decide, rfl, H_X8_isWalker fu, rfl, mi_X8_isWalker.1, mi_X8_isWalker.2.1, mi_X8_isWalker.2.2.1, mi_X8_isWalker.2.2.2.1, mi_X8_isWalker.2.2.2.2, Or.inl (tblG_of (i := 943) rfl rfl)⟩, (S_X8_isWalker fu (l := l) (D := D) (cA := cA) (base := base) (b := b)).2⟩) (cons_all (⟨⟨show (0 : Nat) ≠ 3 by decide, y_X8_layNow, prog_10_method_29_code, 2, (none), 1, "BrookStones", 7, TX8, 37, 0, (S_X8_layNow fu (l := l) (D := D) (cA := cA) (base := base) (b := b)).1, by decide, by decide, rfl, H_X8_layNow fu, rfl, mi_X8_layNow.1, mi_X8_layNow.2.1, mi_X8_layNow.2.2.1, mi_X8_layNow.2.2.2.1, mi_X8_layNow.2.2.2.2, Or.inl (tblG_of (i := 951) rfl rfl)⟩, (S_X8_layNow fu (l := l) (D := D) (cA := cA) (base := base) (b := b)).2⟩) (cons_all (⟨⟨show (1 : Nat) ≠ 3 by decide, y_X8_strideOf, prog_10_method_36_code, 3, (some .int), 1, "BrookStones", 7, TX8, 37, 2, (S_X8_strideOf fu (l := l) (D := D) (cA := cA) (base := base) (b := b)).1, by decide, by decide, rfl, H_X8_strideOf fu, rfl, mi_X8_strideOf.1, mi_X8_strideOf.2.1, mi_X8_strideOf.2.2.1, mi_X8_strideOf.2.2.2.1, mi_X8_strideOf.2.2.2.2, Or.inl (tblG_of (i := 955) rfl rfl)⟩, (S_X8_strideOf fu (l := l) (D := D) (cA := cA) (base := base) (b := b)).2⟩) (cons_all (⟨⟨show (1 : Nat) ≠ 3 by decide, y_X8_comes, prog_10_method_35_code, 2, (some .boolean), 5, "BrookStones", 7, TX8, 37, 1, (S_X8_comes fu (l := l) (D := D) (cA := cA) (base := base) (b := b)).1, by decide, by decide, rfl, H_X8_comes fu, rfl, mi_X8_comes.1, mi_X8_comes.2.1, mi_X8_comes.2.2.1, mi_X8_comes.2.2.2.1, mi_X8_comes.2.2.2.2, Or.inl (tblG_of (i := 959) rfl rfl)⟩, (S_X8_comes fu (l := l) (D := D) (cA := cA) (base := base) (b := b)).2⟩) (nil_all)))))
    (nil_all)
    (nil_all)
    (T := T_X8_highest) (by decide +kernel) (cut := [20]) (N := 35) (D_X8_highest fu) (by decide +kernel) (fun h => absurd h (by decide)) (fun as w o h => ?_)
  unfold U_X8_highest at h
  split at h
  next =>
    split at h
    next => exact ⟨Nat.le_of_ble_eq_true rfl, fu, (E_X8_highest fu _ _ _ w).symm.trans h⟩
    next => cases h
  next => cases h
def T_X7_pass : List (Nat × Instr) := [(0, .aload_n 0), (1, .getfield 12), (4, .iload_n 1), (5, .invokevirtual 158), (8, .ifCond .eq 14), (11, .aload_n 0), (12, .getfield 12), (15, .iload_n 2), (16, .invokevirtual 158), (19, .ifCond .ne 5), (22, .iconst (-1)), (23, .ireturn), (24, .aload_n 0), (25, .getfield 12), (28, .iload_n 1), (29, .iconst 0), (30, .invokevirtual 168), (33, .aload_n 0), (34, .getfield 12), (37, .iload_n 2), (38, .iconst 0), (39, .invokevirtual 168), (42, .invokestatic 182), (45, .istore_n 3), (46, .aload_n 0), (47, .getfield 12), (50, .aload_n 0), (51, .getfield 12), (54, .invokevirtual 164), (57, .aload_n 0), (58, .getfield 12), (61, .getfield 98), (64, .iload_n 3), (65, .invokevirtual 172), (68, .ifCond .ne 5), (71, .iconst 0), (72, .ireturn), (73, .aload_n 0), (74, .getfield 12), (77, .aload_n 0), (78, .getfield 12), (81, .getfield 98), (84, .invokevirtual 187), (87, .aload_n 0), (88, .getfield 12), (91, .iconst 1), (92, .invokevirtual 190), (95, .iand), (96, .ireturn)]
def op_X7_pass (fu : Nat) : Nat → Kont → XL → List Value → XW → Instr → Option XO := opK 4 (rzOf (some .int)) fl_BrookStones nl_BrookStones [] k2_BrookStones [(158, 2, 1, (U_X0_isWalker fu)), (168, 3, 1, (U_X0_reachOf fu)), (164, 1, 1, (U_X0_filled fu)), (172, 4, 1, (U_X0_isCrossed fu)), (187, 2, 1, (U_X0_dry fu)), (190, 2, 1, (U_X0_ofKind fu))] [(182, 2, 3, oMin)] []
def M_X7_pass (fu : Nat) (a0 : Nat) (a1 : Int32) (a2 : Int32) (w : XW) : Option XO :=
  (gR w a0 6 0).bind fun r1 =>
  cI (U_X0_isWalker fu [.ref r1, .int a1] w) fun x3 w2 =>
  (if x3 = 0 then
    some (some (.int (-1 : Int32)), w2)
  else
    (gR w2 a0 6 0).bind fun r4 =>
    cI (U_X0_isWalker fu [.ref r4, .int a2] w2) fun x6 w5 =>
    (if x6 = 0 then
      some (some (.int (-1 : Int32)), w5)
    else
      (gR w5 a0 6 0).bind fun r7 =>
      cI (U_X0_reachOf fu [.ref r7, .int a1, .int (0 : Int32)] w5) fun x9 w8 =>
      (gR w8 a0 6 0).bind fun r10 =>
      cI (U_X0_reachOf fu [.ref r10, .int a2, .int (0 : Int32)] w8) fun x12 w11 =>
      cI (oMin [.int x9, .int x12] w11) fun x14 w13 =>
      (gR w13 a0 6 0).bind fun r15 =>
      (gR w13 a0 6 0).bind fun r16 =>
      cI (U_X0_filled fu [.ref r16] w13) fun x18 w17 =>
      (gR w17 a0 6 0).bind fun r19 =>
      (gI w17 r19 0 11).bind fun x20 =>
      cI (U_X0_isCrossed fu [.ref r15, .int x18, .int x20, .int x14] w17) fun x22 w21 =>
      (if x22 = 0 then
        some (some (.int (0 : Int32)), w21)
      else
        (gR w21 a0 6 0).bind fun r23 =>
        (gR w21 a0 6 0).bind fun r24 =>
        (gI w21 r24 0 11).bind fun x25 =>
        cI (U_X0_dry fu [.ref r23, .int x25] w21) fun x27 w26 =>
        (gR w26 a0 6 0).bind fun r28 =>
        cI (U_X0_ofKind fu [.ref r28, .int (1 : Int32)] w26) fun x30 w29 =>
        some (some (.int (x27 &&& x30)), w29))))
def U_X7_pass (fu : Nat) : Orc := fun as w => match as with
  | [.ref a0, .int a1, .int a2] => if isO w a0 6 = true then M_X7_pass fu a0 a1 a2 w else none
  | _ => none
def K_X7_pass (fu : Nat) (n : Nat) : Kont := fun pc ls st w => none
set_option maxRecDepth 100000 in
set_option maxHeartbeats 4000000 in
theorem E_X7_pass (fu : Nat) (a0 : Nat) (a1 : Int32) (a2 : Int32) (w : XW) : M_X7_pass fu a0 a1 a2 w = ev T_X7_pass (op_X7_pass fu) [] (K_X7_pass fu fu) 51 0 (lv_args 0 [.ref a0, .int a1, .int a2]) [] w := by
  rfl
theorem D_X7_pass (fu : Nat) : DS T_X7_pass (op_X7_pass fu) [] 51 (K_X7_pass fu) := by
  refine ⟨fun pc ls st w => rfl, fun n pc ls st w o h => ?_⟩
  cases h
theorem H_X7_pass (fu : Nat) : ∀ as w o, U_X7_pass fu as w = some o → ∃ a r, as = .ref a :: r ∧ r.length = 2 ∧ isO w a 6 = true := by
  intro as w o h
  unfold U_X7_pass at h
  split at h
  next =>
    split at h
    next hh => exact ⟨_, _, rfl, rfl, hh⟩
    next => cases h
  next => cases h
set_option maxRecDepth 100000 in
set_option maxHeartbeats 4000000 in
theorem S_X7_pass (fu : Nat) {l : Launch} {D : va_G} {cA : Nat → ClassId} {base b : Nat} : CS l D cA base b 4 y_X7_pass prog_1_method_15_code 4 (some .int) (U_X7_pass fu) ∧ OM (U_X7_pass fu) := by
  refine CS_of (d := 3) (y := y_X7_pass) (cc := prog_1_method_15_code) (nL := 4) (ret := (some .int)) (F := U_X7_pass fu) (fl := fl_BrookStones) (nl := nl_BrookStones) (kl := []) (k2 := k2_BrookStones) (mv := [(158, 2, 1, (U_X0_isWalker fu)), (168, 3, 1, (U_X0_reachOf fu)), (164, 1, 1, (U_X0_filled fu)), (172, 4, 1, (U_X0_isCrossed fu)), (187, 2, 1, (U_X0_dry fu)), (190, 2, 1, (U_X0_ofKind fu))]) (ms := [(182, 2, 3, oMin)]) (mi := []) (ini := false) hI_w hZ_w fl_BrookStones_ok nl_BrookStones_ok nil_all k2_BrookStones_ok
    (cons_all (⟨⟨show (1 : Nat) ≠ 3 by decide, y_X0_isWalker, prog_2_method_6_code, 2, (some .boolean), 1, "BrookStones", 0, TX0, 15, 1, (S_X0_isWalker fu (l := l) (D := D) (cA := cA) (base := base) (b := b)).1, by decide, by decide, rfl, H_X0_isWalker fu, rfl, mi_X0_isWalker.1, mi_X0_isWalker.2.1, mi_X0_isWalker.2.2.1, mi_X0_isWalker.2.2.2.1, mi_X0_isWalker.2.2.2.2, Or.inr (tblN_of (i := 391) rfl rfl)⟩, (S_X0_isWalker fu (l := l) (D := D) (cA := cA) (base := base) (b := b)).2⟩) (cons_all (⟨⟨show (1 : Nat) ≠ 3 by decide, y_X0_reachOf, prog_2_method_9_code, 3, (some .int), 1, "BrookStones", 0, TX0, 15, 2, (S_X0_reachOf fu (l := l) (D := D) (cA := cA) (base := base) (b := b)).1, by decide, by decide, rfl, H_X0_reachOf fu, rfl, mi_X0_reachOf.1, mi_X0_reachOf.2.1, mi_X0_reachOf.2.2.1, mi_X0_reachOf.2.2.2.1, mi_X0_reachOf.2.2.2.2, Or.inr (tblN_of (i := 407) rfl rfl)⟩, (S_X0_reachOf fu (l := l) (D := D) (cA := cA) (base := base) (b := b)).2⟩) (cons_all (⟨⟨show (1 : Nat) ≠ 3 by decide, y_X0_filled, prog_2_method_17_code, 1, (some .int), 2, "BrookStones", 0, TX0, 15, 0, (S_X0_filled fu (l := l) (D := D) (cA := cA) (base := base) (b := b)).1, by decide, by decide, rfl, H_X0_filled fu, rfl, mi_X0_filled.1, mi_X0_filled.2.1, mi_X0_filled.2.2.1, mi_X0_filled.2.2.2.1, mi_X0_filled.2.2.2.2, Or.inr (tblN_of (i := 399) rfl rfl)⟩, (S_X0_filled fu (l := l) (D := D) (cA := cA) (base := base) (b := b)).2⟩) (cons_all (⟨⟨show (1 : Nat) ≠ 3 by decide, y_X0_isCrossed, prog_2_method_20_code, 4, (some .boolean), 3, "BrookStones", 0, TX0, 15, 3, (S_X0_isCrossed fu (l := l) (D := D) (cA := cA) (base := base) (b := b)).1, by decide, by decide, rfl, H_X0_isCrossed fu, rfl, mi_X0_isCrossed.1, mi_X0_isCrossed.2.1, mi_X0_isCrossed.2.2.1, mi_X0_isCrossed.2.2.2.1, mi_X0_isCrossed.2.2.2.2, Or.inr (tblN_of (i := 411) rfl rfl)⟩, (S_X0_isCrossed fu (l := l) (D := D) (cA := cA) (base := base) (b := b)).2⟩) (cons_all (⟨⟨show (1 : Nat) ≠ 3 by decide, y_X0_dry, prog_2_method_19_code, 4, (some .int), 2, "BrookStones", 0, TX0, 15, 1, (S_X0_dry fu (l := l) (D := D) (cA := cA) (base := base) (b := b)).1, by decide, by decide, rfl, H_X0_dry fu, rfl, mi_X0_dry.1, mi_X0_dry.2.1, mi_X0_dry.2.2.1, mi_X0_dry.2.2.2.1, mi_X0_dry.2.2.2.2, Or.inr (tblN_of (i := 456) rfl rfl)⟩, (S_X0_dry fu (l := l) (D := D) (cA := cA) (base := base) (b := b)).2⟩) (cons_all (⟨⟨show (1 : Nat) ≠ 3 by decide, y_X0_ofKind, prog_2_method_18_code, 4, (some .int), 1, "BrookStones", 0, TX0, 15, 1, (S_X0_ofKind fu (l := l) (D := D) (cA := cA) (base := base) (b := b)).1, by decide, by decide, rfl, H_X0_ofKind fu, rfl, mi_X0_ofKind.1, mi_X0_ofKind.2.1, mi_X0_ofKind.2.2.1, mi_X0_ofKind.2.2.2.1, mi_X0_ofKind.2.2.2.2, Or.inr (tblN_of (i := 457) rfl rfl)⟩, (S_X0_ofKind fu (l := l) (D := D) (cA := cA) (base := base) (b := b)).2⟩) (nil_all)))))))
    (cons_all (⟨Or.inr (Or.inr (Or.inr ⟨rfl, rfl, rfl, tblG_of (i := 455) rfl rfl, tblG_of (i := 301) rfl rfl, tblG_of (i := 11) rfl rfl, tblG_of (i := 302) rfl rfl⟩)), om_min⟩) (nil_all))
    (nil_all)
    (T := T_X7_pass) (by decide +kernel) (cut := []) (N := 51) (D_X7_pass fu) (by decide +kernel) (fun h => absurd h (by decide)) (fun as w o h => ?_)
  unfold U_X7_pass at h
  split at h
  next =>
    split at h
    next => exact ⟨Nat.le_of_ble_eq_true rfl, fu, (E_X7_pass fu _ _ _ w).symm.trans h⟩
    next => cases h
  next => cases h
def T_X8_has : List (Nat × Instr) := [(0, .iload_n 0), (1, .iload_n 1), (2, .ishr), (3, .iconst 1), (4, .iand), (5, .iconst 1), (6, .if_icmp .ne 7), (9, .iconst 1), (10, .goto 4), (13, .iconst 0), (14, .ireturn)]
def op_X8_has (fu : Nat) : Nat → Kont → XL → List Value → XW → Instr → Option XO := opK 2 (rzOf (some .boolean)) fl_BrookStonesModel [] kl_BrookStonesModel k2_BrookStonesModel [] [] []
def M_X8_has (fu : Nat) (a0 : Int32) (a1 : Int32) (w : XW) : Option XO :=
  (if ((a0 >>> (a1 &&& 31)) &&& (1 : Int32)) = (1 : Int32) then
    retZ (1 : Int32) w
  else
    retZ (0 : Int32) w)
def U_X8_has (fu : Nat) : Orc := fun as w => match as with
  | [.int a0, .int a1] => M_X8_has fu a0 a1 w
  | _ => none
def K_X8_has (fu : Nat) (n : Nat) : Kont := fun pc ls st w => none
set_option maxRecDepth 100000 in
set_option maxHeartbeats 4000000 in
theorem E_X8_has (fu : Nat) (a0 : Int32) (a1 : Int32) (w : XW) : M_X8_has fu a0 a1 w = ev T_X8_has (op_X8_has fu) [] (K_X8_has fu fu) 13 0 (lv_args 0 [.int a0, .int a1]) [] w := by
  rfl
theorem D_X8_has (fu : Nat) : DS T_X8_has (op_X8_has fu) [] 13 (K_X8_has fu) := by
  refine ⟨fun pc ls st w => rfl, fun n pc ls st w o h => ?_⟩
  cases h
set_option maxRecDepth 100000 in
set_option maxHeartbeats 4000000 in
theorem S_X8_has (fu : Nat) {l : Launch} {D : va_G} {cA : Nat → ClassId} {base b : Nat} : CS l D cA base b 1 y_X8_has prog_10_method_6_code 2 (some .boolean) (U_X8_has fu) ∧ OM (U_X8_has fu) := by
  refine CS_of (d := 0) (y := y_X8_has) (cc := prog_10_method_6_code) (nL := 2) (ret := (some .boolean)) (F := U_X8_has fu) (fl := fl_BrookStonesModel) (nl := []) (kl := kl_BrookStonesModel) (k2 := k2_BrookStonesModel) (mv := []) (ms := []) (mi := []) (ini := false) hI_w hZ_w fl_BrookStonesModel_ok nil_all kl_BrookStonesModel_ok k2_BrookStonesModel_ok
    (nil_all)
    (nil_all)
    (nil_all)
    (T := T_X8_has) (by decide +kernel) (cut := []) (N := 13) (D_X8_has fu) (by decide +kernel) (fun h => absurd h (by decide)) (fun as w o h => ?_)
  unfold U_X8_has at h
  split at h
  next =>
    exact ⟨Nat.le_of_ble_eq_true rfl, fu, (E_X8_has fu _ _ w).symm.trans h⟩
  next => cases h
def T_X8_fromBoth : List (Nat × Instr) := [(0, .iconst 0), (1, .istore_n 2), (2, .iconst 0), (3, .istore_n 3), (4, .aload_n 0), (5, .iconst 0), (6, .iload_n 1), (7, .invokevirtual 177), (10, .iconst 0), (11, .istore 4), (13, .iload 4), (15, .aload_n 0), (16, .getfield 93), (19, .if_icmp .ge 34), (22, .iload_n 2), (23, .aload_n 0), (24, .getfield 59), (27, .iload 4), (29, .iconst 1), (30, .iadd), (31, .iaload), (32, .ldc 170), (34, .if_icmp .ge 10), (37, .iconst 1), (38, .iload 4), (40, .ishl), (41, .goto 4), (44, .iconst 0), (45, .ior), (46, .istore_n 2), (47, .iinc 4 1), (50, .goto (-37)), (53, .aload_n 0), (54, .aload_n 0), (55, .getfield 93), (58, .iconst 1), (59, .iadd), (60, .iload_n 1), (61, .invokevirtual 177), (64, .iconst 0), (65, .istore 4), (67, .iload 4), (69, .aload_n 0), (70, .getfield 93), (73, .if_icmp .ge 43), (76, .iload_n 3), (77, .aload_n 0), (78, .getfield 59), (81, .iload 4), (83, .iconst 1), (84, .iadd), (85, .iaload), (86, .ldc 170), (88, .if_icmp .ge 19), (91, .iload_n 2), (92, .iload 4), (94, .invokestatic 191), (97, .ifCond .eq 10), (100, .iconst 1), (101, .iload 4), (103, .ishl), (104, .goto 4), (107, .iconst 0), (108, .ior), (109, .istore_n 3), (110, .iinc 4 1), (113, .goto (-46)), (116, .iload_n 3), (117, .ireturn)]
def op_X8_fromBoth (fu : Nat) : Nat → Kont → XL → List Value → XW → Instr → Option XO := opK 5 (rzOf (some .int)) fl_BrookStonesModel [] kl_BrookStonesModel k2_BrookStonesModel [(177, 3, 0, (U_X8_layFar fu))] [(191, 2, 1, (U_X8_has fu))] []
def F_X8_fromBoth (fu : Nat) : Nat → (Nat → Int32 → Int32 → Int32 → Int32 → XW → Option XO) × (Nat → Int32 → Int32 → Int32 → XW → Option XO)
  | 0 => (fun _ _ _ _ _ _ => none, fun _ _ _ _ _ => none)
  | n + 1 => ((fun a0 a1 a2 a3 a4 w =>
    (gI w a0 7 5).bind fun x1 =>
    (if a4 < x1 then
      (gR w a0 7 27).bind fun r4 =>
      (aI w r4 (a4 + (1 : Int32))).bind fun x5 =>
      (if x5 < (1000000 : Int32) then
        (F_X8_fromBoth fu n).1 a0 a1 (a2 ||| ((1 : Int32) <<< (a4 &&& 31))) a3 (a4 + (1 : Int32)) w
      else
        (F_X8_fromBoth fu n).1 a0 a1 (a2 ||| (0 : Int32)) a3 (a4 + (1 : Int32)) w)
    else
      (gI w a0 7 5).bind fun x2 =>
      cV (U_X8_layFar fu [.ref a0, .int (x2 + (1 : Int32)), .int a1] w) fun w3 =>
      (F_X8_fromBoth fu n).2 a0 a2 a3 (0 : Int32) w3)),
   (fun a0 a2 a3 a4 w =>
    (gI w a0 7 5).bind fun x6 =>
    (if a4 < x6 then
      (gR w a0 7 27).bind fun r7 =>
      (aI w r7 (a4 + (1 : Int32))).bind fun x8 =>
      (if x8 < (1000000 : Int32) then
        cI (U_X8_has fu [.int a2, .int a4] w) fun x10 w9 =>
        (if x10 = 0 then
          (F_X8_fromBoth fu n).2 a0 a2 (a3 ||| (0 : Int32)) (a4 + (1 : Int32)) w9
        else
          (F_X8_fromBoth fu n).2 a0 a2 (a3 ||| ((1 : Int32) <<< (a4 &&& 31))) (a4 + (1 : Int32)) w9)
      else
        (F_X8_fromBoth fu n).2 a0 a2 (a3 ||| (0 : Int32)) (a4 + (1 : Int32)) w)
    else
      some (some (.int a3), w))))
def M_X8_fromBoth (fu : Nat) (a0 : Nat) (a1 : Int32) (w : XW) : Option XO :=
  cV (U_X8_layFar fu [.ref a0, .int (0 : Int32), .int a1] w) fun w11 =>
  (F_X8_fromBoth fu fu).1 a0 a1 (0 : Int32) (0 : Int32) (0 : Int32) w11
def U_X8_fromBoth (fu : Nat) : Orc := fun as w => match as with
  | [.ref a0, .int a1] => if isO w a0 7 = true then M_X8_fromBoth fu a0 a1 w else none
  | _ => none
def K_X8_fromBoth (fu : Nat) (n : Nat) : Kont := fun pc ls st w => bif pc == 13 then ((xr ls 0).bind fun a0 => (xi ls 1).bind fun a1 => (xi ls 2).bind fun a2 => (xi ls 3).bind fun a3 => (xi ls 4).bind fun a4 => skN st ((F_X8_fromBoth fu n).1 a0 a1 a2 a3 a4 w)) else bif pc == 67 then ((xr ls 0).bind fun a0 => (xi ls 2).bind fun a2 => (xi ls 3).bind fun a3 => (xi ls 4).bind fun a4 => skN st ((F_X8_fromBoth fu n).2 a0 a2 a3 a4 w)) else none
set_option maxRecDepth 100000 in
set_option maxHeartbeats 4000000 in
theorem E_X8_fromBoth_13 (fu : Nat) (n : Nat) (a0 : Nat) (a1 : Int32) (a2 : Int32) (a3 : Int32) (a4 : Int32) (w : XW) : (F_X8_fromBoth fu (n + 1)).1 a0 a1 a2 a3 a4 w = ev T_X8_fromBoth (op_X8_fromBoth fu) [13, 67] (K_X8_fromBoth fu n) 71 13 [(0, .ref a0), (1, .int a1), (2, .int a2), (3, .int a3), (4, .int a4)] [] w := by
  rfl
set_option maxRecDepth 100000 in
set_option maxHeartbeats 4000000 in
theorem E_X8_fromBoth_67 (fu : Nat) (n : Nat) (a0 : Nat) (a2 : Int32) (a3 : Int32) (a4 : Int32) (w : XW) : (F_X8_fromBoth fu (n + 1)).2 a0 a2 a3 a4 w = ev T_X8_fromBoth (op_X8_fromBoth fu) [13, 67] (K_X8_fromBoth fu n) 71 67 [(0, .ref a0), (2, .int a2), (3, .int a3), (4, .int a4)] [] w := by
  rfl
set_option maxRecDepth 100000 in
set_option maxHeartbeats 4000000 in
theorem E_X8_fromBoth (fu : Nat) (a0 : Nat) (a1 : Int32) (w : XW) : M_X8_fromBoth fu a0 a1 w = ev T_X8_fromBoth (op_X8_fromBoth fu) [13, 67] (K_X8_fromBoth fu fu) 71 0 (lv_args 0 [.ref a0, .int a1]) [] w := by
  rfl
theorem D_X8_fromBoth (fu : Nat) : DS T_X8_fromBoth (op_X8_fromBoth fu) [13, 67] 71 (K_X8_fromBoth fu) := by
  refine ⟨fun pc ls st w => c_none (b_none fun _ => b_none fun _ => b_none fun _ => b_none fun _ => b_none fun _ => skN_none rfl) (c_none (b_none fun _ => b_none fun _ => b_none fun _ => b_none fun _ => skN_none rfl) (rfl)), fun n pc ls st w o h => ?_⟩
  rcases c_some h with ⟨rfl, h⟩ | h
  · obtain ⟨a0, h0, h⟩ := some_of h; obtain ⟨a1, h1, h⟩ := some_of h; obtain ⟨a2, h2, h⟩ := some_of h; obtain ⟨a3, h3, h⟩ := some_of h; obtain ⟨a4, h4, h⟩ := some_of h;
    obtain ⟨e, g⟩ := skN_of h
    subst e
    exact ⟨[(0, .ref a0), (1, .int a1), (2, .int a2), (3, .int a3), (4, .int a4)], cons_all (xr_of h0) (cons_all (xi_of h1) (cons_all (xi_of h2) (cons_all (xi_of h3) (cons_all (xi_of h4) (nil_all))))), (E_X8_fromBoth_13 fu n a0 a1 a2 a3 a4 w).symm.trans g⟩
  rcases c_some h with ⟨rfl, h⟩ | h
  · obtain ⟨a0, h0, h⟩ := some_of h; obtain ⟨a2, h2, h⟩ := some_of h; obtain ⟨a3, h3, h⟩ := some_of h; obtain ⟨a4, h4, h⟩ := some_of h;
    obtain ⟨e, g⟩ := skN_of h
    subst e
    exact ⟨[(0, .ref a0), (2, .int a2), (3, .int a3), (4, .int a4)], cons_all (xr_of h0) (cons_all (xi_of h2) (cons_all (xi_of h3) (cons_all (xi_of h4) (nil_all)))), (E_X8_fromBoth_67 fu n a0 a2 a3 a4 w).symm.trans g⟩
  · cases h
theorem H_X8_fromBoth (fu : Nat) : ∀ as w o, U_X8_fromBoth fu as w = some o → ∃ a r, as = .ref a :: r ∧ r.length = 1 ∧ isO w a 7 = true := by
  intro as w o h
  unfold U_X8_fromBoth at h
  split at h
  next =>
    split at h
    next hh => exact ⟨_, _, rfl, rfl, hh⟩
    next => cases h
  next => cases h
set_option maxRecDepth 100000 in
set_option maxHeartbeats 4000000 in
theorem S_X8_fromBoth (fu : Nat) {l : Launch} {D : va_G} {cA : Nat → ClassId} {base b : Nat} : CS l D cA base b 5 y_X8_fromBoth prog_10_method_40_code 5 (some .int) (U_X8_fromBoth fu) ∧ OM (U_X8_fromBoth fu) := by
  refine CS_of (d := 4) (y := y_X8_fromBoth) (cc := prog_10_method_40_code) (nL := 5) (ret := (some .int)) (F := U_X8_fromBoth fu) (fl := fl_BrookStonesModel) (nl := []) (kl := kl_BrookStonesModel) (k2 := k2_BrookStonesModel) (mv := [(177, 3, 0, (U_X8_layFar fu))]) (ms := [(191, 2, 1, (U_X8_has fu))]) (mi := []) (ini := false) hI_w hZ_w fl_BrookStonesModel_ok nil_all kl_BrookStonesModel_ok k2_BrookStonesModel_ok
    (cons_all (⟨⟨show (0 : Nat) ≠ 3 by decide, y_X8_layFar, prog_10_method_34_code, 6, (none), 4, "BrookStones", 7, TX8, 37, 2, (S_X8_layFar fu (l := l) (D := D) (cA := cA) (base := base) (b := b)).1, by decide, by decide, rfl, H_X8_layFar fu, rfl, mi_X8_layFar.1, mi_X8_layFar.2.1, mi_X8_layFar.2.2.1, mi_X8_layFar.2.2.2.1, mi_X8_layFar.2.2.2.2, Or.inl (tblG_of (i := 963) rfl rfl)⟩, (S_X8_layFar fu (l := l) (D := D) (cA := cA) (base := base) (b := b)).2⟩) (nil_all))
    (cons_all (⟨Or.inl ⟨show (1 : Nat) ≠ 3 by decide, y_X8_has, prog_10_method_6_code, 2, (some .boolean), 1, "BrookStones", (S_X8_has fu (l := l) (D := D) (cA := cA) (base := base) (b := b)).1, by decide, by decide, mi_X8_has.1, mi_X8_has.2.1, mi_X8_has.2.2.1, mi_X8_has.2.2.2, Or.inl (tblG_of (i := 1000) rfl rfl)⟩, (S_X8_has fu (l := l) (D := D) (cA := cA) (base := base) (b := b)).2⟩) (nil_all))
    (nil_all)
    (T := T_X8_fromBoth) (by decide +kernel) (cut := [13, 67]) (N := 71) (D_X8_fromBoth fu) (by decide +kernel) (fun h => absurd h (by decide)) (fun as w o h => ?_)
  unfold U_X8_fromBoth at h
  split at h
  next =>
    split at h
    next => exact ⟨Nat.le_of_ble_eq_true rfl, fu, (E_X8_fromBoth fu _ _ w).symm.trans h⟩
    next => cases h
  next => cases h
def T_X8_pass : List (Nat × Instr) := [(0, .aload_n 0), (1, .iload_n 1), (2, .invokevirtual 158), (5, .ifCond .eq 11), (8, .aload_n 0), (9, .iload_n 2), (10, .invokevirtual 158), (13, .ifCond .ne 5), (16, .iconst (-1)), (17, .ireturn), (18, .aload_n 0), (19, .invokevirtual 181), (22, .aload_n 0), (23, .aload_n 0), (24, .getfield 53), (27, .iload_n 1), (28, .iaload), (29, .invokevirtual 194), (32, .aload_n 0), (33, .aload_n 0), (34, .getfield 53), (37, .iload_n 2), (38, .iaload), (39, .invokevirtual 194), (42, .iand), (43, .istore_n 3), (44, .iconst 0), (45, .istore 4), (47, .iconst 0), (48, .istore 5), (50, .iload 5), (52, .aload_n 0), (53, .getfield 93), (56, .if_icmp .ge 46), (59, .iload 4), (61, .iload_n 3), (62, .iload 5), (64, .invokestatic 191), (67, .ifCond .eq 25), (70, .aload_n 0), (71, .getfield 38), (74, .aload_n 0), (75, .getfield 56), (78, .iload 5), (80, .iaload), (81, .iaload), (82, .ifCond .le 10), (85, .iconst 1), (86, .iload 5), (88, .ishl), (89, .goto 4), (92, .iconst 0), (93, .ior), (94, .istore 4), (96, .iinc 5 1), (99, .goto (-49)), (102, .iload 4), (104, .ireturn)]
def op_X8_pass (fu : Nat) : Nat → Kont → XL → List Value → XW → Instr → Option XO := opK 6 (rzOf (some .int)) fl_BrookStonesModel [] kl_BrookStonesModel k2_BrookStonesModel [(158, 2, 1, (U_X8_isWalker fu)), (181, 1, 0, (U_X8_layNow fu)), (194, 2, 1, (U_X8_fromBoth fu))] [(191, 2, 1, (U_X8_has fu))] []
def F_X8_pass (fu : Nat) : Nat → (Nat → Int32 → Int32 → Int32 → XW → Option XO)
  | 0 => fun _ _ _ _ _ => none
  | n + 1 => (fun a0 a3 a4 a5 w =>
    (gI w a0 7 5).bind fun x1 =>
    (if a5 < x1 then
      cI (U_X8_has fu [.int a3, .int a5] w) fun x3 w2 =>
      (if x3 = 0 then
        (F_X8_pass fu n) a0 a3 (a4 ||| (0 : Int32)) (a5 + (1 : Int32)) w2
      else
        (gR w2 a0 7 18).bind fun r4 =>
        (gR w2 a0 7 25).bind fun r5 =>
        (aI w2 r5 a5).bind fun x6 =>
        (aI w2 r4 x6).bind fun x7 =>
        (if 0 < x7 then
          (F_X8_pass fu n) a0 a3 (a4 ||| ((1 : Int32) <<< (a5 &&& 31))) (a5 + (1 : Int32)) w2
        else
          (F_X8_pass fu n) a0 a3 (a4 ||| (0 : Int32)) (a5 + (1 : Int32)) w2))
    else
      some (some (.int a4), w)))
def M_X8_pass (fu : Nat) (a0 : Nat) (a1 : Int32) (a2 : Int32) (w : XW) : Option XO :=
  cI (U_X8_isWalker fu [.ref a0, .int a1] w) fun x9 w8 =>
  (if x9 = 0 then
    some (some (.int (-1 : Int32)), w8)
  else
    cI (U_X8_isWalker fu [.ref a0, .int a2] w8) fun x11 w10 =>
    (if x11 = 0 then
      some (some (.int (-1 : Int32)), w10)
    else
      cV (U_X8_layNow fu [.ref a0] w10) fun w12 =>
      (gR w12 a0 7 24).bind fun r13 =>
      (aI w12 r13 a1).bind fun x14 =>
      cI (U_X8_fromBoth fu [.ref a0, .int x14] w12) fun x16 w15 =>
      (gR w15 a0 7 24).bind fun r17 =>
      (aI w15 r17 a2).bind fun x18 =>
      cI (U_X8_fromBoth fu [.ref a0, .int x18] w15) fun x20 w19 =>
      (F_X8_pass fu fu) a0 (x16 &&& x20) (0 : Int32) (0 : Int32) w19))
def U_X8_pass (fu : Nat) : Orc := fun as w => match as with
  | [.ref a0, .int a1, .int a2] => if isO w a0 7 = true then M_X8_pass fu a0 a1 a2 w else none
  | _ => none
def K_X8_pass (fu : Nat) (n : Nat) : Kont := fun pc ls st w => bif pc == 50 then ((xr ls 0).bind fun a0 => (xi ls 3).bind fun a3 => (xi ls 4).bind fun a4 => (xi ls 5).bind fun a5 => skN st ((F_X8_pass fu n) a0 a3 a4 a5 w)) else none
set_option maxRecDepth 100000 in
set_option maxHeartbeats 4000000 in
theorem E_X8_pass_50 (fu : Nat) (n : Nat) (a0 : Nat) (a3 : Int32) (a4 : Int32) (a5 : Int32) (w : XW) : (F_X8_pass fu (n + 1)) a0 a3 a4 a5 w = ev T_X8_pass (op_X8_pass fu) [50] (K_X8_pass fu n) 60 50 [(0, .ref a0), (3, .int a3), (4, .int a4), (5, .int a5)] [] w := by
  rfl
set_option maxRecDepth 100000 in
set_option maxHeartbeats 4000000 in
theorem E_X8_pass (fu : Nat) (a0 : Nat) (a1 : Int32) (a2 : Int32) (w : XW) : M_X8_pass fu a0 a1 a2 w = ev T_X8_pass (op_X8_pass fu) [50] (K_X8_pass fu fu) 60 0 (lv_args 0 [.ref a0, .int a1, .int a2]) [] w := by
  rfl
theorem D_X8_pass (fu : Nat) : DS T_X8_pass (op_X8_pass fu) [50] 60 (K_X8_pass fu) := by
  refine ⟨fun pc ls st w => c_none (b_none fun _ => b_none fun _ => b_none fun _ => b_none fun _ => skN_none rfl) (rfl), fun n pc ls st w o h => ?_⟩
  rcases c_some h with ⟨rfl, h⟩ | h
  · obtain ⟨a0, h0, h⟩ := some_of h; obtain ⟨a3, h3, h⟩ := some_of h; obtain ⟨a4, h4, h⟩ := some_of h; obtain ⟨a5, h5, h⟩ := some_of h;
    obtain ⟨e, g⟩ := skN_of h
    subst e
    exact ⟨[(0, .ref a0), (3, .int a3), (4, .int a4), (5, .int a5)], cons_all (xr_of h0) (cons_all (xi_of h3) (cons_all (xi_of h4) (cons_all (xi_of h5) (nil_all)))), (E_X8_pass_50 fu n a0 a3 a4 a5 w).symm.trans g⟩
  · cases h
theorem H_X8_pass (fu : Nat) : ∀ as w o, U_X8_pass fu as w = some o → ∃ a r, as = .ref a :: r ∧ r.length = 2 ∧ isO w a 7 = true := by
  intro as w o h
  unfold U_X8_pass at h
  split at h
  next =>
    split at h
    next hh => exact ⟨_, _, rfl, rfl, hh⟩
    next => cases h
  next => cases h
set_option maxRecDepth 100000 in
set_option maxHeartbeats 4000000 in
theorem S_X8_pass (fu : Nat) {l : Launch} {D : va_G} {cA : Nat → ClassId} {base b : Nat} : CS l D cA base b 6 y_X8_pass prog_10_method_41_code 6 (some .int) (U_X8_pass fu) ∧ OM (U_X8_pass fu) := by
  refine CS_of (d := 5) (y := y_X8_pass) (cc := prog_10_method_41_code) (nL := 6) (ret := (some .int)) (F := U_X8_pass fu) (fl := fl_BrookStonesModel) (nl := []) (kl := kl_BrookStonesModel) (k2 := k2_BrookStonesModel) (mv := [(158, 2, 1, (U_X8_isWalker fu)), (181, 1, 0, (U_X8_layNow fu)), (194, 2, 1, (U_X8_fromBoth fu))]) (ms := [(191, 2, 1, (U_X8_has fu))]) (mi := []) (ini := false) hI_w hZ_w fl_BrookStonesModel_ok nil_all kl_BrookStonesModel_ok k2_BrookStonesModel_ok
    (cons_all (⟨⟨show (1 : Nat) ≠ 3 by decide, y_X8_isWalker, prog_10_method_26_code, 2, (some .boolean), 1, "BrookStones", 7, TX8, 37, 1, (S_X8_isWalker fu (l := l) (D := D) (cA := cA) (base := base) (b := b)).1, by decide, by decide, rfl, H_X8_isWalker fu, rfl, mi_X8_isWalker.1, mi_X8_isWalker.2.1, mi_X8_isWalker.2.2.1, mi_X8_isWalker.2.2.2.1, mi_X8_isWalker.2.2.2.2, Or.inl (tblG_of (i := 943) rfl rfl)⟩, (S_X8_isWalker fu (l := l) (D := D) (cA := cA) (base := base) (b := b)).2⟩) (cons_all (⟨⟨show (0 : Nat) ≠ 3 by decide, y_X8_layNow, prog_10_method_29_code, 2, (none), 1, "BrookStones", 7, TX8, 37, 0, (S_X8_layNow fu (l := l) (D := D) (cA := cA) (base := base) (b := b)).1, by decide, by decide, rfl, H_X8_layNow fu, rfl, mi_X8_layNow.1, mi_X8_layNow.2.1, mi_X8_layNow.2.2.1, mi_X8_layNow.2.2.2.1, mi_X8_layNow.2.2.2.2, Or.inl (tblG_of (i := 951) rfl rfl)⟩, (S_X8_layNow fu (l := l) (D := D) (cA := cA) (base := base) (b := b)).2⟩) (cons_all (⟨⟨show (1 : Nat) ≠ 3 by decide, y_X8_fromBoth, prog_10_method_40_code, 5, (some .int), 5, "BrookStones", 7, TX8, 37, 1, (S_X8_fromBoth fu (l := l) (D := D) (cA := cA) (base := base) (b := b)).1, by decide, by decide, rfl, H_X8_fromBoth fu, rfl, mi_X8_fromBoth.1, mi_X8_fromBoth.2.1, mi_X8_fromBoth.2.2.1, mi_X8_fromBoth.2.2.2.1, mi_X8_fromBoth.2.2.2.2, Or.inl (tblG_of (i := 996) rfl rfl)⟩, (S_X8_fromBoth fu (l := l) (D := D) (cA := cA) (base := base) (b := b)).2⟩) (nil_all))))
    (cons_all (⟨Or.inl ⟨show (1 : Nat) ≠ 3 by decide, y_X8_has, prog_10_method_6_code, 2, (some .boolean), 1, "BrookStones", (S_X8_has fu (l := l) (D := D) (cA := cA) (base := base) (b := b)).1, by decide, by decide, mi_X8_has.1, mi_X8_has.2.1, mi_X8_has.2.2.1, mi_X8_has.2.2.2, Or.inl (tblG_of (i := 1000) rfl rfl)⟩, (S_X8_has fu (l := l) (D := D) (cA := cA) (base := base) (b := b)).2⟩) (nil_all))
    (nil_all)
    (T := T_X8_pass) (by decide +kernel) (cut := [50]) (N := 60) (D_X8_pass fu) (by decide +kernel) (fun h => absurd h (by decide)) (fun as w o h => ?_)
  unfold U_X8_pass at h
  split at h
  next =>
    split at h
    next => exact ⟨Nat.le_of_ble_eq_true rfl, fu, (E_X8_pass fu _ _ _ w).symm.trans h⟩
    next => cases h
  next => cases h
def T_X4_areWithin : List (Nat × Instr) := [(0, .iload_n 2), (1, .istore 5), (3, .iload 5), (5, .iload_n 2), (6, .iload_n 3), (7, .iadd), (8, .if_icmp .ge 27), (11, .aload_n 0), (12, .iload_n 1), (13, .iload 5), (15, .invokevirtual 51), (18, .iconst 0), (19, .iload 4), (21, .invokestatic 27), (24, .ifCond .ne 5), (27, .iconst 0), (28, .ireturn), (29, .iinc 5 1), (32, .goto (-29)), (35, .iconst 1), (36, .ireturn)]
def op_X4_areWithin (fu : Nat) : Nat → Kont → XL → List Value → XW → Instr → Option XO := opK 6 (rzOf (some .boolean)) fl_BrookStones_Sheets [] [] [] [(51, 3, 1, (U_X4_at fu))] [(27, 3, 1, (U_X7_isWithin fu))] []
def F_X4_areWithin (fu : Nat) : Nat → (Nat → Int32 → Int32 → Int32 → Int32 → Int32 → XW → Option XO)
  | 0 => fun _ _ _ _ _ _ _ => none
  | n + 1 => (fun a0 a1 a2 a3 a4 a5 w =>
    (if a5 < (a2 + a3) then
      cI (U_X4_at fu [.ref a0, .int a1, .int a5] w) fun x2 w1 =>
      cI (U_X7_isWithin fu [.int x2, .int (0 : Int32), .int a4] w1) fun x4 w3 =>
      (if x4 = 0 then
        retZ (0 : Int32) w3
      else
        (F_X4_areWithin fu n) a0 a1 a2 a3 a4 (a5 + (1 : Int32)) w3)
    else
      retZ (1 : Int32) w))
def M_X4_areWithin (fu : Nat) (a0 : Nat) (a1 : Int32) (a2 : Int32) (a3 : Int32) (a4 : Int32) (w : XW) : Option XO :=
  (F_X4_areWithin fu fu) a0 a1 a2 a3 a4 a2 w
def U_X4_areWithin (fu : Nat) : Orc := fun as w => match as with
  | [.ref a0, .int a1, .int a2, .int a3, .int a4] => if isO w a0 4 = true then M_X4_areWithin fu a0 a1 a2 a3 a4 w else none
  | _ => none
def K_X4_areWithin (fu : Nat) (n : Nat) : Kont := fun pc ls st w => bif pc == 3 then ((xr ls 0).bind fun a0 => (xi ls 1).bind fun a1 => (xi ls 2).bind fun a2 => (xi ls 3).bind fun a3 => (xi ls 4).bind fun a4 => (xi ls 5).bind fun a5 => skN st ((F_X4_areWithin fu n) a0 a1 a2 a3 a4 a5 w)) else none
set_option maxRecDepth 100000 in
set_option maxHeartbeats 4000000 in
theorem E_X4_areWithin_3 (fu : Nat) (n : Nat) (a0 : Nat) (a1 : Int32) (a2 : Int32) (a3 : Int32) (a4 : Int32) (a5 : Int32) (w : XW) : (F_X4_areWithin fu (n + 1)) a0 a1 a2 a3 a4 a5 w = ev T_X4_areWithin (op_X4_areWithin fu) [3] (K_X4_areWithin fu n) 23 3 [(0, .ref a0), (1, .int a1), (2, .int a2), (3, .int a3), (4, .int a4), (5, .int a5)] [] w := by
  rfl
set_option maxRecDepth 100000 in
set_option maxHeartbeats 4000000 in
theorem E_X4_areWithin (fu : Nat) (a0 : Nat) (a1 : Int32) (a2 : Int32) (a3 : Int32) (a4 : Int32) (w : XW) : M_X4_areWithin fu a0 a1 a2 a3 a4 w = ev T_X4_areWithin (op_X4_areWithin fu) [3] (K_X4_areWithin fu fu) 23 0 (lv_args 0 [.ref a0, .int a1, .int a2, .int a3, .int a4]) [] w := by
  rfl
theorem D_X4_areWithin (fu : Nat) : DS T_X4_areWithin (op_X4_areWithin fu) [3] 23 (K_X4_areWithin fu) := by
  refine ⟨fun pc ls st w => c_none (b_none fun _ => b_none fun _ => b_none fun _ => b_none fun _ => b_none fun _ => b_none fun _ => skN_none rfl) (rfl), fun n pc ls st w o h => ?_⟩
  rcases c_some h with ⟨rfl, h⟩ | h
  · obtain ⟨a0, h0, h⟩ := some_of h; obtain ⟨a1, h1, h⟩ := some_of h; obtain ⟨a2, h2, h⟩ := some_of h; obtain ⟨a3, h3, h⟩ := some_of h; obtain ⟨a4, h4, h⟩ := some_of h; obtain ⟨a5, h5, h⟩ := some_of h;
    obtain ⟨e, g⟩ := skN_of h
    subst e
    exact ⟨[(0, .ref a0), (1, .int a1), (2, .int a2), (3, .int a3), (4, .int a4), (5, .int a5)], cons_all (xr_of h0) (cons_all (xi_of h1) (cons_all (xi_of h2) (cons_all (xi_of h3) (cons_all (xi_of h4) (cons_all (xi_of h5) (nil_all)))))), (E_X4_areWithin_3 fu n a0 a1 a2 a3 a4 a5 w).symm.trans g⟩
  · cases h
theorem H_X4_areWithin (fu : Nat) : ∀ as w o, U_X4_areWithin fu as w = some o → ∃ a r, as = .ref a :: r ∧ r.length = 4 ∧ isO w a 4 = true := by
  intro as w o h
  unfold U_X4_areWithin at h
  split at h
  next =>
    split at h
    next hh => exact ⟨_, _, rfl, rfl, hh⟩
    next => cases h
  next => cases h
set_option maxRecDepth 100000 in
set_option maxHeartbeats 4000000 in
theorem S_X4_areWithin (fu : Nat) {l : Launch} {D : va_G} {cA : Nat → ClassId} {base b : Nat} : CS l D cA base b 2 y_X4_areWithin prog_6_method_13_code 6 (some .boolean) (U_X4_areWithin fu) ∧ OM (U_X4_areWithin fu) := by
  refine CS_of (d := 1) (y := y_X4_areWithin) (cc := prog_6_method_13_code) (nL := 6) (ret := (some .boolean)) (F := U_X4_areWithin fu) (fl := fl_BrookStones_Sheets) (nl := []) (kl := []) (k2 := []) (mv := [(51, 3, 1, (U_X4_at fu))]) (ms := [(27, 3, 1, (U_X7_isWithin fu))]) (mi := []) (ini := false) hI_w hZ_w fl_BrookStones_Sheets_ok nil_all nil_all nil_all
    (cons_all (⟨⟨show (1 : Nat) ≠ 3 by decide, y_X4_at, prog_6_method_7_code, 3, (some .int), 1, "BrookStones", 4, TX4, 3, 2, (S_X4_at fu (l := l) (D := D) (cA := cA) (base := base) (b := b)).1, by decide, by decide, rfl, H_X4_at fu, rfl, mi_X4_at.1, mi_X4_at.2.1, mi_X4_at.2.2.1, mi_X4_at.2.2.2.1, mi_X4_at.2.2.2.2, Or.inl (tblG_of (i := 466) rfl rfl)⟩, (S_X4_at fu (l := l) (D := D) (cA := cA) (base := base) (b := b)).2⟩) (nil_all))
    (cons_all (⟨Or.inl ⟨show (1 : Nat) ≠ 3 by decide, y_X7_isWithin, prog_1_method_46_code, 3, (some .boolean), 1, "BrookStones", (S_X7_isWithin fu (l := l) (D := D) (cA := cA) (base := base) (b := b)).1, by decide, by decide, mi_X7_isWithin.1, mi_X7_isWithin.2.1, mi_X7_isWithin.2.2.1, mi_X7_isWithin.2.2.2, Or.inr (tblN_of (i := 255) rfl rfl)⟩, (S_X7_isWithin fu (l := l) (D := D) (cA := cA) (base := base) (b := b)).2⟩) (nil_all))
    (nil_all)
    (T := T_X4_areWithin) (by decide +kernel) (cut := [3]) (N := 23) (D_X4_areWithin fu) (by decide +kernel) (fun h => absurd h (by decide)) (fun as w o h => ?_)
  unfold U_X4_areWithin at h
  split at h
  next =>
    split at h
    next => exact ⟨Nat.le_of_ble_eq_true rfl, fu, (E_X4_areWithin fu _ _ _ _ _ w).symm.trans h⟩
    next => cases h
  next => cases h
def T_X7_days : List (Nat × Instr) := [(0, .aload_n 0), (1, .iconst 0), (2, .putfield 53), (5, .aload_n 0), (6, .getfield 12), (9, .iload_n 1), (10, .invokevirtual 158), (13, .ifCond .ne 5), (16, .iconst (-1)), (17, .ireturn), (18, .aload_n 0), (19, .iload_n 2), (20, .iload_n 3), (21, .iload 4), (23, .iload 5), (25, .invokevirtual 57), (28, .istore 6), (30, .iload 6), (32, .ifCond .eq 6), (35, .iload 6), (37, .ireturn), (38, .aload_n 0), (39, .getfield 21), (42, .iload_n 2), (43, .iload 4), (45, .iload 5), (47, .bipush 9), (49, .invokevirtual 193), (52, .ifCond .ne 6), (55, .bipush (-2)), (57, .ireturn), (58, .iconst 0), (59, .istore 7), (61, .iconst 0), (62, .istore 8), (64, .iload 8), (66, .iload 5), (68, .if_icmp .ge 55), (71, .aload_n 0), (72, .getfield 21), (75, .iload_n 2), (76, .iload 4), (78, .iload 8), (80, .iadd), (81, .invokevirtual 197), (84, .istore 9), (86, .aload_n 0), (87, .getfield 12), (90, .aload_n 0), (91, .getfield 12), (94, .invokevirtual 164), (97, .iload 9), (99, .aload_n 0), (100, .getfield 12), (103, .iload_n 1), (104, .iconst 0), (105, .invokevirtual 168), (108, .invokevirtual 172), (111, .ifCond .eq 6), (114, .iinc 7 1), (117, .iinc 8 1), (120, .goto (-56)), (123, .iload 7), (125, .ireturn)]
def op_X7_days (fu : Nat) : Nat → Kont → XL → List Value → XW → Instr → Option XO := opK 10 (rzOf (some .int)) fl_BrookStones nl_BrookStones [] k2_BrookStones [(158, 2, 1, (U_X0_isWalker fu)), (57, 5, 1, (U_X7_refusalOfCells fu)), (193, 5, 1, (U_X4_areWithin fu)), (197, 3, 1, (U_X4_at fu)), (164, 1, 1, (U_X0_filled fu)), (168, 3, 1, (U_X0_reachOf fu)), (172, 4, 1, (U_X0_isCrossed fu))] [] []
def F_X7_days (fu : Nat) : Nat → (Nat → Int32 → Int32 → Int32 → Int32 → Int32 → Int32 → XW → Option XO)
  | 0 => fun _ _ _ _ _ _ _ _ => none
  | n + 1 => (fun a0 a1 a2 a4 a5 a7 a8 w =>
    (if a8 < a5 then
      (gR w a0 6 1).bind fun r1 =>
      cI (U_X4_at fu [.ref r1, .int a2, .int (a4 + a8)] w) fun x3 w2 =>
      (gR w2 a0 6 0).bind fun r4 =>
      (gR w2 a0 6 0).bind fun r5 =>
      cI (U_X0_filled fu [.ref r5] w2) fun x7 w6 =>
      (gR w6 a0 6 0).bind fun r8 =>
      cI (U_X0_reachOf fu [.ref r8, .int a1, .int (0 : Int32)] w6) fun x10 w9 =>
      cI (U_X0_isCrossed fu [.ref r4, .int x7, .int x3, .int x10] w9) fun x12 w11 =>
      (if x12 = 0 then
        (F_X7_days fu n) a0 a1 a2 a4 a5 a7 (a8 + (1 : Int32)) w11
      else
        (F_X7_days fu n) a0 a1 a2 a4 a5 (a7 + (1 : Int32)) (a8 + (1 : Int32)) w11)
    else
      some (some (.int a7), w)))
def M_X7_days (fu : Nat) (a0 : Nat) (a1 : Int32) (a2 : Int32) (a3 : Int32) (a4 : Int32) (a5 : Int32) (w : XW) : Option XO :=
  (pF w a0 6 7 (.int (0 : Int32))).bind fun w13 =>
  (gR w13 a0 6 0).bind fun r14 =>
  cI (U_X0_isWalker fu [.ref r14, .int a1] w13) fun x16 w15 =>
  (if x16 = 0 then
    some (some (.int (-1 : Int32)), w15)
  else
    cI (U_X7_refusalOfCells fu [.ref a0, .int a2, .int a3, .int a4, .int a5] w15) fun x18 w17 =>
    (if x18 = 0 then
      (gR w17 a0 6 1).bind fun r19 =>
      cI (U_X4_areWithin fu [.ref r19, .int a2, .int a4, .int a5, .int (9 : Int32)] w17) fun x21 w20 =>
      (if x21 = 0 then
        some (some (.int (-2 : Int32)), w20)
      else
        (F_X7_days fu fu) a0 a1 a2 a4 a5 (0 : Int32) (0 : Int32) w20)
    else
      some (some (.int x18), w17)))
def U_X7_days (fu : Nat) : Orc := fun as w => match as with
  | [.ref a0, .int a1, .int a2, .int a3, .int a4, .int a5] => if isO w a0 6 = true then M_X7_days fu a0 a1 a2 a3 a4 a5 w else none
  | _ => none
def K_X7_days (fu : Nat) (n : Nat) : Kont := fun pc ls st w => bif pc == 64 then ((xr ls 0).bind fun a0 => (xi ls 1).bind fun a1 => (xi ls 2).bind fun a2 => (xi ls 4).bind fun a4 => (xi ls 5).bind fun a5 => (xi ls 7).bind fun a7 => (xi ls 8).bind fun a8 => skN st ((F_X7_days fu n) a0 a1 a2 a4 a5 a7 a8 w)) else none
set_option maxRecDepth 100000 in
set_option maxHeartbeats 4000000 in
theorem E_X7_days_64 (fu : Nat) (n : Nat) (a0 : Nat) (a1 : Int32) (a2 : Int32) (a4 : Int32) (a5 : Int32) (a7 : Int32) (a8 : Int32) (w : XW) : (F_X7_days fu (n + 1)) a0 a1 a2 a4 a5 a7 a8 w = ev T_X7_days (op_X7_days fu) [64] (K_X7_days fu n) 66 64 [(0, .ref a0), (1, .int a1), (2, .int a2), (4, .int a4), (5, .int a5), (7, .int a7), (8, .int a8)] [] w := by
  rfl
set_option maxRecDepth 100000 in
set_option maxHeartbeats 4000000 in
theorem E_X7_days (fu : Nat) (a0 : Nat) (a1 : Int32) (a2 : Int32) (a3 : Int32) (a4 : Int32) (a5 : Int32) (w : XW) : M_X7_days fu a0 a1 a2 a3 a4 a5 w = ev T_X7_days (op_X7_days fu) [64] (K_X7_days fu fu) 66 0 (lv_args 0 [.ref a0, .int a1, .int a2, .int a3, .int a4, .int a5]) [] w := by
  rfl
theorem D_X7_days (fu : Nat) : DS T_X7_days (op_X7_days fu) [64] 66 (K_X7_days fu) := by
  refine ⟨fun pc ls st w => c_none (b_none fun _ => b_none fun _ => b_none fun _ => b_none fun _ => b_none fun _ => b_none fun _ => b_none fun _ => skN_none rfl) (rfl), fun n pc ls st w o h => ?_⟩
  rcases c_some h with ⟨rfl, h⟩ | h
  · obtain ⟨a0, h0, h⟩ := some_of h; obtain ⟨a1, h1, h⟩ := some_of h; obtain ⟨a2, h2, h⟩ := some_of h; obtain ⟨a4, h4, h⟩ := some_of h; obtain ⟨a5, h5, h⟩ := some_of h; obtain ⟨a7, h7, h⟩ := some_of h; obtain ⟨a8, h8, h⟩ := some_of h;
    obtain ⟨e, g⟩ := skN_of h
    subst e
    exact ⟨[(0, .ref a0), (1, .int a1), (2, .int a2), (4, .int a4), (5, .int a5), (7, .int a7), (8, .int a8)], cons_all (xr_of h0) (cons_all (xi_of h1) (cons_all (xi_of h2) (cons_all (xi_of h4) (cons_all (xi_of h5) (cons_all (xi_of h7) (cons_all (xi_of h8) (nil_all))))))), (E_X7_days_64 fu n a0 a1 a2 a4 a5 a7 a8 w).symm.trans g⟩
  · cases h
theorem H_X7_days (fu : Nat) : ∀ as w o, U_X7_days fu as w = some o → ∃ a r, as = .ref a :: r ∧ r.length = 5 ∧ isO w a 6 = true := by
  intro as w o h
  unfold U_X7_days at h
  split at h
  next =>
    split at h
    next hh => exact ⟨_, _, rfl, rfl, hh⟩
    next => cases h
  next => cases h
set_option maxRecDepth 100000 in
set_option maxHeartbeats 4000000 in
theorem S_X7_days (fu : Nat) {l : Launch} {D : va_G} {cA : Nat → ClassId} {base b : Nat} : CS l D cA base b 4 y_X7_days prog_1_method_16_code 10 (some .int) (U_X7_days fu) ∧ OM (U_X7_days fu) := by
  refine CS_of (d := 3) (y := y_X7_days) (cc := prog_1_method_16_code) (nL := 10) (ret := (some .int)) (F := U_X7_days fu) (fl := fl_BrookStones) (nl := nl_BrookStones) (kl := []) (k2 := k2_BrookStones) (mv := [(158, 2, 1, (U_X0_isWalker fu)), (57, 5, 1, (U_X7_refusalOfCells fu)), (193, 5, 1, (U_X4_areWithin fu)), (197, 3, 1, (U_X4_at fu)), (164, 1, 1, (U_X0_filled fu)), (168, 3, 1, (U_X0_reachOf fu)), (172, 4, 1, (U_X0_isCrossed fu))]) (ms := []) (mi := []) (ini := false) hI_w hZ_w fl_BrookStones_ok nl_BrookStones_ok nil_all k2_BrookStones_ok
    (cons_all (⟨⟨show (1 : Nat) ≠ 3 by decide, y_X0_isWalker, prog_2_method_6_code, 2, (some .boolean), 1, "BrookStones", 0, TX0, 15, 1, (S_X0_isWalker fu (l := l) (D := D) (cA := cA) (base := base) (b := b)).1, by decide, by decide, rfl, H_X0_isWalker fu, rfl, mi_X0_isWalker.1, mi_X0_isWalker.2.1, mi_X0_isWalker.2.2.1, mi_X0_isWalker.2.2.2.1, mi_X0_isWalker.2.2.2.2, Or.inr (tblN_of (i := 391) rfl rfl)⟩, (S_X0_isWalker fu (l := l) (D := D) (cA := cA) (base := base) (b := b)).2⟩) (cons_all (⟨⟨show (1 : Nat) ≠ 3 by decide, y_X7_refusalOfCells, prog_1_method_39_code, 6, (some .int), 3, "BrookStones", 6, TX7, 8, 4, (S_X7_refusalOfCells fu (l := l) (D := D) (cA := cA) (base := base) (b := b)).1, by decide, by decide, rfl, H_X7_refusalOfCells fu, rfl, mi_X7_refusalOfCells.1, mi_X7_refusalOfCells.2.1, mi_X7_refusalOfCells.2.2.1, mi_X7_refusalOfCells.2.2.2.1, mi_X7_refusalOfCells.2.2.2.2, Or.inl (tblG_of (i := 248) rfl rfl)⟩, (S_X7_refusalOfCells fu (l := l) (D := D) (cA := cA) (base := base) (b := b)).2⟩) (cons_all (⟨⟨show (1 : Nat) ≠ 3 by decide, y_X4_areWithin, prog_6_method_13_code, 6, (some .boolean), 2, "BrookStones", 4, TX4, 3, 4, (S_X4_areWithin fu (l := l) (D := D) (cA := cA) (base := base) (b := b)).1, by decide, by decide, rfl, H_X4_areWithin fu, rfl, mi_X4_areWithin.1, mi_X4_areWithin.2.1, mi_X4_areWithin.2.2.1, mi_X4_areWithin.2.2.2.1, mi_X4_areWithin.2.2.2.2, Or.inr (tblN_of (i := 462) rfl rfl)⟩, (S_X4_areWithin fu (l := l) (D := D) (cA := cA) (base := base) (b := b)).2⟩) (cons_all (⟨⟨show (1 : Nat) ≠ 3 by decide, y_X4_at, prog_6_method_7_code, 3, (some .int), 1, "BrookStones", 4, TX4, 3, 2, (S_X4_at fu (l := l) (D := D) (cA := cA) (base := base) (b := b)).1, by decide, by decide, rfl, H_X4_at fu, rfl, mi_X4_at.1, mi_X4_at.2.1, mi_X4_at.2.2.1, mi_X4_at.2.2.2.1, mi_X4_at.2.2.2.2, Or.inr (tblN_of (i := 467) rfl rfl)⟩, (S_X4_at fu (l := l) (D := D) (cA := cA) (base := base) (b := b)).2⟩) (cons_all (⟨⟨show (1 : Nat) ≠ 3 by decide, y_X0_filled, prog_2_method_17_code, 1, (some .int), 2, "BrookStones", 0, TX0, 15, 0, (S_X0_filled fu (l := l) (D := D) (cA := cA) (base := base) (b := b)).1, by decide, by decide, rfl, H_X0_filled fu, rfl, mi_X0_filled.1, mi_X0_filled.2.1, mi_X0_filled.2.2.1, mi_X0_filled.2.2.2.1, mi_X0_filled.2.2.2.2, Or.inr (tblN_of (i := 399) rfl rfl)⟩, (S_X0_filled fu (l := l) (D := D) (cA := cA) (base := base) (b := b)).2⟩) (cons_all (⟨⟨show (1 : Nat) ≠ 3 by decide, y_X0_reachOf, prog_2_method_9_code, 3, (some .int), 1, "BrookStones", 0, TX0, 15, 2, (S_X0_reachOf fu (l := l) (D := D) (cA := cA) (base := base) (b := b)).1, by decide, by decide, rfl, H_X0_reachOf fu, rfl, mi_X0_reachOf.1, mi_X0_reachOf.2.1, mi_X0_reachOf.2.2.1, mi_X0_reachOf.2.2.2.1, mi_X0_reachOf.2.2.2.2, Or.inr (tblN_of (i := 407) rfl rfl)⟩, (S_X0_reachOf fu (l := l) (D := D) (cA := cA) (base := base) (b := b)).2⟩) (cons_all (⟨⟨show (1 : Nat) ≠ 3 by decide, y_X0_isCrossed, prog_2_method_20_code, 4, (some .boolean), 3, "BrookStones", 0, TX0, 15, 3, (S_X0_isCrossed fu (l := l) (D := D) (cA := cA) (base := base) (b := b)).1, by decide, by decide, rfl, H_X0_isCrossed fu, rfl, mi_X0_isCrossed.1, mi_X0_isCrossed.2.1, mi_X0_isCrossed.2.2.1, mi_X0_isCrossed.2.2.2.1, mi_X0_isCrossed.2.2.2.2, Or.inr (tblN_of (i := 411) rfl rfl)⟩, (S_X0_isCrossed fu (l := l) (D := D) (cA := cA) (base := base) (b := b)).2⟩) (nil_all))))))))
    (nil_all)
    (nil_all)
    (T := T_X7_days) (by decide +kernel) (cut := [64]) (N := 66) (D_X7_days fu) (by decide +kernel) (fun h => absurd h (by decide)) (fun as w o h => ?_)
  unfold U_X7_days at h
  split at h
  next =>
    split at h
    next => exact ⟨Nat.le_of_ble_eq_true rfl, fu, (E_X7_days fu _ _ _ _ _ _ w).symm.trans h⟩
    next => cases h
  next => cases h
def T_X8_days : List (Nat × Instr) := [(0, .aload_n 0), (1, .iconst 0), (2, .putfield 84), (5, .aload_n 0), (6, .iload_n 1), (7, .invokevirtual 158), (10, .ifCond .eq 10), (13, .iload_n 2), (14, .invokestatic 99), (17, .ifCond .ne 5), (20, .iconst (-1)), (21, .ireturn), (22, .iload_n 3), (23, .invokestatic 103), (26, .ifCond .ne 6), (29, .bipush (-2)), (31, .ireturn), (32, .aload_n 0), (33, .iload_n 2), (34, .iload_n 3), (35, .iload 4), (37, .iload 5), (39, .invokevirtual 106), (42, .istore 6), (44, .iload 6), (46, .ifCond .eq 10), (49, .aload_n 0), (50, .iload 6), (52, .invokevirtual 110), (55, .ireturn), (56, .bipush 60), (58, .iload_n 2), (59, .imul), (60, .iload 4), (62, .iadd), (63, .istore 7), (65, .iconst 0), (66, .istore 8), (68, .iload 8), (70, .iload 5), (72, .if_icmp .ge 31), (75, .aload_n 0), (76, .getfield 16), (79, .iload 7), (81, .iload 8), (83, .iadd), (84, .iaload), (85, .iconst 0), (86, .bipush 9), (88, .invokestatic 89), (91, .ifCond .ne 6), (94, .bipush (-2)), (96, .ireturn), (97, .iinc 8 1), (100, .goto (-32)), (103, .aload_n 0), (104, .invokevirtual 181), (107, .iconst 0), (108, .istore 8), (110, .iconst 0), (111, .istore 9), (113, .iload 9), (115, .iload 5), (117, .if_icmp .ge 46), (120, .aload_n 0), (121, .aload_n 0), (122, .getfield 16), (125, .iload 7), (127, .iload 9), (129, .iadd), (130, .iaload), (131, .putfield 161), (134, .iload 8), (136, .aload_n 0), (137, .aload_n 0), (138, .getfield 53), (141, .iload_n 1), (142, .iaload), (143, .invokevirtual 188), (146, .ifCond .eq 7), (149, .iconst 1), (150, .goto 4), (153, .iconst 0), (154, .iadd), (155, .istore 8), (157, .iinc 9 1), (160, .goto (-47)), (163, .iload 8), (165, .ireturn)]
def op_X8_days (fu : Nat) : Nat → Kont → XL → List Value → XW → Instr → Option XO := opK 10 (rzOf (some .int)) fl_BrookStonesModel [] kl_BrookStonesModel k2_BrookStonesModel [(158, 2, 1, (U_X8_isWalker fu)), (106, 5, 1, (U_X8_against fu)), (110, 2, 1, (U_X8_fails fu)), (181, 1, 0, (U_X8_layNow fu)), (188, 2, 1, (U_X8_comes fu))] [(99, 1, 1, (U_X8_isSheet fu)), (103, 1, 1, (U_X8_isSort fu)), (89, 3, 1, (U_X8_within fu))] []
def F_X8_days (fu : Nat) : Nat → (Nat → Int32 → Int32 → Int32 → Int32 → XW → Option XO) × (Nat → Int32 → Int32 → Int32 → Int32 → Int32 → XW → Option XO)
  | 0 => (fun _ _ _ _ _ _ => none, fun _ _ _ _ _ _ _ => none)
  | n + 1 => ((fun a0 a1 a5 a7 a8 w =>
    (if a8 < a5 then
      (gR w a0 7 4).bind fun r2 =>
      (aI w r2 (a7 + a8)).bind fun x3 =>
      cI (U_X8_within fu [.int x3, .int (0 : Int32), .int (9 : Int32)] w) fun x5 w4 =>
      (if x5 = 0 then
        some (some (.int (-2 : Int32)), w4)
      else
        (F_X8_days fu n).1 a0 a1 a5 a7 (a8 + (1 : Int32)) w4)
    else
      cV (U_X8_layNow fu [.ref a0] w) fun w1 =>
      (F_X8_days fu n).2 a0 a1 a5 a7 (0 : Int32) (0 : Int32) w1)),
   (fun a0 a1 a5 a7 a8 a9 w =>
    (if a9 < a5 then
      (gR w a0 7 4).bind fun r6 =>
      (aI w r6 (a7 + a9)).bind fun x7 =>
      (pF w a0 7 26 (.int x7)).bind fun w8 =>
      (gR w8 a0 7 24).bind fun r9 =>
      (aI w8 r9 a1).bind fun x10 =>
      cI (U_X8_comes fu [.ref a0, .int x10] w8) fun x12 w11 =>
      (if x12 = 0 then
        (F_X8_days fu n).2 a0 a1 a5 a7 (a8 + (0 : Int32)) (a9 + (1 : Int32)) w11
      else
        (F_X8_days fu n).2 a0 a1 a5 a7 (a8 + (1 : Int32)) (a9 + (1 : Int32)) w11)
    else
      some (some (.int a8), w))))
def M_X8_days (fu : Nat) (a0 : Nat) (a1 : Int32) (a2 : Int32) (a3 : Int32) (a4 : Int32) (a5 : Int32) (w : XW) : Option XO :=
  (pF w a0 7 0 (.int (0 : Int32))).bind fun w13 =>
  cI (U_X8_isWalker fu [.ref a0, .int a1] w13) fun x15 w14 =>
  (if x15 = 0 then
    some (some (.int (-1 : Int32)), w14)
  else
    cI (U_X8_isSheet fu [.int a2] w14) fun x17 w16 =>
    (if x17 = 0 then
      some (some (.int (-1 : Int32)), w16)
    else
      cI (U_X8_isSort fu [.int a3] w16) fun x19 w18 =>
      (if x19 = 0 then
        some (some (.int (-2 : Int32)), w18)
      else
        cI (U_X8_against fu [.ref a0, .int a2, .int a3, .int a4, .int a5] w18) fun x21 w20 =>
        (if x21 = 0 then
          (F_X8_days fu fu).1 a0 a1 a5 (((60 : Int32) * a2) + a4) (0 : Int32) w20
        else
          cI (U_X8_fails fu [.ref a0, .int x21] w20) fun x23 w22 =>
          some (some (.int x23), w22)))))
def U_X8_days (fu : Nat) : Orc := fun as w => match as with
  | [.ref a0, .int a1, .int a2, .int a3, .int a4, .int a5] => if isO w a0 7 = true then M_X8_days fu a0 a1 a2 a3 a4 a5 w else none
  | _ => none
def K_X8_days (fu : Nat) (n : Nat) : Kont := fun pc ls st w => bif pc == 68 then ((xr ls 0).bind fun a0 => (xi ls 1).bind fun a1 => (xi ls 5).bind fun a5 => (xi ls 7).bind fun a7 => (xi ls 8).bind fun a8 => skN st ((F_X8_days fu n).1 a0 a1 a5 a7 a8 w)) else bif pc == 113 then ((xr ls 0).bind fun a0 => (xi ls 1).bind fun a1 => (xi ls 5).bind fun a5 => (xi ls 7).bind fun a7 => (xi ls 8).bind fun a8 => (xi ls 9).bind fun a9 => skN st ((F_X8_days fu n).2 a0 a1 a5 a7 a8 a9 w)) else none
set_option maxRecDepth 100000 in
set_option maxHeartbeats 4000000 in
theorem E_X8_days_68 (fu : Nat) (n : Nat) (a0 : Nat) (a1 : Int32) (a5 : Int32) (a7 : Int32) (a8 : Int32) (w : XW) : (F_X8_days fu (n + 1)).1 a0 a1 a5 a7 a8 w = ev T_X8_days (op_X8_days fu) [68, 113] (K_X8_days fu n) 91 68 [(0, .ref a0), (1, .int a1), (5, .int a5), (7, .int a7), (8, .int a8)] [] w := by
  rfl
set_option maxRecDepth 100000 in
set_option maxHeartbeats 4000000 in
theorem E_X8_days_113 (fu : Nat) (n : Nat) (a0 : Nat) (a1 : Int32) (a5 : Int32) (a7 : Int32) (a8 : Int32) (a9 : Int32) (w : XW) : (F_X8_days fu (n + 1)).2 a0 a1 a5 a7 a8 a9 w = ev T_X8_days (op_X8_days fu) [68, 113] (K_X8_days fu n) 91 113 [(0, .ref a0), (1, .int a1), (5, .int a5), (7, .int a7), (8, .int a8), (9, .int a9)] [] w := by
  rfl
set_option maxRecDepth 100000 in
set_option maxHeartbeats 4000000 in
theorem E_X8_days (fu : Nat) (a0 : Nat) (a1 : Int32) (a2 : Int32) (a3 : Int32) (a4 : Int32) (a5 : Int32) (w : XW) : M_X8_days fu a0 a1 a2 a3 a4 a5 w = ev T_X8_days (op_X8_days fu) [68, 113] (K_X8_days fu fu) 91 0 (lv_args 0 [.ref a0, .int a1, .int a2, .int a3, .int a4, .int a5]) [] w := by
  rfl
theorem D_X8_days (fu : Nat) : DS T_X8_days (op_X8_days fu) [68, 113] 91 (K_X8_days fu) := by
  refine ⟨fun pc ls st w => c_none (b_none fun _ => b_none fun _ => b_none fun _ => b_none fun _ => b_none fun _ => skN_none rfl) (c_none (b_none fun _ => b_none fun _ => b_none fun _ => b_none fun _ => b_none fun _ => b_none fun _ => skN_none rfl) (rfl)), fun n pc ls st w o h => ?_⟩
  rcases c_some h with ⟨rfl, h⟩ | h
  · obtain ⟨a0, h0, h⟩ := some_of h; obtain ⟨a1, h1, h⟩ := some_of h; obtain ⟨a5, h5, h⟩ := some_of h; obtain ⟨a7, h7, h⟩ := some_of h; obtain ⟨a8, h8, h⟩ := some_of h;
    obtain ⟨e, g⟩ := skN_of h
    subst e
    exact ⟨[(0, .ref a0), (1, .int a1), (5, .int a5), (7, .int a7), (8, .int a8)], cons_all (xr_of h0) (cons_all (xi_of h1) (cons_all (xi_of h5) (cons_all (xi_of h7) (cons_all (xi_of h8) (nil_all))))), (E_X8_days_68 fu n a0 a1 a5 a7 a8 w).symm.trans g⟩
  rcases c_some h with ⟨rfl, h⟩ | h
  · obtain ⟨a0, h0, h⟩ := some_of h; obtain ⟨a1, h1, h⟩ := some_of h; obtain ⟨a5, h5, h⟩ := some_of h; obtain ⟨a7, h7, h⟩ := some_of h; obtain ⟨a8, h8, h⟩ := some_of h; obtain ⟨a9, h9, h⟩ := some_of h;
    obtain ⟨e, g⟩ := skN_of h
    subst e
    exact ⟨[(0, .ref a0), (1, .int a1), (5, .int a5), (7, .int a7), (8, .int a8), (9, .int a9)], cons_all (xr_of h0) (cons_all (xi_of h1) (cons_all (xi_of h5) (cons_all (xi_of h7) (cons_all (xi_of h8) (cons_all (xi_of h9) (nil_all)))))), (E_X8_days_113 fu n a0 a1 a5 a7 a8 a9 w).symm.trans g⟩
  · cases h
theorem H_X8_days (fu : Nat) : ∀ as w o, U_X8_days fu as w = some o → ∃ a r, as = .ref a :: r ∧ r.length = 5 ∧ isO w a 7 = true := by
  intro as w o h
  unfold U_X8_days at h
  split at h
  next =>
    split at h
    next hh => exact ⟨_, _, rfl, rfl, hh⟩
    next => cases h
  next => cases h
set_option maxRecDepth 100000 in
set_option maxHeartbeats 4000000 in
theorem S_X8_days (fu : Nat) {l : Launch} {D : va_G} {cA : Nat → ClassId} {base b : Nat} : CS l D cA base b 6 y_X8_days prog_10_method_42_code 10 (some .int) (U_X8_days fu) ∧ OM (U_X8_days fu) := by
  refine CS_of (d := 5) (y := y_X8_days) (cc := prog_10_method_42_code) (nL := 10) (ret := (some .int)) (F := U_X8_days fu) (fl := fl_BrookStonesModel) (nl := []) (kl := kl_BrookStonesModel) (k2 := k2_BrookStonesModel) (mv := [(158, 2, 1, (U_X8_isWalker fu)), (106, 5, 1, (U_X8_against fu)), (110, 2, 1, (U_X8_fails fu)), (181, 1, 0, (U_X8_layNow fu)), (188, 2, 1, (U_X8_comes fu))]) (ms := [(99, 1, 1, (U_X8_isSheet fu)), (103, 1, 1, (U_X8_isSort fu)), (89, 3, 1, (U_X8_within fu))]) (mi := []) (ini := false) hI_w hZ_w fl_BrookStonesModel_ok nil_all kl_BrookStonesModel_ok k2_BrookStonesModel_ok
    (cons_all (⟨⟨show (1 : Nat) ≠ 3 by decide, y_X8_isWalker, prog_10_method_26_code, 2, (some .boolean), 1, "BrookStones", 7, TX8, 37, 1, (S_X8_isWalker fu (l := l) (D := D) (cA := cA) (base := base) (b := b)).1, by decide, by decide, rfl, H_X8_isWalker fu, rfl, mi_X8_isWalker.1, mi_X8_isWalker.2.1, mi_X8_isWalker.2.2.1, mi_X8_isWalker.2.2.2.1, mi_X8_isWalker.2.2.2.2, Or.inl (tblG_of (i := 943) rfl rfl)⟩, (S_X8_isWalker fu (l := l) (D := D) (cA := cA) (base := base) (b := b)).2⟩) (cons_all (⟨⟨show (1 : Nat) ≠ 3 by decide, y_X8_against, prog_10_method_9_code, 5, (some .int), 1, "BrookStones", 7, TX8, 37, 4, (S_X8_against fu (l := l) (D := D) (cA := cA) (base := base) (b := b)).1, by decide, by decide, rfl, H_X8_against fu, rfl, mi_X8_against.1, mi_X8_against.2.1, mi_X8_against.2.2.1, mi_X8_against.2.2.2.1, mi_X8_against.2.2.2.2, Or.inl (tblG_of (i := 867) rfl rfl)⟩, (S_X8_against fu (l := l) (D := D) (cA := cA) (base := base) (b := b)).2⟩) (cons_all (⟨⟨show (1 : Nat) ≠ 3 by decide, y_X8_fails, prog_10_method_3_code, 2, (some .int), 1, "BrookStones", 7, TX8, 37, 1, (S_X8_fails fu (l := l) (D := D) (cA := cA) (base := base) (b := b)).1, by decide, by decide, rfl, H_X8_fails fu, rfl, mi_X8_fails.1, mi_X8_fails.2.1, mi_X8_fails.2.2.1, mi_X8_fails.2.2.2.1, mi_X8_fails.2.2.2.2, Or.inl (tblG_of (i := 871) rfl rfl)⟩, (S_X8_fails fu (l := l) (D := D) (cA := cA) (base := base) (b := b)).2⟩) (cons_all (⟨⟨show (0 : Nat) ≠ 3 by decide, y_X8_layNow, prog_10_method_29_code, 2, (none), 1, "BrookStones", 7, TX8, 37, 0, (S_X8_layNow fu (l := l) (D := D) (cA := cA) (base := base) (b := b)).1, by decide, by decide, rfl, H_X8_layNow fu, rfl, mi_X8_layNow.1, mi_X8_layNow.2.1, mi_X8_layNow.2.2.1, mi_X8_layNow.2.2.2.1, mi_X8_layNow.2.2.2.2, Or.inl (tblG_of (i := 951) rfl rfl)⟩, (S_X8_layNow fu (l := l) (D := D) (cA := cA) (base := base) (b := b)).2⟩) (cons_all (⟨⟨show (1 : Nat) ≠ 3 by decide, y_X8_comes, prog_10_method_35_code, 2, (some .boolean), 5, "BrookStones", 7, TX8, 37, 1, (S_X8_comes fu (l := l) (D := D) (cA := cA) (base := base) (b := b)).1, by decide, by decide, rfl, H_X8_comes fu, rfl, mi_X8_comes.1, mi_X8_comes.2.1, mi_X8_comes.2.2.1, mi_X8_comes.2.2.2.1, mi_X8_comes.2.2.2.2, Or.inl (tblG_of (i := 959) rfl rfl)⟩, (S_X8_comes fu (l := l) (D := D) (cA := cA) (base := base) (b := b)).2⟩) (nil_all))))))
    (cons_all (⟨Or.inl ⟨show (1 : Nat) ≠ 3 by decide, y_X8_isSheet, prog_10_method_7_code, 1, (some .boolean), 2, "BrookStones", (S_X8_isSheet fu (l := l) (D := D) (cA := cA) (base := base) (b := b)).1, by decide, by decide, mi_X8_isSheet.1, mi_X8_isSheet.2.1, mi_X8_isSheet.2.2.1, mi_X8_isSheet.2.2.2, Or.inl (tblG_of (i := 858) rfl rfl)⟩, (S_X8_isSheet fu (l := l) (D := D) (cA := cA) (base := base) (b := b)).2⟩) (cons_all (⟨Or.inl ⟨show (1 : Nat) ≠ 3 by decide, y_X8_isSort, prog_10_method_8_code, 1, (some .boolean), 2, "BrookStones", (S_X8_isSort fu (l := l) (D := D) (cA := cA) (base := base) (b := b)).1, by decide, by decide, mi_X8_isSort.1, mi_X8_isSort.2.1, mi_X8_isSort.2.2.1, mi_X8_isSort.2.2.2, Or.inl (tblG_of (i := 864) rfl rfl)⟩, (S_X8_isSort fu (l := l) (D := D) (cA := cA) (base := base) (b := b)).2⟩) (cons_all (⟨Or.inl ⟨show (1 : Nat) ≠ 3 by decide, y_X8_within, prog_10_method_5_code, 3, (some .boolean), 1, "BrookStones", (S_X8_within fu (l := l) (D := D) (cA := cA) (base := base) (b := b)).1, by decide, by decide, mi_X8_within.1, mi_X8_within.2.1, mi_X8_within.2.2.1, mi_X8_within.2.2.2, Or.inl (tblG_of (i := 861) rfl rfl)⟩, (S_X8_within fu (l := l) (D := D) (cA := cA) (base := base) (b := b)).2⟩) (nil_all))))
    (nil_all)
    (T := T_X8_days) (by decide +kernel) (cut := [68, 113]) (N := 91) (D_X8_days fu) (by decide +kernel) (fun h => absurd h (by decide)) (fun as w o h => ?_)
  unfold U_X8_days at h
  split at h
  next =>
    split at h
    next => exact ⟨Nat.le_of_ble_eq_true rfl, fu, (E_X8_days fu _ _ _ _ _ _ w).symm.trans h⟩
    next => cases h
  next => cases h
def T_X7_isFlood : List (Nat × Instr) := [(0, .iload_n 0), (1, .iconst 0), (2, .bipush 9), (4, .invokestatic 105), (7, .ifCond .eq 17), (10, .iload_n 1), (11, .iconst 0), (12, .bipush 30), (14, .invokestatic 105), (17, .ifCond .eq 7), (20, .iconst 1), (21, .goto 4), (24, .iconst 0), (25, .ireturn)]
def op_X7_isFlood (fu : Nat) : Nat → Kont → XL → List Value → XW → Instr → Option XO := opK 2 (rzOf (some .boolean)) fl_BrookStones nl_BrookStones [] k2_BrookStones [] [(105, 3, 1, (U_X7_isWithin fu))] []
def M_X7_isFlood (fu : Nat) (a0 : Int32) (a1 : Int32) (w : XW) : Option XO :=
  cI (U_X7_isWithin fu [.int a0, .int (0 : Int32), .int (9 : Int32)] w) fun x2 w1 =>
  (if x2 = 0 then
    retZ (0 : Int32) w1
  else
    cI (U_X7_isWithin fu [.int a1, .int (0 : Int32), .int (30 : Int32)] w1) fun x4 w3 =>
    (if x4 = 0 then
      retZ (0 : Int32) w3
    else
      retZ (1 : Int32) w3))
def U_X7_isFlood (fu : Nat) : Orc := fun as w => match as with
  | [.int a0, .int a1] => M_X7_isFlood fu a0 a1 w
  | _ => none
def K_X7_isFlood (fu : Nat) (n : Nat) : Kont := fun pc ls st w => none
set_option maxRecDepth 100000 in
set_option maxHeartbeats 4000000 in
theorem E_X7_isFlood (fu : Nat) (a0 : Int32) (a1 : Int32) (w : XW) : M_X7_isFlood fu a0 a1 w = ev T_X7_isFlood (op_X7_isFlood fu) [] (K_X7_isFlood fu fu) 16 0 (lv_args 0 [.int a0, .int a1]) [] w := by
  rfl
theorem D_X7_isFlood (fu : Nat) : DS T_X7_isFlood (op_X7_isFlood fu) [] 16 (K_X7_isFlood fu) := by
  refine ⟨fun pc ls st w => rfl, fun n pc ls st w o h => ?_⟩
  cases h
set_option maxRecDepth 100000 in
set_option maxHeartbeats 4000000 in
theorem S_X7_isFlood (fu : Nat) {l : Launch} {D : va_G} {cA : Nat → ClassId} {base b : Nat} : CS l D cA base b 2 y_X7_isFlood prog_1_method_45_code 2 (some .boolean) (U_X7_isFlood fu) ∧ OM (U_X7_isFlood fu) := by
  refine CS_of (d := 1) (y := y_X7_isFlood) (cc := prog_1_method_45_code) (nL := 2) (ret := (some .boolean)) (F := U_X7_isFlood fu) (fl := fl_BrookStones) (nl := nl_BrookStones) (kl := []) (k2 := k2_BrookStones) (mv := []) (ms := [(105, 3, 1, (U_X7_isWithin fu))]) (mi := []) (ini := false) hI_w hZ_w fl_BrookStones_ok nl_BrookStones_ok nil_all k2_BrookStones_ok
    (nil_all)
    (cons_all (⟨Or.inl ⟨show (1 : Nat) ≠ 3 by decide, y_X7_isWithin, prog_1_method_46_code, 3, (some .boolean), 1, "BrookStones", (S_X7_isWithin fu (l := l) (D := D) (cA := cA) (base := base) (b := b)).1, by decide, by decide, mi_X7_isWithin.1, mi_X7_isWithin.2.1, mi_X7_isWithin.2.2.1, mi_X7_isWithin.2.2.2, Or.inl (tblG_of (i := 333) rfl rfl)⟩, (S_X7_isWithin fu (l := l) (D := D) (cA := cA) (base := base) (b := b)).2⟩) (nil_all))
    (nil_all)
    (T := T_X7_isFlood) (by decide +kernel) (cut := []) (N := 16) (D_X7_isFlood fu) (by decide +kernel) (fun h => absurd h (by decide)) (fun as w o h => ?_)
  unfold U_X7_isFlood at h
  split at h
  next =>
    exact ⟨Nat.le_of_ble_eq_true rfl, fu, (E_X7_isFlood fu _ _ w).symm.trans h⟩
  next => cases h
def T_X1_digging : List (Nat × Instr) := [(0, .iload_n 2), (1, .iconst 1), (2, .ishl), (3, .iload_n 1), (4, .ishr), (5, .iconst 1), (6, .iand), (7, .iload_n 2), (8, .iload_n 1), (9, .iconst 1), (10, .iadd), (11, .ishr), (12, .iconst 1), (13, .iand), (14, .iadd), (15, .istore 5), (17, .aload_n 0), (18, .getfield 56), (21, .iload 4), (23, .iadd), (24, .iload 5), (26, .iadd), (27, .istore 6), (29, .iload_n 3), (30, .iload_n 1), (31, .ishr), (32, .iconst 1), (33, .iand), (34, .istore 7), (36, .iload 6), (38, .iload 7), (40, .ishr), (41, .aload_n 0), (42, .getfield 59), (45, .iload_n 1), (46, .iaload), (47, .isub), (48, .istore 8), (50, .iload 8), (52, .ifCond .le 8), (55, .iload 8), (57, .goto 4), (60, .iconst 0), (61, .ireturn)]
def op_X1_digging (fu : Nat) : Nat → Kont → XL → List Value → XW → Instr → Option XO := opK 9 (rzOf (some .int)) fl_BrookStones_Flood [] [] [] [] [] []
def M_X1_digging (fu : Nat) (a0 : Nat) (a1 : Int32) (a2 : Int32) (a3 : Int32) (a4 : Int32) (w : XW) : Option XO :=
  (gI w a0 0 9).bind fun x1 =>
  (gR w a0 0 1).bind fun r2 =>
  (aI w r2 a1).bind fun x3 =>
  (if 0 < ((((x1 + a4) + ((((a2 <<< ((1 : Int32) &&& 31)) >>> (a1 &&& 31)) &&& (1 : Int32)) + ((a2 >>> ((a1 + (1 : Int32)) &&& 31)) &&& (1 : Int32)))) >>> (((a3 >>> (a1 &&& 31)) &&& (1 : Int32)) &&& 31)) - x3) then
    some (some (.int ((((x1 + a4) + ((((a2 <<< ((1 : Int32) &&& 31)) >>> (a1 &&& 31)) &&& (1 : Int32)) + ((a2 >>> ((a1 + (1 : Int32)) &&& 31)) &&& (1 : Int32)))) >>> (((a3 >>> (a1 &&& 31)) &&& (1 : Int32)) &&& 31)) - x3)), w)
  else
    some (some (.int (0 : Int32)), w))
def U_X1_digging (fu : Nat) : Orc := fun as w => match as with
  | [.ref a0, .int a1, .int a2, .int a3, .int a4] => M_X1_digging fu a0 a1 a2 a3 a4 w
  | _ => none
def K_X1_digging (fu : Nat) (n : Nat) : Kont := fun pc ls st w => none
set_option maxRecDepth 100000 in
set_option maxHeartbeats 4000000 in
theorem E_X1_digging (fu : Nat) (a0 : Nat) (a1 : Int32) (a2 : Int32) (a3 : Int32) (a4 : Int32) (w : XW) : M_X1_digging fu a0 a1 a2 a3 a4 w = ev T_X1_digging (op_X1_digging fu) [] (K_X1_digging fu fu) 46 0 (lv_args 0 [.ref a0, .int a1, .int a2, .int a3, .int a4]) [] w := by
  rfl
theorem D_X1_digging (fu : Nat) : DS T_X1_digging (op_X1_digging fu) [] 46 (K_X1_digging fu) := by
  refine ⟨fun pc ls st w => rfl, fun n pc ls st w o h => ?_⟩
  cases h
set_option maxRecDepth 100000 in
set_option maxHeartbeats 4000000 in
theorem S_X1_digging (fu : Nat) {l : Launch} {D : va_G} {cA : Nat → ClassId} {base b : Nat} : CS l D cA base b 1 y_X1_digging prog_3_method_4_code 9 (some .int) (U_X1_digging fu) ∧ OM (U_X1_digging fu) := by
  refine CS_of (d := 0) (y := y_X1_digging) (cc := prog_3_method_4_code) (nL := 9) (ret := (some .int)) (F := U_X1_digging fu) (fl := fl_BrookStones_Flood) (nl := []) (kl := []) (k2 := []) (mv := []) (ms := []) (mi := []) (ini := false) hI_w hZ_w fl_BrookStones_Flood_ok nil_all nil_all nil_all
    (nil_all)
    (nil_all)
    (nil_all)
    (T := T_X1_digging) (by decide +kernel) (cut := []) (N := 46) (D_X1_digging fu) (by decide +kernel) (fun h => absurd h (by decide)) (fun as w o h => ?_)
  unfold U_X1_digging at h
  split at h
  next =>
    exact ⟨Nat.le_of_ble_eq_true rfl, fu, (E_X1_digging fu _ _ _ _ _ w).symm.trans h⟩
  next => cases h
def T_X1_goRound : List (Nat × Instr) := [(0, .iconst 0), (1, .istore 5), (3, .aload_n 0), (4, .getfield 24), (7, .istore 6), (9, .iconst 0), (10, .istore 7), (12, .iload 7), (14, .aload_n 1), (15, .getfield 38), (18, .if_icmp .ge 105), (21, .iload 6), (23, .iload 7), (25, .invokestatic 41), (28, .ifCond .eq 89), (31, .aload_n 1), (32, .iload 7), (34, .iload 6), (36, .iload_n 2), (37, .iload_n 3), (38, .invokestatic 45), (41, .istore 8), (43, .iload 5), (45, .ifCond .ne 8), (48, .iload 8), (50, .ifCond .le 7), (53, .iconst 1), (54, .goto 4), (57, .iconst 0), (58, .istore 5), (60, .aload_n 0), (61, .getfield 9), (64, .iload 7), (66, .dup2), (67, .iaload), (68, .iload 8), (70, .iadd), (71, .iastore), (72, .aload_n 0), (73, .getfield 9), (76, .iload 7), (78, .iaload), (79, .aload_n 1), (80, .aload_n 1), (81, .getfield 49), (84, .iload 7), (86, .iaload), (87, .invokevirtual 52), (90, .if_icmp .lt 27), (93, .aload_n 0), (94, .dup), (95, .getfield 24), (98, .iconst 1), (99, .iload 7), (101, .ishl), (102, .iconst (-1)), (103, .ixor), (104, .iand), (105, .putfield 24), (108, .aload_n 0), (109, .getfield 15), (112, .iload 7), (114, .iload 4), (116, .iastore), (117, .iinc 7 1), (120, .goto (-108)), (123, .iload 5), (125, .ireturn)]
def op_X1_goRound (fu : Nat) : Nat → Kont → XL → List Value → XW → Instr → Option XO := opK 9 (rzOf (some .boolean)) fl_BrookStones_Flood [] [] [] [(52, 2, 1, (U_X0_holdOf fu))] [(41, 2, 1, (U_X7_has fu)), (45, 5, 1, (U_X1_digging fu))] []
def F_X1_goRound (fu : Nat) : Nat → (Nat → Nat → Int32 → Int32 → Int32 → Int32 → Int32 → Int32 → XW → Option XO) × (Nat → Nat → Int32 → Int32 → Int32 → Int32 → Int32 → Int32 → Int32 → XW → Option XO)
  | 0 => (fun _ _ _ _ _ _ _ _ _ => none, fun _ _ _ _ _ _ _ _ _ _ => none)
  | n + 1 => ((fun a0 a1 a2 a3 a4 a5 a6 a7 w =>
    (gI w a1 0 8).bind fun x1 =>
    (if a7 < x1 then
      cI (U_X7_has fu [.int a6, .int a7] w) fun x3 w2 =>
      (if x3 = 0 then
        (F_X1_goRound fu n).1 a0 a1 a2 a3 a4 a5 a6 (a7 + (1 : Int32)) w2
      else
        cI (U_X1_digging fu [.ref a1, .int a7, .int a6, .int a2, .int a3] w2) fun x5 w4 =>
        (if a5 = 0 then
          (if 0 < x5 then
            (F_X1_goRound fu n).2 a0 a1 a2 a3 a4 a6 a7 x5 (1 : Int32) w4
          else
            (F_X1_goRound fu n).2 a0 a1 a2 a3 a4 a6 a7 x5 (0 : Int32) w4)
        else
          (F_X1_goRound fu n).2 a0 a1 a2 a3 a4 a6 a7 x5 (1 : Int32) w4))
    else
      retZ a5 w)),
   (fun a0 a1 a2 a3 a4 a6 a7 a8 s0 w =>
    (gR w a0 1 0).bind fun r6 =>
    (aI w r6 a7).bind fun x7 =>
    (sI w r6 a7 (x7 + a8)).bind fun w8 =>
    (gR w8 a0 1 0).bind fun r9 =>
    (aI w8 r9 a7).bind fun x10 =>
    (gR w8 a1 0 2).bind fun r11 =>
    (aI w8 r11 a7).bind fun x12 =>
    cI (U_X0_holdOf fu [.ref a1, .int x12] w8) fun x14 w13 =>
    (if x10 < x14 then
      (F_X1_goRound fu n).1 a0 a1 a2 a3 a4 s0 a6 (a7 + (1 : Int32)) w13
    else
      (gI w13 a0 1 2).bind fun x15 =>
      (pF w13 a0 1 2 (.int (x15 &&& (((1 : Int32) <<< (a7 &&& 31)) ^^^ (-1 : Int32))))).bind fun w16 =>
      (gR w16 a0 1 1).bind fun r17 =>
      (sI w16 r17 a7 a4).bind fun w18 =>
      (F_X1_goRound fu n).1 a0 a1 a2 a3 a4 s0 a6 (a7 + (1 : Int32)) w18)))
def M_X1_goRound (fu : Nat) (a0 : Nat) (a1 : Nat) (a2 : Int32) (a3 : Int32) (a4 : Int32) (w : XW) : Option XO :=
  (gI w a0 1 2).bind fun x19 =>
  (F_X1_goRound fu fu).1 a0 a1 a2 a3 a4 (0 : Int32) x19 (0 : Int32) w
def U_X1_goRound (fu : Nat) : Orc := fun as w => match as with
  | [.ref a0, .ref a1, .int a2, .int a3, .int a4] => if isO w a0 1 = true then M_X1_goRound fu a0 a1 a2 a3 a4 w else none
  | _ => none
def K_X1_goRound (fu : Nat) (n : Nat) : Kont := fun pc ls st w => bif pc == 12 then ((xr ls 0).bind fun a0 => (xr ls 1).bind fun a1 => (xi ls 2).bind fun a2 => (xi ls 3).bind fun a3 => (xi ls 4).bind fun a4 => (xi ls 5).bind fun a5 => (xi ls 6).bind fun a6 => (xi ls 7).bind fun a7 => skN st ((F_X1_goRound fu n).1 a0 a1 a2 a3 a4 a5 a6 a7 w)) else bif pc == 58 then ((xr ls 0).bind fun a0 => (xr ls 1).bind fun a1 => (xi ls 2).bind fun a2 => (xi ls 3).bind fun a3 => (xi ls 4).bind fun a4 => (xi ls 6).bind fun a6 => (xi ls 7).bind fun a7 => (xi ls 8).bind fun a8 => skI st fun s0 st => skN st ((F_X1_goRound fu n).2 a0 a1 a2 a3 a4 a6 a7 a8 s0 w)) else none
set_option maxRecDepth 100000 in
set_option maxHeartbeats 4000000 in
theorem E_X1_goRound_12 (fu : Nat) (n : Nat) (a0 : Nat) (a1 : Nat) (a2 : Int32) (a3 : Int32) (a4 : Int32) (a5 : Int32) (a6 : Int32) (a7 : Int32) (w : XW) : (F_X1_goRound fu (n + 1)).1 a0 a1 a2 a3 a4 a5 a6 a7 w = ev T_X1_goRound (op_X1_goRound fu) [12, 58] (K_X1_goRound fu n) 70 12 [(0, .ref a0), (1, .ref a1), (2, .int a2), (3, .int a3), (4, .int a4), (5, .int a5), (6, .int a6), (7, .int a7)] [] w := by
  rfl
set_option maxRecDepth 100000 in
set_option maxHeartbeats 4000000 in
theorem E_X1_goRound_58 (fu : Nat) (n : Nat) (a0 : Nat) (a1 : Nat) (a2 : Int32) (a3 : Int32) (a4 : Int32) (a6 : Int32) (a7 : Int32) (a8 : Int32) (s0 : Int32) (w : XW) : (F_X1_goRound fu (n + 1)).2 a0 a1 a2 a3 a4 a6 a7 a8 s0 w = ev T_X1_goRound (op_X1_goRound fu) [12, 58] (K_X1_goRound fu n) 70 58 [(0, .ref a0), (1, .ref a1), (2, .int a2), (3, .int a3), (4, .int a4), (6, .int a6), (7, .int a7), (8, .int a8)] [.int s0] w := by
  rfl
set_option maxRecDepth 100000 in
set_option maxHeartbeats 4000000 in
theorem E_X1_goRound (fu : Nat) (a0 : Nat) (a1 : Nat) (a2 : Int32) (a3 : Int32) (a4 : Int32) (w : XW) : M_X1_goRound fu a0 a1 a2 a3 a4 w = ev T_X1_goRound (op_X1_goRound fu) [12, 58] (K_X1_goRound fu fu) 70 0 (lv_args 0 [.ref a0, .ref a1, .int a2, .int a3, .int a4]) [] w := by
  rfl
theorem D_X1_goRound (fu : Nat) : DS T_X1_goRound (op_X1_goRound fu) [12, 58] 70 (K_X1_goRound fu) := by
  refine ⟨fun pc ls st w => c_none (b_none fun _ => b_none fun _ => b_none fun _ => b_none fun _ => b_none fun _ => b_none fun _ => b_none fun _ => b_none fun _ => skN_none rfl) (c_none (b_none fun _ => b_none fun _ => b_none fun _ => b_none fun _ => b_none fun _ => b_none fun _ => b_none fun _ => b_none fun _ => skI_none fun _ _ => skN_none rfl) (rfl)), fun n pc ls st w o h => ?_⟩
  rcases c_some h with ⟨rfl, h⟩ | h
  · obtain ⟨a0, h0, h⟩ := some_of h; obtain ⟨a1, h1, h⟩ := some_of h; obtain ⟨a2, h2, h⟩ := some_of h; obtain ⟨a3, h3, h⟩ := some_of h; obtain ⟨a4, h4, h⟩ := some_of h; obtain ⟨a5, h5, h⟩ := some_of h; obtain ⟨a6, h6, h⟩ := some_of h; obtain ⟨a7, h7, h⟩ := some_of h;
    obtain ⟨e, g⟩ := skN_of h
    subst e
    exact ⟨[(0, .ref a0), (1, .ref a1), (2, .int a2), (3, .int a3), (4, .int a4), (5, .int a5), (6, .int a6), (7, .int a7)], cons_all (xr_of h0) (cons_all (xr_of h1) (cons_all (xi_of h2) (cons_all (xi_of h3) (cons_all (xi_of h4) (cons_all (xi_of h5) (cons_all (xi_of h6) (cons_all (xi_of h7) (nil_all)))))))), (E_X1_goRound_12 fu n a0 a1 a2 a3 a4 a5 a6 a7 w).symm.trans g⟩
  rcases c_some h with ⟨rfl, h⟩ | h
  · obtain ⟨a0, h0, h⟩ := some_of h; obtain ⟨a1, h1, h⟩ := some_of h; obtain ⟨a2, h2, h⟩ := some_of h; obtain ⟨a3, h3, h⟩ := some_of h; obtain ⟨a4, h4, h⟩ := some_of h; obtain ⟨a6, h6, h⟩ := some_of h; obtain ⟨a7, h7, h⟩ := some_of h; obtain ⟨a8, h8, h⟩ := some_of h;
    obtain ⟨s0, st0, e0, g0⟩ := skI_of h
    obtain ⟨e, g⟩ := skN_of g0
    subst e
    subst e0
    exact ⟨[(0, .ref a0), (1, .ref a1), (2, .int a2), (3, .int a3), (4, .int a4), (6, .int a6), (7, .int a7), (8, .int a8)], cons_all (xr_of h0) (cons_all (xr_of h1) (cons_all (xi_of h2) (cons_all (xi_of h3) (cons_all (xi_of h4) (cons_all (xi_of h6) (cons_all (xi_of h7) (cons_all (xi_of h8) (nil_all)))))))), (E_X1_goRound_58 fu n a0 a1 a2 a3 a4 a6 a7 a8 s0 w).symm.trans g⟩
  · cases h
theorem H_X1_goRound (fu : Nat) : ∀ as w o, U_X1_goRound fu as w = some o → ∃ a r, as = .ref a :: r ∧ r.length = 4 ∧ isO w a 1 = true := by
  intro as w o h
  unfold U_X1_goRound at h
  split at h
  next =>
    split at h
    next hh => exact ⟨_, _, rfl, rfl, hh⟩
    next => cases h
  next => cases h
set_option maxRecDepth 100000 in
set_option maxHeartbeats 4000000 in
theorem S_X1_goRound (fu : Nat) {l : Launch} {D : va_G} {cA : Nat → ClassId} {base b : Nat} : CS l D cA base b 2 y_X1_goRound prog_3_method_3_code 9 (some .boolean) (U_X1_goRound fu) ∧ OM (U_X1_goRound fu) := by
  refine CS_of (d := 1) (y := y_X1_goRound) (cc := prog_3_method_3_code) (nL := 9) (ret := (some .boolean)) (F := U_X1_goRound fu) (fl := fl_BrookStones_Flood) (nl := []) (kl := []) (k2 := []) (mv := [(52, 2, 1, (U_X0_holdOf fu))]) (ms := [(41, 2, 1, (U_X7_has fu)), (45, 5, 1, (U_X1_digging fu))]) (mi := []) (ini := false) hI_w hZ_w fl_BrookStones_Flood_ok nil_all nil_all nil_all
    (cons_all (⟨⟨show (1 : Nat) ≠ 3 by decide, y_X0_holdOf, prog_2_method_10_code, 2, (some .int), 1, "BrookStones", 0, TX0, 15, 1, (S_X0_holdOf fu (l := l) (D := D) (cA := cA) (base := base) (b := b)).1, by decide, by decide, rfl, H_X0_holdOf fu, rfl, mi_X0_holdOf.1, mi_X0_holdOf.2.1, mi_X0_holdOf.2.2.1, mi_X0_holdOf.2.2.2.1, mi_X0_holdOf.2.2.2.2, Or.inr (tblN_of (i := 489) rfl rfl)⟩, (S_X0_holdOf fu (l := l) (D := D) (cA := cA) (base := base) (b := b)).2⟩) (nil_all))
    (cons_all (⟨Or.inl ⟨show (1 : Nat) ≠ 3 by decide, y_X7_has, prog_1_method_47_code, 2, (some .boolean), 1, "BrookStones", (S_X7_has fu (l := l) (D := D) (cA := cA) (base := base) (b := b)).1, by decide, by decide, mi_X7_has.1, mi_X7_has.2.1, mi_X7_has.2.2.1, mi_X7_has.2.2.2, Or.inr (tblN_of (i := 485) rfl rfl)⟩, (S_X7_has fu (l := l) (D := D) (cA := cA) (base := base) (b := b)).2⟩) (cons_all (⟨Or.inl ⟨show (1 : Nat) ≠ 3 by decide, y_X1_digging, prog_3_method_4_code, 9, (some .int), 1, "BrookStones", (S_X1_digging fu (l := l) (D := D) (cA := cA) (base := base) (b := b)).1, by decide, by decide, mi_X1_digging.1, mi_X1_digging.2.1, mi_X1_digging.2.2.1, mi_X1_digging.2.2.2, Or.inl (tblG_of (i := 486) rfl rfl)⟩, (S_X1_digging fu (l := l) (D := D) (cA := cA) (base := base) (b := b)).2⟩) (nil_all)))
    (nil_all)
    (T := T_X1_goRound) (by decide +kernel) (cut := [12, 58]) (N := 70) (D_X1_goRound fu) (by decide +kernel) (fun h => absurd h (by decide)) (fun as w o h => ?_)
  unfold U_X1_goRound at h
  split at h
  next =>
    split at h
    next => exact ⟨Nat.le_of_ble_eq_true rfl, fu, (E_X1_goRound fu _ _ _ _ _ w).symm.trans h⟩
    next => cases h
  next => cases h
def T_X1_run : List (Nat × Instr) := [(0, .aload_n 0), (1, .aload_n 1), (2, .invokevirtual 18), (5, .putfield 24), (8, .aload_n 0), (9, .getfield 9), (12, .iconst 0), (13, .invokestatic 28), (16, .aload_n 0), (17, .getfield 15), (20, .bipush (-9)), (22, .invokestatic 28), (25, .iconst 1), (26, .istore 5), (28, .iconst 1), (29, .istore 6), (31, .iload 6), (33, .iload 4), (35, .if_icmp .gt 25), (38, .iload 5), (40, .ifCond .eq 20), (43, .aload_n 0), (44, .aload_n 1), (45, .iload_n 2), (46, .iload_n 3), (47, .iload 6), (49, .invokevirtual 34), (52, .istore 5), (54, .iinc 6 1), (57, .goto (-26)), (60, .return_)]
def op_X1_run (fu : Nat) : Nat → Kont → XL → List Value → XW → Instr → Option XO := opK 7 (rzOf (none)) fl_BrookStones_Flood [] [] [] [(18, 1, 1, (U_X0_filled fu)), (34, 5, 1, (U_X1_goRound fu))] [(28, 2, 0, (U_J7_fill_53178 fu))] []
def F_X1_run (fu : Nat) : Nat → (Nat → Nat → Int32 → Int32 → Int32 → Int32 → Int32 → XW → Option XO)
  | 0 => fun _ _ _ _ _ _ _ _ => none
  | n + 1 => (fun a0 a1 a2 a3 a4 a5 a6 w =>
    (if a4 < a6 then
      some (none, w)
    else
      (if a5 = 0 then
        some (none, w)
      else
        cI (U_X1_goRound fu [.ref a0, .ref a1, .int a2, .int a3, .int a6] w) fun x2 w1 =>
        (F_X1_run fu n) a0 a1 a2 a3 a4 x2 (a6 + (1 : Int32)) w1)))
def M_X1_run (fu : Nat) (a0 : Nat) (a1 : Nat) (a2 : Int32) (a3 : Int32) (a4 : Int32) (w : XW) : Option XO :=
  cI (U_X0_filled fu [.ref a1] w) fun x4 w3 =>
  (pF w3 a0 1 2 (.int x4)).bind fun w5 =>
  (gR w5 a0 1 0).bind fun r6 =>
  cV (U_J7_fill_53178 fu [.ref r6, .int (0 : Int32)] w5) fun w7 =>
  (gR w7 a0 1 1).bind fun r8 =>
  cV (U_J7_fill_53178 fu [.ref r8, .int (-9 : Int32)] w7) fun w9 =>
  (F_X1_run fu fu) a0 a1 a2 a3 a4 (1 : Int32) (1 : Int32) w9
def U_X1_run (fu : Nat) : Orc := fun as w => match as with
  | [.ref a0, .ref a1, .int a2, .int a3, .int a4] => if isO w a0 1 = true then M_X1_run fu a0 a1 a2 a3 a4 w else none
  | _ => none
def K_X1_run (fu : Nat) (n : Nat) : Kont := fun pc ls st w => bif pc == 31 then ((xr ls 0).bind fun a0 => (xr ls 1).bind fun a1 => (xi ls 2).bind fun a2 => (xi ls 3).bind fun a3 => (xi ls 4).bind fun a4 => (xi ls 5).bind fun a5 => (xi ls 6).bind fun a6 => skN st ((F_X1_run fu n) a0 a1 a2 a3 a4 a5 a6 w)) else none
set_option maxRecDepth 100000 in
set_option maxHeartbeats 4000000 in
theorem E_X1_run_31 (fu : Nat) (n : Nat) (a0 : Nat) (a1 : Nat) (a2 : Int32) (a3 : Int32) (a4 : Int32) (a5 : Int32) (a6 : Int32) (w : XW) : (F_X1_run fu (n + 1)) a0 a1 a2 a3 a4 a5 a6 w = ev T_X1_run (op_X1_run fu) [31] (K_X1_run fu n) 33 31 [(0, .ref a0), (1, .ref a1), (2, .int a2), (3, .int a3), (4, .int a4), (5, .int a5), (6, .int a6)] [] w := by
  rfl
set_option maxRecDepth 100000 in
set_option maxHeartbeats 4000000 in
theorem E_X1_run (fu : Nat) (a0 : Nat) (a1 : Nat) (a2 : Int32) (a3 : Int32) (a4 : Int32) (w : XW) : M_X1_run fu a0 a1 a2 a3 a4 w = ev T_X1_run (op_X1_run fu) [31] (K_X1_run fu fu) 33 0 (lv_args 0 [.ref a0, .ref a1, .int a2, .int a3, .int a4]) [] w := by
  rfl
theorem D_X1_run (fu : Nat) : DS T_X1_run (op_X1_run fu) [31] 33 (K_X1_run fu) := by
  refine ⟨fun pc ls st w => c_none (b_none fun _ => b_none fun _ => b_none fun _ => b_none fun _ => b_none fun _ => b_none fun _ => b_none fun _ => skN_none rfl) (rfl), fun n pc ls st w o h => ?_⟩
  rcases c_some h with ⟨rfl, h⟩ | h
  · obtain ⟨a0, h0, h⟩ := some_of h; obtain ⟨a1, h1, h⟩ := some_of h; obtain ⟨a2, h2, h⟩ := some_of h; obtain ⟨a3, h3, h⟩ := some_of h; obtain ⟨a4, h4, h⟩ := some_of h; obtain ⟨a5, h5, h⟩ := some_of h; obtain ⟨a6, h6, h⟩ := some_of h;
    obtain ⟨e, g⟩ := skN_of h
    subst e
    exact ⟨[(0, .ref a0), (1, .ref a1), (2, .int a2), (3, .int a3), (4, .int a4), (5, .int a5), (6, .int a6)], cons_all (xr_of h0) (cons_all (xr_of h1) (cons_all (xi_of h2) (cons_all (xi_of h3) (cons_all (xi_of h4) (cons_all (xi_of h5) (cons_all (xi_of h6) (nil_all))))))), (E_X1_run_31 fu n a0 a1 a2 a3 a4 a5 a6 w).symm.trans g⟩
  · cases h
theorem H_X1_run (fu : Nat) : ∀ as w o, U_X1_run fu as w = some o → ∃ a r, as = .ref a :: r ∧ r.length = 4 ∧ isO w a 1 = true := by
  intro as w o h
  unfold U_X1_run at h
  split at h
  next =>
    split at h
    next hh => exact ⟨_, _, rfl, rfl, hh⟩
    next => cases h
  next => cases h
set_option maxRecDepth 100000 in
set_option maxHeartbeats 4000000 in
theorem S_X1_run (fu : Nat) {l : Launch} {D : va_G} {cA : Nat → ClassId} {base b : Nat} : CS l D cA base b 3 y_X1_run prog_3_method_2_code 7 (none) (U_X1_run fu) ∧ OM (U_X1_run fu) := by
  refine CS_of (d := 2) (y := y_X1_run) (cc := prog_3_method_2_code) (nL := 7) (ret := (none)) (F := U_X1_run fu) (fl := fl_BrookStones_Flood) (nl := []) (kl := []) (k2 := []) (mv := [(18, 1, 1, (U_X0_filled fu)), (34, 5, 1, (U_X1_goRound fu))]) (ms := [(28, 2, 0, (U_J7_fill_53178 fu))]) (mi := []) (ini := false) hI_w hZ_w fl_BrookStones_Flood_ok nil_all nil_all nil_all
    (cons_all (⟨⟨show (1 : Nat) ≠ 3 by decide, y_X0_filled, prog_2_method_17_code, 1, (some .int), 2, "BrookStones", 0, TX0, 15, 0, (S_X0_filled fu (l := l) (D := D) (cA := cA) (base := base) (b := b)).1, by decide, by decide, rfl, H_X0_filled fu, rfl, mi_X0_filled.1, mi_X0_filled.2.1, mi_X0_filled.2.2.1, mi_X0_filled.2.2.2.1, mi_X0_filled.2.2.2.2, Or.inr (tblN_of (i := 479) rfl rfl)⟩, (S_X0_filled fu (l := l) (D := D) (cA := cA) (base := base) (b := b)).2⟩) (cons_all (⟨⟨show (1 : Nat) ≠ 3 by decide, y_X1_goRound, prog_3_method_3_code, 9, (some .boolean), 2, "BrookStones", 1, TX1, 3, 4, (S_X1_goRound fu (l := l) (D := D) (cA := cA) (base := base) (b := b)).1, by decide, by decide, rfl, H_X1_goRound fu, rfl, mi_X1_goRound.1, mi_X1_goRound.2.1, mi_X1_goRound.2.2.1, mi_X1_goRound.2.2.2.1, mi_X1_goRound.2.2.2.2, Or.inl (tblG_of (i := 481) rfl rfl)⟩, (S_X1_goRound fu (l := l) (D := D) (cA := cA) (base := base) (b := b)).2⟩) (nil_all)))
    (cons_all (⟨Or.inl ⟨show (0 : Nat) ≠ 3 by decide, y_J7_fill_53178, prog_14_method_103_code, 4, (none), 1, "BrookStones", (S_J7_fill_53178 fu (l := l) (D := D) (cA := cA) (base := base) (b := b)).1, by decide, by decide, mi_J7_fill_53178.1, mi_J7_fill_53178.2.1, mi_J7_fill_53178.2.2.1, mi_J7_fill_53178.2.2.2, Or.inl (tblG_of (i := 480) rfl rfl)⟩, (S_J7_fill_53178 fu (l := l) (D := D) (cA := cA) (base := base) (b := b)).2⟩) (nil_all))
    (nil_all)
    (T := T_X1_run) (by decide +kernel) (cut := [31]) (N := 33) (D_X1_run fu) (by decide +kernel) (fun h => absurd h (by decide)) (fun as w o h => ?_)
  unfold U_X1_run at h
  split at h
  next =>
    split at h
    next => exact ⟨Nat.le_of_ble_eq_true rfl, fu, (E_X1_run fu _ _ _ _ _ w).symm.trans h⟩
    next => cases h
  next => cases h
def T_X7_stands : List (Nat × Instr) := [(0, .iload_n 1), (1, .iload_n 2), (2, .invokestatic 200), (5, .ifCond .ne 6), (8, .bipush (-2)), (10, .ireturn), (11, .aload_n 0), (12, .getfield 12), (15, .invokevirtual 109), (18, .ifCond .ne 6), (21, .bipush (-3)), (23, .ireturn), (24, .aload_n 0), (25, .getfield 35), (28, .aload_n 0), (29, .getfield 12), (32, .aload_n 0), (33, .getfield 12), (36, .getfield 91), (39, .iload_n 1), (40, .iload_n 2), (41, .invokevirtual 203), (44, .aload_n 0), (45, .getfield 35), (48, .getfield 207), (51, .ireturn)]
def op_X7_stands (fu : Nat) : Nat → Kont → XL → List Value → XW → Instr → Option XO := opK 3 (rzOf (some .int)) fl_BrookStones nl_BrookStones [] k2_BrookStones [(109, 1, 1, (U_X0_isThere fu)), (203, 5, 0, (U_X1_run fu))] [(200, 2, 1, (U_X7_isFlood fu))] []
def M_X7_stands (fu : Nat) (a0 : Nat) (a1 : Int32) (a2 : Int32) (w : XW) : Option XO :=
  cI (U_X7_isFlood fu [.int a1, .int a2] w) fun x2 w1 =>
  (if x2 = 0 then
    some (some (.int (-2 : Int32)), w1)
  else
    (gR w1 a0 6 0).bind fun r3 =>
    cI (U_X0_isThere fu [.ref r3] w1) fun x5 w4 =>
    (if x5 = 0 then
      some (some (.int (-3 : Int32)), w4)
    else
      (gR w4 a0 6 3).bind fun r6 =>
      (gR w4 a0 6 0).bind fun r7 =>
      (gR w4 a0 6 0).bind fun r8 =>
      (gI w4 r8 0 10).bind fun x9 =>
      cV (U_X1_run fu [.ref r6, .ref r7, .int x9, .int a1, .int a2] w4) fun w10 =>
      (gR w10 a0 6 3).bind fun r11 =>
      (gI w10 r11 1 2).bind fun x12 =>
      some (some (.int x12), w10)))
def U_X7_stands (fu : Nat) : Orc := fun as w => match as with
  | [.ref a0, .int a1, .int a2] => if isO w a0 6 = true then M_X7_stands fu a0 a1 a2 w else none
  | _ => none
def K_X7_stands (fu : Nat) (n : Nat) : Kont := fun pc ls st w => none
set_option maxRecDepth 100000 in
set_option maxHeartbeats 4000000 in
theorem E_X7_stands (fu : Nat) (a0 : Nat) (a1 : Int32) (a2 : Int32) (w : XW) : M_X7_stands fu a0 a1 a2 w = ev T_X7_stands (op_X7_stands fu) [] (K_X7_stands fu fu) 28 0 (lv_args 0 [.ref a0, .int a1, .int a2]) [] w := by
  rfl
theorem D_X7_stands (fu : Nat) : DS T_X7_stands (op_X7_stands fu) [] 28 (K_X7_stands fu) := by
  refine ⟨fun pc ls st w => rfl, fun n pc ls st w o h => ?_⟩
  cases h
theorem H_X7_stands (fu : Nat) : ∀ as w o, U_X7_stands fu as w = some o → ∃ a r, as = .ref a :: r ∧ r.length = 2 ∧ isO w a 6 = true := by
  intro as w o h
  unfold U_X7_stands at h
  split at h
  next =>
    split at h
    next hh => exact ⟨_, _, rfl, rfl, hh⟩
    next => cases h
  next => cases h
set_option maxRecDepth 100000 in
set_option maxHeartbeats 4000000 in
theorem S_X7_stands (fu : Nat) {l : Launch} {D : va_G} {cA : Nat → ClassId} {base b : Nat} : CS l D cA base b 4 y_X7_stands prog_1_method_17_code 3 (some .int) (U_X7_stands fu) ∧ OM (U_X7_stands fu) := by
  refine CS_of (d := 3) (y := y_X7_stands) (cc := prog_1_method_17_code) (nL := 3) (ret := (some .int)) (F := U_X7_stands fu) (fl := fl_BrookStones) (nl := nl_BrookStones) (kl := []) (k2 := k2_BrookStones) (mv := [(109, 1, 1, (U_X0_isThere fu)), (203, 5, 0, (U_X1_run fu))]) (ms := [(200, 2, 1, (U_X7_isFlood fu))]) (mi := []) (ini := false) hI_w hZ_w fl_BrookStones_ok nl_BrookStones_ok nil_all k2_BrookStones_ok
    (cons_all (⟨⟨show (1 : Nat) ≠ 3 by decide, y_X0_isThere, prog_2_method_3_code, 1, (some .boolean), 1, "BrookStones", 0, TX0, 15, 0, (S_X0_isThere fu (l := l) (D := D) (cA := cA) (base := base) (b := b)).1, by decide, by decide, rfl, H_X0_isThere fu, rfl, mi_X0_isThere.1, mi_X0_isThere.2.1, mi_X0_isThere.2.2.1, mi_X0_isThere.2.2.2.1, mi_X0_isThere.2.2.2.2, Or.inr (tblN_of (i := 334) rfl rfl)⟩, (S_X0_isThere fu (l := l) (D := D) (cA := cA) (base := base) (b := b)).2⟩) (cons_all (⟨⟨show (0 : Nat) ≠ 3 by decide, y_X1_run, prog_3_method_2_code, 7, (none), 3, "BrookStones", 1, TX1, 3, 4, (S_X1_run fu (l := l) (D := D) (cA := cA) (base := base) (b := b)).1, by decide, by decide, rfl, H_X1_run fu, rfl, mi_X1_run.1, mi_X1_run.2.1, mi_X1_run.2.2.1, mi_X1_run.2.2.2.1, mi_X1_run.2.2.2.2, Or.inr (tblN_of (i := 475) rfl rfl)⟩, (S_X1_run fu (l := l) (D := D) (cA := cA) (base := base) (b := b)).2⟩) (nil_all)))
    (cons_all (⟨Or.inl ⟨show (1 : Nat) ≠ 3 by decide, y_X7_isFlood, prog_1_method_45_code, 2, (some .boolean), 2, "BrookStones", (S_X7_isFlood fu (l := l) (D := D) (cA := cA) (base := base) (b := b)).1, by decide, by decide, mi_X7_isFlood.1, mi_X7_isFlood.2.1, mi_X7_isFlood.2.2.1, mi_X7_isFlood.2.2.2, Or.inl (tblG_of (i := 472) rfl rfl)⟩, (S_X7_isFlood fu (l := l) (D := D) (cA := cA) (base := base) (b := b)).2⟩) (nil_all))
    (nil_all)
    (T := T_X7_stands) (by decide +kernel) (cut := []) (N := 28) (D_X7_stands fu) (by decide +kernel) (fun h => absurd h (by decide)) (fun as w o h => ?_)
  unfold U_X7_stands at h
  split at h
  next =>
    split at h
    next => exact ⟨Nat.le_of_ble_eq_true rfl, fu, (E_X7_stands fu _ _ _ w).symm.trans h⟩
    next => cases h
  next => cases h
def T_X8_isFlood : List (Nat × Instr) := [(0, .iload_n 0), (1, .iconst 0), (2, .bipush 9), (4, .invokestatic 89), (7, .ifCond .eq 17), (10, .iload_n 1), (11, .iconst 0), (12, .bipush 30), (14, .invokestatic 89), (17, .ifCond .eq 7), (20, .iconst 1), (21, .goto 4), (24, .iconst 0), (25, .ireturn)]
def op_X8_isFlood (fu : Nat) : Nat → Kont → XL → List Value → XW → Instr → Option XO := opK 2 (rzOf (some .boolean)) fl_BrookStonesModel [] kl_BrookStonesModel k2_BrookStonesModel [] [(89, 3, 1, (U_X8_within fu))] []
def M_X8_isFlood (fu : Nat) (a0 : Int32) (a1 : Int32) (w : XW) : Option XO :=
  cI (U_X8_within fu [.int a0, .int (0 : Int32), .int (9 : Int32)] w) fun x2 w1 =>
  (if x2 = 0 then
    retZ (0 : Int32) w1
  else
    cI (U_X8_within fu [.int a1, .int (0 : Int32), .int (30 : Int32)] w1) fun x4 w3 =>
    (if x4 = 0 then
      retZ (0 : Int32) w3
    else
      retZ (1 : Int32) w3))
def U_X8_isFlood (fu : Nat) : Orc := fun as w => match as with
  | [.int a0, .int a1] => M_X8_isFlood fu a0 a1 w
  | _ => none
def K_X8_isFlood (fu : Nat) (n : Nat) : Kont := fun pc ls st w => none
set_option maxRecDepth 100000 in
set_option maxHeartbeats 4000000 in
theorem E_X8_isFlood (fu : Nat) (a0 : Int32) (a1 : Int32) (w : XW) : M_X8_isFlood fu a0 a1 w = ev T_X8_isFlood (op_X8_isFlood fu) [] (K_X8_isFlood fu fu) 16 0 (lv_args 0 [.int a0, .int a1]) [] w := by
  rfl
theorem D_X8_isFlood (fu : Nat) : DS T_X8_isFlood (op_X8_isFlood fu) [] 16 (K_X8_isFlood fu) := by
  refine ⟨fun pc ls st w => rfl, fun n pc ls st w o h => ?_⟩
  cases h
set_option maxRecDepth 100000 in
set_option maxHeartbeats 4000000 in
theorem S_X8_isFlood (fu : Nat) {l : Launch} {D : va_G} {cA : Nat → ClassId} {base b : Nat} : CS l D cA base b 2 y_X8_isFlood prog_10_method_43_code 2 (some .boolean) (U_X8_isFlood fu) ∧ OM (U_X8_isFlood fu) := by
  refine CS_of (d := 1) (y := y_X8_isFlood) (cc := prog_10_method_43_code) (nL := 2) (ret := (some .boolean)) (F := U_X8_isFlood fu) (fl := fl_BrookStonesModel) (nl := []) (kl := kl_BrookStonesModel) (k2 := k2_BrookStonesModel) (mv := []) (ms := [(89, 3, 1, (U_X8_within fu))]) (mi := []) (ini := false) hI_w hZ_w fl_BrookStonesModel_ok nil_all kl_BrookStonesModel_ok k2_BrookStonesModel_ok
    (nil_all)
    (cons_all (⟨Or.inl ⟨show (1 : Nat) ≠ 3 by decide, y_X8_within, prog_10_method_5_code, 3, (some .boolean), 1, "BrookStones", (S_X8_within fu (l := l) (D := D) (cA := cA) (base := base) (b := b)).1, by decide, by decide, mi_X8_within.1, mi_X8_within.2.1, mi_X8_within.2.2.1, mi_X8_within.2.2.2, Or.inl (tblG_of (i := 861) rfl rfl)⟩, (S_X8_within fu (l := l) (D := D) (cA := cA) (base := base) (b := b)).2⟩) (nil_all))
    (nil_all)
    (T := T_X8_isFlood) (by decide +kernel) (cut := []) (N := 16) (D_X8_isFlood fu) (by decide +kernel) (fun h => absurd h (by decide)) (fun as w o h => ?_)
  unfold U_X8_isFlood at h
  split at h
  next =>
    exact ⟨Nat.le_of_ble_eq_true rfl, fu, (E_X8_isFlood fu _ _ w).symm.trans h⟩
  next => cases h
def T_X8_powerAt : List (Nat × Instr) := [(0, .aload_n 0), (1, .getfield 123), (4, .iload_n 2), (5, .iadd), (6, .istore_n 3), (7, .iload_n 3), (8, .iload_n 1), (9, .ifCond .le 18), (12, .aload_n 0), (13, .getfield 68), (16, .iload_n 1), (17, .iconst 1), (18, .isub), (19, .baload), (20, .ifCond .eq 7), (23, .iconst 1), (24, .goto 4), (27, .iconst 0), (28, .iadd), (29, .istore_n 3), (30, .iload_n 3), (31, .iload_n 1), (32, .iconst 1), (33, .iadd), (34, .aload_n 0), (35, .getfield 93), (38, .if_icmp .ge 18), (41, .aload_n 0), (42, .getfield 68), (45, .iload_n 1), (46, .iconst 1), (47, .iadd), (48, .baload), (49, .ifCond .eq 7), (52, .iconst 1), (53, .goto 4), (56, .iconst 0), (57, .iadd), (58, .istore_n 3), (59, .aload_n 0), (60, .getfield 25), (63, .iload_n 1), (64, .baload), (65, .ifCond .ne 11), (68, .aload_n 0), (69, .getfield 71), (72, .iload_n 1), (73, .if_icmp .ne 9), (76, .iload_n 3), (77, .iconst 2), (78, .idiv), (79, .goto 4), (82, .iload_n 3), (83, .ireturn)]
def op_X8_powerAt (fu : Nat) : Nat → Kont → XL → List Value → XW → Instr → Option XO := opK 4 (rzOf (some .int)) fl_BrookStonesModel [] kl_BrookStonesModel k2_BrookStonesModel [] [] []
def F_X8_powerAt (fu : Nat) : Nat → (Nat → Int32 → Int32 → Int32 → XW → Option XO) × (Nat → Int32 → Int32 → Int32 → XW → Option XO)
  | 0 => (fun _ _ _ _ _ => none, fun _ _ _ _ _ => none)
  | n + 1 => ((fun a0 a1 s0 s1 w =>
    (gI w a0 7 5).bind fun x1 =>
    (if (a1 + (1 : Int32)) < x1 then
      (gR w a0 7 30).bind fun r2 =>
      (aZ w r2 (a1 + (1 : Int32))).bind fun x3 =>
      (if x3 = 0 then
        (F_X8_powerAt fu n).2 a0 a1 (0 : Int32) (s1 + s0) w
      else
        (F_X8_powerAt fu n).2 a0 a1 (1 : Int32) (s1 + s0) w)
    else
      (F_X8_powerAt fu n).2 a0 a1 (0 : Int32) (s1 + s0) w)),
   (fun a0 a1 s0 s1 w =>
    (gR w a0 7 10).bind fun r4 =>
    (aZ w r4 a1).bind fun x5 =>
    (if x5 = 0 then
      (gI w a0 7 31).bind fun x6 =>
      (if x6 = a1 then
        (if (2 : Int32) = 0 then none else
        some (some (.int ((s1 + s0) / (2 : Int32))), w))
      else
        some (some (.int (s1 + s0)), w))
    else
      (if (2 : Int32) = 0 then none else
      some (some (.int ((s1 + s0) / (2 : Int32))), w)))))
def M_X8_powerAt (fu : Nat) (a0 : Nat) (a1 : Int32) (a2 : Int32) (w : XW) : Option XO :=
  (gI w a0 7 6).bind fun x7 =>
  (if 0 < a1 then
    (gR w a0 7 30).bind fun r8 =>
    (aZ w r8 (a1 - (1 : Int32))).bind fun x9 =>
    (if x9 = 0 then
      (F_X8_powerAt fu fu).1 a0 a1 (0 : Int32) (x7 + a2) w
    else
      (F_X8_powerAt fu fu).1 a0 a1 (1 : Int32) (x7 + a2) w)
  else
    (F_X8_powerAt fu fu).1 a0 a1 (0 : Int32) (x7 + a2) w)
def U_X8_powerAt (fu : Nat) : Orc := fun as w => match as with
  | [.ref a0, .int a1, .int a2] => if isO w a0 7 = true then M_X8_powerAt fu a0 a1 a2 w else none
  | _ => none
def K_X8_powerAt (fu : Nat) (n : Nat) : Kont := fun pc ls st w => bif pc == 28 then ((xr ls 0).bind fun a0 => (xi ls 1).bind fun a1 => skI st fun s0 st => skI st fun s1 st => skN st ((F_X8_powerAt fu n).1 a0 a1 s0 s1 w)) else bif pc == 57 then ((xr ls 0).bind fun a0 => (xi ls 1).bind fun a1 => skI st fun s0 st => skI st fun s1 st => skN st ((F_X8_powerAt fu n).2 a0 a1 s0 s1 w)) else none
set_option maxRecDepth 100000 in
set_option maxHeartbeats 4000000 in
theorem E_X8_powerAt_28 (fu : Nat) (n : Nat) (a0 : Nat) (a1 : Int32) (s0 : Int32) (s1 : Int32) (w : XW) : (F_X8_powerAt fu (n + 1)).1 a0 a1 s0 s1 w = ev T_X8_powerAt (op_X8_powerAt fu) [28, 57] (K_X8_powerAt fu n) 56 28 [(0, .ref a0), (1, .int a1)] [.int s0, .int s1] w := by
  rfl
set_option maxRecDepth 100000 in
set_option maxHeartbeats 4000000 in
theorem E_X8_powerAt_57 (fu : Nat) (n : Nat) (a0 : Nat) (a1 : Int32) (s0 : Int32) (s1 : Int32) (w : XW) : (F_X8_powerAt fu (n + 1)).2 a0 a1 s0 s1 w = ev T_X8_powerAt (op_X8_powerAt fu) [28, 57] (K_X8_powerAt fu n) 56 57 [(0, .ref a0), (1, .int a1)] [.int s0, .int s1] w := by
  rfl
set_option maxRecDepth 100000 in
set_option maxHeartbeats 4000000 in
theorem E_X8_powerAt (fu : Nat) (a0 : Nat) (a1 : Int32) (a2 : Int32) (w : XW) : M_X8_powerAt fu a0 a1 a2 w = ev T_X8_powerAt (op_X8_powerAt fu) [28, 57] (K_X8_powerAt fu fu) 56 0 (lv_args 0 [.ref a0, .int a1, .int a2]) [] w := by
  rfl
theorem D_X8_powerAt (fu : Nat) : DS T_X8_powerAt (op_X8_powerAt fu) [28, 57] 56 (K_X8_powerAt fu) := by
  refine ⟨fun pc ls st w => c_none (b_none fun _ => b_none fun _ => skI_none fun _ _ => skI_none fun _ _ => skN_none rfl) (c_none (b_none fun _ => b_none fun _ => skI_none fun _ _ => skI_none fun _ _ => skN_none rfl) (rfl)), fun n pc ls st w o h => ?_⟩
  rcases c_some h with ⟨rfl, h⟩ | h
  · obtain ⟨a0, h0, h⟩ := some_of h; obtain ⟨a1, h1, h⟩ := some_of h;
    obtain ⟨s0, st0, e0, g0⟩ := skI_of h
    obtain ⟨s1, st1, e1, g1⟩ := skI_of g0
    obtain ⟨e, g⟩ := skN_of g1
    subst e
    subst e1
    subst e0
    exact ⟨[(0, .ref a0), (1, .int a1)], cons_all (xr_of h0) (cons_all (xi_of h1) (nil_all)), (E_X8_powerAt_28 fu n a0 a1 s0 s1 w).symm.trans g⟩
  rcases c_some h with ⟨rfl, h⟩ | h
  · obtain ⟨a0, h0, h⟩ := some_of h; obtain ⟨a1, h1, h⟩ := some_of h;
    obtain ⟨s0, st0, e0, g0⟩ := skI_of h
    obtain ⟨s1, st1, e1, g1⟩ := skI_of g0
    obtain ⟨e, g⟩ := skN_of g1
    subst e
    subst e1
    subst e0
    exact ⟨[(0, .ref a0), (1, .int a1)], cons_all (xr_of h0) (cons_all (xi_of h1) (nil_all)), (E_X8_powerAt_57 fu n a0 a1 s0 s1 w).symm.trans g⟩
  · cases h
theorem H_X8_powerAt (fu : Nat) : ∀ as w o, U_X8_powerAt fu as w = some o → ∃ a r, as = .ref a :: r ∧ r.length = 2 ∧ isO w a 7 = true := by
  intro as w o h
  unfold U_X8_powerAt at h
  split at h
  next =>
    split at h
    next hh => exact ⟨_, _, rfl, rfl, hh⟩
    next => cases h
  next => cases h
set_option maxRecDepth 100000 in
set_option maxHeartbeats 4000000 in
theorem S_X8_powerAt (fu : Nat) {l : Launch} {D : va_G} {cA : Nat → ClassId} {base b : Nat} : CS l D cA base b 1 y_X8_powerAt prog_10_method_44_code 4 (some .int) (U_X8_powerAt fu) ∧ OM (U_X8_powerAt fu) := by
  refine CS_of (d := 0) (y := y_X8_powerAt) (cc := prog_10_method_44_code) (nL := 4) (ret := (some .int)) (F := U_X8_powerAt fu) (fl := fl_BrookStonesModel) (nl := []) (kl := kl_BrookStonesModel) (k2 := k2_BrookStonesModel) (mv := []) (ms := []) (mi := []) (ini := false) hI_w hZ_w fl_BrookStonesModel_ok nil_all kl_BrookStonesModel_ok k2_BrookStonesModel_ok
    (nil_all)
    (nil_all)
    (nil_all)
    (T := T_X8_powerAt) (by decide +kernel) (cut := [28, 57]) (N := 56) (D_X8_powerAt fu) (by decide +kernel) (fun h => absurd h (by decide)) (fun as w o h => ?_)
  unfold U_X8_powerAt at h
  split at h
  next =>
    split at h
    next => exact ⟨Nat.le_of_ble_eq_true rfl, fu, (E_X8_powerAt fu _ _ _ w).symm.trans h⟩
    next => cases h
  next => cases h
def T_X8_goFlood : List (Nat × Instr) := [(0, .iconst 0), (1, .istore_n 3), (2, .iload_n 3), (3, .aload_n 0), (4, .getfield 93), (7, .if_icmp .ge 24), (10, .aload_n 0), (11, .getfield 62), (14, .iload_n 3), (15, .iconst 0), (16, .iastore), (17, .aload_n 0), (18, .getfield 65), (21, .iload_n 3), (22, .bipush (-9)), (24, .iastore), (25, .iinc 3 1), (28, .goto (-26)), (31, .iconst 1), (32, .istore_n 3), (33, .iload_n 3), (34, .iload_n 2), (35, .if_icmp .gt 187), (38, .iconst 0), (39, .istore 4), (41, .iload 4), (43, .aload_n 0), (44, .getfield 93), (47, .if_icmp .ge 33), (50, .aload_n 0), (51, .getfield 68), (54, .iload 4), (56, .aload_n 0), (57, .getfield 56), (60, .iload 4), (62, .iaload), (63, .bipush (-9)), (65, .if_icmp .eq 7), (68, .iconst 1), (69, .goto 4), (72, .iconst 0), (73, .bastore), (74, .iinc 4 1), (77, .goto (-36)), (80, .iconst 0), (81, .istore 4), (83, .iload 4), (85, .aload_n 0), (86, .getfield 93), (89, .if_icmp .ge 61), (92, .aload_n 0), (93, .getfield 68), (96, .iload 4), (98, .baload), (99, .ifCond .eq 21), (102, .aload_n 0), (103, .iload 4), (105, .iload_n 1), (106, .invokevirtual 197), (109, .aload_n 0), (110, .getfield 22), (113, .iload 4), (115, .iaload), (116, .isub), (117, .goto 4), (120, .iconst 0), (121, .istore 5), (123, .aload_n 0), (124, .getfield 62), (127, .iload 4), (129, .dup2), (130, .iaload), (131, .iload 5), (133, .ifCond .le 8), (136, .iload 5), (138, .goto 4), (141, .iconst 0), (142, .iadd), (143, .iastore), (144, .iinc 4 1), (147, .goto (-64)), (150, .iconst 0), (151, .istore 4), (153, .iload 4), (155, .aload_n 0), (156, .getfield 93), (159, .if_icmp .ge 57), (162, .aload_n 0), (163, .getfield 68), (166, .iload 4), (168, .baload), (169, .ifCond .eq 41), (172, .aload_n 0), (173, .getfield 62), (176, .iload 4), (178, .iaload), (179, .aload_n 0), (180, .aload_n 0), (181, .getfield 56), (184, .iload 4), (186, .iaload), (187, .invokevirtual 152), (190, .if_icmp .lt 20), (193, .aload_n 0), (194, .getfield 56), (197, .iload 4), (199, .bipush (-9)), (201, .iastore), (202, .aload_n 0), (203, .getfield 65), (206, .iload 4), (208, .iload_n 3), (209, .iastore), (210, .iinc 4 1), (213, .goto (-60)), (216, .iinc 3 1), (219, .goto (-186)), (222, .return_)]
def op_X8_goFlood (fu : Nat) : Nat → Kont → XL → List Value → XW → Instr → Option XO := opK 6 (rzOf (none)) fl_BrookStonesModel [] kl_BrookStonesModel k2_BrookStonesModel [(197, 3, 1, (U_X8_powerAt fu)), (152, 2, 1, (U_X8_holdOf fu))] [] []
def F_X8_goFlood (fu : Nat) : Nat → (Nat → Int32 → Int32 → Int32 → XW → Option XO) × (Nat → Int32 → Int32 → Int32 → XW → Option XO) × (Nat → Int32 → Int32 → Int32 → Int32 → XW → Option XO) × (Nat → Int32 → Int32 → Int32 → Int32 → XW → Option XO) × (Nat → Int32 → Int32 → Int32 → Int32 → Int32 → XW → Option XO) × (Nat → Int32 → Int32 → Int32 → Int32 → XW → Option XO)
  | 0 => (fun _ _ _ _ _ => none, fun _ _ _ _ _ => none, fun _ _ _ _ _ _ => none, fun _ _ _ _ _ _ => none, fun _ _ _ _ _ _ _ => none, fun _ _ _ _ _ _ => none)
  | n + 1 => ((fun a0 a1 a2 a3 w =>
    (gI w a0 7 5).bind fun x1 =>
    (if a3 < x1 then
      (gR w a0 7 28).bind fun r2 =>
      (sI w r2 a3 (0 : Int32)).bind fun w3 =>
      (gR w3 a0 7 29).bind fun r4 =>
      (sI w3 r4 a3 (-9 : Int32)).bind fun w5 =>
      (F_X8_goFlood fu n).1 a0 a1 a2 (a3 + (1 : Int32)) w5
    else
      (F_X8_goFlood fu n).2.1 a0 a1 a2 (1 : Int32) w)),
   (fun a0 a1 a2 a3 w =>
    (if a2 < a3 then
      some (none, w)
    else
      (F_X8_goFlood fu n).2.2.1 a0 a1 a2 a3 (0 : Int32) w)),
   (fun a0 a1 a2 a3 a4 w =>
    (gI w a0 7 5).bind fun x6 =>
    (if a4 < x6 then
      (gR w a0 7 30).bind fun r7 =>
      (gR w a0 7 25).bind fun r8 =>
      (aI w r8 a4).bind fun x9 =>
      (if x9 = (-9 : Int32) then
        (sZ w r7 a4 (0 : Int32)).bind fun w10 =>
        (F_X8_goFlood fu n).2.2.1 a0 a1 a2 a3 (a4 + (1 : Int32)) w10
      else
        (sZ w r7 a4 (1 : Int32)).bind fun w11 =>
        (F_X8_goFlood fu n).2.2.1 a0 a1 a2 a3 (a4 + (1 : Int32)) w11)
    else
      (F_X8_goFlood fu n).2.2.2.1 a0 a1 a2 a3 (0 : Int32) w)),
   (fun a0 a1 a2 a3 a4 w =>
    (gI w a0 7 5).bind fun x12 =>
    (if a4 < x12 then
      (gR w a0 7 30).bind fun r13 =>
      (aZ w r13 a4).bind fun x14 =>
      (if x14 = 0 then
        (F_X8_goFlood fu n).2.2.2.2.1 a0 a1 a2 a3 a4 (0 : Int32) w
      else
        cI (U_X8_powerAt fu [.ref a0, .int a4, .int a1] w) fun x16 w15 =>
        (gR w15 a0 7 9).bind fun r17 =>
        (aI w15 r17 a4).bind fun x18 =>
        (F_X8_goFlood fu n).2.2.2.2.1 a0 a1 a2 a3 a4 (x16 - x18) w15)
    else
      (F_X8_goFlood fu n).2.2.2.2.2 a0 a1 a2 a3 (0 : Int32) w)),
   (fun a0 a1 a2 a3 a4 s0 w =>
    (gR w a0 7 28).bind fun r19 =>
    (aI w r19 a4).bind fun x20 =>
    (if 0 < s0 then
      (sI w r19 a4 (x20 + s0)).bind fun w22 =>
      (F_X8_goFlood fu n).2.2.2.1 a0 a1 a2 a3 (a4 + (1 : Int32)) w22
    else
      (sI w r19 a4 (x20 + (0 : Int32))).bind fun w21 =>
      (F_X8_goFlood fu n).2.2.2.1 a0 a1 a2 a3 (a4 + (1 : Int32)) w21)),
   (fun a0 a1 a2 a3 a4 w =>
    (gI w a0 7 5).bind fun x23 =>
    (if a4 < x23 then
      (gR w a0 7 30).bind fun r24 =>
      (aZ w r24 a4).bind fun x25 =>
      (if x25 = 0 then
        (F_X8_goFlood fu n).2.2.2.2.2 a0 a1 a2 a3 (a4 + (1 : Int32)) w
      else
        (gR w a0 7 28).bind fun r26 =>
        (aI w r26 a4).bind fun x27 =>
        (gR w a0 7 25).bind fun r28 =>
        (aI w r28 a4).bind fun x29 =>
        cI (U_X8_holdOf fu [.ref a0, .int x29] w) fun x31 w30 =>
        (if x27 < x31 then
          (F_X8_goFlood fu n).2.2.2.2.2 a0 a1 a2 a3 (a4 + (1 : Int32)) w30
        else
          (gR w30 a0 7 25).bind fun r32 =>
          (sI w30 r32 a4 (-9 : Int32)).bind fun w33 =>
          (gR w33 a0 7 29).bind fun r34 =>
          (sI w33 r34 a4 a3).bind fun w35 =>
          (F_X8_goFlood fu n).2.2.2.2.2 a0 a1 a2 a3 (a4 + (1 : Int32)) w35))
    else
      (F_X8_goFlood fu n).2.1 a0 a1 a2 (a3 + (1 : Int32)) w)))
def M_X8_goFlood (fu : Nat) (a0 : Nat) (a1 : Int32) (a2 : Int32) (w : XW) : Option XO :=
  (F_X8_goFlood fu fu).1 a0 a1 a2 (0 : Int32) w
def U_X8_goFlood (fu : Nat) : Orc := fun as w => match as with
  | [.ref a0, .int a1, .int a2] => if isO w a0 7 = true then M_X8_goFlood fu a0 a1 a2 w else none
  | _ => none
def K_X8_goFlood (fu : Nat) (n : Nat) : Kont := fun pc ls st w => bif pc == 2 then ((xr ls 0).bind fun a0 => (xi ls 1).bind fun a1 => (xi ls 2).bind fun a2 => (xi ls 3).bind fun a3 => skN st ((F_X8_goFlood fu n).1 a0 a1 a2 a3 w)) else bif pc == 33 then ((xr ls 0).bind fun a0 => (xi ls 1).bind fun a1 => (xi ls 2).bind fun a2 => (xi ls 3).bind fun a3 => skN st ((F_X8_goFlood fu n).2.1 a0 a1 a2 a3 w)) else bif pc == 41 then ((xr ls 0).bind fun a0 => (xi ls 1).bind fun a1 => (xi ls 2).bind fun a2 => (xi ls 3).bind fun a3 => (xi ls 4).bind fun a4 => skN st ((F_X8_goFlood fu n).2.2.1 a0 a1 a2 a3 a4 w)) else bif pc == 83 then ((xr ls 0).bind fun a0 => (xi ls 1).bind fun a1 => (xi ls 2).bind fun a2 => (xi ls 3).bind fun a3 => (xi ls 4).bind fun a4 => skN st ((F_X8_goFlood fu n).2.2.2.1 a0 a1 a2 a3 a4 w)) else bif pc == 121 then ((xr ls 0).bind fun a0 => (xi ls 1).bind fun a1 => (xi ls 2).bind fun a2 => (xi ls 3).bind fun a3 => (xi ls 4).bind fun a4 => skI st fun s0 st => skN st ((F_X8_goFlood fu n).2.2.2.2.1 a0 a1 a2 a3 a4 s0 w)) else bif pc == 153 then ((xr ls 0).bind fun a0 => (xi ls 1).bind fun a1 => (xi ls 2).bind fun a2 => (xi ls 3).bind fun a3 => (xi ls 4).bind fun a4 => skN st ((F_X8_goFlood fu n).2.2.2.2.2 a0 a1 a2 a3 a4 w)) else none
set_option maxRecDepth 100000 in
set_option maxHeartbeats 4000000 in
theorem E_X8_goFlood_2 (fu : Nat) (n : Nat) (a0 : Nat) (a1 : Int32) (a2 : Int32) (a3 : Int32) (w : XW) : (F_X8_goFlood fu (n + 1)).1 a0 a1 a2 a3 w = ev T_X8_goFlood (op_X8_goFlood fu) [2, 33, 41, 83, 121, 153] (K_X8_goFlood fu n) 120 2 [(0, .ref a0), (1, .int a1), (2, .int a2), (3, .int a3)] [] w := by
  rfl
set_option maxRecDepth 100000 in
set_option maxHeartbeats 4000000 in
theorem E_X8_goFlood_33 (fu : Nat) (n : Nat) (a0 : Nat) (a1 : Int32) (a2 : Int32) (a3 : Int32) (w : XW) : (F_X8_goFlood fu (n + 1)).2.1 a0 a1 a2 a3 w = ev T_X8_goFlood (op_X8_goFlood fu) [2, 33, 41, 83, 121, 153] (K_X8_goFlood fu n) 120 33 [(0, .ref a0), (1, .int a1), (2, .int a2), (3, .int a3)] [] w := by
  rfl
set_option maxRecDepth 100000 in
set_option maxHeartbeats 4000000 in
theorem E_X8_goFlood_41 (fu : Nat) (n : Nat) (a0 : Nat) (a1 : Int32) (a2 : Int32) (a3 : Int32) (a4 : Int32) (w : XW) : (F_X8_goFlood fu (n + 1)).2.2.1 a0 a1 a2 a3 a4 w = ev T_X8_goFlood (op_X8_goFlood fu) [2, 33, 41, 83, 121, 153] (K_X8_goFlood fu n) 120 41 [(0, .ref a0), (1, .int a1), (2, .int a2), (3, .int a3), (4, .int a4)] [] w := by
  rfl
set_option maxRecDepth 100000 in
set_option maxHeartbeats 4000000 in
theorem E_X8_goFlood_83 (fu : Nat) (n : Nat) (a0 : Nat) (a1 : Int32) (a2 : Int32) (a3 : Int32) (a4 : Int32) (w : XW) : (F_X8_goFlood fu (n + 1)).2.2.2.1 a0 a1 a2 a3 a4 w = ev T_X8_goFlood (op_X8_goFlood fu) [2, 33, 41, 83, 121, 153] (K_X8_goFlood fu n) 120 83 [(0, .ref a0), (1, .int a1), (2, .int a2), (3, .int a3), (4, .int a4)] [] w := by
  rfl
set_option maxRecDepth 100000 in
set_option maxHeartbeats 4000000 in
theorem E_X8_goFlood_121 (fu : Nat) (n : Nat) (a0 : Nat) (a1 : Int32) (a2 : Int32) (a3 : Int32) (a4 : Int32) (s0 : Int32) (w : XW) : (F_X8_goFlood fu (n + 1)).2.2.2.2.1 a0 a1 a2 a3 a4 s0 w = ev T_X8_goFlood (op_X8_goFlood fu) [2, 33, 41, 83, 121, 153] (K_X8_goFlood fu n) 120 121 [(0, .ref a0), (1, .int a1), (2, .int a2), (3, .int a3), (4, .int a4)] [.int s0] w := by
  rfl
set_option maxRecDepth 100000 in
set_option maxHeartbeats 4000000 in
theorem E_X8_goFlood_153 (fu : Nat) (n : Nat) (a0 : Nat) (a1 : Int32) (a2 : Int32) (a3 : Int32) (a4 : Int32) (w : XW) : (F_X8_goFlood fu (n + 1)).2.2.2.2.2 a0 a1 a2 a3 a4 w = ev T_X8_goFlood (op_X8_goFlood fu) [2, 33, 41, 83, 121, 153] (K_X8_goFlood fu n) 120 153 [(0, .ref a0), (1, .int a1), (2, .int a2), (3, .int a3), (4, .int a4)] [] w := by
  rfl
set_option maxRecDepth 100000 in
set_option maxHeartbeats 4000000 in
theorem E_X8_goFlood (fu : Nat) (a0 : Nat) (a1 : Int32) (a2 : Int32) (w : XW) : M_X8_goFlood fu a0 a1 a2 w = ev T_X8_goFlood (op_X8_goFlood fu) [2, 33, 41, 83, 121, 153] (K_X8_goFlood fu fu) 120 0 (lv_args 0 [.ref a0, .int a1, .int a2]) [] w := by
  rfl
theorem D_X8_goFlood (fu : Nat) : DS T_X8_goFlood (op_X8_goFlood fu) [2, 33, 41, 83, 121, 153] 120 (K_X8_goFlood fu) := by
  refine ⟨fun pc ls st w => c_none (b_none fun _ => b_none fun _ => b_none fun _ => b_none fun _ => skN_none rfl) (c_none (b_none fun _ => b_none fun _ => b_none fun _ => b_none fun _ => skN_none rfl) (c_none (b_none fun _ => b_none fun _ => b_none fun _ => b_none fun _ => b_none fun _ => skN_none rfl) (c_none (b_none fun _ => b_none fun _ => b_none fun _ => b_none fun _ => b_none fun _ => skN_none rfl) (c_none (b_none fun _ => b_none fun _ => b_none fun _ => b_none fun _ => b_none fun _ => skI_none fun _ _ => skN_none rfl) (c_none (b_none fun _ => b_none fun _ => b_none fun _ => b_none fun _ => b_none fun _ => skN_none rfl) (rfl)))))), fun n pc ls st w o h => ?_⟩
  rcases c_some h with ⟨rfl, h⟩ | h
  · obtain ⟨a0, h0, h⟩ := some_of h; obtain ⟨a1, h1, h⟩ := some_of h; obtain ⟨a2, h2, h⟩ := some_of h; obtain ⟨a3, h3, h⟩ := some_of h;
    obtain ⟨e, g⟩ := skN_of h
    subst e
    exact ⟨[(0, .ref a0), (1, .int a1), (2, .int a2), (3, .int a3)], cons_all (xr_of h0) (cons_all (xi_of h1) (cons_all (xi_of h2) (cons_all (xi_of h3) (nil_all)))), (E_X8_goFlood_2 fu n a0 a1 a2 a3 w).symm.trans g⟩
  rcases c_some h with ⟨rfl, h⟩ | h
  · obtain ⟨a0, h0, h⟩ := some_of h; obtain ⟨a1, h1, h⟩ := some_of h; obtain ⟨a2, h2, h⟩ := some_of h; obtain ⟨a3, h3, h⟩ := some_of h;
    obtain ⟨e, g⟩ := skN_of h
    subst e
    exact ⟨[(0, .ref a0), (1, .int a1), (2, .int a2), (3, .int a3)], cons_all (xr_of h0) (cons_all (xi_of h1) (cons_all (xi_of h2) (cons_all (xi_of h3) (nil_all)))), (E_X8_goFlood_33 fu n a0 a1 a2 a3 w).symm.trans g⟩
  rcases c_some h with ⟨rfl, h⟩ | h
  · obtain ⟨a0, h0, h⟩ := some_of h; obtain ⟨a1, h1, h⟩ := some_of h; obtain ⟨a2, h2, h⟩ := some_of h; obtain ⟨a3, h3, h⟩ := some_of h; obtain ⟨a4, h4, h⟩ := some_of h;
    obtain ⟨e, g⟩ := skN_of h
    subst e
    exact ⟨[(0, .ref a0), (1, .int a1), (2, .int a2), (3, .int a3), (4, .int a4)], cons_all (xr_of h0) (cons_all (xi_of h1) (cons_all (xi_of h2) (cons_all (xi_of h3) (cons_all (xi_of h4) (nil_all))))), (E_X8_goFlood_41 fu n a0 a1 a2 a3 a4 w).symm.trans g⟩
  rcases c_some h with ⟨rfl, h⟩ | h
  · obtain ⟨a0, h0, h⟩ := some_of h; obtain ⟨a1, h1, h⟩ := some_of h; obtain ⟨a2, h2, h⟩ := some_of h; obtain ⟨a3, h3, h⟩ := some_of h; obtain ⟨a4, h4, h⟩ := some_of h;
    obtain ⟨e, g⟩ := skN_of h
    subst e
    exact ⟨[(0, .ref a0), (1, .int a1), (2, .int a2), (3, .int a3), (4, .int a4)], cons_all (xr_of h0) (cons_all (xi_of h1) (cons_all (xi_of h2) (cons_all (xi_of h3) (cons_all (xi_of h4) (nil_all))))), (E_X8_goFlood_83 fu n a0 a1 a2 a3 a4 w).symm.trans g⟩
  rcases c_some h with ⟨rfl, h⟩ | h
  · obtain ⟨a0, h0, h⟩ := some_of h; obtain ⟨a1, h1, h⟩ := some_of h; obtain ⟨a2, h2, h⟩ := some_of h; obtain ⟨a3, h3, h⟩ := some_of h; obtain ⟨a4, h4, h⟩ := some_of h;
    obtain ⟨s0, st0, e0, g0⟩ := skI_of h
    obtain ⟨e, g⟩ := skN_of g0
    subst e
    subst e0
    exact ⟨[(0, .ref a0), (1, .int a1), (2, .int a2), (3, .int a3), (4, .int a4)], cons_all (xr_of h0) (cons_all (xi_of h1) (cons_all (xi_of h2) (cons_all (xi_of h3) (cons_all (xi_of h4) (nil_all))))), (E_X8_goFlood_121 fu n a0 a1 a2 a3 a4 s0 w).symm.trans g⟩
  rcases c_some h with ⟨rfl, h⟩ | h
  · obtain ⟨a0, h0, h⟩ := some_of h; obtain ⟨a1, h1, h⟩ := some_of h; obtain ⟨a2, h2, h⟩ := some_of h; obtain ⟨a3, h3, h⟩ := some_of h; obtain ⟨a4, h4, h⟩ := some_of h;
    obtain ⟨e, g⟩ := skN_of h
    subst e
    exact ⟨[(0, .ref a0), (1, .int a1), (2, .int a2), (3, .int a3), (4, .int a4)], cons_all (xr_of h0) (cons_all (xi_of h1) (cons_all (xi_of h2) (cons_all (xi_of h3) (cons_all (xi_of h4) (nil_all))))), (E_X8_goFlood_153 fu n a0 a1 a2 a3 a4 w).symm.trans g⟩
  · cases h
theorem H_X8_goFlood (fu : Nat) : ∀ as w o, U_X8_goFlood fu as w = some o → ∃ a r, as = .ref a :: r ∧ r.length = 2 ∧ isO w a 7 = true := by
  intro as w o h
  unfold U_X8_goFlood at h
  split at h
  next =>
    split at h
    next hh => exact ⟨_, _, rfl, rfl, hh⟩
    next => cases h
  next => cases h
set_option maxRecDepth 100000 in
set_option maxHeartbeats 4000000 in
theorem S_X8_goFlood (fu : Nat) {l : Launch} {D : va_G} {cA : Nat → ClassId} {base b : Nat} : CS l D cA base b 2 y_X8_goFlood prog_10_method_45_code 6 (none) (U_X8_goFlood fu) ∧ OM (U_X8_goFlood fu) := by
  refine CS_of (d := 1) (y := y_X8_goFlood) (cc := prog_10_method_45_code) (nL := 6) (ret := (none)) (F := U_X8_goFlood fu) (fl := fl_BrookStonesModel) (nl := []) (kl := kl_BrookStonesModel) (k2 := k2_BrookStonesModel) (mv := [(197, 3, 1, (U_X8_powerAt fu)), (152, 2, 1, (U_X8_holdOf fu))]) (ms := []) (mi := []) (ini := false) hI_w hZ_w fl_BrookStonesModel_ok nil_all kl_BrookStonesModel_ok k2_BrookStonesModel_ok
    (cons_all (⟨⟨show (1 : Nat) ≠ 3 by decide, y_X8_powerAt, prog_10_method_44_code, 4, (some .int), 1, "BrookStones", 7, TX8, 37, 2, (S_X8_powerAt fu (l := l) (D := D) (cA := cA) (base := base) (b := b)).1, by decide, by decide, rfl, H_X8_powerAt fu, rfl, mi_X8_powerAt.1, mi_X8_powerAt.2.1, mi_X8_powerAt.2.2.1, mi_X8_powerAt.2.2.2.1, mi_X8_powerAt.2.2.2.2, Or.inl (tblG_of (i := 1018) rfl rfl)⟩, (S_X8_powerAt fu (l := l) (D := D) (cA := cA) (base := base) (b := b)).2⟩) (cons_all (⟨⟨show (1 : Nat) ≠ 3 by decide, y_X8_holdOf, prog_10_method_21_code, 2, (some .int), 1, "BrookStones", 7, TX8, 37, 1, (S_X8_holdOf fu (l := l) (D := D) (cA := cA) (base := base) (b := b)).1, by decide, by decide, rfl, H_X8_holdOf fu, rfl, mi_X8_holdOf.1, mi_X8_holdOf.2.1, mi_X8_holdOf.2.2.1, mi_X8_holdOf.2.2.2.1, mi_X8_holdOf.2.2.2.2, Or.inl (tblG_of (i := 919) rfl rfl)⟩, (S_X8_holdOf fu (l := l) (D := D) (cA := cA) (base := base) (b := b)).2⟩) (nil_all)))
    (nil_all)
    (nil_all)
    (T := T_X8_goFlood) (by decide +kernel) (cut := [2, 33, 41, 83, 121, 153]) (N := 120) (D_X8_goFlood fu) (by decide +kernel) (fun h => absurd h (by decide)) (fun as w o h => ?_)
  unfold U_X8_goFlood at h
  split at h
  next =>
    split at h
    next => exact ⟨Nat.le_of_ble_eq_true rfl, fu, (E_X8_goFlood fu _ _ _ w).symm.trans h⟩
    next => cases h
  next => cases h
def T_X8_standing : List (Nat × Instr) := [(0, .iconst 0), (1, .istore_n 1), (2, .iconst 0), (3, .istore_n 2), (4, .iload_n 2), (5, .aload_n 0), (6, .getfield 93), (9, .if_icmp .ge 30), (12, .iload_n 1), (13, .aload_n 0), (14, .getfield 56), (17, .iload_n 2), (18, .iaload), (19, .bipush (-9)), (21, .if_icmp .eq 9), (24, .iconst 1), (25, .iload_n 2), (26, .ishl), (27, .goto 4), (30, .iconst 0), (31, .ior), (32, .istore_n 1), (33, .iinc 2 1), (36, .goto (-32)), (39, .iload_n 1), (40, .ireturn)]
def op_X8_standing (fu : Nat) : Nat → Kont → XL → List Value → XW → Instr → Option XO := opK 3 (rzOf (some .int)) fl_BrookStonesModel [] kl_BrookStonesModel k2_BrookStonesModel [] [] []
def F_X8_standing (fu : Nat) : Nat → (Nat → Int32 → Int32 → XW → Option XO)
  | 0 => fun _ _ _ _ => none
  | n + 1 => (fun a0 a1 a2 w =>
    (gI w a0 7 5).bind fun x1 =>
    (if a2 < x1 then
      (gR w a0 7 25).bind fun r2 =>
      (aI w r2 a2).bind fun x3 =>
      (if x3 = (-9 : Int32) then
        (F_X8_standing fu n) a0 (a1 ||| (0 : Int32)) (a2 + (1 : Int32)) w
      else
        (F_X8_standing fu n) a0 (a1 ||| ((1 : Int32) <<< (a2 &&& 31))) (a2 + (1 : Int32)) w)
    else
      some (some (.int a1), w)))
def M_X8_standing (fu : Nat) (a0 : Nat) (w : XW) : Option XO :=
  (F_X8_standing fu fu) a0 (0 : Int32) (0 : Int32) w
def U_X8_standing (fu : Nat) : Orc := fun as w => match as with
  | [.ref a0] => if isO w a0 7 = true then M_X8_standing fu a0 w else none
  | _ => none
def K_X8_standing (fu : Nat) (n : Nat) : Kont := fun pc ls st w => bif pc == 4 then ((xr ls 0).bind fun a0 => (xi ls 1).bind fun a1 => (xi ls 2).bind fun a2 => skN st ((F_X8_standing fu n) a0 a1 a2 w)) else none
set_option maxRecDepth 100000 in
set_option maxHeartbeats 4000000 in
theorem E_X8_standing_4 (fu : Nat) (n : Nat) (a0 : Nat) (a1 : Int32) (a2 : Int32) (w : XW) : (F_X8_standing fu (n + 1)) a0 a1 a2 w = ev T_X8_standing (op_X8_standing fu) [4] (K_X8_standing fu n) 28 4 [(0, .ref a0), (1, .int a1), (2, .int a2)] [] w := by
  rfl
set_option maxRecDepth 100000 in
set_option maxHeartbeats 4000000 in
theorem E_X8_standing (fu : Nat) (a0 : Nat) (w : XW) : M_X8_standing fu a0 w = ev T_X8_standing (op_X8_standing fu) [4] (K_X8_standing fu fu) 28 0 (lv_args 0 [.ref a0]) [] w := by
  rfl
theorem D_X8_standing (fu : Nat) : DS T_X8_standing (op_X8_standing fu) [4] 28 (K_X8_standing fu) := by
  refine ⟨fun pc ls st w => c_none (b_none fun _ => b_none fun _ => b_none fun _ => skN_none rfl) (rfl), fun n pc ls st w o h => ?_⟩
  rcases c_some h with ⟨rfl, h⟩ | h
  · obtain ⟨a0, h0, h⟩ := some_of h; obtain ⟨a1, h1, h⟩ := some_of h; obtain ⟨a2, h2, h⟩ := some_of h;
    obtain ⟨e, g⟩ := skN_of h
    subst e
    exact ⟨[(0, .ref a0), (1, .int a1), (2, .int a2)], cons_all (xr_of h0) (cons_all (xi_of h1) (cons_all (xi_of h2) (nil_all))), (E_X8_standing_4 fu n a0 a1 a2 w).symm.trans g⟩
  · cases h
theorem H_X8_standing (fu : Nat) : ∀ as w o, U_X8_standing fu as w = some o → ∃ a r, as = .ref a :: r ∧ r.length = 0 ∧ isO w a 7 = true := by
  intro as w o h
  unfold U_X8_standing at h
  split at h
  next =>
    split at h
    next hh => exact ⟨_, _, rfl, rfl, hh⟩
    next => cases h
  next => cases h
set_option maxRecDepth 100000 in
set_option maxHeartbeats 4000000 in
theorem S_X8_standing (fu : Nat) {l : Launch} {D : va_G} {cA : Nat → ClassId} {base b : Nat} : CS l D cA base b 1 y_X8_standing prog_10_method_46_code 3 (some .int) (U_X8_standing fu) ∧ OM (U_X8_standing fu) := by
  refine CS_of (d := 0) (y := y_X8_standing) (cc := prog_10_method_46_code) (nL := 3) (ret := (some .int)) (F := U_X8_standing fu) (fl := fl_BrookStonesModel) (nl := []) (kl := kl_BrookStonesModel) (k2 := k2_BrookStonesModel) (mv := []) (ms := []) (mi := []) (ini := false) hI_w hZ_w fl_BrookStonesModel_ok nil_all kl_BrookStonesModel_ok k2_BrookStonesModel_ok
    (nil_all)
    (nil_all)
    (nil_all)
    (T := T_X8_standing) (by decide +kernel) (cut := [4]) (N := 28) (D_X8_standing fu) (by decide +kernel) (fun h => absurd h (by decide)) (fun as w o h => ?_)
  unfold U_X8_standing at h
  split at h
  next =>
    split at h
    next => exact ⟨Nat.le_of_ble_eq_true rfl, fu, (E_X8_standing fu _ w).symm.trans h⟩
    next => cases h
  next => cases h
def T_X8_stands : List (Nat × Instr) := [(0, .iload_n 1), (1, .iload_n 2), (2, .invokestatic 200), (5, .ifCond .ne 6), (8, .bipush (-2)), (10, .ireturn), (11, .aload_n 0), (12, .getfield 93), (15, .ifCond .ne 6), (18, .bipush (-3)), (20, .ireturn), (21, .aload_n 0), (22, .invokevirtual 181), (25, .aload_n 0), (26, .iload_n 1), (27, .iload_n 2), (28, .invokevirtual 203), (31, .aload_n 0), (32, .invokevirtual 206), (35, .ireturn)]
def op_X8_stands (fu : Nat) : Nat → Kont → XL → List Value → XW → Instr → Option XO := opK 3 (rzOf (some .int)) fl_BrookStonesModel [] kl_BrookStonesModel k2_BrookStonesModel [(181, 1, 0, (U_X8_layNow fu)), (203, 3, 0, (U_X8_goFlood fu)), (206, 1, 1, (U_X8_standing fu))] [(200, 2, 1, (U_X8_isFlood fu))] []
def M_X8_stands (fu : Nat) (a0 : Nat) (a1 : Int32) (a2 : Int32) (w : XW) : Option XO :=
  cI (U_X8_isFlood fu [.int a1, .int a2] w) fun x2 w1 =>
  (if x2 = 0 then
    some (some (.int (-2 : Int32)), w1)
  else
    (gI w1 a0 7 5).bind fun x3 =>
    (if x3 = 0 then
      some (some (.int (-3 : Int32)), w1)
    else
      cV (U_X8_layNow fu [.ref a0] w1) fun w4 =>
      cV (U_X8_goFlood fu [.ref a0, .int a1, .int a2] w4) fun w5 =>
      cI (U_X8_standing fu [.ref a0] w5) fun x7 w6 =>
      some (some (.int x7), w6)))
def U_X8_stands (fu : Nat) : Orc := fun as w => match as with
  | [.ref a0, .int a1, .int a2] => if isO w a0 7 = true then M_X8_stands fu a0 a1 a2 w else none
  | _ => none
def K_X8_stands (fu : Nat) (n : Nat) : Kont := fun pc ls st w => none
set_option maxRecDepth 100000 in
set_option maxHeartbeats 4000000 in
theorem E_X8_stands (fu : Nat) (a0 : Nat) (a1 : Int32) (a2 : Int32) (w : XW) : M_X8_stands fu a0 a1 a2 w = ev T_X8_stands (op_X8_stands fu) [] (K_X8_stands fu fu) 22 0 (lv_args 0 [.ref a0, .int a1, .int a2]) [] w := by
  rfl
theorem D_X8_stands (fu : Nat) : DS T_X8_stands (op_X8_stands fu) [] 22 (K_X8_stands fu) := by
  refine ⟨fun pc ls st w => rfl, fun n pc ls st w o h => ?_⟩
  cases h
theorem H_X8_stands (fu : Nat) : ∀ as w o, U_X8_stands fu as w = some o → ∃ a r, as = .ref a :: r ∧ r.length = 2 ∧ isO w a 7 = true := by
  intro as w o h
  unfold U_X8_stands at h
  split at h
  next =>
    split at h
    next hh => exact ⟨_, _, rfl, rfl, hh⟩
    next => cases h
  next => cases h
set_option maxRecDepth 100000 in
set_option maxHeartbeats 4000000 in
theorem S_X8_stands (fu : Nat) {l : Launch} {D : va_G} {cA : Nat → ClassId} {base b : Nat} : CS l D cA base b 3 y_X8_stands prog_10_method_48_code 3 (some .int) (U_X8_stands fu) ∧ OM (U_X8_stands fu) := by
  refine CS_of (d := 2) (y := y_X8_stands) (cc := prog_10_method_48_code) (nL := 3) (ret := (some .int)) (F := U_X8_stands fu) (fl := fl_BrookStonesModel) (nl := []) (kl := kl_BrookStonesModel) (k2 := k2_BrookStonesModel) (mv := [(181, 1, 0, (U_X8_layNow fu)), (203, 3, 0, (U_X8_goFlood fu)), (206, 1, 1, (U_X8_standing fu))]) (ms := [(200, 2, 1, (U_X8_isFlood fu))]) (mi := []) (ini := false) hI_w hZ_w fl_BrookStonesModel_ok nil_all kl_BrookStonesModel_ok k2_BrookStonesModel_ok
    (cons_all (⟨⟨show (0 : Nat) ≠ 3 by decide, y_X8_layNow, prog_10_method_29_code, 2, (none), 1, "BrookStones", 7, TX8, 37, 0, (S_X8_layNow fu (l := l) (D := D) (cA := cA) (base := base) (b := b)).1, by decide, by decide, rfl, H_X8_layNow fu, rfl, mi_X8_layNow.1, mi_X8_layNow.2.1, mi_X8_layNow.2.2.1, mi_X8_layNow.2.2.2.1, mi_X8_layNow.2.2.2.2, Or.inl (tblG_of (i := 951) rfl rfl)⟩, (S_X8_layNow fu (l := l) (D := D) (cA := cA) (base := base) (b := b)).2⟩) (cons_all (⟨⟨show (0 : Nat) ≠ 3 by decide, y_X8_goFlood, prog_10_method_45_code, 6, (none), 2, "BrookStones", 7, TX8, 37, 2, (S_X8_goFlood fu (l := l) (D := D) (cA := cA) (base := base) (b := b)).1, by decide, by decide, rfl, H_X8_goFlood fu, rfl, mi_X8_goFlood.1, mi_X8_goFlood.2.1, mi_X8_goFlood.2.2.1, mi_X8_goFlood.2.2.2.1, mi_X8_goFlood.2.2.2.2, Or.inl (tblG_of (i := 1014) rfl rfl)⟩, (S_X8_goFlood fu (l := l) (D := D) (cA := cA) (base := base) (b := b)).2⟩) (cons_all (⟨⟨show (1 : Nat) ≠ 3 by decide, y_X8_standing, prog_10_method_46_code, 3, (some .int), 1, "BrookStones", 7, TX8, 37, 0, (S_X8_standing fu (l := l) (D := D) (cA := cA) (base := base) (b := b)).1, by decide, by decide, rfl, H_X8_standing fu, rfl, mi_X8_standing.1, mi_X8_standing.2.1, mi_X8_standing.2.2.1, mi_X8_standing.2.2.2.1, mi_X8_standing.2.2.2.2, Or.inl (tblG_of (i := 1022) rfl rfl)⟩, (S_X8_standing fu (l := l) (D := D) (cA := cA) (base := base) (b := b)).2⟩) (nil_all))))
    (cons_all (⟨Or.inl ⟨show (1 : Nat) ≠ 3 by decide, y_X8_isFlood, prog_10_method_43_code, 2, (some .boolean), 2, "BrookStones", (S_X8_isFlood fu (l := l) (D := D) (cA := cA) (base := base) (b := b)).1, by decide, by decide, mi_X8_isFlood.1, mi_X8_isFlood.2.1, mi_X8_isFlood.2.2.1, mi_X8_isFlood.2.2.2, Or.inl (tblG_of (i := 1011) rfl rfl)⟩, (S_X8_isFlood fu (l := l) (D := D) (cA := cA) (base := base) (b := b)).2⟩) (nil_all))
    (nil_all)
    (T := T_X8_stands) (by decide +kernel) (cut := []) (N := 22) (D_X8_stands fu) (by decide +kernel) (fun h => absurd h (by decide)) (fun as w o h => ?_)
  unfold U_X8_stands at h
  split at h
  next =>
    split at h
    next => exact ⟨Nat.le_of_ble_eq_true rfl, fu, (E_X8_stands fu _ _ _ w).symm.trans h⟩
    next => cases h
  next => cases h
def T_X7_goes : List (Nat × Instr) := [(0, .aload_n 0), (1, .getfield 12), (4, .iload_n 1), (5, .invokevirtual 77), (8, .ifCond .ne 5), (11, .iconst (-1)), (12, .ireturn), (13, .iload_n 2), (14, .bipush 30), (16, .invokestatic 200), (19, .ifCond .ne 6), (22, .bipush (-2)), (24, .ireturn), (25, .aload_n 0), (26, .getfield 35), (29, .aload_n 0), (30, .getfield 12), (33, .aload_n 0), (34, .getfield 12), (37, .getfield 91), (40, .iload_n 2), (41, .bipush 30), (43, .invokevirtual 203), (46, .aload_n 0), (47, .getfield 35), (50, .getfield 210), (53, .iload_n 1), (54, .iaload), (55, .ireturn)]
def op_X7_goes (fu : Nat) : Nat → Kont → XL → List Value → XW → Instr → Option XO := opK 3 (rzOf (some .int)) fl_BrookStones nl_BrookStones [] k2_BrookStones [(77, 2, 1, (U_X0_isCell fu)), (203, 5, 0, (U_X1_run fu))] [(200, 2, 1, (U_X7_isFlood fu))] []
def M_X7_goes (fu : Nat) (a0 : Nat) (a1 : Int32) (a2 : Int32) (w : XW) : Option XO :=
  (gR w a0 6 0).bind fun r1 =>
  cI (U_X0_isCell fu [.ref r1, .int a1] w) fun x3 w2 =>
  (if x3 = 0 then
    some (some (.int (-1 : Int32)), w2)
  else
    cI (U_X7_isFlood fu [.int a2, .int (30 : Int32)] w2) fun x5 w4 =>
    (if x5 = 0 then
      some (some (.int (-2 : Int32)), w4)
    else
      (gR w4 a0 6 3).bind fun r6 =>
      (gR w4 a0 6 0).bind fun r7 =>
      (gR w4 a0 6 0).bind fun r8 =>
      (gI w4 r8 0 10).bind fun x9 =>
      cV (U_X1_run fu [.ref r6, .ref r7, .int x9, .int a2, .int (30 : Int32)] w4) fun w10 =>
      (gR w10 a0 6 3).bind fun r11 =>
      (gR w10 r11 1 1).bind fun r12 =>
      (aI w10 r12 a1).bind fun x13 =>
      some (some (.int x13), w10)))
def U_X7_goes (fu : Nat) : Orc := fun as w => match as with
  | [.ref a0, .int a1, .int a2] => if isO w a0 6 = true then M_X7_goes fu a0 a1 a2 w else none
  | _ => none
def K_X7_goes (fu : Nat) (n : Nat) : Kont := fun pc ls st w => none
set_option maxRecDepth 100000 in
set_option maxHeartbeats 4000000 in
theorem E_X7_goes (fu : Nat) (a0 : Nat) (a1 : Int32) (a2 : Int32) (w : XW) : M_X7_goes fu a0 a1 a2 w = ev T_X7_goes (op_X7_goes fu) [] (K_X7_goes fu fu) 31 0 (lv_args 0 [.ref a0, .int a1, .int a2]) [] w := by
  rfl
theorem D_X7_goes (fu : Nat) : DS T_X7_goes (op_X7_goes fu) [] 31 (K_X7_goes fu) := by
  refine ⟨fun pc ls st w => rfl, fun n pc ls st w o h => ?_⟩
  cases h
theorem H_X7_goes (fu : Nat) : ∀ as w o, U_X7_goes fu as w = some o → ∃ a r, as = .ref a :: r ∧ r.length = 2 ∧ isO w a 6 = true := by
  intro as w o h
  unfold U_X7_goes at h
  split at h
  next =>
    split at h
    next hh => exact ⟨_, _, rfl, rfl, hh⟩
    next => cases h
  next => cases h
set_option maxRecDepth 100000 in
set_option maxHeartbeats 4000000 in
theorem S_X7_goes (fu : Nat) {l : Launch} {D : va_G} {cA : Nat → ClassId} {base b : Nat} : CS l D cA base b 4 y_X7_goes prog_1_method_18_code 3 (some .int) (U_X7_goes fu) ∧ OM (U_X7_goes fu) := by
  refine CS_of (d := 3) (y := y_X7_goes) (cc := prog_1_method_18_code) (nL := 3) (ret := (some .int)) (F := U_X7_goes fu) (fl := fl_BrookStones) (nl := nl_BrookStones) (kl := []) (k2 := k2_BrookStones) (mv := [(77, 2, 1, (U_X0_isCell fu)), (203, 5, 0, (U_X1_run fu))]) (ms := [(200, 2, 1, (U_X7_isFlood fu))]) (mi := []) (ini := false) hI_w hZ_w fl_BrookStones_ok nl_BrookStones_ok nil_all k2_BrookStones_ok
    (cons_all (⟨⟨show (1 : Nat) ≠ 3 by decide, y_X0_isCell, prog_2_method_4_code, 2, (some .boolean), 1, "BrookStones", 0, TX0, 15, 1, (S_X0_isCell fu (l := l) (D := D) (cA := cA) (base := base) (b := b)).1, by decide, by decide, rfl, H_X0_isCell fu, rfl, mi_X0_isCell.1, mi_X0_isCell.2.1, mi_X0_isCell.2.2.1, mi_X0_isCell.2.2.2.1, mi_X0_isCell.2.2.2.2, Or.inr (tblN_of (i := 314) rfl rfl)⟩, (S_X0_isCell fu (l := l) (D := D) (cA := cA) (base := base) (b := b)).2⟩) (cons_all (⟨⟨show (0 : Nat) ≠ 3 by decide, y_X1_run, prog_3_method_2_code, 7, (none), 3, "BrookStones", 1, TX1, 3, 4, (S_X1_run fu (l := l) (D := D) (cA := cA) (base := base) (b := b)).1, by decide, by decide, rfl, H_X1_run fu, rfl, mi_X1_run.1, mi_X1_run.2.1, mi_X1_run.2.2.1, mi_X1_run.2.2.2.1, mi_X1_run.2.2.2.2, Or.inr (tblN_of (i := 475) rfl rfl)⟩, (S_X1_run fu (l := l) (D := D) (cA := cA) (base := base) (b := b)).2⟩) (nil_all)))
    (cons_all (⟨Or.inl ⟨show (1 : Nat) ≠ 3 by decide, y_X7_isFlood, prog_1_method_45_code, 2, (some .boolean), 2, "BrookStones", (S_X7_isFlood fu (l := l) (D := D) (cA := cA) (base := base) (b := b)).1, by decide, by decide, mi_X7_isFlood.1, mi_X7_isFlood.2.1, mi_X7_isFlood.2.2.1, mi_X7_isFlood.2.2.2, Or.inl (tblG_of (i := 472) rfl rfl)⟩, (S_X7_isFlood fu (l := l) (D := D) (cA := cA) (base := base) (b := b)).2⟩) (nil_all))
    (nil_all)
    (T := T_X7_goes) (by decide +kernel) (cut := []) (N := 31) (D_X7_goes fu) (by decide +kernel) (fun h => absurd h (by decide)) (fun as w o h => ?_)
  unfold U_X7_goes at h
  split at h
  next =>
    split at h
    next => exact ⟨Nat.le_of_ble_eq_true rfl, fu, (E_X7_goes fu _ _ _ w).symm.trans h⟩
    next => cases h
  next => cases h
def T_X8_goes : List (Nat × Instr) := [(0, .aload_n 0), (1, .iload_n 1), (2, .invokevirtual 142), (5, .ifCond .ne 5), (8, .iconst (-1)), (9, .ireturn), (10, .iload_n 2), (11, .iconst 0), (12, .bipush 9), (14, .invokestatic 89), (17, .ifCond .ne 6), (20, .bipush (-2)), (22, .ireturn), (23, .aload_n 0), (24, .invokevirtual 181), (27, .aload_n 0), (28, .iload_n 2), (29, .bipush 30), (31, .invokevirtual 203), (34, .aload_n 0), (35, .getfield 65), (38, .iload_n 1), (39, .iaload), (40, .ireturn)]
def op_X8_goes (fu : Nat) : Nat → Kont → XL → List Value → XW → Instr → Option XO := opK 3 (rzOf (some .int)) fl_BrookStonesModel [] kl_BrookStonesModel k2_BrookStonesModel [(142, 2, 1, (U_X8_isCell fu)), (181, 1, 0, (U_X8_layNow fu)), (203, 3, 0, (U_X8_goFlood fu))] [(89, 3, 1, (U_X8_within fu))] []
def M_X8_goes (fu : Nat) (a0 : Nat) (a1 : Int32) (a2 : Int32) (w : XW) : Option XO :=
  cI (U_X8_isCell fu [.ref a0, .int a1] w) fun x2 w1 =>
  (if x2 = 0 then
    some (some (.int (-1 : Int32)), w1)
  else
    cI (U_X8_within fu [.int a2, .int (0 : Int32), .int (9 : Int32)] w1) fun x4 w3 =>
    (if x4 = 0 then
      some (some (.int (-2 : Int32)), w3)
    else
      cV (U_X8_layNow fu [.ref a0] w3) fun w5 =>
      cV (U_X8_goFlood fu [.ref a0, .int a2, .int (30 : Int32)] w5) fun w6 =>
      (gR w6 a0 7 29).bind fun r7 =>
      (aI w6 r7 a1).bind fun x8 =>
      some (some (.int x8), w6)))
def U_X8_goes (fu : Nat) : Orc := fun as w => match as with
  | [.ref a0, .int a1, .int a2] => if isO w a0 7 = true then M_X8_goes fu a0 a1 a2 w else none
  | _ => none
def K_X8_goes (fu : Nat) (n : Nat) : Kont := fun pc ls st w => none
set_option maxRecDepth 100000 in
set_option maxHeartbeats 4000000 in
theorem E_X8_goes (fu : Nat) (a0 : Nat) (a1 : Int32) (a2 : Int32) (w : XW) : M_X8_goes fu a0 a1 a2 w = ev T_X8_goes (op_X8_goes fu) [] (K_X8_goes fu fu) 26 0 (lv_args 0 [.ref a0, .int a1, .int a2]) [] w := by
  rfl
theorem D_X8_goes (fu : Nat) : DS T_X8_goes (op_X8_goes fu) [] 26 (K_X8_goes fu) := by
  refine ⟨fun pc ls st w => rfl, fun n pc ls st w o h => ?_⟩
  cases h
theorem H_X8_goes (fu : Nat) : ∀ as w o, U_X8_goes fu as w = some o → ∃ a r, as = .ref a :: r ∧ r.length = 2 ∧ isO w a 7 = true := by
  intro as w o h
  unfold U_X8_goes at h
  split at h
  next =>
    split at h
    next hh => exact ⟨_, _, rfl, rfl, hh⟩
    next => cases h
  next => cases h
set_option maxRecDepth 100000 in
set_option maxHeartbeats 4000000 in
theorem S_X8_goes (fu : Nat) {l : Launch} {D : va_G} {cA : Nat → ClassId} {base b : Nat} : CS l D cA base b 3 y_X8_goes prog_10_method_49_code 3 (some .int) (U_X8_goes fu) ∧ OM (U_X8_goes fu) := by
  refine CS_of (d := 2) (y := y_X8_goes) (cc := prog_10_method_49_code) (nL := 3) (ret := (some .int)) (F := U_X8_goes fu) (fl := fl_BrookStonesModel) (nl := []) (kl := kl_BrookStonesModel) (k2 := k2_BrookStonesModel) (mv := [(142, 2, 1, (U_X8_isCell fu)), (181, 1, 0, (U_X8_layNow fu)), (203, 3, 0, (U_X8_goFlood fu))]) (ms := [(89, 3, 1, (U_X8_within fu))]) (mi := []) (ini := false) hI_w hZ_w fl_BrookStonesModel_ok nil_all kl_BrookStonesModel_ok k2_BrookStonesModel_ok
    (cons_all (⟨⟨show (1 : Nat) ≠ 3 by decide, y_X8_isCell, prog_10_method_10_code, 2, (some .boolean), 1, "BrookStones", 7, TX8, 37, 1, (S_X8_isCell fu (l := l) (D := D) (cA := cA) (base := base) (b := b)).1, by decide, by decide, rfl, H_X8_isCell fu, rfl, mi_X8_isCell.1, mi_X8_isCell.2.1, mi_X8_isCell.2.2.1, mi_X8_isCell.2.2.2.1, mi_X8_isCell.2.2.2.2, Or.inl (tblG_of (i := 891) rfl rfl)⟩, (S_X8_isCell fu (l := l) (D := D) (cA := cA) (base := base) (b := b)).2⟩) (cons_all (⟨⟨show (0 : Nat) ≠ 3 by decide, y_X8_layNow, prog_10_method_29_code, 2, (none), 1, "BrookStones", 7, TX8, 37, 0, (S_X8_layNow fu (l := l) (D := D) (cA := cA) (base := base) (b := b)).1, by decide, by decide, rfl, H_X8_layNow fu, rfl, mi_X8_layNow.1, mi_X8_layNow.2.1, mi_X8_layNow.2.2.1, mi_X8_layNow.2.2.2.1, mi_X8_layNow.2.2.2.2, Or.inl (tblG_of (i := 951) rfl rfl)⟩, (S_X8_layNow fu (l := l) (D := D) (cA := cA) (base := base) (b := b)).2⟩) (cons_all (⟨⟨show (0 : Nat) ≠ 3 by decide, y_X8_goFlood, prog_10_method_45_code, 6, (none), 2, "BrookStones", 7, TX8, 37, 2, (S_X8_goFlood fu (l := l) (D := D) (cA := cA) (base := base) (b := b)).1, by decide, by decide, rfl, H_X8_goFlood fu, rfl, mi_X8_goFlood.1, mi_X8_goFlood.2.1, mi_X8_goFlood.2.2.1, mi_X8_goFlood.2.2.2.1, mi_X8_goFlood.2.2.2.2, Or.inl (tblG_of (i := 1014) rfl rfl)⟩, (S_X8_goFlood fu (l := l) (D := D) (cA := cA) (base := base) (b := b)).2⟩) (nil_all))))
    (cons_all (⟨Or.inl ⟨show (1 : Nat) ≠ 3 by decide, y_X8_within, prog_10_method_5_code, 3, (some .boolean), 1, "BrookStones", (S_X8_within fu (l := l) (D := D) (cA := cA) (base := base) (b := b)).1, by decide, by decide, mi_X8_within.1, mi_X8_within.2.1, mi_X8_within.2.2.1, mi_X8_within.2.2.2, Or.inl (tblG_of (i := 861) rfl rfl)⟩, (S_X8_within fu (l := l) (D := D) (cA := cA) (base := base) (b := b)).2⟩) (nil_all))
    (nil_all)
    (T := T_X8_goes) (by decide +kernel) (cut := []) (N := 26) (D_X8_goes fu) (by decide +kernel) (fun h => absurd h (by decide)) (fun as w o h => ?_)
  unfold U_X8_goes at h
  split at h
  next =>
    split at h
    next => exact ⟨Nat.le_of_ble_eq_true rfl, fu, (E_X8_goes fu _ _ _ w).symm.trans h⟩
    next => cases h
  next => cases h
def T_X7_dug : List (Nat × Instr) := [(0, .aload_n 0), (1, .getfield 12), (4, .iload_n 1), (5, .invokevirtual 77), (8, .ifCond .ne 5), (11, .iconst (-1)), (12, .ireturn), (13, .iload_n 2), (14, .iload_n 3), (15, .invokestatic 200), (18, .ifCond .ne 6), (21, .bipush (-2)), (23, .ireturn), (24, .aload_n 0), (25, .getfield 35), (28, .aload_n 0), (29, .getfield 12), (32, .aload_n 0), (33, .getfield 12), (36, .getfield 91), (39, .iload_n 2), (40, .iload_n 3), (41, .invokevirtual 203), (44, .aload_n 0), (45, .getfield 35), (48, .getfield 213), (51, .iload_n 1), (52, .iaload), (53, .ireturn)]
def op_X7_dug (fu : Nat) : Nat → Kont → XL → List Value → XW → Instr → Option XO := opK 4 (rzOf (some .int)) fl_BrookStones nl_BrookStones [] k2_BrookStones [(77, 2, 1, (U_X0_isCell fu)), (203, 5, 0, (U_X1_run fu))] [(200, 2, 1, (U_X7_isFlood fu))] []
def M_X7_dug (fu : Nat) (a0 : Nat) (a1 : Int32) (a2 : Int32) (a3 : Int32) (w : XW) : Option XO :=
  (gR w a0 6 0).bind fun r1 =>
  cI (U_X0_isCell fu [.ref r1, .int a1] w) fun x3 w2 =>
  (if x3 = 0 then
    some (some (.int (-1 : Int32)), w2)
  else
    cI (U_X7_isFlood fu [.int a2, .int a3] w2) fun x5 w4 =>
    (if x5 = 0 then
      some (some (.int (-2 : Int32)), w4)
    else
      (gR w4 a0 6 3).bind fun r6 =>
      (gR w4 a0 6 0).bind fun r7 =>
      (gR w4 a0 6 0).bind fun r8 =>
      (gI w4 r8 0 10).bind fun x9 =>
      cV (U_X1_run fu [.ref r6, .ref r7, .int x9, .int a2, .int a3] w4) fun w10 =>
      (gR w10 a0 6 3).bind fun r11 =>
      (gR w10 r11 1 0).bind fun r12 =>
      (aI w10 r12 a1).bind fun x13 =>
      some (some (.int x13), w10)))
def U_X7_dug (fu : Nat) : Orc := fun as w => match as with
  | [.ref a0, .int a1, .int a2, .int a3] => if isO w a0 6 = true then M_X7_dug fu a0 a1 a2 a3 w else none
  | _ => none
def K_X7_dug (fu : Nat) (n : Nat) : Kont := fun pc ls st w => none
set_option maxRecDepth 100000 in
set_option maxHeartbeats 4000000 in
theorem E_X7_dug (fu : Nat) (a0 : Nat) (a1 : Int32) (a2 : Int32) (a3 : Int32) (w : XW) : M_X7_dug fu a0 a1 a2 a3 w = ev T_X7_dug (op_X7_dug fu) [] (K_X7_dug fu fu) 31 0 (lv_args 0 [.ref a0, .int a1, .int a2, .int a3]) [] w := by
  rfl
theorem D_X7_dug (fu : Nat) : DS T_X7_dug (op_X7_dug fu) [] 31 (K_X7_dug fu) := by
  refine ⟨fun pc ls st w => rfl, fun n pc ls st w o h => ?_⟩
  cases h
theorem H_X7_dug (fu : Nat) : ∀ as w o, U_X7_dug fu as w = some o → ∃ a r, as = .ref a :: r ∧ r.length = 3 ∧ isO w a 6 = true := by
  intro as w o h
  unfold U_X7_dug at h
  split at h
  next =>
    split at h
    next hh => exact ⟨_, _, rfl, rfl, hh⟩
    next => cases h
  next => cases h
set_option maxRecDepth 100000 in
set_option maxHeartbeats 4000000 in
theorem S_X7_dug (fu : Nat) {l : Launch} {D : va_G} {cA : Nat → ClassId} {base b : Nat} : CS l D cA base b 4 y_X7_dug prog_1_method_19_code 4 (some .int) (U_X7_dug fu) ∧ OM (U_X7_dug fu) := by
  refine CS_of (d := 3) (y := y_X7_dug) (cc := prog_1_method_19_code) (nL := 4) (ret := (some .int)) (F := U_X7_dug fu) (fl := fl_BrookStones) (nl := nl_BrookStones) (kl := []) (k2 := k2_BrookStones) (mv := [(77, 2, 1, (U_X0_isCell fu)), (203, 5, 0, (U_X1_run fu))]) (ms := [(200, 2, 1, (U_X7_isFlood fu))]) (mi := []) (ini := false) hI_w hZ_w fl_BrookStones_ok nl_BrookStones_ok nil_all k2_BrookStones_ok
    (cons_all (⟨⟨show (1 : Nat) ≠ 3 by decide, y_X0_isCell, prog_2_method_4_code, 2, (some .boolean), 1, "BrookStones", 0, TX0, 15, 1, (S_X0_isCell fu (l := l) (D := D) (cA := cA) (base := base) (b := b)).1, by decide, by decide, rfl, H_X0_isCell fu, rfl, mi_X0_isCell.1, mi_X0_isCell.2.1, mi_X0_isCell.2.2.1, mi_X0_isCell.2.2.2.1, mi_X0_isCell.2.2.2.2, Or.inr (tblN_of (i := 314) rfl rfl)⟩, (S_X0_isCell fu (l := l) (D := D) (cA := cA) (base := base) (b := b)).2⟩) (cons_all (⟨⟨show (0 : Nat) ≠ 3 by decide, y_X1_run, prog_3_method_2_code, 7, (none), 3, "BrookStones", 1, TX1, 3, 4, (S_X1_run fu (l := l) (D := D) (cA := cA) (base := base) (b := b)).1, by decide, by decide, rfl, H_X1_run fu, rfl, mi_X1_run.1, mi_X1_run.2.1, mi_X1_run.2.2.1, mi_X1_run.2.2.2.1, mi_X1_run.2.2.2.2, Or.inr (tblN_of (i := 475) rfl rfl)⟩, (S_X1_run fu (l := l) (D := D) (cA := cA) (base := base) (b := b)).2⟩) (nil_all)))
    (cons_all (⟨Or.inl ⟨show (1 : Nat) ≠ 3 by decide, y_X7_isFlood, prog_1_method_45_code, 2, (some .boolean), 2, "BrookStones", (S_X7_isFlood fu (l := l) (D := D) (cA := cA) (base := base) (b := b)).1, by decide, by decide, mi_X7_isFlood.1, mi_X7_isFlood.2.1, mi_X7_isFlood.2.2.1, mi_X7_isFlood.2.2.2, Or.inl (tblG_of (i := 472) rfl rfl)⟩, (S_X7_isFlood fu (l := l) (D := D) (cA := cA) (base := base) (b := b)).2⟩) (nil_all))
    (nil_all)
    (T := T_X7_dug) (by decide +kernel) (cut := []) (N := 31) (D_X7_dug fu) (by decide +kernel) (fun h => absurd h (by decide)) (fun as w o h => ?_)
  unfold U_X7_dug at h
  split at h
  next =>
    split at h
    next => exact ⟨Nat.le_of_ble_eq_true rfl, fu, (E_X7_dug fu _ _ _ _ w).symm.trans h⟩
    next => cases h
  next => cases h
def T_X8_dug : List (Nat × Instr) := [(0, .aload_n 0), (1, .iload_n 1), (2, .invokevirtual 142), (5, .ifCond .ne 5), (8, .iconst (-1)), (9, .ireturn), (10, .iload_n 2), (11, .iload_n 3), (12, .invokestatic 200), (15, .ifCond .ne 6), (18, .bipush (-2)), (20, .ireturn), (21, .aload_n 0), (22, .invokevirtual 181), (25, .aload_n 0), (26, .iload_n 2), (27, .iload_n 3), (28, .invokevirtual 203), (31, .aload_n 0), (32, .getfield 62), (35, .iload_n 1), (36, .iaload), (37, .ireturn)]
def op_X8_dug (fu : Nat) : Nat → Kont → XL → List Value → XW → Instr → Option XO := opK 4 (rzOf (some .int)) fl_BrookStonesModel [] kl_BrookStonesModel k2_BrookStonesModel [(142, 2, 1, (U_X8_isCell fu)), (181, 1, 0, (U_X8_layNow fu)), (203, 3, 0, (U_X8_goFlood fu))] [(200, 2, 1, (U_X8_isFlood fu))] []
def M_X8_dug (fu : Nat) (a0 : Nat) (a1 : Int32) (a2 : Int32) (a3 : Int32) (w : XW) : Option XO :=
  cI (U_X8_isCell fu [.ref a0, .int a1] w) fun x2 w1 =>
  (if x2 = 0 then
    some (some (.int (-1 : Int32)), w1)
  else
    cI (U_X8_isFlood fu [.int a2, .int a3] w1) fun x4 w3 =>
    (if x4 = 0 then
      some (some (.int (-2 : Int32)), w3)
    else
      cV (U_X8_layNow fu [.ref a0] w3) fun w5 =>
      cV (U_X8_goFlood fu [.ref a0, .int a2, .int a3] w5) fun w6 =>
      (gR w6 a0 7 28).bind fun r7 =>
      (aI w6 r7 a1).bind fun x8 =>
      some (some (.int x8), w6)))
def U_X8_dug (fu : Nat) : Orc := fun as w => match as with
  | [.ref a0, .int a1, .int a2, .int a3] => if isO w a0 7 = true then M_X8_dug fu a0 a1 a2 a3 w else none
  | _ => none
def K_X8_dug (fu : Nat) (n : Nat) : Kont := fun pc ls st w => none
set_option maxRecDepth 100000 in
set_option maxHeartbeats 4000000 in
theorem E_X8_dug (fu : Nat) (a0 : Nat) (a1 : Int32) (a2 : Int32) (a3 : Int32) (w : XW) : M_X8_dug fu a0 a1 a2 a3 w = ev T_X8_dug (op_X8_dug fu) [] (K_X8_dug fu fu) 25 0 (lv_args 0 [.ref a0, .int a1, .int a2, .int a3]) [] w := by
  rfl
theorem D_X8_dug (fu : Nat) : DS T_X8_dug (op_X8_dug fu) [] 25 (K_X8_dug fu) := by
  refine ⟨fun pc ls st w => rfl, fun n pc ls st w o h => ?_⟩
  cases h
theorem H_X8_dug (fu : Nat) : ∀ as w o, U_X8_dug fu as w = some o → ∃ a r, as = .ref a :: r ∧ r.length = 3 ∧ isO w a 7 = true := by
  intro as w o h
  unfold U_X8_dug at h
  split at h
  next =>
    split at h
    next hh => exact ⟨_, _, rfl, rfl, hh⟩
    next => cases h
  next => cases h
set_option maxRecDepth 100000 in
set_option maxHeartbeats 4000000 in
theorem S_X8_dug (fu : Nat) {l : Launch} {D : va_G} {cA : Nat → ClassId} {base b : Nat} : CS l D cA base b 3 y_X8_dug prog_10_method_50_code 4 (some .int) (U_X8_dug fu) ∧ OM (U_X8_dug fu) := by
  refine CS_of (d := 2) (y := y_X8_dug) (cc := prog_10_method_50_code) (nL := 4) (ret := (some .int)) (F := U_X8_dug fu) (fl := fl_BrookStonesModel) (nl := []) (kl := kl_BrookStonesModel) (k2 := k2_BrookStonesModel) (mv := [(142, 2, 1, (U_X8_isCell fu)), (181, 1, 0, (U_X8_layNow fu)), (203, 3, 0, (U_X8_goFlood fu))]) (ms := [(200, 2, 1, (U_X8_isFlood fu))]) (mi := []) (ini := false) hI_w hZ_w fl_BrookStonesModel_ok nil_all kl_BrookStonesModel_ok k2_BrookStonesModel_ok
    (cons_all (⟨⟨show (1 : Nat) ≠ 3 by decide, y_X8_isCell, prog_10_method_10_code, 2, (some .boolean), 1, "BrookStones", 7, TX8, 37, 1, (S_X8_isCell fu (l := l) (D := D) (cA := cA) (base := base) (b := b)).1, by decide, by decide, rfl, H_X8_isCell fu, rfl, mi_X8_isCell.1, mi_X8_isCell.2.1, mi_X8_isCell.2.2.1, mi_X8_isCell.2.2.2.1, mi_X8_isCell.2.2.2.2, Or.inl (tblG_of (i := 891) rfl rfl)⟩, (S_X8_isCell fu (l := l) (D := D) (cA := cA) (base := base) (b := b)).2⟩) (cons_all (⟨⟨show (0 : Nat) ≠ 3 by decide, y_X8_layNow, prog_10_method_29_code, 2, (none), 1, "BrookStones", 7, TX8, 37, 0, (S_X8_layNow fu (l := l) (D := D) (cA := cA) (base := base) (b := b)).1, by decide, by decide, rfl, H_X8_layNow fu, rfl, mi_X8_layNow.1, mi_X8_layNow.2.1, mi_X8_layNow.2.2.1, mi_X8_layNow.2.2.2.1, mi_X8_layNow.2.2.2.2, Or.inl (tblG_of (i := 951) rfl rfl)⟩, (S_X8_layNow fu (l := l) (D := D) (cA := cA) (base := base) (b := b)).2⟩) (cons_all (⟨⟨show (0 : Nat) ≠ 3 by decide, y_X8_goFlood, prog_10_method_45_code, 6, (none), 2, "BrookStones", 7, TX8, 37, 2, (S_X8_goFlood fu (l := l) (D := D) (cA := cA) (base := base) (b := b)).1, by decide, by decide, rfl, H_X8_goFlood fu, rfl, mi_X8_goFlood.1, mi_X8_goFlood.2.1, mi_X8_goFlood.2.2.1, mi_X8_goFlood.2.2.2.1, mi_X8_goFlood.2.2.2.2, Or.inl (tblG_of (i := 1014) rfl rfl)⟩, (S_X8_goFlood fu (l := l) (D := D) (cA := cA) (base := base) (b := b)).2⟩) (nil_all))))
    (cons_all (⟨Or.inl ⟨show (1 : Nat) ≠ 3 by decide, y_X8_isFlood, prog_10_method_43_code, 2, (some .boolean), 2, "BrookStones", (S_X8_isFlood fu (l := l) (D := D) (cA := cA) (base := base) (b := b)).1, by decide, by decide, mi_X8_isFlood.1, mi_X8_isFlood.2.1, mi_X8_isFlood.2.2.1, mi_X8_isFlood.2.2.2, Or.inl (tblG_of (i := 1011) rfl rfl)⟩, (S_X8_isFlood fu (l := l) (D := D) (cA := cA) (base := base) (b := b)).2⟩) (nil_all))
    (nil_all)
    (T := T_X8_dug) (by decide +kernel) (cut := []) (N := 25) (D_X8_dug fu) (by decide +kernel) (fun h => absurd h (by decide)) (fun as w o h => ?_)
  unfold U_X8_dug at h
  split at h
  next =>
    split at h
    next => exact ⟨Nat.le_of_ble_eq_true rfl, fu, (E_X8_dug fu _ _ _ _ w).symm.trans h⟩
    next => cases h
  next => cases h
def T_X0_loseStonesOf : List (Nat × Instr) := [(0, .iconst 0), (1, .istore_n 2), (2, .iload_n 2), (3, .aload_n 0), (4, .getfield 58), (7, .if_icmp .ge 53), (10, .iload_n 1), (11, .iload_n 2), (12, .invokestatic 65), (15, .ifCond .eq 39), (18, .aload_n 0), (19, .getfield 18), (22, .iload_n 2), (23, .iaload), (24, .bipush (-9)), (26, .if_icmp .eq 28), (29, .aload_n 0), (30, .dup), (31, .getfield 52), (34, .iconst 1), (35, .aload_n 0), (36, .getfield 18), (39, .iload_n 2), (40, .iaload), (41, .ishl), (42, .ior), (43, .putfield 52), (46, .aload_n 0), (47, .getfield 18), (50, .iload_n 2), (51, .bipush (-9)), (53, .iastore), (54, .iinc 2 1), (57, .goto (-55)), (60, .return_)]
def op_X0_loseStonesOf (fu : Nat) : Nat → Kont → XL → List Value → XW → Instr → Option XO := opK 3 (rzOf (none)) fl_BrookStones_Brook [] [] [] [] [(65, 2, 1, (U_X7_has fu))] []
def F_X0_loseStonesOf (fu : Nat) : Nat → (Nat → Int32 → Int32 → XW → Option XO)
  | 0 => fun _ _ _ _ => none
  | n + 1 => (fun a0 a1 a2 w =>
    (gI w a0 0 8).bind fun x1 =>
    (if a2 < x1 then
      cI (U_X7_has fu [.int a1, .int a2] w) fun x3 w2 =>
      (if x3 = 0 then
        (F_X0_loseStonesOf fu n) a0 a1 (a2 + (1 : Int32)) w2
      else
        (gR w2 a0 0 2).bind fun r4 =>
        (aI w2 r4 a2).bind fun x5 =>
        (if x5 = (-9 : Int32) then
          (F_X0_loseStonesOf fu n) a0 a1 (a2 + (1 : Int32)) w2
        else
          (gI w2 a0 0 13).bind fun x6 =>
          (gR w2 a0 0 2).bind fun r7 =>
          (aI w2 r7 a2).bind fun x8 =>
          (pF w2 a0 0 13 (.int (x6 ||| ((1 : Int32) <<< (x8 &&& 31))))).bind fun w9 =>
          (gR w9 a0 0 2).bind fun r10 =>
          (sI w9 r10 a2 (-9 : Int32)).bind fun w11 =>
          (F_X0_loseStonesOf fu n) a0 a1 (a2 + (1 : Int32)) w11))
    else
      some (none, w)))
def M_X0_loseStonesOf (fu : Nat) (a0 : Nat) (a1 : Int32) (w : XW) : Option XO :=
  (F_X0_loseStonesOf fu fu) a0 a1 (0 : Int32) w
def U_X0_loseStonesOf (fu : Nat) : Orc := fun as w => match as with
  | [.ref a0, .int a1] => if isO w a0 0 = true then M_X0_loseStonesOf fu a0 a1 w else none
  | _ => none
def K_X0_loseStonesOf (fu : Nat) (n : Nat) : Kont := fun pc ls st w => bif pc == 2 then ((xr ls 0).bind fun a0 => (xi ls 1).bind fun a1 => (xi ls 2).bind fun a2 => skN st ((F_X0_loseStonesOf fu n) a0 a1 a2 w)) else none
set_option maxRecDepth 100000 in
set_option maxHeartbeats 4000000 in
theorem E_X0_loseStonesOf_2 (fu : Nat) (n : Nat) (a0 : Nat) (a1 : Int32) (a2 : Int32) (w : XW) : (F_X0_loseStonesOf fu (n + 1)) a0 a1 a2 w = ev T_X0_loseStonesOf (op_X0_loseStonesOf fu) [2] (K_X0_loseStonesOf fu n) 37 2 [(0, .ref a0), (1, .int a1), (2, .int a2)] [] w := by
  rfl
set_option maxRecDepth 100000 in
set_option maxHeartbeats 4000000 in
theorem E_X0_loseStonesOf (fu : Nat) (a0 : Nat) (a1 : Int32) (w : XW) : M_X0_loseStonesOf fu a0 a1 w = ev T_X0_loseStonesOf (op_X0_loseStonesOf fu) [2] (K_X0_loseStonesOf fu fu) 37 0 (lv_args 0 [.ref a0, .int a1]) [] w := by
  rfl
theorem D_X0_loseStonesOf (fu : Nat) : DS T_X0_loseStonesOf (op_X0_loseStonesOf fu) [2] 37 (K_X0_loseStonesOf fu) := by
  refine ⟨fun pc ls st w => c_none (b_none fun _ => b_none fun _ => b_none fun _ => skN_none rfl) (rfl), fun n pc ls st w o h => ?_⟩
  rcases c_some h with ⟨rfl, h⟩ | h
  · obtain ⟨a0, h0, h⟩ := some_of h; obtain ⟨a1, h1, h⟩ := some_of h; obtain ⟨a2, h2, h⟩ := some_of h;
    obtain ⟨e, g⟩ := skN_of h
    subst e
    exact ⟨[(0, .ref a0), (1, .int a1), (2, .int a2)], cons_all (xr_of h0) (cons_all (xi_of h1) (cons_all (xi_of h2) (nil_all))), (E_X0_loseStonesOf_2 fu n a0 a1 a2 w).symm.trans g⟩
  · cases h
theorem H_X0_loseStonesOf (fu : Nat) : ∀ as w o, U_X0_loseStonesOf fu as w = some o → ∃ a r, as = .ref a :: r ∧ r.length = 1 ∧ isO w a 0 = true := by
  intro as w o h
  unfold U_X0_loseStonesOf at h
  split at h
  next =>
    split at h
    next hh => exact ⟨_, _, rfl, rfl, hh⟩
    next => cases h
  next => cases h
set_option maxRecDepth 100000 in
set_option maxHeartbeats 4000000 in
theorem S_X0_loseStonesOf (fu : Nat) {l : Launch} {D : va_G} {cA : Nat → ClassId} {base b : Nat} : CS l D cA base b 2 y_X0_loseStonesOf prog_2_method_16_code 3 (none) (U_X0_loseStonesOf fu) ∧ OM (U_X0_loseStonesOf fu) := by
  refine CS_of (d := 1) (y := y_X0_loseStonesOf) (cc := prog_2_method_16_code) (nL := 3) (ret := (none)) (F := U_X0_loseStonesOf fu) (fl := fl_BrookStones_Brook) (nl := []) (kl := []) (k2 := []) (mv := []) (ms := [(65, 2, 1, (U_X7_has fu))]) (mi := []) (ini := false) hI_w hZ_w fl_BrookStones_Brook_ok nil_all nil_all nil_all
    (nil_all)
    (cons_all (⟨Or.inl ⟨show (1 : Nat) ≠ 3 by decide, y_X7_has, prog_1_method_47_code, 2, (some .boolean), 1, "BrookStones", (S_X7_has fu (l := l) (D := D) (cA := cA) (base := base) (b := b)).1, by decide, by decide, mi_X7_has.1, mi_X7_has.2.1, mi_X7_has.2.2.1, mi_X7_has.2.2.2, Or.inr (tblN_of (i := 506) rfl rfl)⟩, (S_X7_has fu (l := l) (D := D) (cA := cA) (base := base) (b := b)).2⟩) (nil_all))
    (nil_all)
    (T := T_X0_loseStonesOf) (by decide +kernel) (cut := [2]) (N := 37) (D_X0_loseStonesOf fu) (by decide +kernel) (fun h => absurd h (by decide)) (fun as w o h => ?_)
  unfold U_X0_loseStonesOf at h
  split at h
  next =>
    split at h
    next => exact ⟨Nat.le_of_ble_eq_true rfl, fu, (E_X0_loseStonesOf fu _ _ w).symm.trans h⟩
    next => cases h
  next => cases h
def T_J6_bitCount_0f7a4 : List (Nat × Instr) := [(0, .iload_n 0), (1, .iload_n 0), (2, .iconst 1), (3, .iushr), (4, .ldc_w 265), (7, .iand), (8, .isub), (9, .istore_n 0), (10, .iload_n 0), (11, .ldc_w 266), (14, .iand), (15, .iload_n 0), (16, .iconst 2), (17, .iushr), (18, .ldc_w 266), (21, .iand), (22, .iadd), (23, .istore_n 0), (24, .iload_n 0), (25, .iload_n 0), (26, .iconst 4), (27, .iushr), (28, .iadd), (29, .ldc_w 267), (32, .iand), (33, .istore_n 0), (34, .iload_n 0), (35, .iload_n 0), (36, .bipush 8), (38, .iushr), (39, .iadd), (40, .istore_n 0), (41, .iload_n 0), (42, .iload_n 0), (43, .bipush 16), (45, .iushr), (46, .iadd), (47, .istore_n 0), (48, .iload_n 0), (49, .bipush 63), (51, .iand), (52, .ireturn)]
def op_J6_bitCount_0f7a4 (fu : Nat) : Nat → Kont → XL → List Value → XW → Instr → Option XO := opK 1 (rzOf (some .int)) [] [] kl_java_lang_Integer [] [] [] []
def M_J6_bitCount_0f7a4 (fu : Nat) (a0 : Int32) (w : XW) : Option XO :=
  some (some (.int ((((((((a0 - ((Int32.toUInt32 a0 >>> (Int32.toUInt32 (1 : Int32) &&& Int32.toUInt32 31)).toInt32 &&& (1431655765 : Int32))) &&& (858993459 : Int32)) + ((Int32.toUInt32 (a0 - ((Int32.toUInt32 a0 >>> (Int32.toUInt32 (1 : Int32) &&& Int32.toUInt32 31)).toInt32 &&& (1431655765 : Int32))) >>> (Int32.toUInt32 (2 : Int32) &&& Int32.toUInt32 31)).toInt32 &&& (858993459 : Int32))) + (Int32.toUInt32 (((a0 - ((Int32.toUInt32 a0 >>> (Int32.toUInt32 (1 : Int32) &&& Int32.toUInt32 31)).toInt32 &&& (1431655765 : Int32))) &&& (858993459 : Int32)) + ((Int32.toUInt32 (a0 - ((Int32.toUInt32 a0 >>> (Int32.toUInt32 (1 : Int32) &&& Int32.toUInt32 31)).toInt32 &&& (1431655765 : Int32))) >>> (Int32.toUInt32 (2 : Int32) &&& Int32.toUInt32 31)).toInt32 &&& (858993459 : Int32))) >>> (Int32.toUInt32 (4 : Int32) &&& Int32.toUInt32 31)).toInt32) &&& (252645135 : Int32)) + (Int32.toUInt32 (((((a0 - ((Int32.toUInt32 a0 >>> (Int32.toUInt32 (1 : Int32) &&& Int32.toUInt32 31)).toInt32 &&& (1431655765 : Int32))) &&& (858993459 : Int32)) + ((Int32.toUInt32 (a0 - ((Int32.toUInt32 a0 >>> (Int32.toUInt32 (1 : Int32) &&& Int32.toUInt32 31)).toInt32 &&& (1431655765 : Int32))) >>> (Int32.toUInt32 (2 : Int32) &&& Int32.toUInt32 31)).toInt32 &&& (858993459 : Int32))) + (Int32.toUInt32 (((a0 - ((Int32.toUInt32 a0 >>> (Int32.toUInt32 (1 : Int32) &&& Int32.toUInt32 31)).toInt32 &&& (1431655765 : Int32))) &&& (858993459 : Int32)) + ((Int32.toUInt32 (a0 - ((Int32.toUInt32 a0 >>> (Int32.toUInt32 (1 : Int32) &&& Int32.toUInt32 31)).toInt32 &&& (1431655765 : Int32))) >>> (Int32.toUInt32 (2 : Int32) &&& Int32.toUInt32 31)).toInt32 &&& (858993459 : Int32))) >>> (Int32.toUInt32 (4 : Int32) &&& Int32.toUInt32 31)).toInt32) &&& (252645135 : Int32)) >>> (Int32.toUInt32 (8 : Int32) &&& Int32.toUInt32 31)).toInt32) + (Int32.toUInt32 ((((((a0 - ((Int32.toUInt32 a0 >>> (Int32.toUInt32 (1 : Int32) &&& Int32.toUInt32 31)).toInt32 &&& (1431655765 : Int32))) &&& (858993459 : Int32)) + ((Int32.toUInt32 (a0 - ((Int32.toUInt32 a0 >>> (Int32.toUInt32 (1 : Int32) &&& Int32.toUInt32 31)).toInt32 &&& (1431655765 : Int32))) >>> (Int32.toUInt32 (2 : Int32) &&& Int32.toUInt32 31)).toInt32 &&& (858993459 : Int32))) + (Int32.toUInt32 (((a0 - ((Int32.toUInt32 a0 >>> (Int32.toUInt32 (1 : Int32) &&& Int32.toUInt32 31)).toInt32 &&& (1431655765 : Int32))) &&& (858993459 : Int32)) + ((Int32.toUInt32 (a0 - ((Int32.toUInt32 a0 >>> (Int32.toUInt32 (1 : Int32) &&& Int32.toUInt32 31)).toInt32 &&& (1431655765 : Int32))) >>> (Int32.toUInt32 (2 : Int32) &&& Int32.toUInt32 31)).toInt32 &&& (858993459 : Int32))) >>> (Int32.toUInt32 (4 : Int32) &&& Int32.toUInt32 31)).toInt32) &&& (252645135 : Int32)) + (Int32.toUInt32 (((((a0 - ((Int32.toUInt32 a0 >>> (Int32.toUInt32 (1 : Int32) &&& Int32.toUInt32 31)).toInt32 &&& (1431655765 : Int32))) &&& (858993459 : Int32)) + ((Int32.toUInt32 (a0 - ((Int32.toUInt32 a0 >>> (Int32.toUInt32 (1 : Int32) &&& Int32.toUInt32 31)).toInt32 &&& (1431655765 : Int32))) >>> (Int32.toUInt32 (2 : Int32) &&& Int32.toUInt32 31)).toInt32 &&& (858993459 : Int32))) + (Int32.toUInt32 (((a0 - ((Int32.toUInt32 a0 >>> (Int32.toUInt32 (1 : Int32) &&& Int32.toUInt32 31)).toInt32 &&& (1431655765 : Int32))) &&& (858993459 : Int32)) + ((Int32.toUInt32 (a0 - ((Int32.toUInt32 a0 >>> (Int32.toUInt32 (1 : Int32) &&& Int32.toUInt32 31)).toInt32 &&& (1431655765 : Int32))) >>> (Int32.toUInt32 (2 : Int32) &&& Int32.toUInt32 31)).toInt32 &&& (858993459 : Int32))) >>> (Int32.toUInt32 (4 : Int32) &&& Int32.toUInt32 31)).toInt32) &&& (252645135 : Int32)) >>> (Int32.toUInt32 (8 : Int32) &&& Int32.toUInt32 31)).toInt32) >>> (Int32.toUInt32 (16 : Int32) &&& Int32.toUInt32 31)).toInt32) &&& (63 : Int32))), w)
def U_J6_bitCount_0f7a4 (fu : Nat) : Orc := fun as w => match as with
  | [.int a0] => M_J6_bitCount_0f7a4 fu a0 w
  | _ => none
def K_J6_bitCount_0f7a4 (fu : Nat) (n : Nat) : Kont := fun pc ls st w => none
set_option maxRecDepth 100000 in
set_option maxHeartbeats 4000000 in
theorem E_J6_bitCount_0f7a4 (fu : Nat) (a0 : Int32) (w : XW) : M_J6_bitCount_0f7a4 fu a0 w = ev T_J6_bitCount_0f7a4 (op_J6_bitCount_0f7a4 fu) [] (K_J6_bitCount_0f7a4 fu fu) 44 0 (lv_args 0 [.int a0]) [] w := by
  rfl
theorem D_J6_bitCount_0f7a4 (fu : Nat) : DS T_J6_bitCount_0f7a4 (op_J6_bitCount_0f7a4 fu) [] 44 (K_J6_bitCount_0f7a4 fu) := by
  refine ⟨fun pc ls st w => rfl, fun n pc ls st w o h => ?_⟩
  cases h
set_option maxRecDepth 100000 in
set_option maxHeartbeats 4000000 in
theorem S_J6_bitCount_0f7a4 (fu : Nat) {l : Launch} {D : va_G} {cA : Nat → ClassId} {base b : Nat} : CS l D cA base b 1 y_J6_bitCount_0f7a4 prog_11_method_49_code 1 (some .int) (U_J6_bitCount_0f7a4 fu) ∧ OM (U_J6_bitCount_0f7a4 fu) := by
  refine CS_of (d := 0) (y := y_J6_bitCount_0f7a4) (cc := prog_11_method_49_code) (nL := 1) (ret := (some .int)) (F := U_J6_bitCount_0f7a4 fu) (fl := []) (nl := []) (kl := kl_java_lang_Integer) (k2 := []) (mv := []) (ms := []) (mi := []) (ini := false) hI_w hZ_w nil_all nil_all kl_java_lang_Integer_ok nil_all
    (nil_all)
    (nil_all)
    (nil_all)
    (T := T_J6_bitCount_0f7a4) (by decide +kernel) (cut := []) (N := 44) (D_J6_bitCount_0f7a4 fu) (by decide +kernel) (fun h => absurd h (by decide)) (fun as w o h => ?_)
  unfold U_J6_bitCount_0f7a4 at h
  split at h
  next =>
    exact ⟨Nat.le_of_ble_eq_true rfl, fu, (E_J6_bitCount_0f7a4 fu _ w).symm.trans h⟩
  next => cases h
def T_X7_flood : List (Nat × Instr) := [(0, .iload_n 1), (1, .iload_n 2), (2, .invokestatic 200), (5, .ifCond .ne 6), (8, .bipush (-2)), (10, .ireturn), (11, .aload_n 0), (12, .getfield 12), (15, .invokevirtual 109), (18, .ifCond .ne 6), (21, .bipush (-3)), (23, .ireturn), (24, .aload_n 0), (25, .getfield 35), (28, .aload_n 0), (29, .getfield 12), (32, .aload_n 0), (33, .getfield 12), (36, .getfield 91), (39, .iload_n 1), (40, .iload_n 2), (41, .invokevirtual 203), (44, .aload_n 0), (45, .getfield 12), (48, .invokevirtual 164), (51, .aload_n 0), (52, .getfield 35), (55, .getfield 207), (58, .iconst (-1)), (59, .ixor), (60, .iand), (61, .istore_n 3), (62, .aload_n 0), (63, .getfield 12), (66, .iload_n 3), (67, .invokevirtual 216), (70, .iload_n 3), (71, .invokestatic 219), (74, .ireturn)]
def op_X7_flood (fu : Nat) : Nat → Kont → XL → List Value → XW → Instr → Option XO := opK 4 (rzOf (some .int)) fl_BrookStones nl_BrookStones [] k2_BrookStones [(109, 1, 1, (U_X0_isThere fu)), (203, 5, 0, (U_X1_run fu)), (164, 1, 1, (U_X0_filled fu)), (216, 2, 0, (U_X0_loseStonesOf fu))] [(200, 2, 1, (U_X7_isFlood fu)), (219, 1, 1, (U_J6_bitCount_0f7a4 fu))] []
def M_X7_flood (fu : Nat) (a0 : Nat) (a1 : Int32) (a2 : Int32) (w : XW) : Option XO :=
  cI (U_X7_isFlood fu [.int a1, .int a2] w) fun x2 w1 =>
  (if x2 = 0 then
    some (some (.int (-2 : Int32)), w1)
  else
    (gR w1 a0 6 0).bind fun r3 =>
    cI (U_X0_isThere fu [.ref r3] w1) fun x5 w4 =>
    (if x5 = 0 then
      some (some (.int (-3 : Int32)), w4)
    else
      (gR w4 a0 6 3).bind fun r6 =>
      (gR w4 a0 6 0).bind fun r7 =>
      (gR w4 a0 6 0).bind fun r8 =>
      (gI w4 r8 0 10).bind fun x9 =>
      cV (U_X1_run fu [.ref r6, .ref r7, .int x9, .int a1, .int a2] w4) fun w10 =>
      (gR w10 a0 6 0).bind fun r11 =>
      cI (U_X0_filled fu [.ref r11] w10) fun x13 w12 =>
      (gR w12 a0 6 3).bind fun r14 =>
      (gI w12 r14 1 2).bind fun x15 =>
      (gR w12 a0 6 0).bind fun r16 =>
      cV (U_X0_loseStonesOf fu [.ref r16, .int (x13 &&& (x15 ^^^ (-1 : Int32)))] w12) fun w17 =>
      cI (U_J6_bitCount_0f7a4 fu [.int (x13 &&& (x15 ^^^ (-1 : Int32)))] w17) fun x19 w18 =>
      some (some (.int x19), w18)))
def U_X7_flood (fu : Nat) : Orc := fun as w => match as with
  | [.ref a0, .int a1, .int a2] => if isO w a0 6 = true then M_X7_flood fu a0 a1 a2 w else none
  | _ => none
def K_X7_flood (fu : Nat) (n : Nat) : Kont := fun pc ls st w => none
set_option maxRecDepth 100000 in
set_option maxHeartbeats 4000000 in
theorem E_X7_flood (fu : Nat) (a0 : Nat) (a1 : Int32) (a2 : Int32) (w : XW) : M_X7_flood fu a0 a1 a2 w = ev T_X7_flood (op_X7_flood fu) [] (K_X7_flood fu fu) 41 0 (lv_args 0 [.ref a0, .int a1, .int a2]) [] w := by
  rfl
theorem D_X7_flood (fu : Nat) : DS T_X7_flood (op_X7_flood fu) [] 41 (K_X7_flood fu) := by
  refine ⟨fun pc ls st w => rfl, fun n pc ls st w o h => ?_⟩
  cases h
theorem H_X7_flood (fu : Nat) : ∀ as w o, U_X7_flood fu as w = some o → ∃ a r, as = .ref a :: r ∧ r.length = 2 ∧ isO w a 6 = true := by
  intro as w o h
  unfold U_X7_flood at h
  split at h
  next =>
    split at h
    next hh => exact ⟨_, _, rfl, rfl, hh⟩
    next => cases h
  next => cases h
set_option maxRecDepth 100000 in
set_option maxHeartbeats 4000000 in
theorem S_X7_flood (fu : Nat) {l : Launch} {D : va_G} {cA : Nat → ClassId} {base b : Nat} : CS l D cA base b 4 y_X7_flood prog_1_method_20_code 4 (some .int) (U_X7_flood fu) ∧ OM (U_X7_flood fu) := by
  refine CS_of (d := 3) (y := y_X7_flood) (cc := prog_1_method_20_code) (nL := 4) (ret := (some .int)) (F := U_X7_flood fu) (fl := fl_BrookStones) (nl := nl_BrookStones) (kl := []) (k2 := k2_BrookStones) (mv := [(109, 1, 1, (U_X0_isThere fu)), (203, 5, 0, (U_X1_run fu)), (164, 1, 1, (U_X0_filled fu)), (216, 2, 0, (U_X0_loseStonesOf fu))]) (ms := [(200, 2, 1, (U_X7_isFlood fu)), (219, 1, 1, (U_J6_bitCount_0f7a4 fu))]) (mi := []) (ini := false) hI_w hZ_w fl_BrookStones_ok nl_BrookStones_ok nil_all k2_BrookStones_ok
    (cons_all (⟨⟨show (1 : Nat) ≠ 3 by decide, y_X0_isThere, prog_2_method_3_code, 1, (some .boolean), 1, "BrookStones", 0, TX0, 15, 0, (S_X0_isThere fu (l := l) (D := D) (cA := cA) (base := base) (b := b)).1, by decide, by decide, rfl, H_X0_isThere fu, rfl, mi_X0_isThere.1, mi_X0_isThere.2.1, mi_X0_isThere.2.2.1, mi_X0_isThere.2.2.2.1, mi_X0_isThere.2.2.2.2, Or.inr (tblN_of (i := 334) rfl rfl)⟩, (S_X0_isThere fu (l := l) (D := D) (cA := cA) (base := base) (b := b)).2⟩) (cons_all (⟨⟨show (0 : Nat) ≠ 3 by decide, y_X1_run, prog_3_method_2_code, 7, (none), 3, "BrookStones", 1, TX1, 3, 4, (S_X1_run fu (l := l) (D := D) (cA := cA) (base := base) (b := b)).1, by decide, by decide, rfl, H_X1_run fu, rfl, mi_X1_run.1, mi_X1_run.2.1, mi_X1_run.2.2.1, mi_X1_run.2.2.2.1, mi_X1_run.2.2.2.2, Or.inr (tblN_of (i := 475) rfl rfl)⟩, (S_X1_run fu (l := l) (D := D) (cA := cA) (base := base) (b := b)).2⟩) (cons_all (⟨⟨show (1 : Nat) ≠ 3 by decide, y_X0_filled, prog_2_method_17_code, 1, (some .int), 2, "BrookStones", 0, TX0, 15, 0, (S_X0_filled fu (l := l) (D := D) (cA := cA) (base := base) (b := b)).1, by decide, by decide, rfl, H_X0_filled fu, rfl, mi_X0_filled.1, mi_X0_filled.2.1, mi_X0_filled.2.2.1, mi_X0_filled.2.2.2.1, mi_X0_filled.2.2.2.2, Or.inr (tblN_of (i := 399) rfl rfl)⟩, (S_X0_filled fu (l := l) (D := D) (cA := cA) (base := base) (b := b)).2⟩) (cons_all (⟨⟨show (0 : Nat) ≠ 3 by decide, y_X0_loseStonesOf, prog_2_method_16_code, 3, (none), 2, "BrookStones", 0, TX0, 15, 1, (S_X0_loseStonesOf fu (l := l) (D := D) (cA := cA) (base := base) (b := b)).1, by decide, by decide, rfl, H_X0_loseStonesOf fu, rfl, mi_X0_loseStonesOf.1, mi_X0_loseStonesOf.2.1, mi_X0_loseStonesOf.2.2.1, mi_X0_loseStonesOf.2.2.2.1, mi_X0_loseStonesOf.2.2.2.2, Or.inr (tblN_of (i := 502) rfl rfl)⟩, (S_X0_loseStonesOf fu (l := l) (D := D) (cA := cA) (base := base) (b := b)).2⟩) (nil_all)))))
    (cons_all (⟨Or.inl ⟨show (1 : Nat) ≠ 3 by decide, y_X7_isFlood, prog_1_method_45_code, 2, (some .boolean), 2, "BrookStones", (S_X7_isFlood fu (l := l) (D := D) (cA := cA) (base := base) (b := b)).1, by decide, by decide, mi_X7_isFlood.1, mi_X7_isFlood.2.1, mi_X7_isFlood.2.2.1, mi_X7_isFlood.2.2.2, Or.inl (tblG_of (i := 472) rfl rfl)⟩, (S_X7_isFlood fu (l := l) (D := D) (cA := cA) (base := base) (b := b)).2⟩) (cons_all (⟨Or.inl ⟨show (1 : Nat) ≠ 3 by decide, y_J6_bitCount_0f7a4, prog_11_method_49_code, 1, (some .int), 1, "BrookStones", (S_J6_bitCount_0f7a4 fu (l := l) (D := D) (cA := cA) (base := base) (b := b)).1, by decide, by decide, mi_J6_bitCount_0f7a4.1, mi_J6_bitCount_0f7a4.2.1, mi_J6_bitCount_0f7a4.2.2.1, mi_J6_bitCount_0f7a4.2.2.2, Or.inl (tblG_of (i := 507) rfl rfl)⟩, (S_J6_bitCount_0f7a4 fu (l := l) (D := D) (cA := cA) (base := base) (b := b)).2⟩) (nil_all)))
    (nil_all)
    (T := T_X7_flood) (by decide +kernel) (cut := []) (N := 41) (D_X7_flood fu) (by decide +kernel) (fun h => absurd h (by decide)) (fun as w o h => ?_)
  unfold U_X7_flood at h
  split at h
  next =>
    split at h
    next => exact ⟨Nat.le_of_ble_eq_true rfl, fu, (E_X7_flood fu _ _ _ w).symm.trans h⟩
    next => cases h
  next => cases h
def T_X8_flood : List (Nat × Instr) := [(0, .iload_n 1), (1, .iload_n 2), (2, .invokestatic 200), (5, .ifCond .ne 6), (8, .bipush (-2)), (10, .ireturn), (11, .aload_n 0), (12, .getfield 93), (15, .ifCond .ne 6), (18, .bipush (-3)), (20, .ireturn), (21, .aload_n 0), (22, .invokevirtual 181), (25, .aload_n 0), (26, .iload_n 1), (27, .iload_n 2), (28, .invokevirtual 203), (31, .iconst 0), (32, .istore_n 3), (33, .iconst 0), (34, .istore 4), (36, .iload 4), (38, .aload_n 0), (39, .getfield 93), (42, .if_icmp .ge 59), (45, .aload_n 0), (46, .getfield 29), (49, .iload 4), (51, .iaload), (52, .bipush (-9)), (54, .if_icmp .eq 41), (57, .aload_n 0), (58, .getfield 56), (61, .iload 4), (63, .iaload), (64, .bipush (-9)), (66, .if_icmp .ne 29), (69, .aload_n 0), (70, .getfield 50), (73, .aload_n 0), (74, .getfield 29), (77, .iload 4), (79, .iaload), (80, .bipush (-5)), (82, .iastore), (83, .aload_n 0), (84, .getfield 29), (87, .iload 4), (89, .bipush (-9)), (91, .iastore), (92, .iinc 3 1), (95, .iinc 4 1), (98, .goto (-62)), (101, .iload_n 3), (102, .ireturn)]
def op_X8_flood (fu : Nat) : Nat → Kont → XL → List Value → XW → Instr → Option XO := opK 5 (rzOf (some .int)) fl_BrookStonesModel [] kl_BrookStonesModel k2_BrookStonesModel [(181, 1, 0, (U_X8_layNow fu)), (203, 3, 0, (U_X8_goFlood fu))] [(200, 2, 1, (U_X8_isFlood fu))] []
def F_X8_flood (fu : Nat) : Nat → (Nat → Int32 → Int32 → XW → Option XO)
  | 0 => fun _ _ _ _ => none
  | n + 1 => (fun a0 a3 a4 w =>
    (gI w a0 7 5).bind fun x1 =>
    (if a4 < x1 then
      (gR w a0 7 11).bind fun r2 =>
      (aI w r2 a4).bind fun x3 =>
      (if x3 = (-9 : Int32) then
        (F_X8_flood fu n) a0 a3 (a4 + (1 : Int32)) w
      else
        (gR w a0 7 25).bind fun r4 =>
        (aI w r4 a4).bind fun x5 =>
        (if x5 = (-9 : Int32) then
          (gR w a0 7 22).bind fun r6 =>
          (gR w a0 7 11).bind fun r7 =>
          (aI w r7 a4).bind fun x8 =>
          (sI w r6 x8 (-5 : Int32)).bind fun w9 =>
          (gR w9 a0 7 11).bind fun r10 =>
          (sI w9 r10 a4 (-9 : Int32)).bind fun w11 =>
          (F_X8_flood fu n) a0 (a3 + (1 : Int32)) (a4 + (1 : Int32)) w11
        else
          (F_X8_flood fu n) a0 a3 (a4 + (1 : Int32)) w))
    else
      some (some (.int a3), w)))
def M_X8_flood (fu : Nat) (a0 : Nat) (a1 : Int32) (a2 : Int32) (w : XW) : Option XO :=
  cI (U_X8_isFlood fu [.int a1, .int a2] w) fun x13 w12 =>
  (if x13 = 0 then
    some (some (.int (-2 : Int32)), w12)
  else
    (gI w12 a0 7 5).bind fun x14 =>
    (if x14 = 0 then
      some (some (.int (-3 : Int32)), w12)
    else
      cV (U_X8_layNow fu [.ref a0] w12) fun w15 =>
      cV (U_X8_goFlood fu [.ref a0, .int a1, .int a2] w15) fun w16 =>
      (F_X8_flood fu fu) a0 (0 : Int32) (0 : Int32) w16))
def U_X8_flood (fu : Nat) : Orc := fun as w => match as with
  | [.ref a0, .int a1, .int a2] => if isO w a0 7 = true then M_X8_flood fu a0 a1 a2 w else none
  | _ => none
def K_X8_flood (fu : Nat) (n : Nat) : Kont := fun pc ls st w => bif pc == 36 then ((xr ls 0).bind fun a0 => (xi ls 3).bind fun a3 => (xi ls 4).bind fun a4 => skN st ((F_X8_flood fu n) a0 a3 a4 w)) else none
set_option maxRecDepth 100000 in
set_option maxHeartbeats 4000000 in
theorem E_X8_flood_36 (fu : Nat) (n : Nat) (a0 : Nat) (a3 : Int32) (a4 : Int32) (w : XW) : (F_X8_flood fu (n + 1)) a0 a3 a4 w = ev T_X8_flood (op_X8_flood fu) [36] (K_X8_flood fu n) 57 36 [(0, .ref a0), (3, .int a3), (4, .int a4)] [] w := by
  rfl
set_option maxRecDepth 100000 in
set_option maxHeartbeats 4000000 in
theorem E_X8_flood (fu : Nat) (a0 : Nat) (a1 : Int32) (a2 : Int32) (w : XW) : M_X8_flood fu a0 a1 a2 w = ev T_X8_flood (op_X8_flood fu) [36] (K_X8_flood fu fu) 57 0 (lv_args 0 [.ref a0, .int a1, .int a2]) [] w := by
  rfl
theorem D_X8_flood (fu : Nat) : DS T_X8_flood (op_X8_flood fu) [36] 57 (K_X8_flood fu) := by
  refine ⟨fun pc ls st w => c_none (b_none fun _ => b_none fun _ => b_none fun _ => skN_none rfl) (rfl), fun n pc ls st w o h => ?_⟩
  rcases c_some h with ⟨rfl, h⟩ | h
  · obtain ⟨a0, h0, h⟩ := some_of h; obtain ⟨a3, h3, h⟩ := some_of h; obtain ⟨a4, h4, h⟩ := some_of h;
    obtain ⟨e, g⟩ := skN_of h
    subst e
    exact ⟨[(0, .ref a0), (3, .int a3), (4, .int a4)], cons_all (xr_of h0) (cons_all (xi_of h3) (cons_all (xi_of h4) (nil_all))), (E_X8_flood_36 fu n a0 a3 a4 w).symm.trans g⟩
  · cases h
theorem H_X8_flood (fu : Nat) : ∀ as w o, U_X8_flood fu as w = some o → ∃ a r, as = .ref a :: r ∧ r.length = 2 ∧ isO w a 7 = true := by
  intro as w o h
  unfold U_X8_flood at h
  split at h
  next =>
    split at h
    next hh => exact ⟨_, _, rfl, rfl, hh⟩
    next => cases h
  next => cases h
set_option maxRecDepth 100000 in
set_option maxHeartbeats 4000000 in
theorem S_X8_flood (fu : Nat) {l : Launch} {D : va_G} {cA : Nat → ClassId} {base b : Nat} : CS l D cA base b 3 y_X8_flood prog_10_method_51_code 5 (some .int) (U_X8_flood fu) ∧ OM (U_X8_flood fu) := by
  refine CS_of (d := 2) (y := y_X8_flood) (cc := prog_10_method_51_code) (nL := 5) (ret := (some .int)) (F := U_X8_flood fu) (fl := fl_BrookStonesModel) (nl := []) (kl := kl_BrookStonesModel) (k2 := k2_BrookStonesModel) (mv := [(181, 1, 0, (U_X8_layNow fu)), (203, 3, 0, (U_X8_goFlood fu))]) (ms := [(200, 2, 1, (U_X8_isFlood fu))]) (mi := []) (ini := false) hI_w hZ_w fl_BrookStonesModel_ok nil_all kl_BrookStonesModel_ok k2_BrookStonesModel_ok
    (cons_all (⟨⟨show (0 : Nat) ≠ 3 by decide, y_X8_layNow, prog_10_method_29_code, 2, (none), 1, "BrookStones", 7, TX8, 37, 0, (S_X8_layNow fu (l := l) (D := D) (cA := cA) (base := base) (b := b)).1, by decide, by decide, rfl, H_X8_layNow fu, rfl, mi_X8_layNow.1, mi_X8_layNow.2.1, mi_X8_layNow.2.2.1, mi_X8_layNow.2.2.2.1, mi_X8_layNow.2.2.2.2, Or.inl (tblG_of (i := 951) rfl rfl)⟩, (S_X8_layNow fu (l := l) (D := D) (cA := cA) (base := base) (b := b)).2⟩) (cons_all (⟨⟨show (0 : Nat) ≠ 3 by decide, y_X8_goFlood, prog_10_method_45_code, 6, (none), 2, "BrookStones", 7, TX8, 37, 2, (S_X8_goFlood fu (l := l) (D := D) (cA := cA) (base := base) (b := b)).1, by decide, by decide, rfl, H_X8_goFlood fu, rfl, mi_X8_goFlood.1, mi_X8_goFlood.2.1, mi_X8_goFlood.2.2.1, mi_X8_goFlood.2.2.2.1, mi_X8_goFlood.2.2.2.2, Or.inl (tblG_of (i := 1014) rfl rfl)⟩, (S_X8_goFlood fu (l := l) (D := D) (cA := cA) (base := base) (b := b)).2⟩) (nil_all)))
    (cons_all (⟨Or.inl ⟨show (1 : Nat) ≠ 3 by decide, y_X8_isFlood, prog_10_method_43_code, 2, (some .boolean), 2, "BrookStones", (S_X8_isFlood fu (l := l) (D := D) (cA := cA) (base := base) (b := b)).1, by decide, by decide, mi_X8_isFlood.1, mi_X8_isFlood.2.1, mi_X8_isFlood.2.2.1, mi_X8_isFlood.2.2.2, Or.inl (tblG_of (i := 1011) rfl rfl)⟩, (S_X8_isFlood fu (l := l) (D := D) (cA := cA) (base := base) (b := b)).2⟩) (nil_all))
    (nil_all)
    (T := T_X8_flood) (by decide +kernel) (cut := [36]) (N := 57) (D_X8_flood fu) (by decide +kernel) (fun h => absurd h (by decide)) (fun as w o h => ?_)
  unfold U_X8_flood at h
  split at h
  next =>
    split at h
    next => exact ⟨Nat.le_of_ble_eq_true rfl, fu, (E_X8_flood fu _ _ _ w).symm.trans h⟩
    next => cases h
  next => cases h
def T_X7_save : List (Nat × Instr) := [(0, .iload_n 1), (1, .iload_n 2), (2, .invokestatic 200), (5, .ifCond .eq 12), (8, .iload_n 3), (9, .iconst 0), (10, .iconst 1), (11, .invokestatic 105), (14, .ifCond .ne 6), (17, .bipush (-2)), (19, .ireturn), (20, .aload_n 0), (21, .getfield 12), (24, .invokevirtual 109), (27, .ifCond .ne 6), (30, .bipush (-3)), (32, .ireturn), (33, .bipush (-9)), (35, .istore 4), (37, .iconst (-1)), (38, .istore 5), (40, .iconst 0), (41, .istore 6), (43, .iload 6), (45, .aload_n 0), (46, .getfield 12), (49, .getfield 74), (52, .if_icmp .ge 61), (55, .aload_n 0), (56, .getfield 35), (59, .aload_n 0), (60, .getfield 12), (63, .aload_n 0), (64, .getfield 12), (67, .getfield 91), (70, .iconst 1), (71, .iload 6), (73, .ishl), (74, .ior), (75, .iload_n 1), (76, .iload_n 2), (77, .invokevirtual 203), (80, .aload_n 0), (81, .getfield 35), (84, .getfield 207), (87, .invokestatic 219), (90, .istore 7), (92, .iload 7), (94, .iload 5), (96, .if_icmp .le 11), (99, .iload 6), (101, .istore 4), (103, .iload 7), (105, .istore 5), (107, .iinc 6 1), (110, .goto (-67)), (113, .iload_n 3), (114, .ifCond .ne 8), (117, .iload 4), (119, .goto 5), (122, .iload 5), (124, .ireturn)]
def op_X7_save (fu : Nat) : Nat → Kont → XL → List Value → XW → Instr → Option XO := opK 8 (rzOf (some .int)) fl_BrookStones nl_BrookStones [] k2_BrookStones [(109, 1, 1, (U_X0_isThere fu)), (203, 5, 0, (U_X1_run fu))] [(200, 2, 1, (U_X7_isFlood fu)), (105, 3, 1, (U_X7_isWithin fu)), (219, 1, 1, (U_J6_bitCount_0f7a4 fu))] []
def F_X7_save (fu : Nat) : Nat → (Nat → Int32 → Int32 → Int32 → Int32 → Int32 → Int32 → XW → Option XO)
  | 0 => fun _ _ _ _ _ _ _ _ => none
  | n + 1 => (fun a0 a1 a2 a3 a4 a5 a6 w =>
    (gR w a0 6 0).bind fun r1 =>
    (gI w r1 0 8).bind fun x2 =>
    (if a6 < x2 then
      (gR w a0 6 3).bind fun r3 =>
      (gR w a0 6 0).bind fun r4 =>
      (gR w a0 6 0).bind fun r5 =>
      (gI w r5 0 10).bind fun x6 =>
      cV (U_X1_run fu [.ref r3, .ref r4, .int (x6 ||| ((1 : Int32) <<< (a6 &&& 31))), .int a1, .int a2] w) fun w7 =>
      (gR w7 a0 6 3).bind fun r8 =>
      (gI w7 r8 1 2).bind fun x9 =>
      cI (U_J6_bitCount_0f7a4 fu [.int x9] w7) fun x11 w10 =>
      (if a5 < x11 then
        (F_X7_save fu n) a0 a1 a2 a3 a6 x11 (a6 + (1 : Int32)) w10
      else
        (F_X7_save fu n) a0 a1 a2 a3 a4 a5 (a6 + (1 : Int32)) w10)
    else
      (if a3 = 0 then
        some (some (.int a4), w)
      else
        some (some (.int a5), w))))
def M_X7_save (fu : Nat) (a0 : Nat) (a1 : Int32) (a2 : Int32) (a3 : Int32) (w : XW) : Option XO :=
  cI (U_X7_isFlood fu [.int a1, .int a2] w) fun x13 w12 =>
  (if x13 = 0 then
    some (some (.int (-2 : Int32)), w12)
  else
    cI (U_X7_isWithin fu [.int a3, .int (0 : Int32), .int (1 : Int32)] w12) fun x15 w14 =>
    (if x15 = 0 then
      some (some (.int (-2 : Int32)), w14)
    else
      (gR w14 a0 6 0).bind fun r16 =>
      cI (U_X0_isThere fu [.ref r16] w14) fun x18 w17 =>
      (if x18 = 0 then
        some (some (.int (-3 : Int32)), w17)
      else
        (F_X7_save fu fu) a0 a1 a2 a3 (-9 : Int32) (-1 : Int32) (0 : Int32) w17)))
def U_X7_save (fu : Nat) : Orc := fun as w => match as with
  | [.ref a0, .int a1, .int a2, .int a3] => if isO w a0 6 = true then M_X7_save fu a0 a1 a2 a3 w else none
  | _ => none
def K_X7_save (fu : Nat) (n : Nat) : Kont := fun pc ls st w => bif pc == 43 then ((xr ls 0).bind fun a0 => (xi ls 1).bind fun a1 => (xi ls 2).bind fun a2 => (xi ls 3).bind fun a3 => (xi ls 4).bind fun a4 => (xi ls 5).bind fun a5 => (xi ls 6).bind fun a6 => skN st ((F_X7_save fu n) a0 a1 a2 a3 a4 a5 a6 w)) else none
set_option maxRecDepth 100000 in
set_option maxHeartbeats 4000000 in
theorem E_X7_save_43 (fu : Nat) (n : Nat) (a0 : Nat) (a1 : Int32) (a2 : Int32) (a3 : Int32) (a4 : Int32) (a5 : Int32) (a6 : Int32) (w : XW) : (F_X7_save fu (n + 1)) a0 a1 a2 a3 a4 a5 a6 w = ev T_X7_save (op_X7_save fu) [43] (K_X7_save fu n) 64 43 [(0, .ref a0), (1, .int a1), (2, .int a2), (3, .int a3), (4, .int a4), (5, .int a5), (6, .int a6)] [] w := by
  rfl
set_option maxRecDepth 100000 in
set_option maxHeartbeats 4000000 in
theorem E_X7_save (fu : Nat) (a0 : Nat) (a1 : Int32) (a2 : Int32) (a3 : Int32) (w : XW) : M_X7_save fu a0 a1 a2 a3 w = ev T_X7_save (op_X7_save fu) [43] (K_X7_save fu fu) 64 0 (lv_args 0 [.ref a0, .int a1, .int a2, .int a3]) [] w := by
  rfl
theorem D_X7_save (fu : Nat) : DS T_X7_save (op_X7_save fu) [43] 64 (K_X7_save fu) := by
  refine ⟨fun pc ls st w => c_none (b_none fun _ => b_none fun _ => b_none fun _ => b_none fun _ => b_none fun _ => b_none fun _ => b_none fun _ => skN_none rfl) (rfl), fun n pc ls st w o h => ?_⟩
  rcases c_some h with ⟨rfl, h⟩ | h
  · obtain ⟨a0, h0, h⟩ := some_of h; obtain ⟨a1, h1, h⟩ := some_of h; obtain ⟨a2, h2, h⟩ := some_of h; obtain ⟨a3, h3, h⟩ := some_of h; obtain ⟨a4, h4, h⟩ := some_of h; obtain ⟨a5, h5, h⟩ := some_of h; obtain ⟨a6, h6, h⟩ := some_of h;
    obtain ⟨e, g⟩ := skN_of h
    subst e
    exact ⟨[(0, .ref a0), (1, .int a1), (2, .int a2), (3, .int a3), (4, .int a4), (5, .int a5), (6, .int a6)], cons_all (xr_of h0) (cons_all (xi_of h1) (cons_all (xi_of h2) (cons_all (xi_of h3) (cons_all (xi_of h4) (cons_all (xi_of h5) (cons_all (xi_of h6) (nil_all))))))), (E_X7_save_43 fu n a0 a1 a2 a3 a4 a5 a6 w).symm.trans g⟩
  · cases h
theorem H_X7_save (fu : Nat) : ∀ as w o, U_X7_save fu as w = some o → ∃ a r, as = .ref a :: r ∧ r.length = 3 ∧ isO w a 6 = true := by
  intro as w o h
  unfold U_X7_save at h
  split at h
  next =>
    split at h
    next hh => exact ⟨_, _, rfl, rfl, hh⟩
    next => cases h
  next => cases h
set_option maxRecDepth 100000 in
set_option maxHeartbeats 4000000 in
theorem S_X7_save (fu : Nat) {l : Launch} {D : va_G} {cA : Nat → ClassId} {base b : Nat} : CS l D cA base b 4 y_X7_save prog_1_method_21_code 8 (some .int) (U_X7_save fu) ∧ OM (U_X7_save fu) := by
  refine CS_of (d := 3) (y := y_X7_save) (cc := prog_1_method_21_code) (nL := 8) (ret := (some .int)) (F := U_X7_save fu) (fl := fl_BrookStones) (nl := nl_BrookStones) (kl := []) (k2 := k2_BrookStones) (mv := [(109, 1, 1, (U_X0_isThere fu)), (203, 5, 0, (U_X1_run fu))]) (ms := [(200, 2, 1, (U_X7_isFlood fu)), (105, 3, 1, (U_X7_isWithin fu)), (219, 1, 1, (U_J6_bitCount_0f7a4 fu))]) (mi := []) (ini := false) hI_w hZ_w fl_BrookStones_ok nl_BrookStones_ok nil_all k2_BrookStones_ok
    (cons_all (⟨⟨show (1 : Nat) ≠ 3 by decide, y_X0_isThere, prog_2_method_3_code, 1, (some .boolean), 1, "BrookStones", 0, TX0, 15, 0, (S_X0_isThere fu (l := l) (D := D) (cA := cA) (base := base) (b := b)).1, by decide, by decide, rfl, H_X0_isThere fu, rfl, mi_X0_isThere.1, mi_X0_isThere.2.1, mi_X0_isThere.2.2.1, mi_X0_isThere.2.2.2.1, mi_X0_isThere.2.2.2.2, Or.inr (tblN_of (i := 334) rfl rfl)⟩, (S_X0_isThere fu (l := l) (D := D) (cA := cA) (base := base) (b := b)).2⟩) (cons_all (⟨⟨show (0 : Nat) ≠ 3 by decide, y_X1_run, prog_3_method_2_code, 7, (none), 3, "BrookStones", 1, TX1, 3, 4, (S_X1_run fu (l := l) (D := D) (cA := cA) (base := base) (b := b)).1, by decide, by decide, rfl, H_X1_run fu, rfl, mi_X1_run.1, mi_X1_run.2.1, mi_X1_run.2.2.1, mi_X1_run.2.2.2.1, mi_X1_run.2.2.2.2, Or.inr (tblN_of (i := 475) rfl rfl)⟩, (S_X1_run fu (l := l) (D := D) (cA := cA) (base := base) (b := b)).2⟩) (nil_all)))
    (cons_all (⟨Or.inl ⟨show (1 : Nat) ≠ 3 by decide, y_X7_isFlood, prog_1_method_45_code, 2, (some .boolean), 2, "BrookStones", (S_X7_isFlood fu (l := l) (D := D) (cA := cA) (base := base) (b := b)).1, by decide, by decide, mi_X7_isFlood.1, mi_X7_isFlood.2.1, mi_X7_isFlood.2.2.1, mi_X7_isFlood.2.2.2, Or.inl (tblG_of (i := 472) rfl rfl)⟩, (S_X7_isFlood fu (l := l) (D := D) (cA := cA) (base := base) (b := b)).2⟩) (cons_all (⟨Or.inl ⟨show (1 : Nat) ≠ 3 by decide, y_X7_isWithin, prog_1_method_46_code, 3, (some .boolean), 1, "BrookStones", (S_X7_isWithin fu (l := l) (D := D) (cA := cA) (base := base) (b := b)).1, by decide, by decide, mi_X7_isWithin.1, mi_X7_isWithin.2.1, mi_X7_isWithin.2.2.1, mi_X7_isWithin.2.2.2, Or.inl (tblG_of (i := 333) rfl rfl)⟩, (S_X7_isWithin fu (l := l) (D := D) (cA := cA) (base := base) (b := b)).2⟩) (cons_all (⟨Or.inl ⟨show (1 : Nat) ≠ 3 by decide, y_J6_bitCount_0f7a4, prog_11_method_49_code, 1, (some .int), 1, "BrookStones", (S_J6_bitCount_0f7a4 fu (l := l) (D := D) (cA := cA) (base := base) (b := b)).1, by decide, by decide, mi_J6_bitCount_0f7a4.1, mi_J6_bitCount_0f7a4.2.1, mi_J6_bitCount_0f7a4.2.2.1, mi_J6_bitCount_0f7a4.2.2.2, Or.inl (tblG_of (i := 507) rfl rfl)⟩, (S_J6_bitCount_0f7a4 fu (l := l) (D := D) (cA := cA) (base := base) (b := b)).2⟩) (nil_all))))
    (nil_all)
    (T := T_X7_save) (by decide +kernel) (cut := [43]) (N := 64) (D_X7_save fu) (by decide +kernel) (fun h => absurd h (by decide)) (fun as w o h => ?_)
  unfold U_X7_save at h
  split at h
  next =>
    split at h
    next => exact ⟨Nat.le_of_ble_eq_true rfl, fu, (E_X7_save fu _ _ _ _ w).symm.trans h⟩
    next => cases h
  next => cases h
def T_X8_bitsOf : List (Nat × Instr) := [(0, .iconst 0), (1, .istore_n 1), (2, .iconst 0), (3, .istore_n 2), (4, .iload_n 2), (5, .bipush 7), (7, .if_icmp .ge 17), (10, .iload_n 1), (11, .iload_n 0), (12, .iload_n 2), (13, .ishr), (14, .iconst 1), (15, .iand), (16, .iadd), (17, .istore_n 1), (18, .iinc 2 1), (21, .goto (-17)), (24, .iload_n 1), (25, .ireturn)]
def op_X8_bitsOf (fu : Nat) : Nat → Kont → XL → List Value → XW → Instr → Option XO := opK 3 (rzOf (some .int)) fl_BrookStonesModel [] kl_BrookStonesModel k2_BrookStonesModel [] [] []
def F_X8_bitsOf (fu : Nat) : Nat → (Int32 → Int32 → Int32 → XW → Option XO)
  | 0 => fun _ _ _ _ => none
  | n + 1 => (fun a0 a1 a2 w =>
    (if a2 < (7 : Int32) then
      (F_X8_bitsOf fu n) a0 (a1 + ((a0 >>> (a2 &&& 31)) &&& (1 : Int32))) (a2 + (1 : Int32)) w
    else
      some (some (.int a1), w)))
def M_X8_bitsOf (fu : Nat) (a0 : Int32) (w : XW) : Option XO :=
  (F_X8_bitsOf fu fu) a0 (0 : Int32) (0 : Int32) w
def U_X8_bitsOf (fu : Nat) : Orc := fun as w => match as with
  | [.int a0] => M_X8_bitsOf fu a0 w
  | _ => none
def K_X8_bitsOf (fu : Nat) (n : Nat) : Kont := fun pc ls st w => bif pc == 4 then ((xi ls 0).bind fun a0 => (xi ls 1).bind fun a1 => (xi ls 2).bind fun a2 => skN st ((F_X8_bitsOf fu n) a0 a1 a2 w)) else none
set_option maxRecDepth 100000 in
set_option maxHeartbeats 4000000 in
theorem E_X8_bitsOf_4 (fu : Nat) (n : Nat) (a0 : Int32) (a1 : Int32) (a2 : Int32) (w : XW) : (F_X8_bitsOf fu (n + 1)) a0 a1 a2 w = ev T_X8_bitsOf (op_X8_bitsOf fu) [4] (K_X8_bitsOf fu n) 21 4 [(0, .int a0), (1, .int a1), (2, .int a2)] [] w := by
  rfl
set_option maxRecDepth 100000 in
set_option maxHeartbeats 4000000 in
theorem E_X8_bitsOf (fu : Nat) (a0 : Int32) (w : XW) : M_X8_bitsOf fu a0 w = ev T_X8_bitsOf (op_X8_bitsOf fu) [4] (K_X8_bitsOf fu fu) 21 0 (lv_args 0 [.int a0]) [] w := by
  rfl
theorem D_X8_bitsOf (fu : Nat) : DS T_X8_bitsOf (op_X8_bitsOf fu) [4] 21 (K_X8_bitsOf fu) := by
  refine ⟨fun pc ls st w => c_none (b_none fun _ => b_none fun _ => b_none fun _ => skN_none rfl) (rfl), fun n pc ls st w o h => ?_⟩
  rcases c_some h with ⟨rfl, h⟩ | h
  · obtain ⟨a0, h0, h⟩ := some_of h; obtain ⟨a1, h1, h⟩ := some_of h; obtain ⟨a2, h2, h⟩ := some_of h;
    obtain ⟨e, g⟩ := skN_of h
    subst e
    exact ⟨[(0, .int a0), (1, .int a1), (2, .int a2)], cons_all (xi_of h0) (cons_all (xi_of h1) (cons_all (xi_of h2) (nil_all))), (E_X8_bitsOf_4 fu n a0 a1 a2 w).symm.trans g⟩
  · cases h
set_option maxRecDepth 100000 in
set_option maxHeartbeats 4000000 in
theorem S_X8_bitsOf (fu : Nat) {l : Launch} {D : va_G} {cA : Nat → ClassId} {base b : Nat} : CS l D cA base b 1 y_X8_bitsOf prog_10_method_47_code 3 (some .int) (U_X8_bitsOf fu) ∧ OM (U_X8_bitsOf fu) := by
  refine CS_of (d := 0) (y := y_X8_bitsOf) (cc := prog_10_method_47_code) (nL := 3) (ret := (some .int)) (F := U_X8_bitsOf fu) (fl := fl_BrookStonesModel) (nl := []) (kl := kl_BrookStonesModel) (k2 := k2_BrookStonesModel) (mv := []) (ms := []) (mi := []) (ini := false) hI_w hZ_w fl_BrookStonesModel_ok nil_all kl_BrookStonesModel_ok k2_BrookStonesModel_ok
    (nil_all)
    (nil_all)
    (nil_all)
    (T := T_X8_bitsOf) (by decide +kernel) (cut := [4]) (N := 21) (D_X8_bitsOf fu) (by decide +kernel) (fun h => absurd h (by decide)) (fun as w o h => ?_)
  unfold U_X8_bitsOf at h
  split at h
  next =>
    exact ⟨Nat.le_of_ble_eq_true rfl, fu, (E_X8_bitsOf fu _ w).symm.trans h⟩
  next => cases h
def T_X8_save : List (Nat × Instr) := [(0, .iload_n 1), (1, .iload_n 2), (2, .invokestatic 200), (5, .ifCond .eq 12), (8, .iload_n 3), (9, .iconst 0), (10, .iconst 1), (11, .invokestatic 89), (14, .ifCond .ne 6), (17, .bipush (-2)), (19, .ireturn), (20, .aload_n 0), (21, .getfield 93), (24, .ifCond .ne 6), (27, .bipush (-3)), (29, .ireturn), (30, .iconst 0), (31, .istore 4), (33, .iconst (-1)), (34, .istore 5), (36, .iconst 0), (37, .istore 6), (39, .iload 6), (41, .aload_n 0), (42, .getfield 93), (45, .if_icmp .ge 49), (48, .aload_n 0), (49, .iload 6), (51, .putfield 71), (54, .aload_n 0), (55, .invokevirtual 181), (58, .aload_n 0), (59, .iload_n 1), (60, .iload_n 2), (61, .invokevirtual 203), (64, .aload_n 0), (65, .invokevirtual 206), (68, .invokestatic 210), (71, .istore 7), (73, .iload 7), (75, .iload 5), (77, .if_icmp .le 11), (80, .iload 7), (82, .istore 5), (84, .iload 6), (86, .istore 4), (88, .iinc 6 1), (91, .goto (-52)), (94, .aload_n 0), (95, .bipush (-9)), (97, .putfield 71), (100, .iload_n 3), (101, .ifCond .ne 8), (104, .iload 4), (106, .goto 5), (109, .iload 5), (111, .ireturn)]
def op_X8_save (fu : Nat) : Nat → Kont → XL → List Value → XW → Instr → Option XO := opK 8 (rzOf (some .int)) fl_BrookStonesModel [] kl_BrookStonesModel k2_BrookStonesModel [(181, 1, 0, (U_X8_layNow fu)), (203, 3, 0, (U_X8_goFlood fu)), (206, 1, 1, (U_X8_standing fu))] [(200, 2, 1, (U_X8_isFlood fu)), (89, 3, 1, (U_X8_within fu)), (210, 1, 1, (U_X8_bitsOf fu))] []
def F_X8_save (fu : Nat) : Nat → (Nat → Int32 → Int32 → Int32 → Int32 → Int32 → Int32 → XW → Option XO)
  | 0 => fun _ _ _ _ _ _ _ _ => none
  | n + 1 => (fun a0 a1 a2 a3 a4 a5 a6 w =>
    (gI w a0 7 5).bind fun x1 =>
    (if a6 < x1 then
      (pF w a0 7 31 (.int a6)).bind fun w3 =>
      cV (U_X8_layNow fu [.ref a0] w3) fun w4 =>
      cV (U_X8_goFlood fu [.ref a0, .int a1, .int a2] w4) fun w5 =>
      cI (U_X8_standing fu [.ref a0] w5) fun x7 w6 =>
      cI (U_X8_bitsOf fu [.int x7] w6) fun x9 w8 =>
      (if a5 < x9 then
        (F_X8_save fu n) a0 a1 a2 a3 a6 x9 (a6 + (1 : Int32)) w8
      else
        (F_X8_save fu n) a0 a1 a2 a3 a4 a5 (a6 + (1 : Int32)) w8)
    else
      (pF w a0 7 31 (.int (-9 : Int32))).bind fun w2 =>
      (if a3 = 0 then
        some (some (.int a4), w2)
      else
        some (some (.int a5), w2))))
def M_X8_save (fu : Nat) (a0 : Nat) (a1 : Int32) (a2 : Int32) (a3 : Int32) (w : XW) : Option XO :=
  cI (U_X8_isFlood fu [.int a1, .int a2] w) fun x11 w10 =>
  (if x11 = 0 then
    some (some (.int (-2 : Int32)), w10)
  else
    cI (U_X8_within fu [.int a3, .int (0 : Int32), .int (1 : Int32)] w10) fun x13 w12 =>
    (if x13 = 0 then
      some (some (.int (-2 : Int32)), w12)
    else
      (gI w12 a0 7 5).bind fun x14 =>
      (if x14 = 0 then
        some (some (.int (-3 : Int32)), w12)
      else
        (F_X8_save fu fu) a0 a1 a2 a3 (0 : Int32) (-1 : Int32) (0 : Int32) w12)))
def U_X8_save (fu : Nat) : Orc := fun as w => match as with
  | [.ref a0, .int a1, .int a2, .int a3] => if isO w a0 7 = true then M_X8_save fu a0 a1 a2 a3 w else none
  | _ => none
def K_X8_save (fu : Nat) (n : Nat) : Kont := fun pc ls st w => bif pc == 39 then ((xr ls 0).bind fun a0 => (xi ls 1).bind fun a1 => (xi ls 2).bind fun a2 => (xi ls 3).bind fun a3 => (xi ls 4).bind fun a4 => (xi ls 5).bind fun a5 => (xi ls 6).bind fun a6 => skN st ((F_X8_save fu n) a0 a1 a2 a3 a4 a5 a6 w)) else none
set_option maxRecDepth 100000 in
set_option maxHeartbeats 4000000 in
theorem E_X8_save_39 (fu : Nat) (n : Nat) (a0 : Nat) (a1 : Int32) (a2 : Int32) (a3 : Int32) (a4 : Int32) (a5 : Int32) (a6 : Int32) (w : XW) : (F_X8_save fu (n + 1)) a0 a1 a2 a3 a4 a5 a6 w = ev T_X8_save (op_X8_save fu) [39] (K_X8_save fu n) 59 39 [(0, .ref a0), (1, .int a1), (2, .int a2), (3, .int a3), (4, .int a4), (5, .int a5), (6, .int a6)] [] w := by
  rfl
set_option maxRecDepth 100000 in
set_option maxHeartbeats 4000000 in
theorem E_X8_save (fu : Nat) (a0 : Nat) (a1 : Int32) (a2 : Int32) (a3 : Int32) (w : XW) : M_X8_save fu a0 a1 a2 a3 w = ev T_X8_save (op_X8_save fu) [39] (K_X8_save fu fu) 59 0 (lv_args 0 [.ref a0, .int a1, .int a2, .int a3]) [] w := by
  rfl
theorem D_X8_save (fu : Nat) : DS T_X8_save (op_X8_save fu) [39] 59 (K_X8_save fu) := by
  refine ⟨fun pc ls st w => c_none (b_none fun _ => b_none fun _ => b_none fun _ => b_none fun _ => b_none fun _ => b_none fun _ => b_none fun _ => skN_none rfl) (rfl), fun n pc ls st w o h => ?_⟩
  rcases c_some h with ⟨rfl, h⟩ | h
  · obtain ⟨a0, h0, h⟩ := some_of h; obtain ⟨a1, h1, h⟩ := some_of h; obtain ⟨a2, h2, h⟩ := some_of h; obtain ⟨a3, h3, h⟩ := some_of h; obtain ⟨a4, h4, h⟩ := some_of h; obtain ⟨a5, h5, h⟩ := some_of h; obtain ⟨a6, h6, h⟩ := some_of h;
    obtain ⟨e, g⟩ := skN_of h
    subst e
    exact ⟨[(0, .ref a0), (1, .int a1), (2, .int a2), (3, .int a3), (4, .int a4), (5, .int a5), (6, .int a6)], cons_all (xr_of h0) (cons_all (xi_of h1) (cons_all (xi_of h2) (cons_all (xi_of h3) (cons_all (xi_of h4) (cons_all (xi_of h5) (cons_all (xi_of h6) (nil_all))))))), (E_X8_save_39 fu n a0 a1 a2 a3 a4 a5 a6 w).symm.trans g⟩
  · cases h
theorem H_X8_save (fu : Nat) : ∀ as w o, U_X8_save fu as w = some o → ∃ a r, as = .ref a :: r ∧ r.length = 3 ∧ isO w a 7 = true := by
  intro as w o h
  unfold U_X8_save at h
  split at h
  next =>
    split at h
    next hh => exact ⟨_, _, rfl, rfl, hh⟩
    next => cases h
  next => cases h
set_option maxRecDepth 100000 in
set_option maxHeartbeats 4000000 in
theorem S_X8_save (fu : Nat) {l : Launch} {D : va_G} {cA : Nat → ClassId} {base b : Nat} : CS l D cA base b 3 y_X8_save prog_10_method_52_code 8 (some .int) (U_X8_save fu) ∧ OM (U_X8_save fu) := by
  refine CS_of (d := 2) (y := y_X8_save) (cc := prog_10_method_52_code) (nL := 8) (ret := (some .int)) (F := U_X8_save fu) (fl := fl_BrookStonesModel) (nl := []) (kl := kl_BrookStonesModel) (k2 := k2_BrookStonesModel) (mv := [(181, 1, 0, (U_X8_layNow fu)), (203, 3, 0, (U_X8_goFlood fu)), (206, 1, 1, (U_X8_standing fu))]) (ms := [(200, 2, 1, (U_X8_isFlood fu)), (89, 3, 1, (U_X8_within fu)), (210, 1, 1, (U_X8_bitsOf fu))]) (mi := []) (ini := false) hI_w hZ_w fl_BrookStonesModel_ok nil_all kl_BrookStonesModel_ok k2_BrookStonesModel_ok
    (cons_all (⟨⟨show (0 : Nat) ≠ 3 by decide, y_X8_layNow, prog_10_method_29_code, 2, (none), 1, "BrookStones", 7, TX8, 37, 0, (S_X8_layNow fu (l := l) (D := D) (cA := cA) (base := base) (b := b)).1, by decide, by decide, rfl, H_X8_layNow fu, rfl, mi_X8_layNow.1, mi_X8_layNow.2.1, mi_X8_layNow.2.2.1, mi_X8_layNow.2.2.2.1, mi_X8_layNow.2.2.2.2, Or.inl (tblG_of (i := 951) rfl rfl)⟩, (S_X8_layNow fu (l := l) (D := D) (cA := cA) (base := base) (b := b)).2⟩) (cons_all (⟨⟨show (0 : Nat) ≠ 3 by decide, y_X8_goFlood, prog_10_method_45_code, 6, (none), 2, "BrookStones", 7, TX8, 37, 2, (S_X8_goFlood fu (l := l) (D := D) (cA := cA) (base := base) (b := b)).1, by decide, by decide, rfl, H_X8_goFlood fu, rfl, mi_X8_goFlood.1, mi_X8_goFlood.2.1, mi_X8_goFlood.2.2.1, mi_X8_goFlood.2.2.2.1, mi_X8_goFlood.2.2.2.2, Or.inl (tblG_of (i := 1014) rfl rfl)⟩, (S_X8_goFlood fu (l := l) (D := D) (cA := cA) (base := base) (b := b)).2⟩) (cons_all (⟨⟨show (1 : Nat) ≠ 3 by decide, y_X8_standing, prog_10_method_46_code, 3, (some .int), 1, "BrookStones", 7, TX8, 37, 0, (S_X8_standing fu (l := l) (D := D) (cA := cA) (base := base) (b := b)).1, by decide, by decide, rfl, H_X8_standing fu, rfl, mi_X8_standing.1, mi_X8_standing.2.1, mi_X8_standing.2.2.1, mi_X8_standing.2.2.2.1, mi_X8_standing.2.2.2.2, Or.inl (tblG_of (i := 1022) rfl rfl)⟩, (S_X8_standing fu (l := l) (D := D) (cA := cA) (base := base) (b := b)).2⟩) (nil_all))))
    (cons_all (⟨Or.inl ⟨show (1 : Nat) ≠ 3 by decide, y_X8_isFlood, prog_10_method_43_code, 2, (some .boolean), 2, "BrookStones", (S_X8_isFlood fu (l := l) (D := D) (cA := cA) (base := base) (b := b)).1, by decide, by decide, mi_X8_isFlood.1, mi_X8_isFlood.2.1, mi_X8_isFlood.2.2.1, mi_X8_isFlood.2.2.2, Or.inl (tblG_of (i := 1011) rfl rfl)⟩, (S_X8_isFlood fu (l := l) (D := D) (cA := cA) (base := base) (b := b)).2⟩) (cons_all (⟨Or.inl ⟨show (1 : Nat) ≠ 3 by decide, y_X8_within, prog_10_method_5_code, 3, (some .boolean), 1, "BrookStones", (S_X8_within fu (l := l) (D := D) (cA := cA) (base := base) (b := b)).1, by decide, by decide, mi_X8_within.1, mi_X8_within.2.1, mi_X8_within.2.2.1, mi_X8_within.2.2.2, Or.inl (tblG_of (i := 861) rfl rfl)⟩, (S_X8_within fu (l := l) (D := D) (cA := cA) (base := base) (b := b)).2⟩) (cons_all (⟨Or.inl ⟨show (1 : Nat) ≠ 3 by decide, y_X8_bitsOf, prog_10_method_47_code, 3, (some .int), 1, "BrookStones", (S_X8_bitsOf fu (l := l) (D := D) (cA := cA) (base := base) (b := b)).1, by decide, by decide, mi_X8_bitsOf.1, mi_X8_bitsOf.2.1, mi_X8_bitsOf.2.2.1, mi_X8_bitsOf.2.2.2, Or.inl (tblG_of (i := 1042) rfl rfl)⟩, (S_X8_bitsOf fu (l := l) (D := D) (cA := cA) (base := base) (b := b)).2⟩) (nil_all))))
    (nil_all)
    (T := T_X8_save) (by decide +kernel) (cut := [39]) (N := 59) (D_X8_save fu) (by decide +kernel) (fun h => absurd h (by decide)) (fun as w o h => ?_)
  unfold U_X8_save at h
  split at h
  next =>
    split at h
    next => exact ⟨Nat.le_of_ble_eq_true rfl, fu, (E_X8_save fu _ _ _ _ w).symm.trans h⟩
    next => cases h
  next => cases h
def T_X3_outlasts : List (Nat × Instr) := [(0, .aload_n 0), (1, .getfield 33), (4, .aload_n 1), (5, .iload_n 3), (6, .iload 4), (8, .aload_n 1), (9, .getfield 128), (12, .aload_n 0), (13, .getfield 30), (16, .invokestatic 131), (19, .imul), (20, .aload_n 1), (21, .iload_n 2), (22, .invokevirtual 137), (25, .if_icmp .ge 7), (28, .iconst 1), (29, .goto 4), (32, .iconst 0), (33, .ireturn)]
def op_X3_outlasts (fu : Nat) : Nat → Kont → XL → List Value → XW → Instr → Option XO := opK 5 (rzOf (some .boolean)) fl_BrookStones_Planner nl_BrookStones_Planner kl_BrookStones_Planner [] [(137, 2, 1, (U_X0_holdOf fu))] [(131, 5, 1, (U_X1_digging fu))] []
def M_X3_outlasts (fu : Nat) (a0 : Nat) (a1 : Nat) (a2 : Int32) (a3 : Int32) (a4 : Int32) (w : XW) : Option XO :=
  (gI w a0 3 7).bind fun x1 =>
  (gI w a1 0 10).bind fun x2 =>
  (gI w a0 3 6).bind fun x3 =>
  cI (U_X1_digging fu [.ref a1, .int a3, .int a4, .int x2, .int x3] w) fun x5 w4 =>
  cI (U_X0_holdOf fu [.ref a1, .int a2] w4) fun x7 w6 =>
  (if (x1 * x5) < x7 then
    retZ (1 : Int32) w6
  else
    retZ (0 : Int32) w6)
def U_X3_outlasts (fu : Nat) : Orc := fun as w => match as with
  | [.ref a0, .ref a1, .int a2, .int a3, .int a4] => if isO w a0 3 = true then M_X3_outlasts fu a0 a1 a2 a3 a4 w else none
  | _ => none
def K_X3_outlasts (fu : Nat) (n : Nat) : Kont := fun pc ls st w => none
set_option maxRecDepth 100000 in
set_option maxHeartbeats 4000000 in
theorem E_X3_outlasts (fu : Nat) (a0 : Nat) (a1 : Nat) (a2 : Int32) (a3 : Int32) (a4 : Int32) (w : XW) : M_X3_outlasts fu a0 a1 a2 a3 a4 w = ev T_X3_outlasts (op_X3_outlasts fu) [] (K_X3_outlasts fu fu) 21 0 (lv_args 0 [.ref a0, .ref a1, .int a2, .int a3, .int a4]) [] w := by
  rfl
theorem D_X3_outlasts (fu : Nat) : DS T_X3_outlasts (op_X3_outlasts fu) [] 21 (K_X3_outlasts fu) := by
  refine ⟨fun pc ls st w => rfl, fun n pc ls st w o h => ?_⟩
  cases h
theorem H_X3_outlasts (fu : Nat) : ∀ as w o, U_X3_outlasts fu as w = some o → ∃ a r, as = .ref a :: r ∧ r.length = 4 ∧ isO w a 3 = true := by
  intro as w o h
  unfold U_X3_outlasts at h
  split at h
  next =>
    split at h
    next hh => exact ⟨_, _, rfl, rfl, hh⟩
    next => cases h
  next => cases h
set_option maxRecDepth 100000 in
set_option maxHeartbeats 4000000 in
theorem S_X3_outlasts (fu : Nat) {l : Launch} {D : va_G} {cA : Nat → ClassId} {base b : Nat} : CS l D cA base b 2 y_X3_outlasts prog_5_method_15_code 5 (some .boolean) (U_X3_outlasts fu) ∧ OM (U_X3_outlasts fu) := by
  refine CS_of (d := 1) (y := y_X3_outlasts) (cc := prog_5_method_15_code) (nL := 5) (ret := (some .boolean)) (F := U_X3_outlasts fu) (fl := fl_BrookStones_Planner) (nl := nl_BrookStones_Planner) (kl := kl_BrookStones_Planner) (k2 := []) (mv := [(137, 2, 1, (U_X0_holdOf fu))]) (ms := [(131, 5, 1, (U_X1_digging fu))]) (mi := []) (ini := false) hI_w hZ_w fl_BrookStones_Planner_ok nl_BrookStones_Planner_ok kl_BrookStones_Planner_ok nil_all
    (cons_all (⟨⟨show (1 : Nat) ≠ 3 by decide, y_X0_holdOf, prog_2_method_10_code, 2, (some .int), 1, "BrookStones", 0, TX0, 15, 1, (S_X0_holdOf fu (l := l) (D := D) (cA := cA) (base := base) (b := b)).1, by decide, by decide, rfl, H_X0_holdOf fu, rfl, mi_X0_holdOf.1, mi_X0_holdOf.2.1, mi_X0_holdOf.2.2.1, mi_X0_holdOf.2.2.2.1, mi_X0_holdOf.2.2.2.2, Or.inr (tblN_of (i := 537) rfl rfl)⟩, (S_X0_holdOf fu (l := l) (D := D) (cA := cA) (base := base) (b := b)).2⟩) (nil_all))
    (cons_all (⟨Or.inl ⟨show (1 : Nat) ≠ 3 by decide, y_X1_digging, prog_3_method_4_code, 9, (some .int), 1, "BrookStones", (S_X1_digging fu (l := l) (D := D) (cA := cA) (base := base) (b := b)).1, by decide, by decide, mi_X1_digging.1, mi_X1_digging.2.1, mi_X1_digging.2.2.1, mi_X1_digging.2.2.2, Or.inr (tblN_of (i := 536) rfl rfl)⟩, (S_X1_digging fu (l := l) (D := D) (cA := cA) (base := base) (b := b)).2⟩) (nil_all))
    (nil_all)
    (T := T_X3_outlasts) (by decide +kernel) (cut := []) (N := 21) (D_X3_outlasts fu) (by decide +kernel) (fun h => absurd h (by decide)) (fun as w o h => ?_)
  unfold U_X3_outlasts at h
  split at h
  next =>
    split at h
    next => exact ⟨Nat.le_of_ble_eq_true rfl, fu, (E_X3_outlasts fu _ _ _ _ _ w).symm.trans h⟩
    next => cases h
  next => cases h
def T_X3_usesOf : List (Nat × Instr) := [(0, .iconst 0), (1, .istore_n 3), (2, .iconst 0), (3, .istore 4), (5, .iload 4), (7, .aload_n 1), (8, .getfield 66), (11, .if_icmp .ge 43), (14, .aload_n 1), (15, .iload_n 2), (16, .iload 4), (18, .aload_n 1), (19, .getfield 79), (22, .invokevirtual 82), (25, .iconst 1), (26, .if_icmp .lt 22), (29, .aload_n 0), (30, .aload_n 1), (31, .iload_n 2), (32, .iload 4), (34, .iconst 0), (35, .invokevirtual 86), (38, .ifCond .eq 10), (41, .iload_n 3), (42, .iconst 1), (43, .iload 4), (45, .ishl), (46, .ior), (47, .istore_n 3), (48, .iinc 4 1), (51, .goto (-46)), (54, .iload_n 3), (55, .ireturn)]
def op_X3_usesOf (fu : Nat) : Nat → Kont → XL → List Value → XW → Instr → Option XO := opK 5 (rzOf (some .int)) fl_BrookStones_Planner nl_BrookStones_Planner kl_BrookStones_Planner [] [(82, 4, 1, (U_X0_topOf fu)), (86, 5, 1, (U_X3_outlasts fu))] [] []
def F_X3_usesOf (fu : Nat) : Nat → (Nat → Nat → Int32 → Int32 → Int32 → XW → Option XO)
  | 0 => fun _ _ _ _ _ _ => none
  | n + 1 => (fun a0 a1 a2 a3 a4 w =>
    (gI w a1 0 8).bind fun x1 =>
    (if a4 < x1 then
      (gI w a1 0 11).bind fun x2 =>
      cI (U_X0_topOf fu [.ref a1, .int a2, .int a4, .int x2] w) fun x4 w3 =>
      (if x4 < (1 : Int32) then
        (F_X3_usesOf fu n) a0 a1 a2 a3 (a4 + (1 : Int32)) w3
      else
        cI (U_X3_outlasts fu [.ref a0, .ref a1, .int a2, .int a4, .int (0 : Int32)] w3) fun x6 w5 =>
        (if x6 = 0 then
          (F_X3_usesOf fu n) a0 a1 a2 a3 (a4 + (1 : Int32)) w5
        else
          (F_X3_usesOf fu n) a0 a1 a2 (a3 ||| ((1 : Int32) <<< (a4 &&& 31))) (a4 + (1 : Int32)) w5))
    else
      some (some (.int a3), w)))
def M_X3_usesOf (fu : Nat) (a0 : Nat) (a1 : Nat) (a2 : Int32) (w : XW) : Option XO :=
  (F_X3_usesOf fu fu) a0 a1 a2 (0 : Int32) (0 : Int32) w
def U_X3_usesOf (fu : Nat) : Orc := fun as w => match as with
  | [.ref a0, .ref a1, .int a2] => if isO w a0 3 = true then M_X3_usesOf fu a0 a1 a2 w else none
  | _ => none
def K_X3_usesOf (fu : Nat) (n : Nat) : Kont := fun pc ls st w => bif pc == 5 then ((xr ls 0).bind fun a0 => (xr ls 1).bind fun a1 => (xi ls 2).bind fun a2 => (xi ls 3).bind fun a3 => (xi ls 4).bind fun a4 => skN st ((F_X3_usesOf fu n) a0 a1 a2 a3 a4 w)) else none
set_option maxRecDepth 100000 in
set_option maxHeartbeats 4000000 in
theorem E_X3_usesOf_5 (fu : Nat) (n : Nat) (a0 : Nat) (a1 : Nat) (a2 : Int32) (a3 : Int32) (a4 : Int32) (w : XW) : (F_X3_usesOf fu (n + 1)) a0 a1 a2 a3 a4 w = ev T_X3_usesOf (op_X3_usesOf fu) [5] (K_X3_usesOf fu n) 35 5 [(0, .ref a0), (1, .ref a1), (2, .int a2), (3, .int a3), (4, .int a4)] [] w := by
  rfl
set_option maxRecDepth 100000 in
set_option maxHeartbeats 4000000 in
theorem E_X3_usesOf (fu : Nat) (a0 : Nat) (a1 : Nat) (a2 : Int32) (w : XW) : M_X3_usesOf fu a0 a1 a2 w = ev T_X3_usesOf (op_X3_usesOf fu) [5] (K_X3_usesOf fu fu) 35 0 (lv_args 0 [.ref a0, .ref a1, .int a2]) [] w := by
  rfl
theorem D_X3_usesOf (fu : Nat) : DS T_X3_usesOf (op_X3_usesOf fu) [5] 35 (K_X3_usesOf fu) := by
  refine ⟨fun pc ls st w => c_none (b_none fun _ => b_none fun _ => b_none fun _ => b_none fun _ => b_none fun _ => skN_none rfl) (rfl), fun n pc ls st w o h => ?_⟩
  rcases c_some h with ⟨rfl, h⟩ | h
  · obtain ⟨a0, h0, h⟩ := some_of h; obtain ⟨a1, h1, h⟩ := some_of h; obtain ⟨a2, h2, h⟩ := some_of h; obtain ⟨a3, h3, h⟩ := some_of h; obtain ⟨a4, h4, h⟩ := some_of h;
    obtain ⟨e, g⟩ := skN_of h
    subst e
    exact ⟨[(0, .ref a0), (1, .ref a1), (2, .int a2), (3, .int a3), (4, .int a4)], cons_all (xr_of h0) (cons_all (xr_of h1) (cons_all (xi_of h2) (cons_all (xi_of h3) (cons_all (xi_of h4) (nil_all))))), (E_X3_usesOf_5 fu n a0 a1 a2 a3 a4 w).symm.trans g⟩
  · cases h
theorem H_X3_usesOf (fu : Nat) : ∀ as w o, U_X3_usesOf fu as w = some o → ∃ a r, as = .ref a :: r ∧ r.length = 2 ∧ isO w a 3 = true := by
  intro as w o h
  unfold U_X3_usesOf at h
  split at h
  next =>
    split at h
    next hh => exact ⟨_, _, rfl, rfl, hh⟩
    next => cases h
  next => cases h
set_option maxRecDepth 100000 in
set_option maxHeartbeats 4000000 in
theorem S_X3_usesOf (fu : Nat) {l : Launch} {D : va_G} {cA : Nat → ClassId} {base b : Nat} : CS l D cA base b 3 y_X3_usesOf prog_5_method_6_code 5 (some .int) (U_X3_usesOf fu) ∧ OM (U_X3_usesOf fu) := by
  refine CS_of (d := 2) (y := y_X3_usesOf) (cc := prog_5_method_6_code) (nL := 5) (ret := (some .int)) (F := U_X3_usesOf fu) (fl := fl_BrookStones_Planner) (nl := nl_BrookStones_Planner) (kl := kl_BrookStones_Planner) (k2 := []) (mv := [(82, 4, 1, (U_X0_topOf fu)), (86, 5, 1, (U_X3_outlasts fu))]) (ms := []) (mi := []) (ini := false) hI_w hZ_w fl_BrookStones_Planner_ok nl_BrookStones_Planner_ok kl_BrookStones_Planner_ok nil_all
    (cons_all (⟨⟨show (1 : Nat) ≠ 3 by decide, y_X0_topOf, prog_2_method_13_code, 4, (some .int), 1, "BrookStones", 0, TX0, 15, 3, (S_X0_topOf fu (l := l) (D := D) (cA := cA) (base := base) (b := b)).1, by decide, by decide, rfl, H_X0_topOf fu, rfl, mi_X0_topOf.1, mi_X0_topOf.2.1, mi_X0_topOf.2.2.1, mi_X0_topOf.2.2.2.1, mi_X0_topOf.2.2.2.2, Or.inr (tblN_of (i := 531) rfl rfl)⟩, (S_X0_topOf fu (l := l) (D := D) (cA := cA) (base := base) (b := b)).2⟩) (cons_all (⟨⟨show (1 : Nat) ≠ 3 by decide, y_X3_outlasts, prog_5_method_15_code, 5, (some .boolean), 2, "BrookStones", 3, TX3, 8, 4, (S_X3_outlasts fu (l := l) (D := D) (cA := cA) (base := base) (b := b)).1, by decide, by decide, rfl, H_X3_outlasts fu, rfl, mi_X3_outlasts.1, mi_X3_outlasts.2.1, mi_X3_outlasts.2.2.1, mi_X3_outlasts.2.2.2.1, mi_X3_outlasts.2.2.2.2, Or.inl (tblG_of (i := 532) rfl rfl)⟩, (S_X3_outlasts fu (l := l) (D := D) (cA := cA) (base := base) (b := b)).2⟩) (nil_all)))
    (nil_all)
    (nil_all)
    (T := T_X3_usesOf) (by decide +kernel) (cut := [5]) (N := 35) (D_X3_usesOf fu) (by decide +kernel) (fun h => absurd h (by decide)) (fun as w o h => ?_)
  unfold U_X3_usesOf at h
  split at h
  next =>
    split at h
    next => exact ⟨Nat.le_of_ble_eq_true rfl, fu, (E_X3_usesOf fu _ _ _ w).symm.trans h⟩
    next => cases h
  next => cases h
