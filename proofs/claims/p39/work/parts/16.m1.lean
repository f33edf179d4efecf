def T_J7_fill_53178 : List (Nat × Instr) := [(0, .iconst 0), (1, .istore_n 2), (2, .aload_n 0), (3, .arraylength), (4, .istore_n 3), (5, .iload_n 2), (6, .iload_n 3), (7, .if_icmp .ge 13), (10, .aload_n 0), (11, .iload_n 2), (12, .iload_n 1), (13, .iastore), (14, .iinc 2 1), (17, .goto (-12)), (20, .return_)]
def op_J7_fill_53178 (fu : Nat) : Nat → Kont → XL → List Value → XW → Instr → Option XO := opK 4 (rzOf (none)) [] [] [] [] [] [] []
def F_J7_fill_53178 (fu : Nat) : Nat → (Nat → Int32 → Int32 → Int32 → XW → Option XO)
  | 0 => fun _ _ _ _ _ => none
  | n + 1 => (fun a0 a1 a2 a3 w =>
    (if a2 < a3 then
      (sI w a0 a2 a1).bind fun w1 =>
      (F_J7_fill_53178 fu n) a0 a1 (a2 + (1 : Int32)) a3 w1
    else
      some (none, w)))
def M_J7_fill_53178 (fu : Nat) (a0 : Nat) (a1 : Int32) (w : XW) : Option XO :=
  (aL w a0).bind fun x2 =>
  (F_J7_fill_53178 fu fu) a0 a1 (0 : Int32) x2 w
def U_J7_fill_53178 (fu : Nat) : Orc := fun as w => match as with
  | [.ref a0, .int a1] => M_J7_fill_53178 fu a0 a1 w
  | _ => none
def K_J7_fill_53178 (fu : Nat) (n : Nat) : Kont := fun pc ls st w => bif pc == 5 then ((xr ls 0).bind fun a0 => (xi ls 1).bind fun a1 => (xi ls 2).bind fun a2 => (xi ls 3).bind fun a3 => skN st ((F_J7_fill_53178 fu n) a0 a1 a2 a3 w)) else none
set_option maxRecDepth 100000 in
set_option maxHeartbeats 4000000 in
theorem E_J7_fill_53178_5 (fu : Nat) (n : Nat) (a0 : Nat) (a1 : Int32) (a2 : Int32) (a3 : Int32) (w : XW) : (F_J7_fill_53178 fu (n + 1)) a0 a1 a2 a3 w = ev T_J7_fill_53178 (op_J7_fill_53178 fu) [5] (K_J7_fill_53178 fu n) 17 5 [(0, .ref a0), (1, .int a1), (2, .int a2), (3, .int a3)] [] w := by
  rfl
set_option maxRecDepth 100000 in
set_option maxHeartbeats 4000000 in
theorem E_J7_fill_53178 (fu : Nat) (a0 : Nat) (a1 : Int32) (w : XW) : M_J7_fill_53178 fu a0 a1 w = ev T_J7_fill_53178 (op_J7_fill_53178 fu) [5] (K_J7_fill_53178 fu fu) 17 0 (lv_args 0 [.ref a0, .int a1]) [] w := by
  rfl
theorem D_J7_fill_53178 (fu : Nat) : DS T_J7_fill_53178 (op_J7_fill_53178 fu) [5] 17 (K_J7_fill_53178 fu) := by
  refine ⟨fun pc ls st w => c_none (b_none fun _ => b_none fun _ => b_none fun _ => b_none fun _ => skN_none rfl) (rfl), fun n pc ls st w o h => ?_⟩
  rcases c_some h with ⟨rfl, h⟩ | h
  · obtain ⟨a0, h0, h⟩ := some_of h; obtain ⟨a1, h1, h⟩ := some_of h; obtain ⟨a2, h2, h⟩ := some_of h; obtain ⟨a3, h3, h⟩ := some_of h;
    obtain ⟨e, g⟩ := skN_of h
    subst e
    exact ⟨[(0, .ref a0), (1, .int a1), (2, .int a2), (3, .int a3)], cons_all (xr_of h0) (cons_all (xi_of h1) (cons_all (xi_of h2) (cons_all (xi_of h3) (nil_all)))), (E_J7_fill_53178_5 fu n a0 a1 a2 a3 w).symm.trans g⟩
  · cases h
set_option maxRecDepth 100000 in
set_option maxHeartbeats 4000000 in
theorem S_J7_fill_53178 (fu : Nat) {l : Launch} {D : va_G} {cA : Nat → ClassId} {base b : Nat} : CS l D cA base b 1 y_J7_fill_53178 prog_13_method_103_code 4 (none) (U_J7_fill_53178 fu) ∧ OM (U_J7_fill_53178 fu) := by
  refine CS_of (d := 0) (y := y_J7_fill_53178) (cc := prog_13_method_103_code) (nL := 4) (ret := (none)) (F := U_J7_fill_53178 fu) (fl := []) (nl := []) (kl := []) (k2 := []) (mv := []) (ms := []) (mi := []) (ini := false) hI_w nil_all nil_all nil_all nil_all
    (nil_all)
    (nil_all)
    (nil_all)
    (T := T_J7_fill_53178) (by decide +kernel) (cut := [5]) (N := 17) (D_J7_fill_53178 fu) (by decide +kernel) (fun h => absurd h (by decide)) (fun as w o h => ?_)
  unfold U_J7_fill_53178 at h
  split at h
  next =>
    exact ⟨Nat.le_of_ble_eq_true rfl, fu, (E_J7_fill_53178 fu _ _ w).symm.trans h⟩
  next => cases h
def T_X0_init : List (Nat × Instr) := [(0, .aload_n 0), (1, .invokespecial 3), (4, .aload_n 0), (5, .bipush 7), (7, .newarray .int), (9, .putfield 9), (12, .aload_n 0), (13, .bipush 7), (15, .newarray .int), (17, .putfield 15), (20, .aload_n 0), (21, .bipush 7), (23, .newarray .int), (25, .putfield 18), (28, .aload_n 0), (29, .bipush 6), (31, .newarray .int), (33, .putfield 21), (36, .aload_n 0), (37, .bipush 6), (39, .newarray .int), (41, .putfield 24), (44, .aload_n 0), (45, .bipush 6), (47, .newarray .int), (49, .putfield 27), (52, .aload_n 0), (53, .bipush 6), (55, .newarray .int), (57, .putfield 30), (60, .aload_n 0), (61, .bipush 6), (63, .newarray .int), (65, .putfield 33), (68, .aload_n 0), (69, .getfield 18), (72, .bipush (-9)), (74, .invokestatic 36), (77, .return_)]
def op_X0_init (fu : Nat) : Nat → Kont → XL → List Value → XW → Instr → Option XO := opK 1 (rzOf (none)) fl_BrookStones_Brook_i [] [] [] [] [(36, 2, 0, (U_J7_fill_53178 fu))] [(3, 1, 0, oInit)]
def M_X0_init (fu : Nat) (a0 : Nat) (w : XW) : Option XO :=
  cV (oInit [.ref a0] w) fun w1 =>
  (if 0 ≤ (7 : Int32) ∧ (7 : Int32) ≤ 1000 ∧ 0 < List.length w1 then
  (pF (w1 ++ [.inr (0, List.replicate (Int32.toNatClampNeg (7 : Int32)) 0)]) a0 0 0 (.ref (List.length w1))).bind fun w2 =>
  (if 0 ≤ (7 : Int32) ∧ (7 : Int32) ≤ 1000 ∧ 0 < List.length w2 then
  (pF (w2 ++ [.inr (0, List.replicate (Int32.toNatClampNeg (7 : Int32)) 0)]) a0 0 1 (.ref (List.length w2))).bind fun w3 =>
  (if 0 ≤ (7 : Int32) ∧ (7 : Int32) ≤ 1000 ∧ 0 < List.length w3 then
  (pF (w3 ++ [.inr (0, List.replicate (Int32.toNatClampNeg (7 : Int32)) 0)]) a0 0 2 (.ref (List.length w3))).bind fun w4 =>
  (if 0 ≤ (6 : Int32) ∧ (6 : Int32) ≤ 1000 ∧ 0 < List.length w4 then
  (pF (w4 ++ [.inr (0, List.replicate (Int32.toNatClampNeg (6 : Int32)) 0)]) a0 0 3 (.ref (List.length w4))).bind fun w5 =>
  (if 0 ≤ (6 : Int32) ∧ (6 : Int32) ≤ 1000 ∧ 0 < List.length w5 then
  (pF (w5 ++ [.inr (0, List.replicate (Int32.toNatClampNeg (6 : Int32)) 0)]) a0 0 4 (.ref (List.length w5))).bind fun w6 =>
  (if 0 ≤ (6 : Int32) ∧ (6 : Int32) ≤ 1000 ∧ 0 < List.length w6 then
  (pF (w6 ++ [.inr (0, List.replicate (Int32.toNatClampNeg (6 : Int32)) 0)]) a0 0 5 (.ref (List.length w6))).bind fun w7 =>
  (if 0 ≤ (6 : Int32) ∧ (6 : Int32) ≤ 1000 ∧ 0 < List.length w7 then
  (pF (w7 ++ [.inr (0, List.replicate (Int32.toNatClampNeg (6 : Int32)) 0)]) a0 0 6 (.ref (List.length w7))).bind fun w8 =>
  (if 0 ≤ (6 : Int32) ∧ (6 : Int32) ≤ 1000 ∧ 0 < List.length w8 then
  (pF (w8 ++ [.inr (0, List.replicate (Int32.toNatClampNeg (6 : Int32)) 0)]) a0 0 7 (.ref (List.length w8))).bind fun w9 =>
  (gR w9 a0 0 2).bind fun r10 =>
  cV (U_J7_fill_53178 fu [.ref r10, .int (-9 : Int32)] w9) fun w11 =>
  some (none, w11)
  else none)
  else none)
  else none)
  else none)
  else none)
  else none)
  else none)
  else none)
def U_X0_init (fu : Nat) : Orc := fun as w => match as with
  | [.ref a0] => M_X0_init fu a0 w
  | _ => none
def K_X0_init (fu : Nat) (n : Nat) : Kont := fun pc ls st w => none
set_option maxRecDepth 100000 in
set_option maxHeartbeats 4000000 in
theorem E_X0_init (fu : Nat) (a0 : Nat) (w : XW) : M_X0_init fu a0 w = ev T_X0_init (op_X0_init fu) [] (K_X0_init fu fu) 41 0 (lv_args 0 [.ref a0]) [] w := by
  rfl
theorem D_X0_init (fu : Nat) : DS T_X0_init (op_X0_init fu) [] 41 (K_X0_init fu) := by
  refine ⟨fun pc ls st w => rfl, fun n pc ls st w o h => ?_⟩
  cases h
theorem H_X0_init (fu : Nat) : ∀ as w o, U_X0_init fu as w = some o → ∃ a r, as = .ref a :: r ∧ r.length = 0 := by
  intro as w o h
  unfold U_X0_init at h
  split at h
  next => exact ⟨_, _, rfl, rfl⟩
  next => cases h
set_option maxRecDepth 100000 in
set_option maxHeartbeats 4000000 in
theorem S_X0_init (fu : Nat) {l : Launch} {D : va_G} {cA : Nat → ClassId} {base b : Nat} : CS l D cA base b 2 y_X0_init prog_2_method_1_code 1 (none) (U_X0_init fu) ∧ OM (U_X0_init fu) := by
  refine CS_of (d := 1) (y := y_X0_init) (cc := prog_2_method_1_code) (nL := 1) (ret := (none)) (F := U_X0_init fu) (fl := fl_BrookStones_Brook_i) (nl := []) (kl := []) (k2 := []) (mv := []) (ms := [(36, 2, 0, (U_J7_fill_53178 fu))]) (mi := [(3, 1, 0, oInit)]) (ini := true) hI_w fl_BrookStones_Brook_i_ok nil_all nil_all nil_all
    (nil_all)
    (cons_all (⟨Or.inl ⟨show (0 : Nat) ≠ 3 by decide, y_J7_fill_53178, prog_13_method_103_code, 4, (none), 1, "BrookStones", (S_J7_fill_53178 fu (l := l) (D := D) (cA := cA) (base := base) (b := b)).1, by decide, by decide, mi_J7_fill_53178.1, mi_J7_fill_53178.2.1, mi_J7_fill_53178.2.2.1, mi_J7_fill_53178.2.2.2, Or.inl (tblG_of (i := 26) rfl rfl)⟩, (S_J7_fill_53178 fu (l := l) (D := D) (cA := cA) (base := base) (b := b)).2⟩) (nil_all))
    (cons_all (⟨Or.inr ⟨rfl, rfl, rfl, tblG_of (i := 25) rfl rfl, tblG_of (i := 18) rfl rfl, tblG_of (i := 19) rfl rfl⟩, om_init⟩) (nil_all))
    (T := T_X0_init) (by decide +kernel) (cut := []) (N := 41) (D_X0_init fu) (by decide +kernel) (fun _ => rfl) (fun as w o h => ?_)
  unfold U_X0_init at h
  split at h
  next =>
    exact ⟨Nat.le_of_ble_eq_true rfl, fu, (E_X0_init fu _ w).symm.trans h⟩
  next => cases h
def T_X4_init : List (Nat × Instr) := [(0, .aload_n 0), (1, .invokespecial 3), (4, .aload_n 0), (5, .iconst 4), (6, .newarray .int), (8, .putfield 9), (11, .aload_n 0), (12, .iconst 4), (13, .newarray .int), (15, .putfield 15), (18, .aload_n 0), (19, .sipush 240), (22, .newarray .int), (24, .putfield 18), (27, .aload_n 0), (28, .getfield 15), (31, .iconst (-1)), (32, .invokestatic 21), (35, .return_)]
def op_X4_init (fu : Nat) : Nat → Kont → XL → List Value → XW → Instr → Option XO := opK 1 (rzOf (none)) fl_BrookStones_Sheets_i [] [] [] [] [(21, 2, 0, (U_J7_fill_53178 fu))] [(3, 1, 0, oInit)]
def M_X4_init (fu : Nat) (a0 : Nat) (w : XW) : Option XO :=
  cV (oInit [.ref a0] w) fun w1 =>
  (if 0 ≤ (4 : Int32) ∧ (4 : Int32) ≤ 1000 ∧ 0 < List.length w1 then
  (pF (w1 ++ [.inr (0, List.replicate (Int32.toNatClampNeg (4 : Int32)) 0)]) a0 4 0 (.ref (List.length w1))).bind fun w2 =>
  (if 0 ≤ (4 : Int32) ∧ (4 : Int32) ≤ 1000 ∧ 0 < List.length w2 then
  (pF (w2 ++ [.inr (0, List.replicate (Int32.toNatClampNeg (4 : Int32)) 0)]) a0 4 1 (.ref (List.length w2))).bind fun w3 =>
  (if 0 ≤ (240 : Int32) ∧ (240 : Int32) ≤ 1000 ∧ 0 < List.length w3 then
  (pF (w3 ++ [.inr (0, List.replicate (Int32.toNatClampNeg (240 : Int32)) 0)]) a0 4 2 (.ref (List.length w3))).bind fun w4 =>
  (gR w4 a0 4 1).bind fun r5 =>
  cV (U_J7_fill_53178 fu [.ref r5, .int (-1 : Int32)] w4) fun w6 =>
  some (none, w6)
  else none)
  else none)
  else none)
def U_X4_init (fu : Nat) : Orc := fun as w => match as with
  | [.ref a0] => M_X4_init fu a0 w
  | _ => none
def K_X4_init (fu : Nat) (n : Nat) : Kont := fun pc ls st w => none
set_option maxRecDepth 100000 in
set_option maxHeartbeats 4000000 in
theorem E_X4_init (fu : Nat) (a0 : Nat) (w : XW) : M_X4_init fu a0 w = ev T_X4_init (op_X4_init fu) [] (K_X4_init fu fu) 21 0 (lv_args 0 [.ref a0]) [] w := by
  rfl
theorem D_X4_init (fu : Nat) : DS T_X4_init (op_X4_init fu) [] 21 (K_X4_init fu) := by
  refine ⟨fun pc ls st w => rfl, fun n pc ls st w o h => ?_⟩
  cases h
theorem H_X4_init (fu : Nat) : ∀ as w o, U_X4_init fu as w = some o → ∃ a r, as = .ref a :: r ∧ r.length = 0 := by
  intro as w o h
  unfold U_X4_init at h
  split at h
  next => exact ⟨_, _, rfl, rfl⟩
  next => cases h
set_option maxRecDepth 100000 in
set_option maxHeartbeats 4000000 in
theorem S_X4_init (fu : Nat) {l : Launch} {D : va_G} {cA : Nat → ClassId} {base b : Nat} : CS l D cA base b 2 y_X4_init prog_6_method_1_code 1 (none) (U_X4_init fu) ∧ OM (U_X4_init fu) := by
  refine CS_of (d := 1) (y := y_X4_init) (cc := prog_6_method_1_code) (nL := 1) (ret := (none)) (F := U_X4_init fu) (fl := fl_BrookStones_Sheets_i) (nl := []) (kl := []) (k2 := []) (mv := []) (ms := [(21, 2, 0, (U_J7_fill_53178 fu))]) (mi := [(3, 1, 0, oInit)]) (ini := true) hI_w fl_BrookStones_Sheets_i_ok nil_all nil_all nil_all
    (nil_all)
    (cons_all (⟨Or.inl ⟨show (0 : Nat) ≠ 3 by decide, y_J7_fill_53178, prog_13_method_103_code, 4, (none), 1, "BrookStones", (S_J7_fill_53178 fu (l := l) (D := D) (cA := cA) (base := base) (b := b)).1, by decide, by decide, mi_J7_fill_53178.1, mi_J7_fill_53178.2.1, mi_J7_fill_53178.2.2.1, mi_J7_fill_53178.2.2.2, Or.inl (tblG_of (i := 101) rfl rfl)⟩, (S_J7_fill_53178 fu (l := l) (D := D) (cA := cA) (base := base) (b := b)).2⟩) (nil_all))
    (cons_all (⟨Or.inr ⟨rfl, rfl, rfl, tblG_of (i := 100) rfl rfl, tblG_of (i := 18) rfl rfl, tblG_of (i := 19) rfl rfl⟩, om_init⟩) (nil_all))
    (T := T_X4_init) (by decide +kernel) (cut := []) (N := 21) (D_X4_init fu) (by decide +kernel) (fun _ => rfl) (fun as w o h => ?_)
  unfold U_X4_init at h
  split at h
  next =>
    exact ⟨Nat.le_of_ble_eq_true rfl, fu, (E_X4_init fu _ w).symm.trans h⟩
  next => cases h
def T_X6_init : List (Nat × Instr) := [(0, .aload_n 0), (1, .invokespecial 3), (4, .aload_n 0), (5, .bipush 8), (7, .newarray .int), (9, .putfield 9), (12, .aload_n 0), (13, .bipush 9), (15, .newarray .int), (17, .putfield 15), (20, .return_)]
def op_X6_init (fu : Nat) : Nat → Kont → XL → List Value → XW → Instr → Option XO := opK 1 (rzOf (none)) fl_BrookStones_Way_i [] [] [] [] [] [(3, 1, 0, oInit)]
def M_X6_init (fu : Nat) (a0 : Nat) (w : XW) : Option XO :=
  cV (oInit [.ref a0] w) fun w1 =>
  (if 0 ≤ (8 : Int32) ∧ (8 : Int32) ≤ 1000 ∧ 0 < List.length w1 then
  (pF (w1 ++ [.inr (0, List.replicate (Int32.toNatClampNeg (8 : Int32)) 0)]) a0 5 0 (.ref (List.length w1))).bind fun w2 =>
  (if 0 ≤ (9 : Int32) ∧ (9 : Int32) ≤ 1000 ∧ 0 < List.length w2 then
  (pF (w2 ++ [.inr (0, List.replicate (Int32.toNatClampNeg (9 : Int32)) 0)]) a0 5 1 (.ref (List.length w2))).bind fun w3 =>
  some (none, w3)
  else none)
  else none)
def U_X6_init (fu : Nat) : Orc := fun as w => match as with
  | [.ref a0] => M_X6_init fu a0 w
  | _ => none
def K_X6_init (fu : Nat) (n : Nat) : Kont := fun pc ls st w => none
set_option maxRecDepth 100000 in
set_option maxHeartbeats 4000000 in
theorem E_X6_init (fu : Nat) (a0 : Nat) (w : XW) : M_X6_init fu a0 w = ev T_X6_init (op_X6_init fu) [] (K_X6_init fu fu) 13 0 (lv_args 0 [.ref a0]) [] w := by
  rfl
theorem D_X6_init (fu : Nat) : DS T_X6_init (op_X6_init fu) [] 13 (K_X6_init fu) := by
  refine ⟨fun pc ls st w => rfl, fun n pc ls st w o h => ?_⟩
  cases h
theorem H_X6_init (fu : Nat) : ∀ as w o, U_X6_init fu as w = some o → ∃ a r, as = .ref a :: r ∧ r.length = 0 := by
  intro as w o h
  unfold U_X6_init at h
  split at h
  next => exact ⟨_, _, rfl, rfl⟩
  next => cases h
set_option maxRecDepth 100000 in
set_option maxHeartbeats 4000000 in
theorem S_X6_init (fu : Nat) {l : Launch} {D : va_G} {cA : Nat → ClassId} {base b : Nat} : CS l D cA base b 1 y_X6_init prog_8_method_1_code 1 (none) (U_X6_init fu) ∧ OM (U_X6_init fu) := by
  refine CS_of (d := 0) (y := y_X6_init) (cc := prog_8_method_1_code) (nL := 1) (ret := (none)) (F := U_X6_init fu) (fl := fl_BrookStones_Way_i) (nl := []) (kl := []) (k2 := []) (mv := []) (ms := []) (mi := [(3, 1, 0, oInit)]) (ini := true) hI_w fl_BrookStones_Way_i_ok nil_all nil_all nil_all
    (nil_all)
    (nil_all)
    (cons_all (⟨Or.inr ⟨rfl, rfl, rfl, tblG_of (i := 118) rfl rfl, tblG_of (i := 18) rfl rfl, tblG_of (i := 19) rfl rfl⟩, om_init⟩) (nil_all))
    (T := T_X6_init) (by decide +kernel) (cut := []) (N := 13) (D_X6_init fu) (by decide +kernel) (fun _ => rfl) (fun as w o h => ?_)
  unfold U_X6_init at h
  split at h
  next =>
    exact ⟨Nat.le_of_ble_eq_true rfl, fu, (E_X6_init fu _ w).symm.trans h⟩
  next => cases h
def T_X1_init : List (Nat × Instr) := [(0, .aload_n 0), (1, .invokespecial 3), (4, .aload_n 0), (5, .bipush 7), (7, .newarray .int), (9, .putfield 9), (12, .aload_n 0), (13, .bipush 7), (15, .newarray .int), (17, .putfield 15), (20, .return_)]
def op_X1_init (fu : Nat) : Nat → Kont → XL → List Value → XW → Instr → Option XO := opK 1 (rzOf (none)) fl_BrookStones_Flood_i [] [] [] [] [] [(3, 1, 0, oInit)]
def M_X1_init (fu : Nat) (a0 : Nat) (w : XW) : Option XO :=
  cV (oInit [.ref a0] w) fun w1 =>
  (if 0 ≤ (7 : Int32) ∧ (7 : Int32) ≤ 1000 ∧ 0 < List.length w1 then
  (pF (w1 ++ [.inr (0, List.replicate (Int32.toNatClampNeg (7 : Int32)) 0)]) a0 1 0 (.ref (List.length w1))).bind fun w2 =>
  (if 0 ≤ (7 : Int32) ∧ (7 : Int32) ≤ 1000 ∧ 0 < List.length w2 then
  (pF (w2 ++ [.inr (0, List.replicate (Int32.toNatClampNeg (7 : Int32)) 0)]) a0 1 1 (.ref (List.length w2))).bind fun w3 =>
  some (none, w3)
  else none)
  else none)
def U_X1_init (fu : Nat) : Orc := fun as w => match as with
  | [.ref a0] => M_X1_init fu a0 w
  | _ => none
def K_X1_init (fu : Nat) (n : Nat) : Kont := fun pc ls st w => none
set_option maxRecDepth 100000 in
set_option maxHeartbeats 4000000 in
theorem E_X1_init (fu : Nat) (a0 : Nat) (w : XW) : M_X1_init fu a0 w = ev T_X1_init (op_X1_init fu) [] (K_X1_init fu fu) 13 0 (lv_args 0 [.ref a0]) [] w := by
  rfl
theorem D_X1_init (fu : Nat) : DS T_X1_init (op_X1_init fu) [] 13 (K_X1_init fu) := by
  refine ⟨fun pc ls st w => rfl, fun n pc ls st w o h => ?_⟩
  cases h
theorem H_X1_init (fu : Nat) : ∀ as w o, U_X1_init fu as w = some o → ∃ a r, as = .ref a :: r ∧ r.length = 0 := by
  intro as w o h
  unfold U_X1_init at h
  split at h
  next => exact ⟨_, _, rfl, rfl⟩
  next => cases h
set_option maxRecDepth 100000 in
set_option maxHeartbeats 4000000 in
theorem S_X1_init (fu : Nat) {l : Launch} {D : va_G} {cA : Nat → ClassId} {base b : Nat} : CS l D cA base b 1 y_X1_init prog_3_method_1_code 1 (none) (U_X1_init fu) ∧ OM (U_X1_init fu) := by
  refine CS_of (d := 0) (y := y_X1_init) (cc := prog_3_method_1_code) (nL := 1) (ret := (none)) (F := U_X1_init fu) (fl := fl_BrookStones_Flood_i) (nl := []) (kl := []) (k2 := []) (mv := []) (ms := []) (mi := [(3, 1, 0, oInit)]) (ini := true) hI_w fl_BrookStones_Flood_i_ok nil_all nil_all nil_all
    (nil_all)
    (nil_all)
    (cons_all (⟨Or.inr ⟨rfl, rfl, rfl, tblG_of (i := 144) rfl rfl, tblG_of (i := 18) rfl rfl, tblG_of (i := 19) rfl rfl⟩, om_init⟩) (nil_all))
    (T := T_X1_init) (by decide +kernel) (cut := []) (N := 13) (D_X1_init fu) (by decide +kernel) (fun _ => rfl) (fun as w o h => ?_)
  unfold U_X1_init at h
  split at h
  next =>
    exact ⟨Nat.le_of_ble_eq_true rfl, fu, (E_X1_init fu _ w).symm.trans h⟩
  next => cases h
def T_X3_init : List (Nat × Instr) := [(0, .aload_n 0), (1, .invokespecial 5), (4, .aload_n 0), (5, .bipush 7), (7, .newarray .int), (9, .putfield 11), (12, .aload_n 0), (13, .bipush 7), (15, .newarray .int), (17, .putfield 15), (20, .aload_n 0), (21, .bipush 6), (23, .newarray .int), (25, .putfield 18), (28, .aload_n 0), (29, .bipush 8), (31, .bipush 8), (33, .multianewarray 21 2), (37, .putfield 23), (40, .return_)]
def op_X3_init (fu : Nat) : Nat → Kont → XL → List Value → XW → Instr → Option XO := opK 1 (rzOf (none)) fl_BrookStones_Planner_i nl_BrookStones_Planner [] [] [] [] [(5, 1, 0, oInit)]
def M_X3_init (fu : Nat) (a0 : Nat) (w : XW) : Option XO :=
  cV (oInit [.ref a0] w) fun w1 =>
  (if 0 ≤ (7 : Int32) ∧ (7 : Int32) ≤ 1000 ∧ 0 < List.length w1 then
  (pF (w1 ++ [.inr (0, List.replicate (Int32.toNatClampNeg (7 : Int32)) 0)]) a0 3 0 (.ref (List.length w1))).bind fun w2 =>
  (if 0 ≤ (7 : Int32) ∧ (7 : Int32) ≤ 1000 ∧ 0 < List.length w2 then
  (pF (w2 ++ [.inr (0, List.replicate (Int32.toNatClampNeg (7 : Int32)) 0)]) a0 3 1 (.ref (List.length w2))).bind fun w3 =>
  (if 0 ≤ (6 : Int32) ∧ (6 : Int32) ≤ 1000 ∧ 0 < List.length w3 then
  (pF (w3 ++ [.inr (0, List.replicate (Int32.toNatClampNeg (6 : Int32)) 0)]) a0 3 2 (.ref (List.length w3))).bind fun w4 =>
  (if 0 ≤ (8 : Int32) ∧ (8 : Int32) ≤ 1000 ∧ 0 ≤ (8 : Int32) ∧ (8 : Int32) ≤ 1000 ∧ 0 < List.length w4 ∧ List.length w4 ≤ 1000 then
  (pF (w4 ++ mkA (List.length w4) (8 : Int32) (8 : Int32)) a0 3 3 (.ref (List.length w4))).bind fun w5 =>
  some (none, w5)
  else none)
  else none)
  else none)
  else none)
def U_X3_init (fu : Nat) : Orc := fun as w => match as with
  | [.ref a0] => M_X3_init fu a0 w
  | _ => none
def K_X3_init (fu : Nat) (n : Nat) : Kont := fun pc ls st w => none
set_option maxRecDepth 100000 in
set_option maxHeartbeats 4000000 in
theorem E_X3_init (fu : Nat) (a0 : Nat) (w : XW) : M_X3_init fu a0 w = ev T_X3_init (op_X3_init fu) [] (K_X3_init fu fu) 22 0 (lv_args 0 [.ref a0]) [] w := by
  rfl
theorem D_X3_init (fu : Nat) : DS T_X3_init (op_X3_init fu) [] 22 (K_X3_init fu) := by
  refine ⟨fun pc ls st w => rfl, fun n pc ls st w o h => ?_⟩
  cases h
theorem H_X3_init (fu : Nat) : ∀ as w o, U_X3_init fu as w = some o → ∃ a r, as = .ref a :: r ∧ r.length = 0 := by
  intro as w o h
  unfold U_X3_init at h
  split at h
  next => exact ⟨_, _, rfl, rfl⟩
  next => cases h
set_option maxRecDepth 100000 in
set_option maxHeartbeats 4000000 in
theorem S_X3_init (fu : Nat) {l : Launch} {D : va_G} {cA : Nat → ClassId} {base b : Nat} : CS l D cA base b 1 y_X3_init prog_5_method_1_code 1 (none) (U_X3_init fu) ∧ OM (U_X3_init fu) := by
  refine CS_of (d := 0) (y := y_X3_init) (cc := prog_5_method_1_code) (nL := 1) (ret := (none)) (F := U_X3_init fu) (fl := fl_BrookStones_Planner_i) (nl := nl_BrookStones_Planner) (kl := []) (k2 := []) (mv := []) (ms := []) (mi := [(5, 1, 0, oInit)]) (ini := true) hI_w fl_BrookStones_Planner_i_ok nl_BrookStones_Planner_ok nil_all nil_all
    (nil_all)
    (nil_all)
    (cons_all (⟨Or.inr ⟨rfl, rfl, rfl, tblG_of (i := 159) rfl rfl, tblG_of (i := 18) rfl rfl, tblG_of (i := 19) rfl rfl⟩, om_init⟩) (nil_all))
    (T := T_X3_init) (by decide +kernel) (cut := []) (N := 22) (D_X3_init fu) (by decide +kernel) (fun _ => rfl) (fun as w o h => ?_)
  unfold U_X3_init at h
  split at h
  next =>
    exact ⟨Nat.le_of_ble_eq_true rfl, fu, (E_X3_init fu _ w).symm.trans h⟩
  next => cases h
def T_X2_init : List (Nat × Instr) := [(0, .aload_n 0), (1, .invokespecial 3), (4, .aload_n 0), (5, .sipush 128), (8, .newarray .int), (10, .putfield 9), (13, .return_)]
def op_X2_init (fu : Nat) : Nat → Kont → XL → List Value → XW → Instr → Option XO := opK 1 (rzOf (none)) fl_BrookStones_Layings_i [] [] [] [] [] [(3, 1, 0, oInit)]
def M_X2_init (fu : Nat) (a0 : Nat) (w : XW) : Option XO :=
  cV (oInit [.ref a0] w) fun w1 =>
  (if 0 ≤ (128 : Int32) ∧ (128 : Int32) ≤ 1000 ∧ 0 < List.length w1 then
  (pF (w1 ++ [.inr (0, List.replicate (Int32.toNatClampNeg (128 : Int32)) 0)]) a0 2 0 (.ref (List.length w1))).bind fun w2 =>
  some (none, w2)
  else none)
def U_X2_init (fu : Nat) : Orc := fun as w => match as with
  | [.ref a0] => M_X2_init fu a0 w
  | _ => none
def K_X2_init (fu : Nat) (n : Nat) : Kont := fun pc ls st w => none
set_option maxRecDepth 100000 in
set_option maxHeartbeats 4000000 in
theorem E_X2_init (fu : Nat) (a0 : Nat) (w : XW) : M_X2_init fu a0 w = ev T_X2_init (op_X2_init fu) [] (K_X2_init fu fu) 9 0 (lv_args 0 [.ref a0]) [] w := by
  rfl
theorem D_X2_init (fu : Nat) : DS T_X2_init (op_X2_init fu) [] 9 (K_X2_init fu) := by
  refine ⟨fun pc ls st w => rfl, fun n pc ls st w o h => ?_⟩
  cases h
theorem H_X2_init (fu : Nat) : ∀ as w o, U_X2_init fu as w = some o → ∃ a r, as = .ref a :: r ∧ r.length = 0 := by
  intro as w o h
  unfold U_X2_init at h
  split at h
  next => exact ⟨_, _, rfl, rfl⟩
  next => cases h
set_option maxRecDepth 100000 in
set_option maxHeartbeats 4000000 in
theorem S_X2_init (fu : Nat) {l : Launch} {D : va_G} {cA : Nat → ClassId} {base b : Nat} : CS l D cA base b 1 y_X2_init prog_4_method_1_code 1 (none) (U_X2_init fu) ∧ OM (U_X2_init fu) := by
  refine CS_of (d := 0) (y := y_X2_init) (cc := prog_4_method_1_code) (nL := 1) (ret := (none)) (F := U_X2_init fu) (fl := fl_BrookStones_Layings_i) (nl := []) (kl := []) (k2 := []) (mv := []) (ms := []) (mi := [(3, 1, 0, oInit)]) (ini := true) hI_w fl_BrookStones_Layings_i_ok nil_all nil_all nil_all
    (nil_all)
    (nil_all)
    (cons_all (⟨Or.inr ⟨rfl, rfl, rfl, tblG_of (i := 188) rfl rfl, tblG_of (i := 18) rfl rfl, tblG_of (i := 19) rfl rfl⟩, om_init⟩) (nil_all))
    (T := T_X2_init) (by decide +kernel) (cut := []) (N := 9) (D_X2_init fu) (by decide +kernel) (fun _ => rfl) (fun as w o h => ?_)
  unfold U_X2_init at h
  split at h
  next =>
    exact ⟨Nat.le_of_ble_eq_true rfl, fu, (E_X2_init fu _ w).symm.trans h⟩
  next => cases h
def T_X7_init : List (Nat × Instr) := [(0, .aload_n 0), (1, .invokespecial 3), (4, .aload_n 0), (5, .new 9), (8, .dup), (9, .invokespecial 11), (12, .putfield 12), (15, .aload_n 0), (16, .new 18), (19, .dup), (20, .invokespecial 20), (23, .putfield 21), (26, .aload_n 0), (27, .new 25), (30, .dup), (31, .invokespecial 27), (34, .putfield 28), (37, .aload_n 0), (38, .new 32), (41, .dup), (42, .invokespecial 34), (45, .putfield 35), (48, .aload_n 0), (49, .new 39), (52, .dup), (53, .invokespecial 41), (56, .putfield 42), (59, .aload_n 0), (60, .new 46), (63, .dup), (64, .invokespecial 48), (67, .putfield 49), (70, .return_)]
def op_X7_init (fu : Nat) : Nat → Kont → XL → List Value → XW → Instr → Option XO := opK 1 (rzOf (none)) fl_BrookStones_i nl_BrookStones [] [] [] [] [(3, 1, 0, oInit), (11, 1, 0, (U_X0_init fu)), (20, 1, 0, (U_X4_init fu)), (27, 1, 0, (U_X6_init fu)), (34, 1, 0, (U_X1_init fu)), (41, 1, 0, (U_X3_init fu)), (48, 1, 0, (U_X2_init fu))]
def M_X7_init (fu : Nat) (a0 : Nat) (w : XW) : Option XO :=
  cV (oInit [.ref a0] w) fun w1 =>
  (if 0 < List.length w1 then
  cV (U_X0_init fu [.ref (List.length w1)] (w1 ++ [.inl (0, [.null, .null, .null, .null, .null, .null, .null, .null, .int 0, .int 0, .int 0, .int 0, .int 0, .int 0, .int 0])])) fun w2 =>
  (pF w2 a0 6 0 (.ref (List.length w1))).bind fun w3 =>
  (if 0 < List.length w3 then
  cV (U_X4_init fu [.ref (List.length w3)] (w3 ++ [.inl (4, [.null, .null, .null])])) fun w4 =>
  (pF w4 a0 6 1 (.ref (List.length w3))).bind fun w5 =>
  (if 0 < List.length w5 then
  cV (U_X6_init fu [.ref (List.length w5)] (w5 ++ [.inl (5, [.null, .null, .int 0, .int 0, .int 0, .int 0])])) fun w6 =>
  (pF w6 a0 6 2 (.ref (List.length w5))).bind fun w7 =>
  (if 0 < List.length w7 then
  cV (U_X1_init fu [.ref (List.length w7)] (w7 ++ [.inl (1, [.null, .null, .int 0])])) fun w8 =>
  (pF w8 a0 6 3 (.ref (List.length w7))).bind fun w9 =>
  (if 0 < List.length w9 then
  cV (U_X3_init fu [.ref (List.length w9)] (w9 ++ [.inl (3, [.null, .null, .null, .null, .int 0, .int 0, .int 0, .int 0])])) fun w10 =>
  (pF w10 a0 6 4 (.ref (List.length w9))).bind fun w11 =>
  (if 0 < List.length w11 then
  cV (U_X2_init fu [.ref (List.length w11)] (w11 ++ [.inl (2, [.null, .int 0])])) fun w12 =>
  (pF w12 a0 6 5 (.ref (List.length w11))).bind fun w13 =>
  some (none, w13)
  else none)
  else none)
  else none)
  else none)
  else none)
  else none)
def U_X7_init (fu : Nat) : Orc := fun as w => match as with
  | [.ref a0] => M_X7_init fu a0 w
  | _ => none
def K_X7_init (fu : Nat) (n : Nat) : Kont := fun pc ls st w => none
set_option maxRecDepth 100000 in
set_option maxHeartbeats 4000000 in
theorem E_X7_init (fu : Nat) (a0 : Nat) (w : XW) : M_X7_init fu a0 w = ev T_X7_init (op_X7_init fu) [] (K_X7_init fu fu) 35 0 (lv_args 0 [.ref a0]) [] w := by
  rfl
theorem D_X7_init (fu : Nat) : DS T_X7_init (op_X7_init fu) [] 35 (K_X7_init fu) := by
  refine ⟨fun pc ls st w => rfl, fun n pc ls st w o h => ?_⟩
  cases h
theorem H_X7_init (fu : Nat) : ∀ as w o, U_X7_init fu as w = some o → ∃ a r, as = .ref a :: r ∧ r.length = 0 := by
  intro as w o h
  unfold U_X7_init at h
  split at h
  next => exact ⟨_, _, rfl, rfl⟩
  next => cases h
set_option maxRecDepth 100000 in
set_option maxHeartbeats 4000000 in
theorem S_X7_init (fu : Nat) {l : Launch} {D : va_G} {cA : Nat → ClassId} {base b : Nat} : CS l D cA base b 3 y_X7_init prog_1_method_1_code 1 (none) (U_X7_init fu) ∧ OM (U_X7_init fu) := by
  refine CS_of (d := 2) (y := y_X7_init) (cc := prog_1_method_1_code) (nL := 1) (ret := (none)) (F := U_X7_init fu) (fl := fl_BrookStones_i) (nl := nl_BrookStones) (kl := []) (k2 := []) (mv := []) (ms := []) (mi := [(3, 1, 0, oInit), (11, 1, 0, (U_X0_init fu)), (20, 1, 0, (U_X4_init fu)), (27, 1, 0, (U_X6_init fu)), (34, 1, 0, (U_X1_init fu)), (41, 1, 0, (U_X3_init fu)), (48, 1, 0, (U_X2_init fu))]) (ini := true) hI_w fl_BrookStones_i_ok nl_BrookStones_ok nil_all nil_all
    (nil_all)
    (nil_all)
    (cons_all (⟨Or.inr ⟨rfl, rfl, rfl, tblG_of (i := 17) rfl rfl, tblG_of (i := 18) rfl rfl, tblG_of (i := 19) rfl rfl⟩, om_init⟩) (cons_all (⟨Or.inl ⟨show (0 : Nat) ≠ 3 by decide, y_X0_init, prog_2_method_1_code, 1, 2, "BrookStones", 0, (S_X0_init fu (l := l) (D := D) (cA := cA) (base := base) (b := b)).1, by decide, by decide, rfl, H_X0_init fu, rfl, mi_X0_init.1, mi_X0_init.2.1, mi_X0_init.2.2.1, mi_X0_init.2.2.2, Or.inr (tblN_of (i := 22) rfl rfl)⟩, (S_X0_init fu (l := l) (D := D) (cA := cA) (base := base) (b := b)).2⟩) (cons_all (⟨Or.inl ⟨show (0 : Nat) ≠ 3 by decide, y_X4_init, prog_6_method_1_code, 1, 2, "BrookStones", 0, (S_X4_init fu (l := l) (D := D) (cA := cA) (base := base) (b := b)).1, by decide, by decide, rfl, H_X4_init fu, rfl, mi_X4_init.1, mi_X4_init.2.1, mi_X4_init.2.2.1, mi_X4_init.2.2.2, Or.inr (tblN_of (i := 97) rfl rfl)⟩, (S_X4_init fu (l := l) (D := D) (cA := cA) (base := base) (b := b)).2⟩) (cons_all (⟨Or.inl ⟨show (0 : Nat) ≠ 3 by decide, y_X6_init, prog_8_method_1_code, 1, 1, "BrookStones", 0, (S_X6_init fu (l := l) (D := D) (cA := cA) (base := base) (b := b)).1, by decide, by decide, rfl, H_X6_init fu, rfl, mi_X6_init.1, mi_X6_init.2.1, mi_X6_init.2.2.1, mi_X6_init.2.2.2, Or.inr (tblN_of (i := 115) rfl rfl)⟩, (S_X6_init fu (l := l) (D := D) (cA := cA) (base := base) (b := b)).2⟩) (cons_all (⟨Or.inl ⟨show (0 : Nat) ≠ 3 by decide, y_X1_init, prog_3_method_1_code, 1, 1, "BrookStones", 0, (S_X1_init fu (l := l) (D := D) (cA := cA) (base := base) (b := b)).1, by decide, by decide, rfl, H_X1_init fu, rfl, mi_X1_init.1, mi_X1_init.2.1, mi_X1_init.2.2.1, mi_X1_init.2.2.2, Or.inr (tblN_of (i := 141) rfl rfl)⟩, (S_X1_init fu (l := l) (D := D) (cA := cA) (base := base) (b := b)).2⟩) (cons_all (⟨Or.inl ⟨show (0 : Nat) ≠ 3 by decide, y_X3_init, prog_5_method_1_code, 1, 1, "BrookStones", 0, (S_X3_init fu (l := l) (D := D) (cA := cA) (base := base) (b := b)).1, by decide, by decide, rfl, H_X3_init fu, rfl, mi_X3_init.1, mi_X3_init.2.1, mi_X3_init.2.2.1, mi_X3_init.2.2.2, Or.inr (tblN_of (i := 156) rfl rfl)⟩, (S_X3_init fu (l := l) (D := D) (cA := cA) (base := base) (b := b)).2⟩) (cons_all (⟨Or.inl ⟨show (0 : Nat) ≠ 3 by decide, y_X2_init, prog_4_method_1_code, 1, 1, "BrookStones", 0, (S_X2_init fu (l := l) (D := D) (cA := cA) (base := base) (b := b)).1, by decide, by decide, rfl, H_X2_init fu, rfl, mi_X2_init.1, mi_X2_init.2.1, mi_X2_init.2.2.1, mi_X2_init.2.2.2, Or.inr (tblN_of (i := 185) rfl rfl)⟩, (S_X2_init fu (l := l) (D := D) (cA := cA) (base := base) (b := b)).2⟩) (nil_all))))))))
    (T := T_X7_init) (by decide +kernel) (cut := []) (N := 35) (D_X7_init fu) (by decide +kernel) (fun _ => rfl) (fun as w o h => ?_)
  unfold U_X7_init at h
  split at h
  next =>
    exact ⟨Nat.le_of_ble_eq_true rfl, fu, (E_X7_init fu _ w).symm.trans h⟩
  next => cases h
def T_L_cell : List (Nat × Instr) := [(0, .iload_n 1), (1, .aload_n 0), (2, .arraylength), (3, .if_icmp .ge 9), (6, .aload_n 0), (7, .iload_n 1), (8, .iaload), (9, .goto 9), (12, .ldc 7), (14, .iload_n 1), (15, .iconst 1), (16, .iadd), (17, .imul), (18, .ireturn)]
def op_L_cell (fu : Nat) : Nat → Kont → XL → List Value → XW → Instr → Option XO := opK 2 (rzOf (some .int)) [] nl_BrookStonesLaw kl_BrookStonesLaw [] [] [] []
def M_L_cell (fu : Nat) (a0 : Nat) (a1 : Int32) (w : XW) : Option XO :=
  (aL w a0).bind fun x1 =>
  (if a1 < x1 then
    (aI w a0 a1).bind fun x2 =>
    some (some (.int x2), w)
  else
    some (some (.int ((747796405 : Int32) * (a1 + (1 : Int32)))), w))
def U_L_cell (fu : Nat) : Orc := fun as w => match as with
  | [.ref a0, .int a1] => M_L_cell fu a0 a1 w
  | _ => none
def K_L_cell (fu : Nat) (n : Nat) : Kont := fun pc ls st w => none
set_option maxRecDepth 100000 in
set_option maxHeartbeats 4000000 in
theorem E_L_cell (fu : Nat) (a0 : Nat) (a1 : Int32) (w : XW) : M_L_cell fu a0 a1 w = ev T_L_cell (op_L_cell fu) [] (K_L_cell fu fu) 16 0 (lv_args 0 [.ref a0, .int a1]) [] w := by
  rfl
theorem D_L_cell (fu : Nat) : DS T_L_cell (op_L_cell fu) [] 16 (K_L_cell fu) := by
  refine ⟨fun pc ls st w => rfl, fun n pc ls st w o h => ?_⟩
  cases h
set_option maxRecDepth 100000 in
set_option maxHeartbeats 4000000 in
theorem S_L_cell (fu : Nat) {l : Launch} {D : va_G} {cA : Nat → ClassId} {base b : Nat} : CS l D cA base b 1 y_L_cell method_2_code 2 (some .int) (U_L_cell fu) ∧ OM (U_L_cell fu) := by
  refine CS_of (d := 0) (y := y_L_cell) (cc := method_2_code) (nL := 2) (ret := (some .int)) (F := U_L_cell fu) (fl := []) (nl := nl_BrookStonesLaw) (kl := kl_BrookStonesLaw) (k2 := []) (mv := []) (ms := []) (mi := []) (ini := false) hI_w nil_all nl_BrookStonesLaw_ok kl_BrookStonesLaw_ok nil_all
    (nil_all)
    (nil_all)
    (nil_all)
    (T := T_L_cell) (by decide +kernel) (cut := []) (N := 16) (D_L_cell fu) (by decide +kernel) (fun h => absurd h (by decide)) (fun as w o h => ?_)
  unfold U_L_cell at h
  split at h
  next =>
    exact ⟨Nat.le_of_ble_eq_true rfl, fu, (E_L_cell fu _ _ w).symm.trans h⟩
  next => cases h
def T_L_some : List (Nat × Instr) := [(0, .iload_n 0), (1, .ldc 8), (3, .iand), (4, .iload_n 1), (5, .irem), (6, .ireturn)]
def op_L_some (fu : Nat) : Nat → Kont → XL → List Value → XW → Instr → Option XO := opK 2 (rzOf (some .int)) [] nl_BrookStonesLaw kl_BrookStonesLaw [] [] [] []
def M_L_some (fu : Nat) (a0 : Int32) (a1 : Int32) (w : XW) : Option XO :=
  (if a1 = 0 then none else
  some (some (.int ((a0 &&& (2147483647 : Int32)) - (a0 &&& (2147483647 : Int32)) / a1 * a1)), w))
def U_L_some (fu : Nat) : Orc := fun as w => match as with
  | [.int a0, .int a1] => M_L_some fu a0 a1 w
  | _ => none
def K_L_some (fu : Nat) (n : Nat) : Kont := fun pc ls st w => none
set_option maxRecDepth 100000 in
set_option maxHeartbeats 4000000 in
theorem E_L_some (fu : Nat) (a0 : Int32) (a1 : Int32) (w : XW) : M_L_some fu a0 a1 w = ev T_L_some (op_L_some fu) [] (K_L_some fu fu) 8 0 (lv_args 0 [.int a0, .int a1]) [] w := by
  rfl
theorem D_L_some (fu : Nat) : DS T_L_some (op_L_some fu) [] 8 (K_L_some fu) := by
  refine ⟨fun pc ls st w => rfl, fun n pc ls st w o h => ?_⟩
  cases h
set_option maxRecDepth 100000 in
set_option maxHeartbeats 4000000 in
theorem S_L_some (fu : Nat) {l : Launch} {D : va_G} {cA : Nat → ClassId} {base b : Nat} : CS l D cA base b 1 y_L_some method_3_code 2 (some .int) (U_L_some fu) ∧ OM (U_L_some fu) := by
  refine CS_of (d := 0) (y := y_L_some) (cc := method_3_code) (nL := 2) (ret := (some .int)) (F := U_L_some fu) (fl := []) (nl := nl_BrookStonesLaw) (kl := kl_BrookStonesLaw) (k2 := []) (mv := []) (ms := []) (mi := []) (ini := false) hI_w nil_all nl_BrookStonesLaw_ok kl_BrookStonesLaw_ok nil_all
    (nil_all)
    (nil_all)
    (nil_all)
    (T := T_L_some) (by decide +kernel) (cut := []) (N := 8) (D_L_some fu) (by decide +kernel) (fun h => absurd h (by decide)) (fun as w o h => ?_)
  unfold U_L_some at h
  split at h
  next =>
    exact ⟨Nat.le_of_ble_eq_true rfl, fu, (E_L_some fu _ _ w).symm.trans h⟩
  next => cases h
def T_X7_isWithin : List (Nat × Instr) := [(0, .iload_n 0), (1, .iload_n 1), (2, .if_icmp .lt 12), (5, .iload_n 0), (6, .iload_n 2), (7, .if_icmp .gt 7), (10, .iconst 1), (11, .goto 4), (14, .iconst 0), (15, .ireturn)]
def op_X7_isWithin (fu : Nat) : Nat → Kont → XL → List Value → XW → Instr → Option XO := opK 3 (rzOf (some .boolean)) fl_BrookStones nl_BrookStones [] [] [] [] []
def M_X7_isWithin (fu : Nat) (a0 : Int32) (a1 : Int32) (a2 : Int32) (w : XW) : Option XO :=
  (if a0 < a1 then
    retZ (0 : Int32) w
  else
    (if a2 < a0 then
      retZ (0 : Int32) w
    else
      retZ (1 : Int32) w))
def U_X7_isWithin (fu : Nat) : Orc := fun as w => match as with
  | [.int a0, .int a1, .int a2] => M_X7_isWithin fu a0 a1 a2 w
  | _ => none
def K_X7_isWithin (fu : Nat) (n : Nat) : Kont := fun pc ls st w => none
set_option maxRecDepth 100000 in
set_option maxHeartbeats 4000000 in
theorem E_X7_isWithin (fu : Nat) (a0 : Int32) (a1 : Int32) (a2 : Int32) (w : XW) : M_X7_isWithin fu a0 a1 a2 w = ev T_X7_isWithin (op_X7_isWithin fu) [] (K_X7_isWithin fu fu) 12 0 (lv_args 0 [.int a0, .int a1, .int a2]) [] w := by
  rfl
theorem D_X7_isWithin (fu : Nat) : DS T_X7_isWithin (op_X7_isWithin fu) [] 12 (K_X7_isWithin fu) := by
  refine ⟨fun pc ls st w => rfl, fun n pc ls st w o h => ?_⟩
  cases h
set_option maxRecDepth 100000 in
set_option maxHeartbeats 4000000 in
theorem S_X7_isWithin (fu : Nat) {l : Launch} {D : va_G} {cA : Nat → ClassId} {base b : Nat} : CS l D cA base b 1 y_X7_isWithin prog_1_method_46_code 3 (some .boolean) (U_X7_isWithin fu) ∧ OM (U_X7_isWithin fu) := by
  refine CS_of (d := 0) (y := y_X7_isWithin) (cc := prog_1_method_46_code) (nL := 3) (ret := (some .boolean)) (F := U_X7_isWithin fu) (fl := fl_BrookStones) (nl := nl_BrookStones) (kl := []) (k2 := []) (mv := []) (ms := []) (mi := []) (ini := false) hI_w fl_BrookStones_ok nl_BrookStones_ok nil_all nil_all
    (nil_all)
    (nil_all)
    (nil_all)
    (T := T_X7_isWithin) (by decide +kernel) (cut := []) (N := 12) (D_X7_isWithin fu) (by decide +kernel) (fun h => absurd h (by decide)) (fun as w o h => ?_)
  unfold U_X7_isWithin at h
  split at h
  next =>
    exact ⟨Nat.le_of_ble_eq_true rfl, fu, (E_X7_isWithin fu _ _ _ w).symm.trans h⟩
  next => cases h
def T_X4_isSheet : List (Nat × Instr) := [(0, .iload_n 0), (1, .iconst 0), (2, .iconst 3), (3, .invokestatic 27), (6, .ireturn)]
def op_X4_isSheet (fu : Nat) : Nat → Kont → XL → List Value → XW → Instr → Option XO := opK 1 (rzOf (some .boolean)) fl_BrookStones_Sheets [] [] [] [] [(27, 3, 1, (U_X7_isWithin fu))] []
def M_X4_isSheet (fu : Nat) (a0 : Int32) (w : XW) : Option XO :=
  cI (U_X7_isWithin fu [.int a0, .int (0 : Int32), .int (3 : Int32)] w) fun x2 w1 =>
  retZ x2 w1
def U_X4_isSheet (fu : Nat) : Orc := fun as w => match as with
  | [.int a0] => M_X4_isSheet fu a0 w
  | _ => none
def K_X4_isSheet (fu : Nat) (n : Nat) : Kont := fun pc ls st w => none
set_option maxRecDepth 100000 in
set_option maxHeartbeats 4000000 in
theorem E_X4_isSheet (fu : Nat) (a0 : Int32) (w : XW) : M_X4_isSheet fu a0 w = ev T_X4_isSheet (op_X4_isSheet fu) [] (K_X4_isSheet fu fu) 7 0 (lv_args 0 [.int a0]) [] w := by
  rfl
theorem D_X4_isSheet (fu : Nat) : DS T_X4_isSheet (op_X4_isSheet fu) [] 7 (K_X4_isSheet fu) := by
  refine ⟨fun pc ls st w => rfl, fun n pc ls st w o h => ?_⟩
  cases h
set_option maxRecDepth 100000 in
set_option maxHeartbeats 4000000 in
theorem S_X4_isSheet (fu : Nat) {l : Launch} {D : va_G} {cA : Nat → ClassId} {base b : Nat} : CS l D cA base b 2 y_X4_isSheet prog_6_method_2_code 1 (some .boolean) (U_X4_isSheet fu) ∧ OM (U_X4_isSheet fu) := by
  refine CS_of (d := 1) (y := y_X4_isSheet) (cc := prog_6_method_2_code) (nL := 1) (ret := (some .boolean)) (F := U_X4_isSheet fu) (fl := fl_BrookStones_Sheets) (nl := []) (kl := []) (k2 := []) (mv := []) (ms := [(27, 3, 1, (U_X7_isWithin fu))]) (mi := []) (ini := false) hI_w fl_BrookStones_Sheets_ok nil_all nil_all nil_all
    (nil_all)
    (cons_all (⟨Or.inl ⟨show (1 : Nat) ≠ 3 by decide, y_X7_isWithin, prog_1_method_46_code, 3, (some .boolean), 1, "BrookStones", (S_X7_isWithin fu (l := l) (D := D) (cA := cA) (base := base) (b := b)).1, by decide, by decide, mi_X7_isWithin.1, mi_X7_isWithin.2.1, mi_X7_isWithin.2.2.1, mi_X7_isWithin.2.2.2, Or.inr (tblN_of (i := 230) rfl rfl)⟩, (S_X7_isWithin fu (l := l) (D := D) (cA := cA) (base := base) (b := b)).2⟩) (nil_all))
    (nil_all)
    (T := T_X4_isSheet) (by decide +kernel) (cut := []) (N := 7) (D_X4_isSheet fu) (by decide +kernel) (fun h => absurd h (by decide)) (fun as w o h => ?_)
  unfold U_X4_isSheet at h
  split at h
  next =>
    exact ⟨Nat.le_of_ble_eq_true rfl, fu, (E_X4_isSheet fu _ w).symm.trans h⟩
  next => cases h
def T_X4_isSort : List (Nat × Instr) := [(0, .iload_n 0), (1, .iconst 0), (2, .iconst 2), (3, .invokestatic 27), (6, .ireturn)]
def op_X4_isSort (fu : Nat) : Nat → Kont → XL → List Value → XW → Instr → Option XO := opK 1 (rzOf (some .boolean)) fl_BrookStones_Sheets [] [] [] [] [(27, 3, 1, (U_X7_isWithin fu))] []
def M_X4_isSort (fu : Nat) (a0 : Int32) (w : XW) : Option XO :=
  cI (U_X7_isWithin fu [.int a0, .int (0 : Int32), .int (2 : Int32)] w) fun x2 w1 =>
  retZ x2 w1
def U_X4_isSort (fu : Nat) : Orc := fun as w => match as with
  | [.int a0] => M_X4_isSort fu a0 w
  | _ => none
def K_X4_isSort (fu : Nat) (n : Nat) : Kont := fun pc ls st w => none
set_option maxRecDepth 100000 in
set_option maxHeartbeats 4000000 in
theorem E_X4_isSort (fu : Nat) (a0 : Int32) (w : XW) : M_X4_isSort fu a0 w = ev T_X4_isSort (op_X4_isSort fu) [] (K_X4_isSort fu fu) 7 0 (lv_args 0 [.int a0]) [] w := by
  rfl
theorem D_X4_isSort (fu : Nat) : DS T_X4_isSort (op_X4_isSort fu) [] 7 (K_X4_isSort fu) := by
  refine ⟨fun pc ls st w => rfl, fun n pc ls st w o h => ?_⟩
  cases h
set_option maxRecDepth 100000 in
set_option maxHeartbeats 4000000 in
theorem S_X4_isSort (fu : Nat) {l : Launch} {D : va_G} {cA : Nat → ClassId} {base b : Nat} : CS l D cA base b 2 y_X4_isSort prog_6_method_3_code 1 (some .boolean) (U_X4_isSort fu) ∧ OM (U_X4_isSort fu) := by
  refine CS_of (d := 1) (y := y_X4_isSort) (cc := prog_6_method_3_code) (nL := 1) (ret := (some .boolean)) (F := U_X4_isSort fu) (fl := fl_BrookStones_Sheets) (nl := []) (kl := []) (k2 := []) (mv := []) (ms := [(27, 3, 1, (U_X7_isWithin fu))]) (mi := []) (ini := false) hI_w fl_BrookStones_Sheets_ok nil_all nil_all nil_all
    (nil_all)
    (cons_all (⟨Or.inl ⟨show (1 : Nat) ≠ 3 by decide, y_X7_isWithin, prog_1_method_46_code, 3, (some .boolean), 1, "BrookStones", (S_X7_isWithin fu (l := l) (D := D) (cA := cA) (base := base) (b := b)).1, by decide, by decide, mi_X7_isWithin.1, mi_X7_isWithin.2.1, mi_X7_isWithin.2.2.1, mi_X7_isWithin.2.2.2, Or.inr (tblN_of (i := 230) rfl rfl)⟩, (S_X7_isWithin fu (l := l) (D := D) (cA := cA) (base := base) (b := b)).2⟩) (nil_all))
    (nil_all)
    (T := T_X4_isSort) (by decide +kernel) (cut := []) (N := 7) (D_X4_isSort fu) (by decide +kernel) (fun h => absurd h (by decide)) (fun as w o h => ?_)
  unfold U_X4_isSort at h
  split at h
  next =>
    exact ⟨Nat.le_of_ble_eq_true rfl, fu, (E_X4_isSort fu _ w).symm.trans h⟩
  next => cases h
def T_X7_failBy : List (Nat × Instr) := [(0, .aload_n 0), (1, .iload_n 1), (2, .putfield 53), (5, .bipush (-10)), (7, .iload_n 1), (8, .isub), (9, .ireturn)]
def op_X7_failBy (fu : Nat) : Nat → Kont → XL → List Value → XW → Instr → Option XO := opK 2 (rzOf (some .int)) fl_BrookStones nl_BrookStones [] [] [] [] []
def M_X7_failBy (fu : Nat) (a0 : Nat) (a1 : Int32) (w : XW) : Option XO :=
  (pF w a0 6 7 (.int a1)).bind fun w1 =>
  some (some (.int ((-10 : Int32) - a1)), w1)
def U_X7_failBy (fu : Nat) : Orc := fun as w => match as with
  | [.ref a0, .int a1] => if isO w a0 6 = true then M_X7_failBy fu a0 a1 w else none
  | _ => none
def K_X7_failBy (fu : Nat) (n : Nat) : Kont := fun pc ls st w => none
set_option maxRecDepth 100000 in
set_option maxHeartbeats 4000000 in
theorem E_X7_failBy (fu : Nat) (a0 : Nat) (a1 : Int32) (w : XW) : M_X7_failBy fu a0 a1 w = ev T_X7_failBy (op_X7_failBy fu) [] (K_X7_failBy fu fu) 9 0 (lv_args 0 [.ref a0, .int a1]) [] w := by
  rfl
theorem D_X7_failBy (fu : Nat) : DS T_X7_failBy (op_X7_failBy fu) [] 9 (K_X7_failBy fu) := by
  refine ⟨fun pc ls st w => rfl, fun n pc ls st w o h => ?_⟩
  cases h
theorem H_X7_failBy (fu : Nat) : ∀ as w o, U_X7_failBy fu as w = some o → ∃ a r, as = .ref a :: r ∧ r.length = 1 ∧ isO w a 6 = true := by
  intro as w o h
  unfold U_X7_failBy at h
  split at h
  next =>
    split at h
    next hh => exact ⟨_, _, rfl, rfl, hh⟩
    next => cases h
  next => cases h
set_option maxRecDepth 100000 in
set_option maxHeartbeats 4000000 in
theorem S_X7_failBy (fu : Nat) {l : Launch} {D : va_G} {cA : Nat → ClassId} {base b : Nat} : CS l D cA base b 1 y_X7_failBy prog_1_method_40_code 2 (some .int) (U_X7_failBy fu) ∧ OM (U_X7_failBy fu) := by
  refine CS_of (d := 0) (y := y_X7_failBy) (cc := prog_1_method_40_code) (nL := 2) (ret := (some .int)) (F := U_X7_failBy fu) (fl := fl_BrookStones) (nl := nl_BrookStones) (kl := []) (k2 := []) (mv := []) (ms := []) (mi := []) (ini := false) hI_w fl_BrookStones_ok nl_BrookStones_ok nil_all nil_all
    (nil_all)
    (nil_all)
    (nil_all)
    (T := T_X7_failBy) (by decide +kernel) (cut := []) (N := 9) (D_X7_failBy fu) (by decide +kernel) (fun h => absurd h (by decide)) (fun as w o h => ?_)
  unfold U_X7_failBy at h
  split at h
  next =>
    split at h
    next => exact ⟨Nat.le_of_ble_eq_true rfl, fu, (E_X7_failBy fu _ _ w).symm.trans h⟩
    next => cases h
  next => cases h
def T_J7_rangeCheck_23922 : List (Nat × Instr) := [(0, .iload_n 1), (1, .iload_n 2), (2, .if_icmp .le 44), (5, .new 43), (8, .dup), (9, .new 45), (12, .dup), (13, .invokespecial 47), (16, .ldc 48), (18, .invokevirtual 50), (21, .iload_n 1), (22, .invokevirtual 54), (25, .ldc 57), (27, .invokevirtual 50), (30, .iload_n 2), (31, .invokevirtual 54), (34, .ldc 59), (36, .invokevirtual 50), (39, .invokevirtual 61), (42, .invokespecial 65), (45, .athrow), (46, .iload_n 1), (47, .ifCond .ge 12), (50, .new 68), (53, .dup), (54, .iload_n 1), (55, .invokespecial 70), (58, .athrow), (59, .iload_n 2), (60, .iload_n 0), (61, .if_icmp .le 12), (64, .new 68), (67, .dup), (68, .iload_n 2), (69, .invokespecial 70), (72, .athrow), (73, .return_)]
def op_J7_rangeCheck_23922 (fu : Nat) : Nat → Kont → XL → List Value → XW → Instr → Option XO := opK 3 (rzOf (none)) [] [] [] [] [] [] []
def M_J7_rangeCheck_23922 (fu : Nat) (a0 : Int32) (a1 : Int32) (a2 : Int32) (w : XW) : Option XO :=
  (if a2 < a1 then
    none
  else
    (if a1 < 0 then
      none
    else
      (if a0 < a2 then
        none
      else
        some (none, w))))
def U_J7_rangeCheck_23922 (fu : Nat) : Orc := fun as w => match as with
  | [.int a0, .int a1, .int a2] => M_J7_rangeCheck_23922 fu a0 a1 a2 w
  | _ => none
def K_J7_rangeCheck_23922 (fu : Nat) (n : Nat) : Kont := fun pc ls st w => none
set_option maxRecDepth 100000 in
set_option maxHeartbeats 4000000 in
theorem E_J7_rangeCheck_23922 (fu : Nat) (a0 : Int32) (a1 : Int32) (a2 : Int32) (w : XW) : M_J7_rangeCheck_23922 fu a0 a1 a2 w = ev T_J7_rangeCheck_23922 (op_J7_rangeCheck_23922 fu) [] (K_J7_rangeCheck_23922 fu fu) 39 0 (lv_args 0 [.int a0, .int a1, .int a2]) [] w := by
  rfl
theorem D_J7_rangeCheck_23922 (fu : Nat) : DS T_J7_rangeCheck_23922 (op_J7_rangeCheck_23922 fu) [] 39 (K_J7_rangeCheck_23922 fu) := by
  refine ⟨fun pc ls st w => rfl, fun n pc ls st w o h => ?_⟩
  cases h
set_option maxRecDepth 100000 in
set_option maxHeartbeats 4000000 in
theorem S_J7_rangeCheck_23922 (fu : Nat) {l : Launch} {D : va_G} {cA : Nat → ClassId} {base b : Nat} : CS l D cA base b 1 y_J7_rangeCheck_23922 prog_13_method_30_code 3 (none) (U_J7_rangeCheck_23922 fu) ∧ OM (U_J7_rangeCheck_23922 fu) := by
  refine CS_of (d := 0) (y := y_J7_rangeCheck_23922) (cc := prog_13_method_30_code) (nL := 3) (ret := (none)) (F := U_J7_rangeCheck_23922 fu) (fl := []) (nl := []) (kl := []) (k2 := []) (mv := []) (ms := []) (mi := []) (ini := false) hI_w nil_all nil_all nil_all nil_all
    (nil_all)
    (nil_all)
    (nil_all)
    (T := T_J7_rangeCheck_23922) (by decide +kernel) (cut := []) (N := 39) (D_J7_rangeCheck_23922 fu) (by decide +kernel) (fun h => absurd h (by decide)) (fun as w o h => ?_)
  unfold U_J7_rangeCheck_23922 at h
  split at h
  next =>
    exact ⟨Nat.le_of_ble_eq_true rfl, fu, (E_J7_rangeCheck_23922 fu _ _ _ w).symm.trans h⟩
  next => cases h
def T_J7_fill_fda19 : List (Nat × Instr) := [(0, .aload_n 0), (1, .arraylength), (2, .iload_n 1), (3, .iload_n 2), (4, .invokestatic 13), (7, .iload_n 1), (8, .istore 4), (10, .iload 4), (12, .iload_n 2), (13, .if_icmp .ge 14), (16, .aload_n 0), (17, .iload 4), (19, .iload_n 3), (20, .iastore), (21, .iinc 4 1), (24, .goto (-14)), (27, .return_)]
def op_J7_fill_fda19 (fu : Nat) : Nat → Kont → XL → List Value → XW → Instr → Option XO := opK 5 (rzOf (none)) [] [] [] [] [] [(13, 3, 0, (U_J7_rangeCheck_23922 fu))] []
def F_J7_fill_fda19 (fu : Nat) : Nat → (Nat → Int32 → Int32 → Int32 → XW → Option XO)
  | 0 => fun _ _ _ _ _ => none
  | n + 1 => (fun a0 a2 a3 a4 w =>
    (if a4 < a2 then
      (sI w a0 a4 a3).bind fun w1 =>
      (F_J7_fill_fda19 fu n) a0 a2 a3 (a4 + (1 : Int32)) w1
    else
      some (none, w)))
def M_J7_fill_fda19 (fu : Nat) (a0 : Nat) (a1 : Int32) (a2 : Int32) (a3 : Int32) (w : XW) : Option XO :=
  (aL w a0).bind fun x2 =>
  cV (U_J7_rangeCheck_23922 fu [.int x2, .int a1, .int a2] w) fun w3 =>
  (F_J7_fill_fda19 fu fu) a0 a2 a3 a1 w3
def U_J7_fill_fda19 (fu : Nat) : Orc := fun as w => match as with
  | [.ref a0, .int a1, .int a2, .int a3] => M_J7_fill_fda19 fu a0 a1 a2 a3 w
  | _ => none
def K_J7_fill_fda19 (fu : Nat) (n : Nat) : Kont := fun pc ls st w => bif pc == 10 then ((xr ls 0).bind fun a0 => (xi ls 2).bind fun a2 => (xi ls 3).bind fun a3 => (xi ls 4).bind fun a4 => skN st ((F_J7_fill_fda19 fu n) a0 a2 a3 a4 w)) else none
set_option maxRecDepth 100000 in
set_option maxHeartbeats 4000000 in
theorem E_J7_fill_fda19_10 (fu : Nat) (n : Nat) (a0 : Nat) (a2 : Int32) (a3 : Int32) (a4 : Int32) (w : XW) : (F_J7_fill_fda19 fu (n + 1)) a0 a2 a3 a4 w = ev T_J7_fill_fda19 (op_J7_fill_fda19 fu) [10] (K_J7_fill_fda19 fu n) 19 10 [(0, .ref a0), (2, .int a2), (3, .int a3), (4, .int a4)] [] w := by
  rfl
set_option maxRecDepth 100000 in
set_option maxHeartbeats 4000000 in
theorem E_J7_fill_fda19 (fu : Nat) (a0 : Nat) (a1 : Int32) (a2 : Int32) (a3 : Int32) (w : XW) : M_J7_fill_fda19 fu a0 a1 a2 a3 w = ev T_J7_fill_fda19 (op_J7_fill_fda19 fu) [10] (K_J7_fill_fda19 fu fu) 19 0 (lv_args 0 [.ref a0, .int a1, .int a2, .int a3]) [] w := by
  rfl
theorem D_J7_fill_fda19 (fu : Nat) : DS T_J7_fill_fda19 (op_J7_fill_fda19 fu) [10] 19 (K_J7_fill_fda19 fu) := by
  refine ⟨fun pc ls st w => c_none (b_none fun _ => b_none fun _ => b_none fun _ => b_none fun _ => skN_none rfl) (rfl), fun n pc ls st w o h => ?_⟩
  rcases c_some h with ⟨rfl, h⟩ | h
  · obtain ⟨a0, h0, h⟩ := some_of h; obtain ⟨a2, h2, h⟩ := some_of h; obtain ⟨a3, h3, h⟩ := some_of h; obtain ⟨a4, h4, h⟩ := some_of h;
    obtain ⟨e, g⟩ := skN_of h
    subst e
    exact ⟨[(0, .ref a0), (2, .int a2), (3, .int a3), (4, .int a4)], cons_all (xr_of h0) (cons_all (xi_of h2) (cons_all (xi_of h3) (cons_all (xi_of h4) (nil_all)))), (E_J7_fill_fda19_10 fu n a0 a2 a3 a4 w).symm.trans g⟩
  · cases h
set_option maxRecDepth 100000 in
set_option maxHeartbeats 4000000 in
theorem S_J7_fill_fda19 (fu : Nat) {l : Launch} {D : va_G} {cA : Nat → ClassId} {base b : Nat} : CS l D cA base b 2 y_J7_fill_fda19 prog_13_method_104_code 5 (none) (U_J7_fill_fda19 fu) ∧ OM (U_J7_fill_fda19 fu) := by
  refine CS_of (d := 1) (y := y_J7_fill_fda19) (cc := prog_13_method_104_code) (nL := 5) (ret := (none)) (F := U_J7_fill_fda19 fu) (fl := []) (nl := []) (kl := []) (k2 := []) (mv := []) (ms := [(13, 3, 0, (U_J7_rangeCheck_23922 fu))]) (mi := []) (ini := false) hI_w nil_all nil_all nil_all nil_all
    (nil_all)
    (cons_all (⟨Or.inl ⟨show (0 : Nat) ≠ 3 by decide, y_J7_rangeCheck_23922, prog_13_method_30_code, 3, (none), 1, "BrookStones", (S_J7_rangeCheck_23922 fu (l := l) (D := D) (cA := cA) (base := base) (b := b)).1, by decide, by decide, mi_J7_rangeCheck_23922.1, mi_J7_rangeCheck_23922.2.1, mi_J7_rangeCheck_23922.2.2.1, mi_J7_rangeCheck_23922.2.2.2, Or.inl (tblG_of (i := 434) rfl rfl)⟩, (S_J7_rangeCheck_23922 fu (l := l) (D := D) (cA := cA) (base := base) (b := b)).2⟩) (nil_all))
    (nil_all)
    (T := T_J7_fill_fda19) (by decide +kernel) (cut := [10]) (N := 19) (D_J7_fill_fda19 fu) (by decide +kernel) (fun h => absurd h (by decide)) (fun as w o h => ?_)
  unfold U_J7_fill_fda19 at h
  split at h
  next =>
    exact ⟨Nat.le_of_ble_eq_true rfl, fu, (E_J7_fill_fda19 fu _ _ _ _ w).symm.trans h⟩
  next => cases h
def T_X4_renew : List (Nat × Instr) := [(0, .aload_n 0), (1, .getfield 9), (4, .iload_n 1), (5, .iload_n 2), (6, .iastore), (7, .aload_n 0), (8, .getfield 15), (11, .iload_n 1), (12, .iload_n 3), (13, .iastore), (14, .iload_n 1), (15, .bipush 60), (17, .imul), (18, .istore 4), (20, .aload_n 0), (21, .getfield 18), (24, .iload 4), (26, .iload 4), (28, .iload_n 3), (29, .iadd), (30, .iconst 0), (31, .invokestatic 31), (34, .return_)]
def op_X4_renew (fu : Nat) : Nat → Kont → XL → List Value → XW → Instr → Option XO := opK 5 (rzOf (none)) fl_BrookStones_Sheets [] [] [] [] [(31, 4, 0, (U_J7_fill_fda19 fu))] []
def M_X4_renew (fu : Nat) (a0 : Nat) (a1 : Int32) (a2 : Int32) (a3 : Int32) (w : XW) : Option XO :=
  (gR w a0 4 0).bind fun r1 =>
  (sI w r1 a1 a2).bind fun w2 =>
  (gR w2 a0 4 1).bind fun r3 =>
  (sI w2 r3 a1 a3).bind fun w4 =>
  (gR w4 a0 4 2).bind fun r5 =>
  cV (U_J7_fill_fda19 fu [.ref r5, .int (a1 * (60 : Int32)), .int ((a1 * (60 : Int32)) + a3), .int (0 : Int32)] w4) fun w6 =>
  some (none, w6)
def U_X4_renew (fu : Nat) : Orc := fun as w => match as with
  | [.ref a0, .int a1, .int a2, .int a3] => if isO w a0 4 = true then M_X4_renew fu a0 a1 a2 a3 w else none
  | _ => none
def K_X4_renew (fu : Nat) (n : Nat) : Kont := fun pc ls st w => none
set_option maxRecDepth 100000 in
set_option maxHeartbeats 4000000 in
theorem E_X4_renew (fu : Nat) (a0 : Nat) (a1 : Int32) (a2 : Int32) (a3 : Int32) (w : XW) : M_X4_renew fu a0 a1 a2 a3 w = ev T_X4_renew (op_X4_renew fu) [] (K_X4_renew fu fu) 25 0 (lv_args 0 [.ref a0, .int a1, .int a2, .int a3]) [] w := by
  rfl
theorem D_X4_renew (fu : Nat) : DS T_X4_renew (op_X4_renew fu) [] 25 (K_X4_renew fu) := by
  refine ⟨fun pc ls st w => rfl, fun n pc ls st w o h => ?_⟩
  cases h
theorem H_X4_renew (fu : Nat) : ∀ as w o, U_X4_renew fu as w = some o → ∃ a r, as = .ref a :: r ∧ r.length = 3 ∧ isO w a 4 = true := by
  intro as w o h
  unfold U_X4_renew at h
  split at h
  next =>
    split at h
    next hh => exact ⟨_, _, rfl, rfl, hh⟩
    next => cases h
  next => cases h
set_option maxRecDepth 100000 in
set_option maxHeartbeats 4000000 in
theorem S_X4_renew (fu : Nat) {l : Launch} {D : va_G} {cA : Nat → ClassId} {base b : Nat} : CS l D cA base b 3 y_X4_renew prog_6_method_6_code 5 (none) (U_X4_renew fu) ∧ OM (U_X4_renew fu) := by
  refine CS_of (d := 2) (y := y_X4_renew) (cc := prog_6_method_6_code) (nL := 5) (ret := (none)) (F := U_X4_renew fu) (fl := fl_BrookStones_Sheets) (nl := []) (kl := []) (k2 := []) (mv := []) (ms := [(31, 4, 0, (U_J7_fill_fda19 fu))]) (mi := []) (ini := false) hI_w fl_BrookStones_Sheets_ok nil_all nil_all nil_all
    (nil_all)
    (cons_all (⟨Or.inl ⟨show (0 : Nat) ≠ 3 by decide, y_J7_fill_fda19, prog_13_method_104_code, 5, (none), 2, "BrookStones", (S_J7_fill_fda19 fu (l := l) (D := D) (cA := cA) (base := base) (b := b)).1, by decide, by decide, mi_J7_fill_fda19.1, mi_J7_fill_fda19.2.1, mi_J7_fill_fda19.2.2.1, mi_J7_fill_fda19.2.2.2, Or.inl (tblG_of (i := 431) rfl rfl)⟩, (S_J7_fill_fda19 fu (l := l) (D := D) (cA := cA) (base := base) (b := b)).2⟩) (nil_all))
    (nil_all)
    (T := T_X4_renew) (by decide +kernel) (cut := []) (N := 25) (D_X4_renew fu) (by decide +kernel) (fun h => absurd h (by decide)) (fun as w o h => ?_)
  unfold U_X4_renew at h
  split at h
  next =>
    split at h
    next => exact ⟨Nat.le_of_ble_eq_true rfl, fu, (E_X4_renew fu _ _ _ _ w).symm.trans h⟩
    next => cases h
  next => cases h
def T_X7_sheet : List (Nat × Instr) := [(0, .aload_n 0), (1, .iconst 0), (2, .putfield 53), (5, .iload_n 1), (6, .invokestatic 256), (9, .ifCond .ne 5), (12, .iconst (-1)), (13, .ireturn), (14, .iload_n 2), (15, .invokestatic 259), (18, .ifCond .eq 9), (21, .iload_n 3), (22, .bipush 60), (24, .if_icmp .le 6), (27, .bipush (-2)), (29, .ireturn), (30, .iload_n 3), (31, .ifCond .ge 9), (34, .aload_n 0), (35, .iconst 4), (36, .invokevirtual 262), (39, .ireturn), (40, .aload_n 0), (41, .getfield 21), (44, .iload_n 1), (45, .iload_n 2), (46, .iload_n 3), (47, .invokevirtual 265), (50, .iconst 1), (51, .ireturn)]
def op_X7_sheet (fu : Nat) : Nat → Kont → XL → List Value → XW → Instr → Option XO := opK 4 (rzOf (some .int)) fl_BrookStones nl_BrookStones [] [] [(262, 2, 1, (U_X7_failBy fu)), (265, 4, 0, (U_X4_renew fu))] [(256, 1, 1, (U_X4_isSheet fu)), (259, 1, 1, (U_X4_isSort fu))] []
def M_X7_sheet (fu : Nat) (a0 : Nat) (a1 : Int32) (a2 : Int32) (a3 : Int32) (w : XW) : Option XO :=
  (pF w a0 6 7 (.int (0 : Int32))).bind fun w1 =>
  cI (U_X4_isSheet fu [.int a1] w1) fun x3 w2 =>
  (if x3 = 0 then
    some (some (.int (-1 : Int32)), w2)
  else
    cI (U_X4_isSort fu [.int a2] w2) fun x5 w4 =>
    (if x5 = 0 then
      some (some (.int (-2 : Int32)), w4)
    else
      (if (60 : Int32) < a3 then
        some (some (.int (-2 : Int32)), w4)
      else
        (if a3 < 0 then
          cI (U_X7_failBy fu [.ref a0, .int (4 : Int32)] w4) fun x9 w8 =>
          some (some (.int x9), w8)
        else
          (gR w4 a0 6 1).bind fun r6 =>
          cV (U_X4_renew fu [.ref r6, .int a1, .int a2, .int a3] w4) fun w7 =>
          some (some (.int (1 : Int32)), w7)))))
def U_X7_sheet (fu : Nat) : Orc := fun as w => match as with
  | [.ref a0, .int a1, .int a2, .int a3] => if isO w a0 6 = true then M_X7_sheet fu a0 a1 a2 a3 w else none
  | _ => none
def K_X7_sheet (fu : Nat) (n : Nat) : Kont := fun pc ls st w => none
set_option maxRecDepth 100000 in
set_option maxHeartbeats 4000000 in
theorem E_X7_sheet (fu : Nat) (a0 : Nat) (a1 : Int32) (a2 : Int32) (a3 : Int32) (w : XW) : M_X7_sheet fu a0 a1 a2 a3 w = ev T_X7_sheet (op_X7_sheet fu) [] (K_X7_sheet fu fu) 32 0 (lv_args 0 [.ref a0, .int a1, .int a2, .int a3]) [] w := by
  rfl
theorem D_X7_sheet (fu : Nat) : DS T_X7_sheet (op_X7_sheet fu) [] 32 (K_X7_sheet fu) := by
  refine ⟨fun pc ls st w => rfl, fun n pc ls st w o h => ?_⟩
  cases h
theorem H_X7_sheet (fu : Nat) : ∀ as w o, U_X7_sheet fu as w = some o → ∃ a r, as = .ref a :: r ∧ r.length = 3 ∧ isO w a 6 = true := by
  intro as w o h
  unfold U_X7_sheet at h
  split at h
  next =>
    split at h
    next hh => exact ⟨_, _, rfl, rfl, hh⟩
    next => cases h
  next => cases h
set_option maxRecDepth 100000 in
set_option maxHeartbeats 4000000 in
theorem S_X7_sheet (fu : Nat) {l : Launch} {D : va_G} {cA : Nat → ClassId} {base b : Nat} : CS l D cA base b 4 y_X7_sheet prog_1_method_28_code 4 (some .int) (U_X7_sheet fu) ∧ OM (U_X7_sheet fu) := by
  refine CS_of (d := 3) (y := y_X7_sheet) (cc := prog_1_method_28_code) (nL := 4) (ret := (some .int)) (F := U_X7_sheet fu) (fl := fl_BrookStones) (nl := nl_BrookStones) (kl := []) (k2 := []) (mv := [(262, 2, 1, (U_X7_failBy fu)), (265, 4, 0, (U_X4_renew fu))]) (ms := [(256, 1, 1, (U_X4_isSheet fu)), (259, 1, 1, (U_X4_isSort fu))]) (mi := []) (ini := false) hI_w fl_BrookStones_ok nl_BrookStones_ok nil_all nil_all
    (cons_all (⟨⟨show (1 : Nat) ≠ 3 by decide, y_X7_failBy, prog_1_method_40_code, 2, (some .int), 1, "BrookStones", 6, TX7, 8, 1, (S_X7_failBy fu (l := l) (D := D) (cA := cA) (base := base) (b := b)).1, by decide, by decide, rfl, H_X7_failBy fu, rfl, mi_X7_failBy.1, mi_X7_failBy.2.1, mi_X7_failBy.2.2.1, mi_X7_failBy.2.2.2.1, mi_X7_failBy.2.2.2.2, Or.inl (tblG_of (i := 248) rfl rfl)⟩, (S_X7_failBy fu (l := l) (D := D) (cA := cA) (base := base) (b := b)).2⟩) (cons_all (⟨⟨show (0 : Nat) ≠ 3 by decide, y_X4_renew, prog_6_method_6_code, 5, (none), 3, "BrookStones", 4, TX4, 3, 3, (S_X4_renew fu (l := l) (D := D) (cA := cA) (base := base) (b := b)).1, by decide, by decide, rfl, H_X4_renew fu, rfl, mi_X4_renew.1, mi_X4_renew.2.1, mi_X4_renew.2.2.1, mi_X4_renew.2.2.2.1, mi_X4_renew.2.2.2.2, Or.inr (tblN_of (i := 427) rfl rfl)⟩, (S_X4_renew fu (l := l) (D := D) (cA := cA) (base := base) (b := b)).2⟩) (nil_all)))
    (cons_all (⟨Or.inl ⟨show (1 : Nat) ≠ 3 by decide, y_X4_isSheet, prog_6_method_2_code, 1, (some .boolean), 2, "BrookStones", (S_X4_isSheet fu (l := l) (D := D) (cA := cA) (base := base) (b := b)).1, by decide, by decide, mi_X4_isSheet.1, mi_X4_isSheet.2.1, mi_X4_isSheet.2.2.1, mi_X4_isSheet.2.2.2, Or.inr (tblN_of (i := 227) rfl rfl)⟩, (S_X4_isSheet fu (l := l) (D := D) (cA := cA) (base := base) (b := b)).2⟩) (cons_all (⟨Or.inl ⟨show (1 : Nat) ≠ 3 by decide, y_X4_isSort, prog_6_method_3_code, 1, (some .boolean), 2, "BrookStones", (S_X4_isSort fu (l := l) (D := D) (cA := cA) (base := base) (b := b)).1, by decide, by decide, mi_X4_isSort.1, mi_X4_isSort.2.1, mi_X4_isSort.2.2.1, mi_X4_isSort.2.2.2, Or.inr (tblN_of (i := 233) rfl rfl)⟩, (S_X4_isSort fu (l := l) (D := D) (cA := cA) (base := base) (b := b)).2⟩) (nil_all)))
    (nil_all)
    (T := T_X7_sheet) (by decide +kernel) (cut := []) (N := 32) (D_X7_sheet fu) (by decide +kernel) (fun h => absurd h (by decide)) (fun as w o h => ?_)
  unfold U_X7_sheet at h
  split at h
  next =>
    split at h
    next => exact ⟨Nat.le_of_ble_eq_true rfl, fu, (E_X7_sheet fu _ _ _ _ w).symm.trans h⟩
    next => cases h
  next => cases h
def T_X4_isThere : List (Nat × Instr) := [(0, .aload_n 0), (1, .getfield 15), (4, .iload_n 1), (5, .iaload), (6, .iconst (-1)), (7, .if_icmp .eq 7), (10, .iconst 1), (11, .goto 4), (14, .iconst 0), (15, .ireturn)]
def op_X4_isThere (fu : Nat) : Nat → Kont → XL → List Value → XW → Instr → Option XO := opK 2 (rzOf (some .boolean)) fl_BrookStones_Sheets [] [] [] [] [] []
def M_X4_isThere (fu : Nat) (a0 : Nat) (a1 : Int32) (w : XW) : Option XO :=
  (gR w a0 4 1).bind fun r1 =>
  (aI w r1 a1).bind fun x2 =>
  (if x2 = (-1 : Int32) then
    retZ (0 : Int32) w
  else
    retZ (1 : Int32) w)
def U_X4_isThere (fu : Nat) : Orc := fun as w => match as with
  | [.ref a0, .int a1] => if isO w a0 4 = true then M_X4_isThere fu a0 a1 w else none
  | _ => none
def K_X4_isThere (fu : Nat) (n : Nat) : Kont := fun pc ls st w => none
set_option maxRecDepth 100000 in
set_option maxHeartbeats 4000000 in
theorem E_X4_isThere (fu : Nat) (a0 : Nat) (a1 : Int32) (w : XW) : M_X4_isThere fu a0 a1 w = ev T_X4_isThere (op_X4_isThere fu) [] (K_X4_isThere fu fu) 12 0 (lv_args 0 [.ref a0, .int a1]) [] w := by
  rfl
theorem D_X4_isThere (fu : Nat) : DS T_X4_isThere (op_X4_isThere fu) [] 12 (K_X4_isThere fu) := by
  refine ⟨fun pc ls st w => rfl, fun n pc ls st w o h => ?_⟩
  cases h
theorem H_X4_isThere (fu : Nat) : ∀ as w o, U_X4_isThere fu as w = some o → ∃ a r, as = .ref a :: r ∧ r.length = 1 ∧ isO w a 4 = true := by
  intro as w o h
  unfold U_X4_isThere at h
  split at h
  next =>
    split at h
    next hh => exact ⟨_, _, rfl, rfl, hh⟩
    next => cases h
  next => cases h
set_option maxRecDepth 100000 in
set_option maxHeartbeats 4000000 in
theorem S_X4_isThere (fu : Nat) {l : Launch} {D : va_G} {cA : Nat → ClassId} {base b : Nat} : CS l D cA base b 1 y_X4_isThere prog_6_method_4_code 2 (some .boolean) (U_X4_isThere fu) ∧ OM (U_X4_isThere fu) := by
  refine CS_of (d := 0) (y := y_X4_isThere) (cc := prog_6_method_4_code) (nL := 2) (ret := (some .boolean)) (F := U_X4_isThere fu) (fl := fl_BrookStones_Sheets) (nl := []) (kl := []) (k2 := []) (mv := []) (ms := []) (mi := []) (ini := false) hI_w fl_BrookStones_Sheets_ok nil_all nil_all nil_all
    (nil_all)
    (nil_all)
    (nil_all)
    (T := T_X4_isThere) (by decide +kernel) (cut := []) (N := 12) (D_X4_isThere fu) (by decide +kernel) (fun h => absurd h (by decide)) (fun as w o h => ?_)
  unfold U_X4_isThere at h
  split at h
  next =>
    split at h
    next => exact ⟨Nat.le_of_ble_eq_true rfl, fu, (E_X4_isThere fu _ _ w).symm.trans h⟩
    next => cases h
  next => cases h
def T_X4_cut : List (Nat × Instr) := [(0, .iload_n 1), (1, .lookupswitch 33 #[(0, 27), (1, 30)]), (28, .iload_n 0), (29, .i2b), (30, .ireturn), (31, .iload_n 0), (32, .i2s), (33, .ireturn), (34, .iload_n 0), (35, .ireturn)]
def op_X4_cut (fu : Nat) : Nat → Kont → XL → List Value → XW → Instr → Option XO := opK 2 (rzOf (some .int)) fl_BrookStones_Sheets [] [] [] [] [] []
def M_X4_cut (fu : Nat) (a0 : Int32) (a1 : Int32) (w : XW) : Option XO :=
  (if a1 = (0 : Int32) then
    some (some (.int (Int8.toInt32 (Int32.toInt8 a0))), w)
  else
  (if a1 = (1 : Int32) then
    some (some (.int (Int16.toInt32 (Int32.toInt16 a0))), w)
  else
  some (some (.int a0), w)))
def U_X4_cut (fu : Nat) : Orc := fun as w => match as with
  | [.int a0, .int a1] => M_X4_cut fu a0 a1 w
  | _ => none
def K_X4_cut (fu : Nat) (n : Nat) : Kont := fun pc ls st w => none
set_option maxRecDepth 100000 in
set_option maxHeartbeats 4000000 in
theorem E_X4_cut (fu : Nat) (a0 : Int32) (a1 : Int32) (w : XW) : M_X4_cut fu a0 a1 w = ev T_X4_cut (op_X4_cut fu) [] (K_X4_cut fu fu) 12 0 (lv_args 0 [.int a0, .int a1]) [] w := by
  rfl
theorem D_X4_cut (fu : Nat) : DS T_X4_cut (op_X4_cut fu) [] 12 (K_X4_cut fu) := by
  refine ⟨fun pc ls st w => rfl, fun n pc ls st w o h => ?_⟩
  cases h
set_option maxRecDepth 100000 in
set_option maxHeartbeats 4000000 in
theorem S_X4_cut (fu : Nat) {l : Launch} {D : va_G} {cA : Nat → ClassId} {base b : Nat} : CS l D cA base b 1 y_X4_cut prog_6_method_9_code 2 (some .int) (U_X4_cut fu) ∧ OM (U_X4_cut fu) := by
  refine CS_of (d := 0) (y := y_X4_cut) (cc := prog_6_method_9_code) (nL := 2) (ret := (some .int)) (F := U_X4_cut fu) (fl := fl_BrookStones_Sheets) (nl := []) (kl := []) (k2 := []) (mv := []) (ms := []) (mi := []) (ini := false) hI_w fl_BrookStones_Sheets_ok nil_all nil_all nil_all
    (nil_all)
    (nil_all)
    (nil_all)
    (T := T_X4_cut) (by decide +kernel) (cut := []) (N := 12) (D_X4_cut fu) (by decide +kernel) (fun h => absurd h (by decide)) (fun as w o h => ?_)
  unfold U_X4_cut at h
  split at h
  next =>
    exact ⟨Nat.le_of_ble_eq_true rfl, fu, (E_X4_cut fu _ _ w).symm.trans h⟩
  next => cases h
def T_X4_write : List (Nat × Instr) := [(0, .aload_n 0), (1, .getfield 18), (4, .iload_n 1), (5, .bipush 60), (7, .imul), (8, .iload_n 2), (9, .iadd), (10, .iload_n 3), (11, .aload_n 0), (12, .getfield 9), (15, .iload_n 1), (16, .iaload), (17, .invokestatic 34), (20, .iastore), (21, .return_)]
def op_X4_write (fu : Nat) : Nat → Kont → XL → List Value → XW → Instr → Option XO := opK 4 (rzOf (none)) fl_BrookStones_Sheets [] [] [] [] [(34, 2, 1, (U_X4_cut fu))] []
def M_X4_write (fu : Nat) (a0 : Nat) (a1 : Int32) (a2 : Int32) (a3 : Int32) (w : XW) : Option XO :=
  (gR w a0 4 2).bind fun r1 =>
  (gR w a0 4 0).bind fun r2 =>
  (aI w r2 a1).bind fun x3 =>
  cI (U_X4_cut fu [.int a3, .int x3] w) fun x5 w4 =>
  (sI w4 r1 ((a1 * (60 : Int32)) + a2) x5).bind fun w6 =>
  some (none, w6)
def U_X4_write (fu : Nat) : Orc := fun as w => match as with
  | [.ref a0, .int a1, .int a2, .int a3] => if isO w a0 4 = true then M_X4_write fu a0 a1 a2 a3 w else none
  | _ => none
def K_X4_write (fu : Nat) (n : Nat) : Kont := fun pc ls st w => none
set_option maxRecDepth 100000 in
set_option maxHeartbeats 4000000 in
theorem E_X4_write (fu : Nat) (a0 : Nat) (a1 : Int32) (a2 : Int32) (a3 : Int32) (w : XW) : M_X4_write fu a0 a1 a2 a3 w = ev T_X4_write (op_X4_write fu) [] (K_X4_write fu fu) 17 0 (lv_args 0 [.ref a0, .int a1, .int a2, .int a3]) [] w := by
  rfl
theorem D_X4_write (fu : Nat) : DS T_X4_write (op_X4_write fu) [] 17 (K_X4_write fu) := by
  refine ⟨fun pc ls st w => rfl, fun n pc ls st w o h => ?_⟩
  cases h
theorem H_X4_write (fu : Nat) : ∀ as w o, U_X4_write fu as w = some o → ∃ a r, as = .ref a :: r ∧ r.length = 3 ∧ isO w a 4 = true := by
  intro as w o h
  unfold U_X4_write at h
  split at h
  next =>
    split at h
    next hh => exact ⟨_, _, rfl, rfl, hh⟩
    next => cases h
  next => cases h
set_option maxRecDepth 100000 in
set_option maxHeartbeats 4000000 in
theorem S_X4_write (fu : Nat) {l : Launch} {D : va_G} {cA : Nat → ClassId} {base b : Nat} : CS l D cA base b 2 y_X4_write prog_6_method_8_code 4 (none) (U_X4_write fu) ∧ OM (U_X4_write fu) := by
  refine CS_of (d := 1) (y := y_X4_write) (cc := prog_6_method_8_code) (nL := 4) (ret := (none)) (F := U_X4_write fu) (fl := fl_BrookStones_Sheets) (nl := []) (kl := []) (k2 := []) (mv := []) (ms := [(34, 2, 1, (U_X4_cut fu))]) (mi := []) (ini := false) hI_w fl_BrookStones_Sheets_ok nil_all nil_all nil_all
    (nil_all)
    (cons_all (⟨Or.inl ⟨show (1 : Nat) ≠ 3 by decide, y_X4_cut, prog_6_method_9_code, 2, (some .int), 1, "BrookStones", (S_X4_cut fu (l := l) (D := D) (cA := cA) (base := base) (b := b)).1, by decide, by decide, mi_X4_cut.1, mi_X4_cut.2.1, mi_X4_cut.2.2.1, mi_X4_cut.2.2.2, Or.inl (tblG_of (i := 446) rfl rfl)⟩, (S_X4_cut fu (l := l) (D := D) (cA := cA) (base := base) (b := b)).2⟩) (nil_all))
    (nil_all)
    (T := T_X4_write) (by decide +kernel) (cut := []) (N := 17) (D_X4_write fu) (by decide +kernel) (fun h => absurd h (by decide)) (fun as w o h => ?_)
  unfold U_X4_write at h
  split at h
  next =>
    split at h
    next => exact ⟨Nat.le_of_ble_eq_true rfl, fu, (E_X4_write fu _ _ _ _ w).symm.trans h⟩
    next => cases h
  next => cases h
def T_X7_put : List (Nat × Instr) := [(0, .aload_n 0), (1, .iconst 0), (2, .putfield 53), (5, .iload_n 1), (6, .invokestatic 256), (9, .ifCond .ne 5), (12, .iconst (-1)), (13, .ireturn), (14, .aload_n 0), (15, .getfield 21), (18, .iload_n 1), (19, .invokevirtual 269), (22, .ifCond .ne 9), (25, .aload_n 0), (26, .iconst 1), (27, .invokevirtual 262), (30, .ireturn), (31, .iload_n 2), (32, .iconst 0), (33, .aload_n 0), (34, .getfield 21), (37, .getfield 274), (40, .iload_n 1), (41, .iaload), (42, .iconst 1), (43, .isub), (44, .invokestatic 105), (47, .ifCond .ne 9), (50, .aload_n 0), (51, .iconst 3), (52, .invokevirtual 262), (55, .ireturn), (56, .aload_n 0), (57, .getfield 21), (60, .iload_n 1), (61, .iload_n 2), (62, .iload_n 3), (63, .invokevirtual 277), (66, .iconst 1), (67, .ireturn)]
def op_X7_put (fu : Nat) : Nat → Kont → XL → List Value → XW → Instr → Option XO := opK 4 (rzOf (some .int)) fl_BrookStones nl_BrookStones [] [] [(269, 2, 1, (U_X4_isThere fu)), (262, 2, 1, (U_X7_failBy fu)), (277, 4, 0, (U_X4_write fu))] [(256, 1, 1, (U_X4_isSheet fu)), (105, 3, 1, (U_X7_isWithin fu))] []
def M_X7_put (fu : Nat) (a0 : Nat) (a1 : Int32) (a2 : Int32) (a3 : Int32) (w : XW) : Option XO :=
  (pF w a0 6 7 (.int (0 : Int32))).bind fun w1 =>
  cI (U_X4_isSheet fu [.int a1] w1) fun x3 w2 =>
  (if x3 = 0 then
    some (some (.int (-1 : Int32)), w2)
  else
    (gR w2 a0 6 1).bind fun r4 =>
    cI (U_X4_isThere fu [.ref r4, .int a1] w2) fun x6 w5 =>
    (if x6 = 0 then
      cI (U_X7_failBy fu [.ref a0, .int (1 : Int32)] w5) fun x17 w16 =>
      some (some (.int x17), w16)
    else
      (gR w5 a0 6 1).bind fun r7 =>
      (gR w5 r7 4 1).bind fun r8 =>
      (aI w5 r8 a1).bind fun x9 =>
      cI (U_X7_isWithin fu [.int a2, .int (0 : Int32), .int (x9 - (1 : Int32))] w5) fun x11 w10 =>
      (if x11 = 0 then
        cI (U_X7_failBy fu [.ref a0, .int (3 : Int32)] w10) fun x15 w14 =>
        some (some (.int x15), w14)
      else
        (gR w10 a0 6 1).bind fun r12 =>
        cV (U_X4_write fu [.ref r12, .int a1, .int a2, .int a3] w10) fun w13 =>
        some (some (.int (1 : Int32)), w13))))
def U_X7_put (fu : Nat) : Orc := fun as w => match as with
  | [.ref a0, .int a1, .int a2, .int a3] => if isO w a0 6 = true then M_X7_put fu a0 a1 a2 a3 w else none
  | _ => none
def K_X7_put (fu : Nat) (n : Nat) : Kont := fun pc ls st w => none
set_option maxRecDepth 100000 in
set_option maxHeartbeats 4000000 in
theorem E_X7_put (fu : Nat) (a0 : Nat) (a1 : Int32) (a2 : Int32) (a3 : Int32) (w : XW) : M_X7_put fu a0 a1 a2 a3 w = ev T_X7_put (op_X7_put fu) [] (K_X7_put fu fu) 42 0 (lv_args 0 [.ref a0, .int a1, .int a2, .int a3]) [] w := by
  rfl
theorem D_X7_put (fu : Nat) : DS T_X7_put (op_X7_put fu) [] 42 (K_X7_put fu) := by
  refine ⟨fun pc ls st w => rfl, fun n pc ls st w o h => ?_⟩
  cases h
theorem H_X7_put (fu : Nat) : ∀ as w o, U_X7_put fu as w = some o → ∃ a r, as = .ref a :: r ∧ r.length = 3 ∧ isO w a 6 = true := by
  intro as w o h
  unfold U_X7_put at h
  split at h
  next =>
    split at h
    next hh => exact ⟨_, _, rfl, rfl, hh⟩
    next => cases h
  next => cases h
set_option maxRecDepth 100000 in
set_option maxHeartbeats 4000000 in
theorem S_X7_put (fu : Nat) {l : Launch} {D : va_G} {cA : Nat → ClassId} {base b : Nat} : CS l D cA base b 3 y_X7_put prog_1_method_30_code 4 (some .int) (U_X7_put fu) ∧ OM (U_X7_put fu) := by
  refine CS_of (d := 2) (y := y_X7_put) (cc := prog_1_method_30_code) (nL := 4) (ret := (some .int)) (F := U_X7_put fu) (fl := fl_BrookStones) (nl := nl_BrookStones) (kl := []) (k2 := []) (mv := [(269, 2, 1, (U_X4_isThere fu)), (262, 2, 1, (U_X7_failBy fu)), (277, 4, 0, (U_X4_write fu))]) (ms := [(256, 1, 1, (U_X4_isSheet fu)), (105, 3, 1, (U_X7_isWithin fu))]) (mi := []) (ini := false) hI_w fl_BrookStones_ok nl_BrookStones_ok nil_all nil_all
    (cons_all (⟨⟨show (1 : Nat) ≠ 3 by decide, y_X4_isThere, prog_6_method_4_code, 2, (some .boolean), 1, "BrookStones", 4, TX4, 3, 1, (S_X4_isThere fu (l := l) (D := D) (cA := cA) (base := base) (b := b)).1, by decide, by decide, rfl, H_X4_isThere fu, rfl, mi_X4_isThere.1, mi_X4_isThere.2.1, mi_X4_isThere.2.2.1, mi_X4_isThere.2.2.2.1, mi_X4_isThere.2.2.2.2, Or.inr (tblN_of (i := 441) rfl rfl)⟩, (S_X4_isThere fu (l := l) (D := D) (cA := cA) (base := base) (b := b)).2⟩) (cons_all (⟨⟨show (1 : Nat) ≠ 3 by decide, y_X7_failBy, prog_1_method_40_code, 2, (some .int), 1, "BrookStones", 6, TX7, 8, 1, (S_X7_failBy fu (l := l) (D := D) (cA := cA) (base := base) (b := b)).1, by decide, by decide, rfl, H_X7_failBy fu, rfl, mi_X7_failBy.1, mi_X7_failBy.2.1, mi_X7_failBy.2.2.1, mi_X7_failBy.2.2.2.1, mi_X7_failBy.2.2.2.2, Or.inl (tblG_of (i := 248) rfl rfl)⟩, (S_X7_failBy fu (l := l) (D := D) (cA := cA) (base := base) (b := b)).2⟩) (cons_all (⟨⟨show (0 : Nat) ≠ 3 by decide, y_X4_write, prog_6_method_8_code, 4, (none), 2, "BrookStones", 4, TX4, 3, 3, (S_X4_write fu (l := l) (D := D) (cA := cA) (base := base) (b := b)).1, by decide, by decide, rfl, H_X4_write fu, rfl, mi_X4_write.1, mi_X4_write.2.1, mi_X4_write.2.2.1, mi_X4_write.2.2.2.1, mi_X4_write.2.2.2.2, Or.inr (tblN_of (i := 442) rfl rfl)⟩, (S_X4_write fu (l := l) (D := D) (cA := cA) (base := base) (b := b)).2⟩) (nil_all))))
    (cons_all (⟨Or.inl ⟨show (1 : Nat) ≠ 3 by decide, y_X4_isSheet, prog_6_method_2_code, 1, (some .boolean), 2, "BrookStones", (S_X4_isSheet fu (l := l) (D := D) (cA := cA) (base := base) (b := b)).1, by decide, by decide, mi_X4_isSheet.1, mi_X4_isSheet.2.1, mi_X4_isSheet.2.2.1, mi_X4_isSheet.2.2.2, Or.inr (tblN_of (i := 227) rfl rfl)⟩, (S_X4_isSheet fu (l := l) (D := D) (cA := cA) (base := base) (b := b)).2⟩) (cons_all (⟨Or.inl ⟨show (1 : Nat) ≠ 3 by decide, y_X7_isWithin, prog_1_method_46_code, 3, (some .boolean), 1, "BrookStones", (S_X7_isWithin fu (l := l) (D := D) (cA := cA) (base := base) (b := b)).1, by decide, by decide, mi_X7_isWithin.1, mi_X7_isWithin.2.1, mi_X7_isWithin.2.2.1, mi_X7_isWithin.2.2.2, Or.inl (tblG_of (i := 304) rfl rfl)⟩, (S_X7_isWithin fu (l := l) (D := D) (cA := cA) (base := base) (b := b)).2⟩) (nil_all)))
    (nil_all)
    (T := T_X7_put) (by decide +kernel) (cut := []) (N := 42) (D_X7_put fu) (by decide +kernel) (fun h => absurd h (by decide)) (fun as w o h => ?_)
  unfold U_X7_put at h
  split at h
  next =>
    split at h
    next => exact ⟨Nat.le_of_ble_eq_true rfl, fu, (E_X7_put fu _ _ _ _ w).symm.trans h⟩
    next => cases h
  next => cases h
def T_L_put : List (Nat × Instr) := [(0, .aload_n 1), (1, .iload_n 2), (2, .invokestatic 9), (5, .istore 5), (7, .aload 4), (9, .iconst 0), (10, .iconst 3), (11, .iload 5), (13, .iload_n 3), (14, .iconst 2), (15, .isub), (16, .invokestatic 15), (19, .iadd), (20, .iastore), (21, .aload 4), (23, .iconst 1), (24, .iload 5), (26, .iconst 4), (27, .ishr), (28, .iload 5), (30, .bipush 8), (32, .ishr), (33, .iconst 2), (34, .invokestatic 15), (37, .ifCond .ne 8), (40, .bipush 10), (42, .goto 4), (45, .iconst 3), (46, .invokestatic 15), (49, .iastore), (50, .aload_n 0), (51, .iconst 0), (52, .iconst 0), (53, .bipush 30), (55, .invokevirtual 19), (58, .iconst 1), (59, .if_icmp .ne 15), (62, .aload_n 0), (63, .iconst 0), (64, .iconst 0), (65, .bipush 100), (67, .invokevirtual 25), (70, .iconst 1), (71, .if_icmp .eq 6), (74, .bipush (-99)), (76, .ireturn), (77, .iconst 1), (78, .istore 6), (80, .iconst 0), (81, .istore 7), (83, .iload 7), (85, .aload 4), (87, .iconst 0), (88, .iaload), (89, .if_icmp .ge 76), (92, .aload 4), (94, .iconst 2), (95, .iload 7), (97, .iadd), (98, .aload_n 1), (99, .iload_n 2), (100, .iconst 1), (101, .iadd), (102, .invokestatic 9), (105, .iconst 4), (106, .iload 7), (108, .imul), (109, .ishr), (110, .iload 5), (112, .bipush 9), (114, .ishr), (115, .iconst 2), (116, .invokestatic 15), (119, .ifCond .ne 8), (122, .bipush 10), (124, .goto 4), (127, .iconst 4), (128, .invokestatic 15), (131, .iastore), (132, .aload_n 0), (133, .iconst 0), (134, .iload 6), (136, .iinc 6 1), (139, .bipush 48), (141, .aload 4), (143, .iconst 2), (144, .iload 7), (146, .iadd), (147, .iaload), (148, .iadd), (149, .invokevirtual 25), (152, .iconst 1), (153, .if_icmp .eq 6), (156, .bipush (-99)), (158, .ireturn), (159, .iinc 7 1), (162, .goto (-79)), (165, .aload_n 0), (166, .iconst 0), (167, .iload 6), (169, .iinc 6 1), (172, .bipush 59), (174, .invokevirtual 25), (177, .iconst 1), (178, .if_icmp .ne 19), (181, .aload_n 0), (182, .iconst 0), (183, .iload 6), (185, .iinc 6 1), (188, .bipush 98), (190, .invokevirtual 25), (193, .iconst 1), (194, .if_icmp .eq 6), (197, .bipush (-99)), (199, .ireturn), (200, .iconst 0), (201, .istore 7), (203, .iload 7), (205, .aload 4), (207, .iconst 0), (208, .iaload), (209, .if_icmp .ge 78), (212, .aload 4), (214, .bipush 9), (216, .iload 7), (218, .iadd), (219, .aload_n 1), (220, .iload_n 2), (221, .iconst 2), (222, .iadd), (223, .invokestatic 9), (226, .iconst 4), (227, .iload 7), (229, .imul), (230, .ishr), (231, .iload 5), (233, .bipush 10), (235, .ishr), (236, .iconst 2), (237, .invokestatic 15), (240, .ifCond .ne 8), (243, .bipush 10), (245, .goto 4), (248, .iconst 4), (249, .invokestatic 15), (252, .iastore), (253, .aload_n 0), (254, .iconst 0), (255, .iload 6), (257, .iinc 6 1), (260, .bipush 48), (262, .aload 4), (264, .bipush 9), (266, .iload 7), (268, .iadd), (269, .iaload), (270, .iadd), (271, .invokevirtual 25), (274, .iconst 1), (275, .if_icmp .eq 6), (278, .bipush (-99)), (280, .ireturn), (281, .iinc 7 1), (284, .goto (-81)), (287, .aload_n 0), (288, .iconst 0), (289, .iload 6), (291, .iinc 6 1), (294, .bipush 59), (296, .invokevirtual 25), (299, .iconst 1), (300, .if_icmp .ne 40), (303, .aload_n 0), (304, .iconst 0), (305, .iload 6), (307, .iinc 6 1), (310, .bipush 112), (312, .invokevirtual 25), (315, .iconst 1), (316, .if_icmp .ne 24), (319, .aload_n 0), (320, .iconst 0), (321, .iload 6), (323, .iinc 6 1), (326, .bipush 48), (328, .aload 4), (330, .iconst 1), (331, .iaload), (332, .iadd), (333, .invokevirtual 25), (336, .iconst 1), (337, .if_icmp .eq 6), (340, .bipush (-99)), (342, .ireturn), (343, .iload 6), (345, .ireturn)]
def op_L_put (fu : Nat) : Nat → Kont → XL → List Value → XW → Instr → Option XO := opK 8 (rzOf (some .int)) [] nl_BrookStonesLaw kl_BrookStonesLaw [] [(19, 4, 1, (U_X7_sheet fu)), (25, 4, 1, (U_X7_put fu))] [(9, 2, 1, (U_L_cell fu)), (15, 2, 1, (U_L_some fu))] []
def F_L_put (fu : Nat) : Nat → (Nat → Nat → Int32 → Nat → Int32 → Int32 → Int32 → Int32 → Nat → XW → Option XO) × (Nat → Nat → Int32 → Nat → Int32 → Int32 → Int32 → XW → Option XO) × (Nat → Nat → Int32 → Nat → Int32 → Int32 → Int32 → Int32 → Int32 → Int32 → Nat → XW → Option XO) × (Nat → Nat → Int32 → Nat → Int32 → Int32 → Int32 → XW → Option XO) × (Nat → Nat → Int32 → Nat → Int32 → Int32 → Int32 → Int32 → Int32 → Int32 → Nat → XW → Option XO)
  | 0 => (fun _ _ _ _ _ _ _ _ _ _ => none, fun _ _ _ _ _ _ _ _ => none, fun _ _ _ _ _ _ _ _ _ _ _ _ => none, fun _ _ _ _ _ _ _ _ => none, fun _ _ _ _ _ _ _ _ _ _ _ _ => none)
  | n + 1 => ((fun a0 a1 a2 a4 a5 s0 s1 s2 s3 w =>
    cI (U_L_some fu [.int s1, .int s0] w) fun x2 w1 =>
    (sI w1 s3 s2 x2).bind fun w3 =>
    cI (U_X7_sheet fu [.ref a0, .int (0 : Int32), .int (0 : Int32), .int (30 : Int32)] w3) fun x5 w4 =>
    (if x5 = (1 : Int32) then
      cI (U_X7_put fu [.ref a0, .int (0 : Int32), .int (0 : Int32), .int (100 : Int32)] w4) fun x7 w6 =>
      (if x7 = (1 : Int32) then
        (F_L_put fu n).2.1 a0 a1 a2 a4 a5 (1 : Int32) (0 : Int32) w6
      else
        some (some (.int (-99 : Int32)), w6))
    else
      some (some (.int (-99 : Int32)), w4))),
   (fun a0 a1 a2 a4 a5 a6 a7 w =>
    (aI w a4 (0 : Int32)).bind fun x8 =>
    (if a7 < x8 then
      cI (U_L_cell fu [.ref a1, .int (a2 + (1 : Int32))] w) fun x14 w13 =>
      cI (U_L_some fu [.int (a5 >>> ((9 : Int32) &&& 31)), .int (2 : Int32)] w13) fun x16 w15 =>
      (if x16 = 0 then
        (F_L_put fu n).2.2.1 a0 a1 a2 a4 a5 a6 a7 (10 : Int32) (x14 >>> (((4 : Int32) * a7) &&& 31)) ((2 : Int32) + a7) a4 w15
      else
        (F_L_put fu n).2.2.1 a0 a1 a2 a4 a5 a6 a7 (4 : Int32) (x14 >>> (((4 : Int32) * a7) &&& 31)) ((2 : Int32) + a7) a4 w15)
    else
      cI (U_X7_put fu [.ref a0, .int (0 : Int32), .int a6, .int (59 : Int32)] w) fun x10 w9 =>
      (if x10 = (1 : Int32) then
        cI (U_X7_put fu [.ref a0, .int (0 : Int32), .int (a6 + (1 : Int32)), .int (98 : Int32)] w9) fun x12 w11 =>
        (if x12 = (1 : Int32) then
          (F_L_put fu n).2.2.2.1 a0 a1 a2 a4 a5 ((a6 + (1 : Int32)) + (1 : Int32)) (0 : Int32) w11
        else
          some (some (.int (-99 : Int32)), w11))
      else
        some (some (.int (-99 : Int32)), w9)))),
   (fun a0 a1 a2 a4 a5 a6 a7 s0 s1 s2 s3 w =>
    cI (U_L_some fu [.int s1, .int s0] w) fun x18 w17 =>
    (sI w17 s3 s2 x18).bind fun w19 =>
    (aI w19 a4 ((2 : Int32) + a7)).bind fun x20 =>
    cI (U_X7_put fu [.ref a0, .int (0 : Int32), .int a6, .int ((48 : Int32) + x20)] w19) fun x22 w21 =>
    (if x22 = (1 : Int32) then
      (F_L_put fu n).2.1 a0 a1 a2 a4 a5 (a6 + (1 : Int32)) (a7 + (1 : Int32)) w21
    else
      some (some (.int (-99 : Int32)), w21))),
   (fun a0 a1 a2 a4 a5 a6 a7 w =>
    (aI w a4 (0 : Int32)).bind fun x23 =>
    (if a7 < x23 then
      cI (U_L_cell fu [.ref a1, .int (a2 + (2 : Int32))] w) fun x32 w31 =>
      cI (U_L_some fu [.int (a5 >>> ((10 : Int32) &&& 31)), .int (2 : Int32)] w31) fun x34 w33 =>
      (if x34 = 0 then
        (F_L_put fu n).2.2.2.2 a0 a1 a2 a4 a5 a6 a7 (10 : Int32) (x32 >>> (((4 : Int32) * a7) &&& 31)) ((9 : Int32) + a7) a4 w33
      else
        (F_L_put fu n).2.2.2.2 a0 a1 a2 a4 a5 a6 a7 (4 : Int32) (x32 >>> (((4 : Int32) * a7) &&& 31)) ((9 : Int32) + a7) a4 w33)
    else
      cI (U_X7_put fu [.ref a0, .int (0 : Int32), .int a6, .int (59 : Int32)] w) fun x25 w24 =>
      (if x25 = (1 : Int32) then
        cI (U_X7_put fu [.ref a0, .int (0 : Int32), .int (a6 + (1 : Int32)), .int (112 : Int32)] w24) fun x27 w26 =>
        (if x27 = (1 : Int32) then
          (aI w26 a4 (1 : Int32)).bind fun x28 =>
          cI (U_X7_put fu [.ref a0, .int (0 : Int32), .int ((a6 + (1 : Int32)) + (1 : Int32)), .int ((48 : Int32) + x28)] w26) fun x30 w29 =>
          (if x30 = (1 : Int32) then
            some (some (.int (((a6 + (1 : Int32)) + (1 : Int32)) + (1 : Int32))), w29)
          else
            some (some (.int (-99 : Int32)), w29))
        else
          some (some (.int (-99 : Int32)), w26))
      else
        some (some (.int (-99 : Int32)), w24)))),
   (fun a0 a1 a2 a4 a5 a6 a7 s0 s1 s2 s3 w =>
    cI (U_L_some fu [.int s1, .int s0] w) fun x36 w35 =>
    (sI w35 s3 s2 x36).bind fun w37 =>
    (aI w37 a4 ((9 : Int32) + a7)).bind fun x38 =>
    cI (U_X7_put fu [.ref a0, .int (0 : Int32), .int a6, .int ((48 : Int32) + x38)] w37) fun x40 w39 =>
    (if x40 = (1 : Int32) then
      (F_L_put fu n).2.2.2.1 a0 a1 a2 a4 a5 (a6 + (1 : Int32)) (a7 + (1 : Int32)) w39
    else
      some (some (.int (-99 : Int32)), w39))))
def M_L_put (fu : Nat) (a0 : Nat) (a1 : Nat) (a2 : Int32) (a3 : Int32) (a4 : Nat) (w : XW) : Option XO :=
  cI (U_L_cell fu [.ref a1, .int a2] w) fun x42 w41 =>
  cI (U_L_some fu [.int x42, .int (a3 - (2 : Int32))] w41) fun x44 w43 =>
  (sI w43 a4 (0 : Int32) ((3 : Int32) + x44)).bind fun w45 =>
  cI (U_L_some fu [.int (x42 >>> ((8 : Int32) &&& 31)), .int (2 : Int32)] w45) fun x47 w46 =>
  (if x47 = 0 then
    (F_L_put fu fu).1 a0 a1 a2 a4 x42 (10 : Int32) (x42 >>> ((4 : Int32) &&& 31)) (1 : Int32) a4 w46
  else
    (F_L_put fu fu).1 a0 a1 a2 a4 x42 (3 : Int32) (x42 >>> ((4 : Int32) &&& 31)) (1 : Int32) a4 w46)
def U_L_put (fu : Nat) : Orc := fun as w => match as with
  | [.ref a0, .ref a1, .int a2, .int a3, .ref a4] => M_L_put fu a0 a1 a2 a3 a4 w
  | _ => none
def K_L_put (fu : Nat) (n : Nat) : Kont := fun pc ls st w => bif pc == 46 then ((xr ls 0).bind fun a0 => (xr ls 1).bind fun a1 => (xi ls 2).bind fun a2 => (xr ls 4).bind fun a4 => (xi ls 5).bind fun a5 => skI st fun s0 st => skI st fun s1 st => skI st fun s2 st => skR st fun s3 st => skN st ((F_L_put fu n).1 a0 a1 a2 a4 a5 s0 s1 s2 s3 w)) else bif pc == 83 then ((xr ls 0).bind fun a0 => (xr ls 1).bind fun a1 => (xi ls 2).bind fun a2 => (xr ls 4).bind fun a4 => (xi ls 5).bind fun a5 => (xi ls 6).bind fun a6 => (xi ls 7).bind fun a7 => skN st ((F_L_put fu n).2.1 a0 a1 a2 a4 a5 a6 a7 w)) else bif pc == 128 then ((xr ls 0).bind fun a0 => (xr ls 1).bind fun a1 => (xi ls 2).bind fun a2 => (xr ls 4).bind fun a4 => (xi ls 5).bind fun a5 => (xi ls 6).bind fun a6 => (xi ls 7).bind fun a7 => skI st fun s0 st => skI st fun s1 st => skI st fun s2 st => skR st fun s3 st => skN st ((F_L_put fu n).2.2.1 a0 a1 a2 a4 a5 a6 a7 s0 s1 s2 s3 w)) else bif pc == 203 then ((xr ls 0).bind fun a0 => (xr ls 1).bind fun a1 => (xi ls 2).bind fun a2 => (xr ls 4).bind fun a4 => (xi ls 5).bind fun a5 => (xi ls 6).bind fun a6 => (xi ls 7).bind fun a7 => skN st ((F_L_put fu n).2.2.2.1 a0 a1 a2 a4 a5 a6 a7 w)) else bif pc == 249 then ((xr ls 0).bind fun a0 => (xr ls 1).bind fun a1 => (xi ls 2).bind fun a2 => (xr ls 4).bind fun a4 => (xi ls 5).bind fun a5 => (xi ls 6).bind fun a6 => (xi ls 7).bind fun a7 => skI st fun s0 st => skI st fun s1 st => skI st fun s2 st => skR st fun s3 st => skN st ((F_L_put fu n).2.2.2.2 a0 a1 a2 a4 a5 a6 a7 s0 s1 s2 s3 w)) else none
set_option maxRecDepth 100000 in
set_option maxHeartbeats 4000000 in
theorem E_L_put_46 (fu : Nat) (n : Nat) (a0 : Nat) (a1 : Nat) (a2 : Int32) (a4 : Nat) (a5 : Int32) (s0 : Int32) (s1 : Int32) (s2 : Int32) (s3 : Nat) (w : XW) : (F_L_put fu (n + 1)).1 a0 a1 a2 a4 a5 s0 s1 s2 s3 w = ev T_L_put (op_L_put fu) [46, 83, 128, 203, 249] (K_L_put fu n) 198 46 [(0, .ref a0), (1, .ref a1), (2, .int a2), (4, .ref a4), (5, .int a5)] [.int s0, .int s1, .int s2, .ref s3] w := by
  rfl
set_option maxRecDepth 100000 in
set_option maxHeartbeats 4000000 in
theorem E_L_put_83 (fu : Nat) (n : Nat) (a0 : Nat) (a1 : Nat) (a2 : Int32) (a4 : Nat) (a5 : Int32) (a6 : Int32) (a7 : Int32) (w : XW) : (F_L_put fu (n + 1)).2.1 a0 a1 a2 a4 a5 a6 a7 w = ev T_L_put (op_L_put fu) [46, 83, 128, 203, 249] (K_L_put fu n) 198 83 [(0, .ref a0), (1, .ref a1), (2, .int a2), (4, .ref a4), (5, .int a5), (6, .int a6), (7, .int a7)] [] w := by
  rfl
set_option maxRecDepth 100000 in
set_option maxHeartbeats 4000000 in
theorem E_L_put_128 (fu : Nat) (n : Nat) (a0 : Nat) (a1 : Nat) (a2 : Int32) (a4 : Nat) (a5 : Int32) (a6 : Int32) (a7 : Int32) (s0 : Int32) (s1 : Int32) (s2 : Int32) (s3 : Nat) (w : XW) : (F_L_put fu (n + 1)).2.2.1 a0 a1 a2 a4 a5 a6 a7 s0 s1 s2 s3 w = ev T_L_put (op_L_put fu) [46, 83, 128, 203, 249] (K_L_put fu n) 198 128 [(0, .ref a0), (1, .ref a1), (2, .int a2), (4, .ref a4), (5, .int a5), (6, .int a6), (7, .int a7)] [.int s0, .int s1, .int s2, .ref s3] w := by
  rfl
set_option maxRecDepth 100000 in
set_option maxHeartbeats 4000000 in
theorem E_L_put_203 (fu : Nat) (n : Nat) (a0 : Nat) (a1 : Nat) (a2 : Int32) (a4 : Nat) (a5 : Int32) (a6 : Int32) (a7 : Int32) (w : XW) : (F_L_put fu (n + 1)).2.2.2.1 a0 a1 a2 a4 a5 a6 a7 w = ev T_L_put (op_L_put fu) [46, 83, 128, 203, 249] (K_L_put fu n) 198 203 [(0, .ref a0), (1, .ref a1), (2, .int a2), (4, .ref a4), (5, .int a5), (6, .int a6), (7, .int a7)] [] w := by
  rfl
set_option maxRecDepth 100000 in
set_option maxHeartbeats 4000000 in
theorem E_L_put_249 (fu : Nat) (n : Nat) (a0 : Nat) (a1 : Nat) (a2 : Int32) (a4 : Nat) (a5 : Int32) (a6 : Int32) (a7 : Int32) (s0 : Int32) (s1 : Int32) (s2 : Int32) (s3 : Nat) (w : XW) : (F_L_put fu (n + 1)).2.2.2.2 a0 a1 a2 a4 a5 a6 a7 s0 s1 s2 s3 w = ev T_L_put (op_L_put fu) [46, 83, 128, 203, 249] (K_L_put fu n) 198 249 [(0, .ref a0), (1, .ref a1), (2, .int a2), (4, .ref a4), (5, .int a5), (6, .int a6), (7, .int a7)] [.int s0, .int s1, .int s2, .ref s3] w := by
  rfl
set_option maxRecDepth 100000 in
set_option maxHeartbeats 4000000 in
theorem E_L_put (fu : Nat) (a0 : Nat) (a1 : Nat) (a2 : Int32) (a3 : Int32) (a4 : Nat) (w : XW) : M_L_put fu a0 a1 a2 a3 a4 w = ev T_L_put (op_L_put fu) [46, 83, 128, 203, 249] (K_L_put fu fu) 198 0 (lv_args 0 [.ref a0, .ref a1, .int a2, .int a3, .ref a4]) [] w := by
  rfl
theorem D_L_put (fu : Nat) : DS T_L_put (op_L_put fu) [46, 83, 128, 203, 249] 198 (K_L_put fu) := by
  refine ⟨fun pc ls st w => c_none (b_none fun _ => b_none fun _ => b_none fun _ => b_none fun _ => b_none fun _ => skI_none fun _ _ => skI_none fun _ _ => skI_none fun _ _ => skR_none fun _ _ => skN_none rfl) (c_none (b_none fun _ => b_none fun _ => b_none fun _ => b_none fun _ => b_none fun _ => b_none fun _ => b_none fun _ => skN_none rfl) (c_none (b_none fun _ => b_none fun _ => b_none fun _ => b_none fun _ => b_none fun _ => b_none fun _ => b_none fun _ => skI_none fun _ _ => skI_none fun _ _ => skI_none fun _ _ => skR_none fun _ _ => skN_none rfl) (c_none (b_none fun _ => b_none fun _ => b_none fun _ => b_none fun _ => b_none fun _ => b_none fun _ => b_none fun _ => skN_none rfl) (c_none (b_none fun _ => b_none fun _ => b_none fun _ => b_none fun _ => b_none fun _ => b_none fun _ => b_none fun _ => skI_none fun _ _ => skI_none fun _ _ => skI_none fun _ _ => skR_none fun _ _ => skN_none rfl) (rfl))))), fun n pc ls st w o h => ?_⟩
  rcases c_some h with ⟨rfl, h⟩ | h
  · obtain ⟨a0, h0, h⟩ := some_of h; obtain ⟨a1, h1, h⟩ := some_of h; obtain ⟨a2, h2, h⟩ := some_of h; obtain ⟨a4, h4, h⟩ := some_of h; obtain ⟨a5, h5, h⟩ := some_of h;
    obtain ⟨s0, st0, e0, g0⟩ := skI_of h
    obtain ⟨s1, st1, e1, g1⟩ := skI_of g0
    obtain ⟨s2, st2, e2, g2⟩ := skI_of g1
    obtain ⟨s3, st3, e3, g3⟩ := skR_of g2
    obtain ⟨e, g⟩ := skN_of g3
    subst e
    subst e3
    subst e2
    subst e1
    subst e0
    exact ⟨[(0, .ref a0), (1, .ref a1), (2, .int a2), (4, .ref a4), (5, .int a5)], cons_all (xr_of h0) (cons_all (xr_of h1) (cons_all (xi_of h2) (cons_all (xr_of h4) (cons_all (xi_of h5) (nil_all))))), (E_L_put_46 fu n a0 a1 a2 a4 a5 s0 s1 s2 s3 w).symm.trans g⟩
  rcases c_some h with ⟨rfl, h⟩ | h
  · obtain ⟨a0, h0, h⟩ := some_of h; obtain ⟨a1, h1, h⟩ := some_of h; obtain ⟨a2, h2, h⟩ := some_of h; obtain ⟨a4, h4, h⟩ := some_of h; obtain ⟨a5, h5, h⟩ := some_of h; obtain ⟨a6, h6, h⟩ := some_of h; obtain ⟨a7, h7, h⟩ := some_of h;
    obtain ⟨e, g⟩ := skN_of h
    subst e
    exact ⟨[(0, .ref a0), (1, .ref a1), (2, .int a2), (4, .ref a4), (5, .int a5), (6, .int a6), (7, .int a7)], cons_all (xr_of h0) (cons_all (xr_of h1) (cons_all (xi_of h2) (cons_all (xr_of h4) (cons_all (xi_of h5) (cons_all (xi_of h6) (cons_all (xi_of h7) (nil_all))))))), (E_L_put_83 fu n a0 a1 a2 a4 a5 a6 a7 w).symm.trans g⟩
  rcases c_some h with ⟨rfl, h⟩ | h
  · obtain ⟨a0, h0, h⟩ := some_of h; obtain ⟨a1, h1, h⟩ := some_of h; obtain ⟨a2, h2, h⟩ := some_of h; obtain ⟨a4, h4, h⟩ := some_of h; obtain ⟨a5, h5, h⟩ := some_of h; obtain ⟨a6, h6, h⟩ := some_of h; obtain ⟨a7, h7, h⟩ := some_of h;
    obtain ⟨s0, st0, e0, g0⟩ := skI_of h
    obtain ⟨s1, st1, e1, g1⟩ := skI_of g0
    obtain ⟨s2, st2, e2, g2⟩ := skI_of g1
    obtain ⟨s3, st3, e3, g3⟩ := skR_of g2
    obtain ⟨e, g⟩ := skN_of g3
    subst e
    subst e3
    subst e2
    subst e1
    subst e0
    exact ⟨[(0, .ref a0), (1, .ref a1), (2, .int a2), (4, .ref a4), (5, .int a5), (6, .int a6), (7, .int a7)], cons_all (xr_of h0) (cons_all (xr_of h1) (cons_all (xi_of h2) (cons_all (xr_of h4) (cons_all (xi_of h5) (cons_all (xi_of h6) (cons_all (xi_of h7) (nil_all))))))), (E_L_put_128 fu n a0 a1 a2 a4 a5 a6 a7 s0 s1 s2 s3 w).symm.trans g⟩
  rcases c_some h with ⟨rfl, h⟩ | h
  · obtain ⟨a0, h0, h⟩ := some_of h; obtain ⟨a1, h1, h⟩ := some_of h; obtain ⟨a2, h2, h⟩ := some_of h; obtain ⟨a4, h4, h⟩ := some_of h; obtain ⟨a5, h5, h⟩ := some_of h; obtain ⟨a6, h6, h⟩ := some_of h; obtain ⟨a7, h7, h⟩ := some_of h;
    obtain ⟨e, g⟩ := skN_of h
    subst e
    exact ⟨[(0, .ref a0), (1, .ref a1), (2, .int a2), (4, .ref a4), (5, .int a5), (6, .int a6), (7, .int a7)], cons_all (xr_of h0) (cons_all (xr_of h1) (cons_all (xi_of h2) (cons_all (xr_of h4) (cons_all (xi_of h5) (cons_all (xi_of h6) (cons_all (xi_of h7) (nil_all))))))), (E_L_put_203 fu n a0 a1 a2 a4 a5 a6 a7 w).symm.trans g⟩
  rcases c_some h with ⟨rfl, h⟩ | h
  · obtain ⟨a0, h0, h⟩ := some_of h; obtain ⟨a1, h1, h⟩ := some_of h; obtain ⟨a2, h2, h⟩ := some_of h; obtain ⟨a4, h4, h⟩ := some_of h; obtain ⟨a5, h5, h⟩ := some_of h; obtain ⟨a6, h6, h⟩ := some_of h; obtain ⟨a7, h7, h⟩ := some_of h;
    obtain ⟨s0, st0, e0, g0⟩ := skI_of h
    obtain ⟨s1, st1, e1, g1⟩ := skI_of g0
    obtain ⟨s2, st2, e2, g2⟩ := skI_of g1
    obtain ⟨s3, st3, e3, g3⟩ := skR_of g2
    obtain ⟨e, g⟩ := skN_of g3
    subst e
    subst e3
    subst e2
    subst e1
    subst e0
    exact ⟨[(0, .ref a0), (1, .ref a1), (2, .int a2), (4, .ref a4), (5, .int a5), (6, .int a6), (7, .int a7)], cons_all (xr_of h0) (cons_all (xr_of h1) (cons_all (xi_of h2) (cons_all (xr_of h4) (cons_all (xi_of h5) (cons_all (xi_of h6) (cons_all (xi_of h7) (nil_all))))))), (E_L_put_249 fu n a0 a1 a2 a4 a5 a6 a7 s0 s1 s2 s3 w).symm.trans g⟩
  · cases h
set_option maxRecDepth 100000 in
set_option maxHeartbeats 4000000 in
theorem S_L_put (fu : Nat) {l : Launch} {D : va_G} {cA : Nat → ClassId} {base b : Nat} : CS l D cA base b 5 y_L_put method_4_code 8 (some .int) (U_L_put fu) ∧ OM (U_L_put fu) := by
  refine CS_of (d := 4) (y := y_L_put) (cc := method_4_code) (nL := 8) (ret := (some .int)) (F := U_L_put fu) (fl := []) (nl := nl_BrookStonesLaw) (kl := kl_BrookStonesLaw) (k2 := []) (mv := [(19, 4, 1, (U_X7_sheet fu)), (25, 4, 1, (U_X7_put fu))]) (ms := [(9, 2, 1, (U_L_cell fu)), (15, 2, 1, (U_L_some fu))]) (mi := []) (ini := false) hI_w nil_all nl_BrookStonesLaw_ok kl_BrookStonesLaw_ok nil_all
    (cons_all (⟨⟨show (1 : Nat) ≠ 3 by decide, y_X7_sheet, prog_1_method_28_code, 4, (some .int), 4, "BrookStones", 6, TX7, 8, 3, (S_X7_sheet fu (l := l) (D := D) (cA := cA) (base := base) (b := b)).1, by decide, by decide, rfl, H_X7_sheet fu, rfl, mi_X7_sheet.1, mi_X7_sheet.2.1, mi_X7_sheet.2.2.1, mi_X7_sheet.2.2.2.1, mi_X7_sheet.2.2.2.2, Or.inl (tblG_of (i := 423) rfl rfl)⟩, (S_X7_sheet fu (l := l) (D := D) (cA := cA) (base := base) (b := b)).2⟩) (cons_all (⟨⟨show (1 : Nat) ≠ 3 by decide, y_X7_put, prog_1_method_30_code, 4, (some .int), 3, "BrookStones", 6, TX7, 8, 3, (S_X7_put fu (l := l) (D := D) (cA := cA) (base := base) (b := b)).1, by decide, by decide, rfl, H_X7_put fu, rfl, mi_X7_put.1, mi_X7_put.2.1, mi_X7_put.2.2.1, mi_X7_put.2.2.2.1, mi_X7_put.2.2.2.2, Or.inl (tblG_of (i := 437) rfl rfl)⟩, (S_X7_put fu (l := l) (D := D) (cA := cA) (base := base) (b := b)).2⟩) (nil_all)))
    (cons_all (⟨Or.inl ⟨show (1 : Nat) ≠ 3 by decide, y_L_cell, method_2_code, 2, (some .int), 1, "BrookStones", (S_L_cell fu (l := l) (D := D) (cA := cA) (base := base) (b := b)).1, by decide, by decide, mi_L_cell.1, mi_L_cell.2.1, mi_L_cell.2.2.1, mi_L_cell.2.2.2, Or.inl (tblG_of (i := 459) rfl rfl)⟩, (S_L_cell fu (l := l) (D := D) (cA := cA) (base := base) (b := b)).2⟩) (cons_all (⟨Or.inl ⟨show (1 : Nat) ≠ 3 by decide, y_L_some, method_3_code, 2, (some .int), 1, "BrookStones", (S_L_some fu (l := l) (D := D) (cA := cA) (base := base) (b := b)).1, by decide, by decide, mi_L_some.1, mi_L_some.2.1, mi_L_some.2.2.1, mi_L_some.2.2.2, Or.inl (tblG_of (i := 463) rfl rfl)⟩, (S_L_some fu (l := l) (D := D) (cA := cA) (base := base) (b := b)).2⟩) (nil_all)))
    (nil_all)
    (T := T_L_put) (by decide +kernel) (cut := [46, 83, 128, 203, 249]) (N := 198) (D_L_put fu) (by decide +kernel) (fun h => absurd h (by decide)) (fun as w o h => ?_)
  unfold U_L_put at h
  split at h
  next =>
    exact ⟨Nat.le_of_ble_eq_true rfl, fu, (E_L_put fu _ _ _ _ _ w).symm.trans h⟩
  next => cases h
def T_X4_reaches : List (Nat × Instr) := [(0, .iload_n 2), (1, .ifCond .lt 29), (4, .iload_n 2), (5, .aload_n 0), (6, .getfield 15), (9, .iload_n 1), (10, .iaload), (11, .if_icmp .gt 19), (14, .iload_n 3), (15, .aload_n 0), (16, .getfield 15), (19, .iload_n 1), (20, .iaload), (21, .iload_n 2), (22, .isub), (23, .if_icmp .gt 7), (26, .iconst 1), (27, .goto 4), (30, .iconst 0), (31, .ireturn)]
def op_X4_reaches (fu : Nat) : Nat → Kont → XL → List Value → XW → Instr → Option XO := opK 4 (rzOf (some .boolean)) fl_BrookStones_Sheets [] [] [] [] [] []
def M_X4_reaches (fu : Nat) (a0 : Nat) (a1 : Int32) (a2 : Int32) (a3 : Int32) (w : XW) : Option XO :=
  (if a2 < 0 then
    retZ (0 : Int32) w
  else
    (gR w a0 4 1).bind fun r1 =>
    (aI w r1 a1).bind fun x2 =>
    (if x2 < a2 then
      retZ (0 : Int32) w
    else
      (gR w a0 4 1).bind fun r3 =>
      (aI w r3 a1).bind fun x4 =>
      (if (x4 - a2) < a3 then
        retZ (0 : Int32) w
      else
        retZ (1 : Int32) w)))
def U_X4_reaches (fu : Nat) : Orc := fun as w => match as with
  | [.ref a0, .int a1, .int a2, .int a3] => if isO w a0 4 = true then M_X4_reaches fu a0 a1 a2 a3 w else none
  | _ => none
def K_X4_reaches (fu : Nat) (n : Nat) : Kont := fun pc ls st w => none
set_option maxRecDepth 100000 in
set_option maxHeartbeats 4000000 in
theorem E_X4_reaches (fu : Nat) (a0 : Nat) (a1 : Int32) (a2 : Int32) (a3 : Int32) (w : XW) : M_X4_reaches fu a0 a1 a2 a3 w = ev T_X4_reaches (op_X4_reaches fu) [] (K_X4_reaches fu fu) 22 0 (lv_args 0 [.ref a0, .int a1, .int a2, .int a3]) [] w := by
  rfl
theorem D_X4_reaches (fu : Nat) : DS T_X4_reaches (op_X4_reaches fu) [] 22 (K_X4_reaches fu) := by
  refine ⟨fun pc ls st w => rfl, fun n pc ls st w o h => ?_⟩
  cases h
theorem H_X4_reaches (fu : Nat) : ∀ as w o, U_X4_reaches fu as w = some o → ∃ a r, as = .ref a :: r ∧ r.length = 3 ∧ isO w a 4 = true := by
  intro as w o h
  unfold U_X4_reaches at h
  split at h
  next =>
    split at h
    next hh => exact ⟨_, _, rfl, rfl, hh⟩
    next => cases h
  next => cases h
set_option maxRecDepth 100000 in
set_option maxHeartbeats 4000000 in
theorem S_X4_reaches (fu : Nat) {l : Launch} {D : va_G} {cA : Nat → ClassId} {base b : Nat} : CS l D cA base b 1 y_X4_reaches prog_6_method_11_code 4 (some .boolean) (U_X4_reaches fu) ∧ OM (U_X4_reaches fu) := by
  refine CS_of (d := 0) (y := y_X4_reaches) (cc := prog_6_method_11_code) (nL := 4) (ret := (some .boolean)) (F := U_X4_reaches fu) (fl := fl_BrookStones_Sheets) (nl := []) (kl := []) (k2 := []) (mv := []) (ms := []) (mi := []) (ini := false) hI_w fl_BrookStones_Sheets_ok nil_all nil_all nil_all
    (nil_all)
    (nil_all)
    (nil_all)
    (T := T_X4_reaches) (by decide +kernel) (cut := []) (N := 22) (D_X4_reaches fu) (by decide +kernel) (fun h => absurd h (by decide)) (fun as w o h => ?_)
  unfold U_X4_reaches at h
  split at h
  next =>
    split at h
    next => exact ⟨Nat.le_of_ble_eq_true rfl, fu, (E_X4_reaches fu _ _ _ _ w).symm.trans h⟩
    next => cases h
  next => cases h
def T_X4_faultOfCells : List (Nat × Instr) := [(0, .aload_n 0), (1, .iload_n 1), (2, .invokevirtual 44), (5, .ifCond .ne 5), (8, .iconst 1), (9, .ireturn), (10, .aload_n 0), (11, .getfield 9), (14, .iload_n 1), (15, .iaload), (16, .iload_n 2), (17, .if_icmp .eq 5), (20, .iconst 2), (21, .ireturn), (22, .iload 4), (24, .ifCond .ge 5), (27, .iconst 4), (28, .ireturn), (29, .aload_n 0), (30, .iload_n 1), (31, .iload_n 3), (32, .iload 4), (34, .invokevirtual 48), (37, .ifCond .eq 7), (40, .iconst 0), (41, .goto 4), (44, .iconst 3), (45, .ireturn)]
def op_X4_faultOfCells (fu : Nat) : Nat → Kont → XL → List Value → XW → Instr → Option XO := opK 5 (rzOf (some .int)) fl_BrookStones_Sheets [] [] [] [(44, 2, 1, (U_X4_isThere fu)), (48, 4, 1, (U_X4_reaches fu))] [] []
def M_X4_faultOfCells (fu : Nat) (a0 : Nat) (a1 : Int32) (a2 : Int32) (a3 : Int32) (a4 : Int32) (w : XW) : Option XO :=
  cI (U_X4_isThere fu [.ref a0, .int a1] w) fun x2 w1 =>
  (if x2 = 0 then
    some (some (.int (1 : Int32)), w1)
  else
    (gR w1 a0 4 0).bind fun r3 =>
    (aI w1 r3 a1).bind fun x4 =>
    (if x4 = a2 then
      (if a4 < 0 then
        some (some (.int (4 : Int32)), w1)
      else
        cI (U_X4_reaches fu [.ref a0, .int a1, .int a3, .int a4] w1) fun x6 w5 =>
        (if x6 = 0 then
          some (some (.int (3 : Int32)), w5)
        else
          some (some (.int (0 : Int32)), w5)))
    else
      some (some (.int (2 : Int32)), w1)))
def U_X4_faultOfCells (fu : Nat) : Orc := fun as w => match as with
  | [.ref a0, .int a1, .int a2, .int a3, .int a4] => if isO w a0 4 = true then M_X4_faultOfCells fu a0 a1 a2 a3 a4 w else none
  | _ => none
def K_X4_faultOfCells (fu : Nat) (n : Nat) : Kont := fun pc ls st w => none
set_option maxRecDepth 100000 in
set_option maxHeartbeats 4000000 in
theorem E_X4_faultOfCells (fu : Nat) (a0 : Nat) (a1 : Int32) (a2 : Int32) (a3 : Int32) (a4 : Int32) (w : XW) : M_X4_faultOfCells fu a0 a1 a2 a3 a4 w = ev T_X4_faultOfCells (op_X4_faultOfCells fu) [] (K_X4_faultOfCells fu fu) 30 0 (lv_args 0 [.ref a0, .int a1, .int a2, .int a3, .int a4]) [] w := by
  rfl
theorem D_X4_faultOfCells (fu : Nat) : DS T_X4_faultOfCells (op_X4_faultOfCells fu) [] 30 (K_X4_faultOfCells fu) := by
  refine ⟨fun pc ls st w => rfl, fun n pc ls st w o h => ?_⟩
  cases h
theorem H_X4_faultOfCells (fu : Nat) : ∀ as w o, U_X4_faultOfCells fu as w = some o → ∃ a r, as = .ref a :: r ∧ r.length = 4 ∧ isO w a 4 = true := by
  intro as w o h
  unfold U_X4_faultOfCells at h
  split at h
  next =>
    split at h
    next hh => exact ⟨_, _, rfl, rfl, hh⟩
    next => cases h
  next => cases h
set_option maxRecDepth 100000 in
set_option maxHeartbeats 4000000 in
theorem S_X4_faultOfCells (fu : Nat) {l : Launch} {D : va_G} {cA : Nat → ClassId} {base b : Nat} : CS l D cA base b 2 y_X4_faultOfCells prog_6_method_12_code 5 (some .int) (U_X4_faultOfCells fu) ∧ OM (U_X4_faultOfCells fu) := by
  refine CS_of (d := 1) (y := y_X4_faultOfCells) (cc := prog_6_method_12_code) (nL := 5) (ret := (some .int)) (F := U_X4_faultOfCells fu) (fl := fl_BrookStones_Sheets) (nl := []) (kl := []) (k2 := []) (mv := [(44, 2, 1, (U_X4_isThere fu)), (48, 4, 1, (U_X4_reaches fu))]) (ms := []) (mi := []) (ini := false) hI_w fl_BrookStones_Sheets_ok nil_all nil_all nil_all
    (cons_all (⟨⟨show (1 : Nat) ≠ 3 by decide, y_X4_isThere, prog_6_method_4_code, 2, (some .boolean), 1, "BrookStones", 4, TX4, 3, 1, (S_X4_isThere fu (l := l) (D := D) (cA := cA) (base := base) (b := b)).1, by decide, by decide, rfl, H_X4_isThere fu, rfl, mi_X4_isThere.1, mi_X4_isThere.2.1, mi_X4_isThere.2.2.1, mi_X4_isThere.2.2.2.1, mi_X4_isThere.2.2.2.2, Or.inl (tblG_of (i := 240) rfl rfl)⟩, (S_X4_isThere fu (l := l) (D := D) (cA := cA) (base := base) (b := b)).2⟩) (cons_all (⟨⟨show (1 : Nat) ≠ 3 by decide, y_X4_reaches, prog_6_method_11_code, 4, (some .boolean), 1, "BrookStones", 4, TX4, 3, 3, (S_X4_reaches fu (l := l) (D := D) (cA := cA) (base := base) (b := b)).1, by decide, by decide, rfl, H_X4_reaches fu, rfl, mi_X4_reaches.1, mi_X4_reaches.2.1, mi_X4_reaches.2.2.1, mi_X4_reaches.2.2.2.1, mi_X4_reaches.2.2.2.2, Or.inl (tblG_of (i := 244) rfl rfl)⟩, (S_X4_reaches fu (l := l) (D := D) (cA := cA) (base := base) (b := b)).2⟩) (nil_all)))
    (nil_all)
    (nil_all)
    (T := T_X4_faultOfCells) (by decide +kernel) (cut := []) (N := 30) (D_X4_faultOfCells fu) (by decide +kernel) (fun h => absurd h (by decide)) (fun as w o h => ?_)
  unfold U_X4_faultOfCells at h
  split at h
  next =>
    split at h
    next => exact ⟨Nat.le_of_ble_eq_true rfl, fu, (E_X4_faultOfCells fu _ _ _ _ _ w).symm.trans h⟩
    next => cases h
  next => cases h
def T_X7_refusalOfCells : List (Nat × Instr) := [(0, .iload_n 1), (1, .invokestatic 256), (4, .ifCond .ne 5), (7, .iconst (-1)), (8, .ireturn), (9, .iload_n 2), (10, .invokestatic 259), (13, .ifCond .ne 6), (16, .bipush (-2)), (18, .ireturn), (19, .aload_n 0), (20, .getfield 21), (23, .iload_n 1), (24, .iload_n 2), (25, .iload_n 3), (26, .iload 4), (28, .invokevirtual 305), (31, .istore 5), (33, .iload 5), (35, .ifCond .ne 7), (38, .iconst 0), (39, .goto 9), (42, .aload_n 0), (43, .iload 5), (45, .invokevirtual 262), (48, .ireturn)]
def op_X7_refusalOfCells (fu : Nat) : Nat → Kont → XL → List Value → XW → Instr → Option XO := opK 6 (rzOf (some .int)) fl_BrookStones nl_BrookStones [] [] [(305, 5, 1, (U_X4_faultOfCells fu)), (262, 2, 1, (U_X7_failBy fu))] [(256, 1, 1, (U_X4_isSheet fu)), (259, 1, 1, (U_X4_isSort fu))] []
def M_X7_refusalOfCells (fu : Nat) (a0 : Nat) (a1 : Int32) (a2 : Int32) (a3 : Int32) (a4 : Int32) (w : XW) : Option XO :=
  cI (U_X4_isSheet fu [.int a1] w) fun x2 w1 =>
  (if x2 = 0 then
    some (some (.int (-1 : Int32)), w1)
  else
    cI (U_X4_isSort fu [.int a2] w1) fun x4 w3 =>
    (if x4 = 0 then
      some (some (.int (-2 : Int32)), w3)
    else
      (gR w3 a0 6 1).bind fun r5 =>
      cI (U_X4_faultOfCells fu [.ref r5, .int a1, .int a2, .int a3, .int a4] w3) fun x7 w6 =>
      (if x7 = 0 then
        some (some (.int (0 : Int32)), w6)
      else
        cI (U_X7_failBy fu [.ref a0, .int x7] w6) fun x9 w8 =>
        some (some (.int x9), w8))))
def U_X7_refusalOfCells (fu : Nat) : Orc := fun as w => match as with
  | [.ref a0, .int a1, .int a2, .int a3, .int a4] => if isO w a0 6 = true then M_X7_refusalOfCells fu a0 a1 a2 a3 a4 w else none
  | _ => none
def K_X7_refusalOfCells (fu : Nat) (n : Nat) : Kont := fun pc ls st w => none
set_option maxRecDepth 100000 in
set_option maxHeartbeats 4000000 in
theorem E_X7_refusalOfCells (fu : Nat) (a0 : Nat) (a1 : Int32) (a2 : Int32) (a3 : Int32) (a4 : Int32) (w : XW) : M_X7_refusalOfCells fu a0 a1 a2 a3 a4 w = ev T_X7_refusalOfCells (op_X7_refusalOfCells fu) [] (K_X7_refusalOfCells fu fu) 28 0 (lv_args 0 [.ref a0, .int a1, .int a2, .int a3, .int a4]) [] w := by
  rfl
theorem D_X7_refusalOfCells (fu : Nat) : DS T_X7_refusalOfCells (op_X7_refusalOfCells fu) [] 28 (K_X7_refusalOfCells fu) := by
  refine ⟨fun pc ls st w => rfl, fun n pc ls st w o h => ?_⟩
  cases h
theorem H_X7_refusalOfCells (fu : Nat) : ∀ as w o, U_X7_refusalOfCells fu as w = some o → ∃ a r, as = .ref a :: r ∧ r.length = 4 ∧ isO w a 6 = true := by
  intro as w o h
  unfold U_X7_refusalOfCells at h
  split at h
  next =>
    split at h
    next hh => exact ⟨_, _, rfl, rfl, hh⟩
    next => cases h
  next => cases h
set_option maxRecDepth 100000 in
set_option maxHeartbeats 4000000 in
theorem S_X7_refusalOfCells (fu : Nat) {l : Launch} {D : va_G} {cA : Nat → ClassId} {base b : Nat} : CS l D cA base b 3 y_X7_refusalOfCells prog_1_method_39_code 6 (some .int) (U_X7_refusalOfCells fu) ∧ OM (U_X7_refusalOfCells fu) := by
  refine CS_of (d := 2) (y := y_X7_refusalOfCells) (cc := prog_1_method_39_code) (nL := 6) (ret := (some .int)) (F := U_X7_refusalOfCells fu) (fl := fl_BrookStones) (nl := nl_BrookStones) (kl := []) (k2 := []) (mv := [(305, 5, 1, (U_X4_faultOfCells fu)), (262, 2, 1, (U_X7_failBy fu))]) (ms := [(256, 1, 1, (U_X4_isSheet fu)), (259, 1, 1, (U_X4_isSort fu))]) (mi := []) (ini := false) hI_w fl_BrookStones_ok nl_BrookStones_ok nil_all nil_all
    (cons_all (⟨⟨show (1 : Nat) ≠ 3 by decide, y_X4_faultOfCells, prog_6_method_12_code, 5, (some .int), 2, "BrookStones", 4, TX4, 3, 4, (S_X4_faultOfCells fu (l := l) (D := D) (cA := cA) (base := base) (b := b)).1, by decide, by decide, rfl, H_X4_faultOfCells fu, rfl, mi_X4_faultOfCells.1, mi_X4_faultOfCells.2.1, mi_X4_faultOfCells.2.2.1, mi_X4_faultOfCells.2.2.2.1, mi_X4_faultOfCells.2.2.2.2, Or.inr (tblN_of (i := 236) rfl rfl)⟩, (S_X4_faultOfCells fu (l := l) (D := D) (cA := cA) (base := base) (b := b)).2⟩) (cons_all (⟨⟨show (1 : Nat) ≠ 3 by decide, y_X7_failBy, prog_1_method_40_code, 2, (some .int), 1, "BrookStones", 6, TX7, 8, 1, (S_X7_failBy fu (l := l) (D := D) (cA := cA) (base := base) (b := b)).1, by decide, by decide, rfl, H_X7_failBy fu, rfl, mi_X7_failBy.1, mi_X7_failBy.2.1, mi_X7_failBy.2.2.1, mi_X7_failBy.2.2.2.1, mi_X7_failBy.2.2.2.2, Or.inl (tblG_of (i := 248) rfl rfl)⟩, (S_X7_failBy fu (l := l) (D := D) (cA := cA) (base := base) (b := b)).2⟩) (nil_all)))
    (cons_all (⟨Or.inl ⟨show (1 : Nat) ≠ 3 by decide, y_X4_isSheet, prog_6_method_2_code, 1, (some .boolean), 2, "BrookStones", (S_X4_isSheet fu (l := l) (D := D) (cA := cA) (base := base) (b := b)).1, by decide, by decide, mi_X4_isSheet.1, mi_X4_isSheet.2.1, mi_X4_isSheet.2.2.1, mi_X4_isSheet.2.2.2, Or.inr (tblN_of (i := 227) rfl rfl)⟩, (S_X4_isSheet fu (l := l) (D := D) (cA := cA) (base := base) (b := b)).2⟩) (cons_all (⟨Or.inl ⟨show (1 : Nat) ≠ 3 by decide, y_X4_isSort, prog_6_method_3_code, 1, (some .boolean), 2, "BrookStones", (S_X4_isSort fu (l := l) (D := D) (cA := cA) (base := base) (b := b)).1, by decide, by decide, mi_X4_isSort.1, mi_X4_isSort.2.1, mi_X4_isSort.2.2.1, mi_X4_isSort.2.2.2, Or.inr (tblN_of (i := 233) rfl rfl)⟩, (S_X4_isSort fu (l := l) (D := D) (cA := cA) (base := base) (b := b)).2⟩) (nil_all)))
    (nil_all)
    (T := T_X7_refusalOfCells) (by decide +kernel) (cut := []) (N := 28) (D_X7_refusalOfCells fu) (by decide +kernel) (fun h => absurd h (by decide)) (fun as w o h => ?_)
  unfold U_X7_refusalOfCells at h
  split at h
  next =>
    split at h
    next => exact ⟨Nat.le_of_ble_eq_true rfl, fu, (E_X7_refusalOfCells fu _ _ _ _ _ w).symm.trans h⟩
    next => cases h
  next => cases h
def T_X4_at : List (Nat × Instr) := [(0, .aload_n 0), (1, .getfield 18), (4, .iload_n 1), (5, .bipush 60), (7, .imul), (8, .iload_n 2), (9, .iadd), (10, .iaload), (11, .ireturn)]
def op_X4_at (fu : Nat) : Nat → Kont → XL → List Value → XW → Instr → Option XO := opK 3 (rzOf (some .int)) fl_BrookStones_Sheets [] [] [] [] [] []
def M_X4_at (fu : Nat) (a0 : Nat) (a1 : Int32) (a2 : Int32) (w : XW) : Option XO :=
  (gR w a0 4 2).bind fun r1 =>
  (aI w r1 ((a1 * (60 : Int32)) + a2)).bind fun x2 =>
  some (some (.int x2), w)
def U_X4_at (fu : Nat) : Orc := fun as w => match as with
  | [.ref a0, .int a1, .int a2] => if isO w a0 4 = true then M_X4_at fu a0 a1 a2 w else none
  | _ => none
def K_X4_at (fu : Nat) (n : Nat) : Kont := fun pc ls st w => none
set_option maxRecDepth 100000 in
set_option maxHeartbeats 4000000 in
theorem E_X4_at (fu : Nat) (a0 : Nat) (a1 : Int32) (a2 : Int32) (w : XW) : M_X4_at fu a0 a1 a2 w = ev T_X4_at (op_X4_at fu) [] (K_X4_at fu fu) 11 0 (lv_args 0 [.ref a0, .int a1, .int a2]) [] w := by
  rfl
theorem D_X4_at (fu : Nat) : DS T_X4_at (op_X4_at fu) [] 11 (K_X4_at fu) := by
  refine ⟨fun pc ls st w => rfl, fun n pc ls st w o h => ?_⟩
  cases h
theorem H_X4_at (fu : Nat) : ∀ as w o, U_X4_at fu as w = some o → ∃ a r, as = .ref a :: r ∧ r.length = 2 ∧ isO w a 4 = true := by
  intro as w o h
  unfold U_X4_at at h
  split at h
  next =>
    split at h
    next hh => exact ⟨_, _, rfl, rfl, hh⟩
    next => cases h
  next => cases h
set_option maxRecDepth 100000 in
set_option maxHeartbeats 4000000 in
theorem S_X4_at (fu : Nat) {l : Launch} {D : va_G} {cA : Nat → ClassId} {base b : Nat} : CS l D cA base b 1 y_X4_at prog_6_method_7_code 3 (some .int) (U_X4_at fu) ∧ OM (U_X4_at fu) := by
  refine CS_of (d := 0) (y := y_X4_at) (cc := prog_6_method_7_code) (nL := 3) (ret := (some .int)) (F := U_X4_at fu) (fl := fl_BrookStones_Sheets) (nl := []) (kl := []) (k2 := []) (mv := []) (ms := []) (mi := []) (ini := false) hI_w fl_BrookStones_Sheets_ok nil_all nil_all nil_all
    (nil_all)
    (nil_all)
    (nil_all)
    (T := T_X4_at) (by decide +kernel) (cut := []) (N := 11) (D_X4_at fu) (by decide +kernel) (fun h => absurd h (by decide)) (fun as w o h => ?_)
  unfold U_X4_at at h
  split at h
  next =>
    split at h
    next => exact ⟨Nat.le_of_ble_eq_true rfl, fu, (E_X4_at fu _ _ _ w).symm.trans h⟩
    next => cases h
  next => cases h
def T_X5_isDigit : List (Nat × Instr) := [(0, .iload_n 0), (1, .bipush 48), (3, .bipush 57), (5, .invokestatic 57), (8, .ireturn)]
def op_X5_isDigit (fu : Nat) : Nat → Kont → XL → List Value → XW → Instr → Option XO := opK 1 (rzOf (some .boolean)) fl_BrookStones_Text [] [] [] [] [(57, 3, 1, (U_X7_isWithin fu))] []
def M_X5_isDigit (fu : Nat) (a0 : Int32) (w : XW) : Option XO :=
  cI (U_X7_isWithin fu [.int a0, .int (48 : Int32), .int (57 : Int32)] w) fun x2 w1 =>
  retZ x2 w1
def U_X5_isDigit (fu : Nat) : Orc := fun as w => match as with
  | [.int a0] => M_X5_isDigit fu a0 w
  | _ => none
def K_X5_isDigit (fu : Nat) (n : Nat) : Kont := fun pc ls st w => none
set_option maxRecDepth 100000 in
set_option maxHeartbeats 4000000 in
theorem E_X5_isDigit (fu : Nat) (a0 : Int32) (w : XW) : M_X5_isDigit fu a0 w = ev T_X5_isDigit (op_X5_isDigit fu) [] (K_X5_isDigit fu fu) 7 0 (lv_args 0 [.int a0]) [] w := by
  rfl
theorem D_X5_isDigit (fu : Nat) : DS T_X5_isDigit (op_X5_isDigit fu) [] 7 (K_X5_isDigit fu) := by
  refine ⟨fun pc ls st w => rfl, fun n pc ls st w o h => ?_⟩
  cases h
set_option maxRecDepth 100000 in
set_option maxHeartbeats 4000000 in
theorem S_X5_isDigit (fu : Nat) {l : Launch} {D : va_G} {cA : Nat → ClassId} {base b : Nat} : CS l D cA base b 2 y_X5_isDigit prog_7_method_7_code 1 (some .boolean) (U_X5_isDigit fu) ∧ OM (U_X5_isDigit fu) := by
  refine CS_of (d := 1) (y := y_X5_isDigit) (cc := prog_7_method_7_code) (nL := 1) (ret := (some .boolean)) (F := U_X5_isDigit fu) (fl := fl_BrookStones_Text) (nl := []) (kl := []) (k2 := []) (mv := []) (ms := [(57, 3, 1, (U_X7_isWithin fu))]) (mi := []) (ini := false) hI_w fl_BrookStones_Text_ok nil_all nil_all nil_all
    (nil_all)
    (cons_all (⟨Or.inl ⟨show (1 : Nat) ≠ 3 by decide, y_X7_isWithin, prog_1_method_46_code, 3, (some .boolean), 1, "BrookStones", (S_X7_isWithin fu (l := l) (D := D) (cA := cA) (base := base) (b := b)).1, by decide, by decide, mi_X7_isWithin.1, mi_X7_isWithin.2.1, mi_X7_isWithin.2.2.1, mi_X7_isWithin.2.2.2, Or.inr (tblN_of (i := 265) rfl rfl)⟩, (S_X7_isWithin fu (l := l) (D := D) (cA := cA) (base := base) (b := b)).2⟩) (nil_all))
    (nil_all)
    (T := T_X5_isDigit) (by decide +kernel) (cut := []) (N := 7) (D_X5_isDigit fu) (by decide +kernel) (fun h => absurd h (by decide)) (fun as w o h => ?_)
  unfold U_X5_isDigit at h
  split at h
  next =>
    exact ⟨Nat.le_of_ble_eq_true rfl, fu, (E_X5_isDigit fu _ w).symm.trans h⟩
  next => cases h
def T_X5_cellsTold : List (Nat × Instr) := [(0, .iconst 0), (1, .istore 4), (3, .iload 4), (5, .bipush 7), (7, .if_icmp .ge 34), (10, .iload 4), (12, .iconst 1), (13, .iadd), (14, .iload_n 3), (15, .if_icmp .ge 26), (18, .aload_n 0), (19, .iload_n 1), (20, .iload_n 2), (21, .iconst 1), (22, .iadd), (23, .iload 4), (25, .iadd), (26, .invokevirtual 19), (29, .invokestatic 50), (32, .ifCond .eq 9), (35, .iinc 4 1), (38, .goto (-35)), (41, .iload 4), (43, .iconst 3), (44, .invokestatic 54), (47, .ireturn)]
def op_X5_cellsTold (fu : Nat) : Nat → Kont → XL → List Value → XW → Instr → Option XO := opK 5 (rzOf (some .int)) fl_BrookStones_Text [] [] [] [(19, 3, 1, (U_X4_at fu))] [(50, 1, 1, (U_X5_isDigit fu)), (54, 2, 3, oMax)] []
def F_X5_cellsTold (fu : Nat) : Nat → (Nat → Int32 → Int32 → Int32 → Int32 → XW → Option XO)
  | 0 => fun _ _ _ _ _ _ => none
  | n + 1 => (fun a0 a1 a2 a3 a4 w =>
    (if a4 < (7 : Int32) then
      (if (a4 + (1 : Int32)) < a3 then
        cI (U_X4_at fu [.ref a0, .int a1, .int ((a2 + (1 : Int32)) + a4)] w) fun x6 w5 =>
        cI (U_X5_isDigit fu [.int x6] w5) fun x8 w7 =>
        (if x8 = 0 then
          cI (oMax [.int a4, .int (3 : Int32)] w7) fun x10 w9 =>
          some (some (.int x10), w9)
        else
          (F_X5_cellsTold fu n) a0 a1 a2 a3 (a4 + (1 : Int32)) w7)
      else
        cI (oMax [.int a4, .int (3 : Int32)] w) fun x4 w3 =>
        some (some (.int x4), w3))
    else
      cI (oMax [.int a4, .int (3 : Int32)] w) fun x2 w1 =>
      some (some (.int x2), w1)))
def M_X5_cellsTold (fu : Nat) (a0 : Nat) (a1 : Int32) (a2 : Int32) (a3 : Int32) (w : XW) : Option XO :=
  (F_X5_cellsTold fu fu) a0 a1 a2 a3 (0 : Int32) w
def U_X5_cellsTold (fu : Nat) : Orc := fun as w => match as with
  | [.ref a0, .int a1, .int a2, .int a3] => M_X5_cellsTold fu a0 a1 a2 a3 w
  | _ => none
def K_X5_cellsTold (fu : Nat) (n : Nat) : Kont := fun pc ls st w => bif pc == 3 then ((xr ls 0).bind fun a0 => (xi ls 1).bind fun a1 => (xi ls 2).bind fun a2 => (xi ls 3).bind fun a3 => (xi ls 4).bind fun a4 => skN st ((F_X5_cellsTold fu n) a0 a1 a2 a3 a4 w)) else none
set_option maxRecDepth 100000 in
set_option maxHeartbeats 4000000 in
theorem E_X5_cellsTold_3 (fu : Nat) (n : Nat) (a0 : Nat) (a1 : Int32) (a2 : Int32) (a3 : Int32) (a4 : Int32) (w : XW) : (F_X5_cellsTold fu (n + 1)) a0 a1 a2 a3 a4 w = ev T_X5_cellsTold (op_X5_cellsTold fu) [3] (K_X5_cellsTold fu n) 28 3 [(0, .ref a0), (1, .int a1), (2, .int a2), (3, .int a3), (4, .int a4)] [] w := by
  rfl
set_option maxRecDepth 100000 in
set_option maxHeartbeats 4000000 in
theorem E_X5_cellsTold (fu : Nat) (a0 : Nat) (a1 : Int32) (a2 : Int32) (a3 : Int32) (w : XW) : M_X5_cellsTold fu a0 a1 a2 a3 w = ev T_X5_cellsTold (op_X5_cellsTold fu) [3] (K_X5_cellsTold fu fu) 28 0 (lv_args 0 [.ref a0, .int a1, .int a2, .int a3]) [] w := by
  rfl
theorem D_X5_cellsTold (fu : Nat) : DS T_X5_cellsTold (op_X5_cellsTold fu) [3] 28 (K_X5_cellsTold fu) := by
  refine ⟨fun pc ls st w => c_none (b_none fun _ => b_none fun _ => b_none fun _ => b_none fun _ => b_none fun _ => skN_none rfl) (rfl), fun n pc ls st w o h => ?_⟩
  rcases c_some h with ⟨rfl, h⟩ | h
  · obtain ⟨a0, h0, h⟩ := some_of h; obtain ⟨a1, h1, h⟩ := some_of h; obtain ⟨a2, h2, h⟩ := some_of h; obtain ⟨a3, h3, h⟩ := some_of h; obtain ⟨a4, h4, h⟩ := some_of h;
    obtain ⟨e, g⟩ := skN_of h
    subst e
    exact ⟨[(0, .ref a0), (1, .int a1), (2, .int a2), (3, .int a3), (4, .int a4)], cons_all (xr_of h0) (cons_all (xi_of h1) (cons_all (xi_of h2) (cons_all (xi_of h3) (cons_all (xi_of h4) (nil_all))))), (E_X5_cellsTold_3 fu n a0 a1 a2 a3 a4 w).symm.trans g⟩
  · cases h
set_option maxRecDepth 100000 in
set_option maxHeartbeats 4000000 in
theorem S_X5_cellsTold (fu : Nat) {l : Launch} {D : va_G} {cA : Nat → ClassId} {base b : Nat} : CS l D cA base b 3 y_X5_cellsTold prog_7_method_5_code 5 (some .int) (U_X5_cellsTold fu) ∧ OM (U_X5_cellsTold fu) := by
  refine CS_of (d := 2) (y := y_X5_cellsTold) (cc := prog_7_method_5_code) (nL := 5) (ret := (some .int)) (F := U_X5_cellsTold fu) (fl := fl_BrookStones_Text) (nl := []) (kl := []) (k2 := []) (mv := [(19, 3, 1, (U_X4_at fu))]) (ms := [(50, 1, 1, (U_X5_isDigit fu)), (54, 2, 3, oMax)]) (mi := []) (ini := false) hI_w fl_BrookStones_Text_ok nil_all nil_all nil_all
    (cons_all (⟨⟨show (1 : Nat) ≠ 3 by decide, y_X4_at, prog_6_method_7_code, 3, (some .int), 1, "BrookStones", 4, TX4, 3, 2, (S_X4_at fu (l := l) (D := D) (cA := cA) (base := base) (b := b)).1, by decide, by decide, rfl, H_X4_at fu, rfl, mi_X4_at.1, mi_X4_at.2.1, mi_X4_at.2.2.1, mi_X4_at.2.2.2.1, mi_X4_at.2.2.2.2, Or.inr (tblN_of (i := 258) rfl rfl)⟩, (S_X4_at fu (l := l) (D := D) (cA := cA) (base := base) (b := b)).2⟩) (nil_all))
    (cons_all (⟨Or.inl ⟨show (1 : Nat) ≠ 3 by decide, y_X5_isDigit, prog_7_method_7_code, 1, (some .boolean), 2, "BrookStones", (S_X5_isDigit fu (l := l) (D := D) (cA := cA) (base := base) (b := b)).1, by decide, by decide, mi_X5_isDigit.1, mi_X5_isDigit.2.1, mi_X5_isDigit.2.2.1, mi_X5_isDigit.2.2.2, Or.inl (tblG_of (i := 262) rfl rfl)⟩, (S_X5_isDigit fu (l := l) (D := D) (cA := cA) (base := base) (b := b)).2⟩) (cons_all (⟨Or.inr (Or.inr (Or.inl ⟨rfl, rfl, rfl, tblG_of (i := 266) rfl rfl, tblG_of (i := 267) rfl rfl, tblG_of (i := 10) rfl rfl, tblG_of (i := 268) rfl rfl⟩)), om_max⟩) (nil_all)))
    (nil_all)
    (T := T_X5_cellsTold) (by decide +kernel) (cut := [3]) (N := 28) (D_X5_cellsTold fu) (by decide +kernel) (fun h => absurd h (by decide)) (fun as w o h => ?_)
  unfold U_X5_cellsTold at h
  split at h
  next =>
    exact ⟨Nat.le_of_ble_eq_true rfl, fu, (E_X5_cellsTold fu _ _ _ _ w).symm.trans h⟩
  next => cases h
def T_X5_length : List (Nat × Instr) := [(0, .iconst 2), (1, .iload_n 0), (2, .imul), (3, .bipush 6), (5, .iadd), (6, .ireturn)]
def op_X5_length (fu : Nat) : Nat → Kont → XL → List Value → XW → Instr → Option XO := opK 1 (rzOf (some .int)) fl_BrookStones_Text [] [] [] [] [] []
def M_X5_length (fu : Nat) (a0 : Int32) (w : XW) : Option XO :=
  some (some (.int (((2 : Int32) * a0) + (6 : Int32))), w)
def U_X5_length (fu : Nat) : Orc := fun as w => match as with
  | [.int a0] => M_X5_length fu a0 w
  | _ => none
def K_X5_length (fu : Nat) (n : Nat) : Kont := fun pc ls st w => none
set_option maxRecDepth 100000 in
set_option maxHeartbeats 4000000 in
theorem E_X5_length (fu : Nat) (a0 : Int32) (w : XW) : M_X5_length fu a0 w = ev T_X5_length (op_X5_length fu) [] (K_X5_length fu fu) 8 0 (lv_args 0 [.int a0]) [] w := by
  rfl
theorem D_X5_length (fu : Nat) : DS T_X5_length (op_X5_length fu) [] 8 (K_X5_length fu) := by
  refine ⟨fun pc ls st w => rfl, fun n pc ls st w o h => ?_⟩
  cases h
set_option maxRecDepth 100000 in
set_option maxHeartbeats 4000000 in
theorem S_X5_length (fu : Nat) {l : Launch} {D : va_G} {cA : Nat → ClassId} {base b : Nat} : CS l D cA base b 1 y_X5_length prog_7_method_4_code 1 (some .int) (U_X5_length fu) ∧ OM (U_X5_length fu) := by
  refine CS_of (d := 0) (y := y_X5_length) (cc := prog_7_method_4_code) (nL := 1) (ret := (some .int)) (F := U_X5_length fu) (fl := fl_BrookStones_Text) (nl := []) (kl := []) (k2 := []) (mv := []) (ms := []) (mi := []) (ini := false) hI_w fl_BrookStones_Text_ok nil_all nil_all nil_all
    (nil_all)
    (nil_all)
    (nil_all)
    (T := T_X5_length) (by decide +kernel) (cut := []) (N := 8) (D_X5_length fu) (by decide +kernel) (fun h => absurd h (by decide)) (fun as w o h => ?_)
  unfold U_X5_length at h
  split at h
  next =>
    exact ⟨Nat.le_of_ble_eq_true rfl, fu, (E_X5_length fu _ w).symm.trans h⟩
  next => cases h
def T_X5_goesOn : List (Nat × Instr) := [(0, .iload_n 1), (1, .ifCond .ne 15), (4, .iload_n 0), (5, .bipush 100), (7, .if_icmp .ne 7), (10, .iconst 1), (11, .goto 4), (14, .iconst 0), (15, .ireturn), (16, .iload_n 1), (17, .iload_n 2), (18, .iconst 1), (19, .iadd), (20, .if_icmp .eq 12), (23, .iload_n 1), (24, .iconst 2), (25, .iload_n 2), (26, .imul), (27, .iconst 3), (28, .iadd), (29, .if_icmp .ne 15), (32, .iload_n 0), (33, .bipush 59), (35, .if_icmp .ne 7), (38, .iconst 1), (39, .goto 4), (42, .iconst 0), (43, .ireturn), (44, .iload_n 1), (45, .iload_n 2), (46, .iconst 2), (47, .iadd), (48, .if_icmp .ne 15), (51, .iload_n 0), (52, .bipush 98), (54, .if_icmp .ne 7), (57, .iconst 1), (58, .goto 4), (61, .iconst 0), (62, .ireturn), (63, .iload_n 1), (64, .iconst 2), (65, .iload_n 2), (66, .imul), (67, .iconst 4), (68, .iadd), (69, .if_icmp .ne 17), (72, .iload_n 0), (73, .bipush 112), (75, .if_icmp .ne 7), (78, .iconst 1), (79, .goto 11), (82, .iconst 0), (83, .goto 7), (86, .iload_n 0), (87, .invokestatic 50), (90, .ireturn)]
def op_X5_goesOn (fu : Nat) : Nat → Kont → XL → List Value → XW → Instr → Option XO := opK 3 (rzOf (some .boolean)) fl_BrookStones_Text [] [] [] [] [(50, 1, 1, (U_X5_isDigit fu))] []
def M_X5_goesOn (fu : Nat) (a0 : Int32) (a1 : Int32) (a2 : Int32) (w : XW) : Option XO :=
  (if a1 = 0 then
    (if a0 = (100 : Int32) then
      retZ (1 : Int32) w
    else
      retZ (0 : Int32) w)
  else
    (if a1 = (a2 + (1 : Int32)) then
      (if a0 = (59 : Int32) then
        retZ (1 : Int32) w
      else
        retZ (0 : Int32) w)
    else
      (if a1 = (((2 : Int32) * a2) + (3 : Int32)) then
        (if a0 = (59 : Int32) then
          retZ (1 : Int32) w
        else
          retZ (0 : Int32) w)
      else
        (if a1 = (a2 + (2 : Int32)) then
          (if a0 = (98 : Int32) then
            retZ (1 : Int32) w
          else
            retZ (0 : Int32) w)
        else
          (if a1 = (((2 : Int32) * a2) + (4 : Int32)) then
            (if a0 = (112 : Int32) then
              retZ (1 : Int32) w
            else
              retZ (0 : Int32) w)
          else
            cI (U_X5_isDigit fu [.int a0] w) fun x2 w1 =>
            retZ x2 w1)))))
def U_X5_goesOn (fu : Nat) : Orc := fun as w => match as with
  | [.int a0, .int a1, .int a2] => M_X5_goesOn fu a0 a1 a2 w
  | _ => none
def K_X5_goesOn (fu : Nat) (n : Nat) : Kont := fun pc ls st w => none
set_option maxRecDepth 100000 in
set_option maxHeartbeats 4000000 in
theorem E_X5_goesOn (fu : Nat) (a0 : Int32) (a1 : Int32) (a2 : Int32) (w : XW) : M_X5_goesOn fu a0 a1 a2 w = ev T_X5_goesOn (op_X5_goesOn fu) [] (K_X5_goesOn fu fu) 59 0 (lv_args 0 [.int a0, .int a1, .int a2]) [] w := by
  rfl
theorem D_X5_goesOn (fu : Nat) : DS T_X5_goesOn (op_X5_goesOn fu) [] 59 (K_X5_goesOn fu) := by
  refine ⟨fun pc ls st w => rfl, fun n pc ls st w o h => ?_⟩
  cases h
set_option maxRecDepth 100000 in
set_option maxHeartbeats 4000000 in
theorem S_X5_goesOn (fu : Nat) {l : Launch} {D : va_G} {cA : Nat → ClassId} {base b : Nat} : CS l D cA base b 3 y_X5_goesOn prog_7_method_6_code 3 (some .boolean) (U_X5_goesOn fu) ∧ OM (U_X5_goesOn fu) := by
  refine CS_of (d := 2) (y := y_X5_goesOn) (cc := prog_7_method_6_code) (nL := 3) (ret := (some .boolean)) (F := U_X5_goesOn fu) (fl := fl_BrookStones_Text) (nl := []) (kl := []) (k2 := []) (mv := []) (ms := [(50, 1, 1, (U_X5_isDigit fu))]) (mi := []) (ini := false) hI_w fl_BrookStones_Text_ok nil_all nil_all nil_all
    (nil_all)
    (cons_all (⟨Or.inl ⟨show (1 : Nat) ≠ 3 by decide, y_X5_isDigit, prog_7_method_7_code, 1, (some .boolean), 2, "BrookStones", (S_X5_isDigit fu (l := l) (D := D) (cA := cA) (base := base) (b := b)).1, by decide, by decide, mi_X5_isDigit.1, mi_X5_isDigit.2.1, mi_X5_isDigit.2.2.1, mi_X5_isDigit.2.2.2, Or.inl (tblG_of (i := 262) rfl rfl)⟩, (S_X5_isDigit fu (l := l) (D := D) (cA := cA) (base := base) (b := b)).2⟩) (nil_all))
    (nil_all)
    (T := T_X5_goesOn) (by decide +kernel) (cut := []) (N := 59) (D_X5_goesOn fu) (by decide +kernel) (fun h => absurd h (by decide)) (fun as w o h => ?_)
  unfold U_X5_goesOn at h
  split at h
  next =>
    exact ⟨Nat.le_of_ble_eq_true rfl, fu, (E_X5_goesOn fu _ _ _ w).symm.trans h⟩
  next => cases h
def T_X5_firstFault : List (Nat × Instr) := [(0, .aload_n 0), (1, .iload_n 1), (2, .iload_n 2), (3, .iload_n 3), (4, .invokestatic 9), (7, .istore 4), (9, .iload 4), (11, .invokestatic 15), (14, .istore 5), (16, .iconst 0), (17, .istore 6), (19, .iload 6), (21, .iload_n 3), (22, .if_icmp .ge 38), (25, .iload 6), (27, .iload 5), (29, .if_icmp .ge 31), (32, .aload_n 0), (33, .iload_n 1), (34, .iload_n 2), (35, .iload 6), (37, .iadd), (38, .invokevirtual 19), (41, .iload 6), (43, .iload 4), (45, .invokestatic 25), (48, .ifCond .ne 6), (51, .iload 6), (53, .ireturn), (54, .iinc 6 1), (57, .goto (-38)), (60, .iload_n 3), (61, .iload 5), (63, .if_icmp .ne 7), (66, .iconst (-1)), (67, .goto 9), (70, .iload_n 3), (71, .iload 5), (73, .invokestatic 29), (76, .ireturn)]
def op_X5_firstFault (fu : Nat) : Nat → Kont → XL → List Value → XW → Instr → Option XO := opK 7 (rzOf (some .int)) fl_BrookStones_Text [] [] [] [(19, 3, 1, (U_X4_at fu))] [(9, 4, 1, (U_X5_cellsTold fu)), (15, 1, 1, (U_X5_length fu)), (25, 3, 1, (U_X5_goesOn fu)), (29, 2, 3, oMin)] []
def F_X5_firstFault (fu : Nat) : Nat → (Nat → Int32 → Int32 → Int32 → Int32 → Int32 → Int32 → XW → Option XO)
  | 0 => fun _ _ _ _ _ _ _ _ => none
  | n + 1 => (fun a0 a1 a2 a3 a4 a5 a6 w =>
    (if a6 < a3 then
      (if a6 < a5 then
        cI (U_X4_at fu [.ref a0, .int a1, .int (a2 + a6)] w) fun x6 w5 =>
        cI (U_X5_goesOn fu [.int x6, .int a6, .int a4] w5) fun x8 w7 =>
        (if x8 = 0 then
          some (some (.int a6), w7)
        else
          (F_X5_firstFault fu n) a0 a1 a2 a3 a4 a5 (a6 + (1 : Int32)) w7)
      else
        (if a3 = a5 then
          some (some (.int (-1 : Int32)), w)
        else
          cI (oMin [.int a3, .int a5] w) fun x4 w3 =>
          some (some (.int x4), w3)))
    else
      (if a3 = a5 then
        some (some (.int (-1 : Int32)), w)
      else
        cI (oMin [.int a3, .int a5] w) fun x2 w1 =>
        some (some (.int x2), w1))))
def M_X5_firstFault (fu : Nat) (a0 : Nat) (a1 : Int32) (a2 : Int32) (a3 : Int32) (w : XW) : Option XO :=
  cI (U_X5_cellsTold fu [.ref a0, .int a1, .int a2, .int a3] w) fun x10 w9 =>
  cI (U_X5_length fu [.int x10] w9) fun x12 w11 =>
  (F_X5_firstFault fu fu) a0 a1 a2 a3 x10 x12 (0 : Int32) w11
def U_X5_firstFault (fu : Nat) : Orc := fun as w => match as with
  | [.ref a0, .int a1, .int a2, .int a3] => M_X5_firstFault fu a0 a1 a2 a3 w
  | _ => none
def K_X5_firstFault (fu : Nat) (n : Nat) : Kont := fun pc ls st w => bif pc == 19 then ((xr ls 0).bind fun a0 => (xi ls 1).bind fun a1 => (xi ls 2).bind fun a2 => (xi ls 3).bind fun a3 => (xi ls 4).bind fun a4 => (xi ls 5).bind fun a5 => (xi ls 6).bind fun a6 => skN st ((F_X5_firstFault fu n) a0 a1 a2 a3 a4 a5 a6 w)) else none
set_option maxRecDepth 100000 in
set_option maxHeartbeats 4000000 in
theorem E_X5_firstFault_19 (fu : Nat) (n : Nat) (a0 : Nat) (a1 : Int32) (a2 : Int32) (a3 : Int32) (a4 : Int32) (a5 : Int32) (a6 : Int32) (w : XW) : (F_X5_firstFault fu (n + 1)) a0 a1 a2 a3 a4 a5 a6 w = ev T_X5_firstFault (op_X5_firstFault fu) [19] (K_X5_firstFault fu n) 42 19 [(0, .ref a0), (1, .int a1), (2, .int a2), (3, .int a3), (4, .int a4), (5, .int a5), (6, .int a6)] [] w := by
  rfl
set_option maxRecDepth 100000 in
set_option maxHeartbeats 4000000 in
theorem E_X5_firstFault (fu : Nat) (a0 : Nat) (a1 : Int32) (a2 : Int32) (a3 : Int32) (w : XW) : M_X5_firstFault fu a0 a1 a2 a3 w = ev T_X5_firstFault (op_X5_firstFault fu) [19] (K_X5_firstFault fu fu) 42 0 (lv_args 0 [.ref a0, .int a1, .int a2, .int a3]) [] w := by
  rfl
theorem D_X5_firstFault (fu : Nat) : DS T_X5_firstFault (op_X5_firstFault fu) [19] 42 (K_X5_firstFault fu) := by
  refine ⟨fun pc ls st w => c_none (b_none fun _ => b_none fun _ => b_none fun _ => b_none fun _ => b_none fun _ => b_none fun _ => b_none fun _ => skN_none rfl) (rfl), fun n pc ls st w o h => ?_⟩
  rcases c_some h with ⟨rfl, h⟩ | h
  · obtain ⟨a0, h0, h⟩ := some_of h; obtain ⟨a1, h1, h⟩ := some_of h; obtain ⟨a2, h2, h⟩ := some_of h; obtain ⟨a3, h3, h⟩ := some_of h; obtain ⟨a4, h4, h⟩ := some_of h; obtain ⟨a5, h5, h⟩ := some_of h; obtain ⟨a6, h6, h⟩ := some_of h;
    obtain ⟨e, g⟩ := skN_of h
    subst e
    exact ⟨[(0, .ref a0), (1, .int a1), (2, .int a2), (3, .int a3), (4, .int a4), (5, .int a5), (6, .int a6)], cons_all (xr_of h0) (cons_all (xi_of h1) (cons_all (xi_of h2) (cons_all (xi_of h3) (cons_all (xi_of h4) (cons_all (xi_of h5) (cons_all (xi_of h6) (nil_all))))))), (E_X5_firstFault_19 fu n a0 a1 a2 a3 a4 a5 a6 w).symm.trans g⟩
  · cases h
set_option maxRecDepth 100000 in
set_option maxHeartbeats 4000000 in
theorem S_X5_firstFault (fu : Nat) {l : Launch} {D : va_G} {cA : Nat → ClassId} {base b : Nat} : CS l D cA base b 4 y_X5_firstFault prog_7_method_2_code 7 (some .int) (U_X5_firstFault fu) ∧ OM (U_X5_firstFault fu) := by
  refine CS_of (d := 3) (y := y_X5_firstFault) (cc := prog_7_method_2_code) (nL := 7) (ret := (some .int)) (F := U_X5_firstFault fu) (fl := fl_BrookStones_Text) (nl := []) (kl := []) (k2 := []) (mv := [(19, 3, 1, (U_X4_at fu))]) (ms := [(9, 4, 1, (U_X5_cellsTold fu)), (15, 1, 1, (U_X5_length fu)), (25, 3, 1, (U_X5_goesOn fu)), (29, 2, 3, oMin)]) (mi := []) (ini := false) hI_w fl_BrookStones_Text_ok nil_all nil_all nil_all
    (cons_all (⟨⟨show (1 : Nat) ≠ 3 by decide, y_X4_at, prog_6_method_7_code, 3, (some .int), 1, "BrookStones", 4, TX4, 3, 2, (S_X4_at fu (l := l) (D := D) (cA := cA) (base := base) (b := b)).1, by decide, by decide, rfl, H_X4_at fu, rfl, mi_X4_at.1, mi_X4_at.2.1, mi_X4_at.2.2.1, mi_X4_at.2.2.2.1, mi_X4_at.2.2.2.2, Or.inr (tblN_of (i := 258) rfl rfl)⟩, (S_X4_at fu (l := l) (D := D) (cA := cA) (base := base) (b := b)).2⟩) (nil_all))
    (cons_all (⟨Or.inl ⟨show (1 : Nat) ≠ 3 by decide, y_X5_cellsTold, prog_7_method_5_code, 5, (some .int), 3, "BrookStones", (S_X5_cellsTold fu (l := l) (D := D) (cA := cA) (base := base) (b := b)).1, by decide, by decide, mi_X5_cellsTold.1, mi_X5_cellsTold.2.1, mi_X5_cellsTold.2.2.1, mi_X5_cellsTold.2.2.2, Or.inl (tblG_of (i := 255) rfl rfl)⟩, (S_X5_cellsTold fu (l := l) (D := D) (cA := cA) (base := base) (b := b)).2⟩) (cons_all (⟨Or.inl ⟨show (1 : Nat) ≠ 3 by decide, y_X5_length, prog_7_method_4_code, 1, (some .int), 1, "BrookStones", (S_X5_length fu (l := l) (D := D) (cA := cA) (base := base) (b := b)).1, by decide, by decide, mi_X5_length.1, mi_X5_length.2.1, mi_X5_length.2.2.1, mi_X5_length.2.2.2, Or.inl (tblG_of (i := 269) rfl rfl)⟩, (S_X5_length fu (l := l) (D := D) (cA := cA) (base := base) (b := b)).2⟩) (cons_all (⟨Or.inl ⟨show (1 : Nat) ≠ 3 by decide, y_X5_goesOn, prog_7_method_6_code, 3, (some .boolean), 3, "BrookStones", (S_X5_goesOn fu (l := l) (D := D) (cA := cA) (base := base) (b := b)).1, by decide, by decide, mi_X5_goesOn.1, mi_X5_goesOn.2.1, mi_X5_goesOn.2.2.1, mi_X5_goesOn.2.2.2, Or.inl (tblG_of (i := 272) rfl rfl)⟩, (S_X5_goesOn fu (l := l) (D := D) (cA := cA) (base := base) (b := b)).2⟩) (cons_all (⟨Or.inr (Or.inr (Or.inr ⟨rfl, rfl, rfl, tblG_of (i := 275) rfl rfl, tblG_of (i := 276) rfl rfl, tblG_of (i := 10) rfl rfl, tblG_of (i := 277) rfl rfl⟩)), om_min⟩) (nil_all)))))
    (nil_all)
    (T := T_X5_firstFault) (by decide +kernel) (cut := [19]) (N := 42) (D_X5_firstFault fu) (by decide +kernel) (fun h => absurd h (by decide)) (fun as w o h => ?_)
  unfold U_X5_firstFault at h
  split at h
  next =>
    exact ⟨Nat.le_of_ble_eq_true rfl, fu, (E_X5_firstFault fu _ _ _ _ w).symm.trans h⟩
  next => cases h
def T_X0_makeAnew : List (Nat × Instr) := [(0, .aload_n 0), (1, .getfield 18), (4, .bipush (-9)), (6, .invokestatic 36), (9, .aload_n 0), (10, .iconst 0), (11, .putfield 42), (14, .aload_n 0), (15, .iconst 0), (16, .putfield 46), (19, .aload_n 0), (20, .iconst 0), (21, .putfield 49), (24, .aload_n 0), (25, .iconst 0), (26, .putfield 52), (29, .aload_n 0), (30, .iconst 0), (31, .putfield 55), (34, .return_)]
def op_X0_makeAnew (fu : Nat) : Nat → Kont → XL → List Value → XW → Instr → Option XO := opK 1 (rzOf (none)) fl_BrookStones_Brook [] [] [] [] [(36, 2, 0, (U_J7_fill_53178 fu))] []
def M_X0_makeAnew (fu : Nat) (a0 : Nat) (w : XW) : Option XO :=
  (gR w a0 0 2).bind fun r1 =>
  cV (U_J7_fill_53178 fu [.ref r1, .int (-9 : Int32)] w) fun w2 =>
  (pF w2 a0 0 10 (.int (0 : Int32))).bind fun w3 =>
  (pF w3 a0 0 11 (.int (0 : Int32))).bind fun w4 =>
  (pF w4 a0 0 12 (.int (0 : Int32))).bind fun w5 =>
  (pF w5 a0 0 13 (.int (0 : Int32))).bind fun w6 =>
  (pF w6 a0 0 14 (.int (0 : Int32))).bind fun w7 =>
  some (none, w7)
def U_X0_makeAnew (fu : Nat) : Orc := fun as w => match as with
  | [.ref a0] => if isO w a0 0 = true then M_X0_makeAnew fu a0 w else none
  | _ => none
def K_X0_makeAnew (fu : Nat) (n : Nat) : Kont := fun pc ls st w => none
set_option maxRecDepth 100000 in
set_option maxHeartbeats 4000000 in
theorem E_X0_makeAnew (fu : Nat) (a0 : Nat) (w : XW) : M_X0_makeAnew fu a0 w = ev T_X0_makeAnew (op_X0_makeAnew fu) [] (K_X0_makeAnew fu fu) 22 0 (lv_args 0 [.ref a0]) [] w := by
  rfl
theorem D_X0_makeAnew (fu : Nat) : DS T_X0_makeAnew (op_X0_makeAnew fu) [] 22 (K_X0_makeAnew fu) := by
  refine ⟨fun pc ls st w => rfl, fun n pc ls st w o h => ?_⟩
  cases h
theorem H_X0_makeAnew (fu : Nat) : ∀ as w o, U_X0_makeAnew fu as w = some o → ∃ a r, as = .ref a :: r ∧ r.length = 0 ∧ isO w a 0 = true := by
  intro as w o h
  unfold U_X0_makeAnew at h
  split at h
  next =>
    split at h
    next hh => exact ⟨_, _, rfl, rfl, hh⟩
    next => cases h
  next => cases h
set_option maxRecDepth 100000 in
set_option maxHeartbeats 4000000 in
theorem S_X0_makeAnew (fu : Nat) {l : Launch} {D : va_G} {cA : Nat → ClassId} {base b : Nat} : CS l D cA base b 2 y_X0_makeAnew prog_2_method_2_code 1 (none) (U_X0_makeAnew fu) ∧ OM (U_X0_makeAnew fu) := by
  refine CS_of (d := 1) (y := y_X0_makeAnew) (cc := prog_2_method_2_code) (nL := 1) (ret := (none)) (F := U_X0_makeAnew fu) (fl := fl_BrookStones_Brook) (nl := []) (kl := []) (k2 := []) (mv := []) (ms := [(36, 2, 0, (U_J7_fill_53178 fu))]) (mi := []) (ini := false) hI_w fl_BrookStones_Brook_ok nil_all nil_all nil_all
    (nil_all)
    (cons_all (⟨Or.inl ⟨show (0 : Nat) ≠ 3 by decide, y_J7_fill_53178, prog_13_method_103_code, 4, (none), 1, "BrookStones", (S_J7_fill_53178 fu (l := l) (D := D) (cA := cA) (base := base) (b := b)).1, by decide, by decide, mi_J7_fill_53178.1, mi_J7_fill_53178.2.1, mi_J7_fill_53178.2.2.1, mi_J7_fill_53178.2.2.2, Or.inl (tblG_of (i := 26) rfl rfl)⟩, (S_J7_fill_53178 fu (l := l) (D := D) (cA := cA) (base := base) (b := b)).2⟩) (nil_all))
    (nil_all)
    (T := T_X0_makeAnew) (by decide +kernel) (cut := []) (N := 22) (D_X0_makeAnew fu) (by decide +kernel) (fun h => absurd h (by decide)) (fun as w o h => ?_)
  unfold U_X0_makeAnew at h
  split at h
  next =>
    split at h
    next => exact ⟨Nat.le_of_ble_eq_true rfl, fu, (E_X0_makeAnew fu _ w).symm.trans h⟩
    next => cases h
  next => cases h
def T_X5_readInto : List (Nat × Instr) := [(0, .aload_n 1), (1, .iload_n 2), (2, .iload_n 3), (3, .iload 4), (5, .invokestatic 9), (8, .istore 5), (10, .iconst 0), (11, .istore 6), (13, .iload 6), (15, .iload 5), (17, .if_icmp .ge 54), (20, .aload_n 0), (21, .getfield 34), (24, .iload 6), (26, .aload_n 1), (27, .iload_n 2), (28, .iload_n 3), (29, .iconst 1), (30, .iadd), (31, .iload 6), (33, .iadd), (34, .invokevirtual 19), (37, .bipush 48), (39, .isub), (40, .iastore), (41, .aload_n 0), (42, .getfield 40), (45, .iload 6), (47, .aload_n 1), (48, .iload_n 2), (49, .iload_n 3), (50, .iload 5), (52, .iadd), (53, .iconst 3), (54, .iadd), (55, .iload 6), (57, .iadd), (58, .invokevirtual 19), (61, .bipush 48), (63, .isub), (64, .iastore), (65, .iinc 6 1), (68, .goto (-55)), (71, .aload_n 0), (72, .aload_n 1), (73, .iload_n 2), (74, .iload_n 3), (75, .iconst 2), (76, .iload 5), (78, .imul), (79, .iadd), (80, .iconst 5), (81, .iadd), (82, .invokevirtual 19), (85, .bipush 48), (87, .isub), (88, .putfield 43), (91, .aload_n 0), (92, .iload 5), (94, .putfield 47), (97, .return_)]
def op_X5_readInto (fu : Nat) : Nat → Kont → XL → List Value → XW → Instr → Option XO := opK 7 (rzOf (none)) fl_BrookStones_Text [] [] [] [(19, 3, 1, (U_X4_at fu))] [(9, 4, 1, (U_X5_cellsTold fu))] []
def F_X5_readInto (fu : Nat) : Nat → (Nat → Nat → Int32 → Int32 → Int32 → Int32 → XW → Option XO)
  | 0 => fun _ _ _ _ _ _ _ => none
  | n + 1 => (fun a0 a1 a2 a3 a5 a6 w =>
    (if a6 < a5 then
      (gR w a0 0 0).bind fun r5 =>
      cI (U_X4_at fu [.ref a1, .int a2, .int ((a3 + (1 : Int32)) + a6)] w) fun x7 w6 =>
      (sI w6 r5 a6 (x7 - (48 : Int32))).bind fun w8 =>
      (gR w8 a0 0 1).bind fun r9 =>
      cI (U_X4_at fu [.ref a1, .int a2, .int (((a3 + a5) + (3 : Int32)) + a6)] w8) fun x11 w10 =>
      (sI w10 r9 a6 (x11 - (48 : Int32))).bind fun w12 =>
      (F_X5_readInto fu n) a0 a1 a2 a3 a5 (a6 + (1 : Int32)) w12
    else
      cI (U_X4_at fu [.ref a1, .int a2, .int ((a3 + ((2 : Int32) * a5)) + (5 : Int32))] w) fun x2 w1 =>
      (pF w1 a0 0 9 (.int (x2 - (48 : Int32)))).bind fun w3 =>
      (pF w3 a0 0 8 (.int a5)).bind fun w4 =>
      some (none, w4)))
def M_X5_readInto (fu : Nat) (a0 : Nat) (a1 : Nat) (a2 : Int32) (a3 : Int32) (a4 : Int32) (w : XW) : Option XO :=
  cI (U_X5_cellsTold fu [.ref a1, .int a2, .int a3, .int a4] w) fun x14 w13 =>
  (F_X5_readInto fu fu) a0 a1 a2 a3 x14 (0 : Int32) w13
def U_X5_readInto (fu : Nat) : Orc := fun as w => match as with
  | [.ref a0, .ref a1, .int a2, .int a3, .int a4] => M_X5_readInto fu a0 a1 a2 a3 a4 w
  | _ => none
def K_X5_readInto (fu : Nat) (n : Nat) : Kont := fun pc ls st w => bif pc == 13 then ((xr ls 0).bind fun a0 => (xr ls 1).bind fun a1 => (xi ls 2).bind fun a2 => (xi ls 3).bind fun a3 => (xi ls 5).bind fun a5 => (xi ls 6).bind fun a6 => skN st ((F_X5_readInto fu n) a0 a1 a2 a3 a5 a6 w)) else none
set_option maxRecDepth 100000 in
set_option maxHeartbeats 4000000 in
theorem E_X5_readInto_13 (fu : Nat) (n : Nat) (a0 : Nat) (a1 : Nat) (a2 : Int32) (a3 : Int32) (a5 : Int32) (a6 : Int32) (w : XW) : (F_X5_readInto fu (n + 1)) a0 a1 a2 a3 a5 a6 w = ev T_X5_readInto (op_X5_readInto fu) [13] (K_X5_readInto fu n) 63 13 [(0, .ref a0), (1, .ref a1), (2, .int a2), (3, .int a3), (5, .int a5), (6, .int a6)] [] w := by
  rfl
set_option maxRecDepth 100000 in
set_option maxHeartbeats 4000000 in
theorem E_X5_readInto (fu : Nat) (a0 : Nat) (a1 : Nat) (a2 : Int32) (a3 : Int32) (a4 : Int32) (w : XW) : M_X5_readInto fu a0 a1 a2 a3 a4 w = ev T_X5_readInto (op_X5_readInto fu) [13] (K_X5_readInto fu fu) 63 0 (lv_args 0 [.ref a0, .ref a1, .int a2, .int a3, .int a4]) [] w := by
  rfl
theorem D_X5_readInto (fu : Nat) : DS T_X5_readInto (op_X5_readInto fu) [13] 63 (K_X5_readInto fu) := by
  refine ⟨fun pc ls st w => c_none (b_none fun _ => b_none fun _ => b_none fun _ => b_none fun _ => b_none fun _ => b_none fun _ => skN_none rfl) (rfl), fun n pc ls st w o h => ?_⟩
  rcases c_some h with ⟨rfl, h⟩ | h
  · obtain ⟨a0, h0, h⟩ := some_of h; obtain ⟨a1, h1, h⟩ := some_of h; obtain ⟨a2, h2, h⟩ := some_of h; obtain ⟨a3, h3, h⟩ := some_of h; obtain ⟨a5, h5, h⟩ := some_of h; obtain ⟨a6, h6, h⟩ := some_of h;
    obtain ⟨e, g⟩ := skN_of h
    subst e
    exact ⟨[(0, .ref a0), (1, .ref a1), (2, .int a2), (3, .int a3), (5, .int a5), (6, .int a6)], cons_all (xr_of h0) (cons_all (xr_of h1) (cons_all (xi_of h2) (cons_all (xi_of h3) (cons_all (xi_of h5) (cons_all (xi_of h6) (nil_all)))))), (E_X5_readInto_13 fu n a0 a1 a2 a3 a5 a6 w).symm.trans g⟩
  · cases h
set_option maxRecDepth 100000 in
set_option maxHeartbeats 4000000 in
theorem S_X5_readInto (fu : Nat) {l : Launch} {D : va_G} {cA : Nat → ClassId} {base b : Nat} : CS l D cA base b 4 y_X5_readInto prog_7_method_3_code 7 (none) (U_X5_readInto fu) ∧ OM (U_X5_readInto fu) := by
  refine CS_of (d := 3) (y := y_X5_readInto) (cc := prog_7_method_3_code) (nL := 7) (ret := (none)) (F := U_X5_readInto fu) (fl := fl_BrookStones_Text) (nl := []) (kl := []) (k2 := []) (mv := [(19, 3, 1, (U_X4_at fu))]) (ms := [(9, 4, 1, (U_X5_cellsTold fu))]) (mi := []) (ini := false) hI_w fl_BrookStones_Text_ok nil_all nil_all nil_all
    (cons_all (⟨⟨show (1 : Nat) ≠ 3 by decide, y_X4_at, prog_6_method_7_code, 3, (some .int), 1, "BrookStones", 4, TX4, 3, 2, (S_X4_at fu (l := l) (D := D) (cA := cA) (base := base) (b := b)).1, by decide, by decide, rfl, H_X4_at fu, rfl, mi_X4_at.1, mi_X4_at.2.1, mi_X4_at.2.2.1, mi_X4_at.2.2.2.1, mi_X4_at.2.2.2.2, Or.inr (tblN_of (i := 258) rfl rfl)⟩, (S_X4_at fu (l := l) (D := D) (cA := cA) (base := base) (b := b)).2⟩) (nil_all))
    (cons_all (⟨Or.inl ⟨show (1 : Nat) ≠ 3 by decide, y_X5_cellsTold, prog_7_method_5_code, 5, (some .int), 3, "BrookStones", (S_X5_cellsTold fu (l := l) (D := D) (cA := cA) (base := base) (b := b)).1, by decide, by decide, mi_X5_cellsTold.1, mi_X5_cellsTold.2.1, mi_X5_cellsTold.2.2.1, mi_X5_cellsTold.2.2.2, Or.inl (tblG_of (i := 255) rfl rfl)⟩, (S_X5_cellsTold fu (l := l) (D := D) (cA := cA) (base := base) (b := b)).2⟩) (nil_all))
    (nil_all)
    (T := T_X5_readInto) (by decide +kernel) (cut := [13]) (N := 63) (D_X5_readInto fu) (by decide +kernel) (fun h => absurd h (by decide)) (fun as w o h => ?_)
  unfold U_X5_readInto at h
  split at h
  next =>
    exact ⟨Nat.le_of_ble_eq_true rfl, fu, (E_X5_readInto fu _ _ _ _ _ w).symm.trans h⟩
  next => cases h
def T_X7_brook : List (Nat × Instr) := [(0, .aload_n 0), (1, .iconst 0), (2, .putfield 53), (5, .aload_n 0), (6, .iload_n 1), (7, .iload_n 2), (8, .iload_n 3), (9, .iload 4), (11, .invokevirtual 57), (14, .istore 5), (16, .iload 5), (18, .ifCond .eq 6), (21, .iload 5), (23, .ireturn), (24, .aload_n 0), (25, .getfield 21), (28, .iload_n 1), (29, .iload_n 3), (30, .iload 4), (32, .invokestatic 61), (35, .istore 6), (37, .iload 6), (39, .ifCond .lt 9), (42, .bipush (-100)), (44, .iload 6), (46, .isub), (47, .ireturn), (48, .aload_n 0), (49, .getfield 12), (52, .invokevirtual 67), (55, .aload_n 0), (56, .getfield 12), (59, .aload_n 0), (60, .getfield 21), (63, .iload_n 1), (64, .iload_n 3), (65, .iload 4), (67, .invokestatic 70), (70, .aload_n 0), (71, .getfield 12), (74, .getfield 74), (77, .ireturn)]
def op_X7_brook (fu : Nat) : Nat → Kont → XL → List Value → XW → Instr → Option XO := opK 7 (rzOf (some .int)) fl_BrookStones nl_BrookStones [] [] [(57, 5, 1, (U_X7_refusalOfCells fu)), (67, 1, 0, (U_X0_makeAnew fu))] [(61, 4, 1, (U_X5_firstFault fu)), (70, 5, 0, (U_X5_readInto fu))] []
def M_X7_brook (fu : Nat) (a0 : Nat) (a1 : Int32) (a2 : Int32) (a3 : Int32) (a4 : Int32) (w : XW) : Option XO :=
  (pF w a0 6 7 (.int (0 : Int32))).bind fun w1 =>
  cI (U_X7_refusalOfCells fu [.ref a0, .int a1, .int a2, .int a3, .int a4] w1) fun x3 w2 =>
  (if x3 = 0 then
    (gR w2 a0 6 1).bind fun r4 =>
    cI (U_X5_firstFault fu [.ref r4, .int a1, .int a3, .int a4] w2) fun x6 w5 =>
    (if x6 < 0 then
      (gR w5 a0 6 0).bind fun r7 =>
      cV (U_X0_makeAnew fu [.ref r7] w5) fun w8 =>
      (gR w8 a0 6 0).bind fun r9 =>
      (gR w8 a0 6 1).bind fun r10 =>
      cV (U_X5_readInto fu [.ref r9, .ref r10, .int a1, .int a3, .int a4] w8) fun w11 =>
      (gR w11 a0 6 0).bind fun r12 =>
      (gI w11 r12 0 8).bind fun x13 =>
      some (some (.int x13), w11)
    else
      some (some (.int ((-100 : Int32) - x6)), w5))
  else
    some (some (.int x3), w2))
def U_X7_brook (fu : Nat) : Orc := fun as w => match as with
  | [.ref a0, .int a1, .int a2, .int a3, .int a4] => if isO w a0 6 = true then M_X7_brook fu a0 a1 a2 a3 a4 w else none
  | _ => none
def K_X7_brook (fu : Nat) (n : Nat) : Kont := fun pc ls st w => none
set_option maxRecDepth 100000 in
set_option maxHeartbeats 4000000 in
theorem E_X7_brook (fu : Nat) (a0 : Nat) (a1 : Int32) (a2 : Int32) (a3 : Int32) (a4 : Int32) (w : XW) : M_X7_brook fu a0 a1 a2 a3 a4 w = ev T_X7_brook (op_X7_brook fu) [] (K_X7_brook fu fu) 44 0 (lv_args 0 [.ref a0, .int a1, .int a2, .int a3, .int a4]) [] w := by
  rfl
theorem D_X7_brook (fu : Nat) : DS T_X7_brook (op_X7_brook fu) [] 44 (K_X7_brook fu) := by
  refine ⟨fun pc ls st w => rfl, fun n pc ls st w o h => ?_⟩
  cases h
theorem H_X7_brook (fu : Nat) : ∀ as w o, U_X7_brook fu as w = some o → ∃ a r, as = .ref a :: r ∧ r.length = 4 ∧ isO w a 6 = true := by
  intro as w o h
  unfold U_X7_brook at h
  split at h
  next =>
    split at h
    next hh => exact ⟨_, _, rfl, rfl, hh⟩
    next => cases h
  next => cases h
set_option maxRecDepth 100000 in
set_option maxHeartbeats 4000000 in
theorem S_X7_brook (fu : Nat) {l : Launch} {D : va_G} {cA : Nat → ClassId} {base b : Nat} : CS l D cA base b 5 y_X7_brook prog_1_method_2_code 7 (some .int) (U_X7_brook fu) ∧ OM (U_X7_brook fu) := by
  refine CS_of (d := 4) (y := y_X7_brook) (cc := prog_1_method_2_code) (nL := 7) (ret := (some .int)) (F := U_X7_brook fu) (fl := fl_BrookStones) (nl := nl_BrookStones) (kl := []) (k2 := []) (mv := [(57, 5, 1, (U_X7_refusalOfCells fu)), (67, 1, 0, (U_X0_makeAnew fu))]) (ms := [(61, 4, 1, (U_X5_firstFault fu)), (70, 5, 0, (U_X5_readInto fu))]) (mi := []) (ini := false) hI_w fl_BrookStones_ok nl_BrookStones_ok nil_all nil_all
    (cons_all (⟨⟨show (1 : Nat) ≠ 3 by decide, y_X7_refusalOfCells, prog_1_method_39_code, 6, (some .int), 3, "BrookStones", 6, TX7, 8, 4, (S_X7_refusalOfCells fu (l := l) (D := D) (cA := cA) (base := base) (b := b)).1, by decide, by decide, rfl, H_X7_refusalOfCells fu, rfl, mi_X7_refusalOfCells.1, mi_X7_refusalOfCells.2.1, mi_X7_refusalOfCells.2.2.1, mi_X7_refusalOfCells.2.2.2.1, mi_X7_refusalOfCells.2.2.2.2, Or.inl (tblG_of (i := 223) rfl rfl)⟩, (S_X7_refusalOfCells fu (l := l) (D := D) (cA := cA) (base := base) (b := b)).2⟩) (cons_all (⟨⟨show (0 : Nat) ≠ 3 by decide, y_X0_makeAnew, prog_2_method_2_code, 1, (none), 2, "BrookStones", 0, TX0, 15, 0, (S_X0_makeAnew fu (l := l) (D := D) (cA := cA) (base := base) (b := b)).1, by decide, by decide, rfl, H_X0_makeAnew fu, rfl, mi_X0_makeAnew.1, mi_X0_makeAnew.2.1, mi_X0_makeAnew.2.2.1, mi_X0_makeAnew.2.2.2.1, mi_X0_makeAnew.2.2.2.2, Or.inr (tblN_of (i := 278) rfl rfl)⟩, (S_X0_makeAnew fu (l := l) (D := D) (cA := cA) (base := base) (b := b)).2⟩) (nil_all)))
    (cons_all (⟨Or.inl ⟨show (1 : Nat) ≠ 3 by decide, y_X5_firstFault, prog_7_method_2_code, 7, (some .int), 4, "BrookStones", (S_X5_firstFault fu (l := l) (D := D) (cA := cA) (base := base) (b := b)).1, by decide, by decide, mi_X5_firstFault.1, mi_X5_firstFault.2.1, mi_X5_firstFault.2.2.1, mi_X5_firstFault.2.2.2, Or.inr (tblN_of (i := 252) rfl rfl)⟩, (S_X5_firstFault fu (l := l) (D := D) (cA := cA) (base := base) (b := b)).2⟩) (cons_all (⟨Or.inl ⟨show (0 : Nat) ≠ 3 by decide, y_X5_readInto, prog_7_method_3_code, 7, (none), 4, "BrookStones", (S_X5_readInto fu (l := l) (D := D) (cA := cA) (base := base) (b := b)).1, by decide, by decide, mi_X5_readInto.1, mi_X5_readInto.2.1, mi_X5_readInto.2.2.1, mi_X5_readInto.2.2.2, Or.inr (tblN_of (i := 282) rfl rfl)⟩, (S_X5_readInto fu (l := l) (D := D) (cA := cA) (base := base) (b := b)).2⟩) (nil_all)))
    (nil_all)
    (T := T_X7_brook) (by decide +kernel) (cut := []) (N := 44) (D_X7_brook fu) (by decide +kernel) (fun h => absurd h (by decide)) (fun as w o h => ?_)
  unfold U_X7_brook at h
  split at h
  next =>
    split at h
    next => exact ⟨Nat.le_of_ble_eq_true rfl, fu, (E_X7_brook fu _ _ _ _ _ w).symm.trans h⟩
    next => cases h
  next => cases h
def T_X0_isThere : List (Nat × Instr) := [(0, .aload_n 0), (1, .getfield 58), (4, .ifCond .le 7), (7, .iconst 1), (8, .goto 4), (11, .iconst 0), (12, .ireturn)]
def op_X0_isThere (fu : Nat) : Nat → Kont → XL → List Value → XW → Instr → Option XO := opK 1 (rzOf (some .boolean)) fl_BrookStones_Brook [] [] [] [] [] []
def M_X0_isThere (fu : Nat) (a0 : Nat) (w : XW) : Option XO :=
  (gI w a0 0 8).bind fun x1 =>
  (if 0 < x1 then
    retZ (1 : Int32) w
  else
    retZ (0 : Int32) w)
def U_X0_isThere (fu : Nat) : Orc := fun as w => match as with
  | [.ref a0] => if isO w a0 0 = true then M_X0_isThere fu a0 w else none
  | _ => none
def K_X0_isThere (fu : Nat) (n : Nat) : Kont := fun pc ls st w => none
set_option maxRecDepth 100000 in
set_option maxHeartbeats 4000000 in
theorem E_X0_isThere (fu : Nat) (a0 : Nat) (w : XW) : M_X0_isThere fu a0 w = ev T_X0_isThere (op_X0_isThere fu) [] (K_X0_isThere fu fu) 9 0 (lv_args 0 [.ref a0]) [] w := by
  rfl
theorem D_X0_isThere (fu : Nat) : DS T_X0_isThere (op_X0_isThere fu) [] 9 (K_X0_isThere fu) := by
  refine ⟨fun pc ls st w => rfl, fun n pc ls st w o h => ?_⟩
  cases h
theorem H_X0_isThere (fu : Nat) : ∀ as w o, U_X0_isThere fu as w = some o → ∃ a r, as = .ref a :: r ∧ r.length = 0 ∧ isO w a 0 = true := by
  intro as w o h
  unfold U_X0_isThere at h
  split at h
  next =>
    split at h
    next hh => exact ⟨_, _, rfl, rfl, hh⟩
    next => cases h
  next => cases h
set_option maxRecDepth 100000 in
set_option maxHeartbeats 4000000 in
theorem S_X0_isThere (fu : Nat) {l : Launch} {D : va_G} {cA : Nat → ClassId} {base b : Nat} : CS l D cA base b 1 y_X0_isThere prog_2_method_3_code 1 (some .boolean) (U_X0_isThere fu) ∧ OM (U_X0_isThere fu) := by
  refine CS_of (d := 0) (y := y_X0_isThere) (cc := prog_2_method_3_code) (nL := 1) (ret := (some .boolean)) (F := U_X0_isThere fu) (fl := fl_BrookStones_Brook) (nl := []) (kl := []) (k2 := []) (mv := []) (ms := []) (mi := []) (ini := false) hI_w fl_BrookStones_Brook_ok nil_all nil_all nil_all
    (nil_all)
    (nil_all)
    (nil_all)
    (T := T_X0_isThere) (by decide +kernel) (cut := []) (N := 9) (D_X0_isThere fu) (by decide +kernel) (fun h => absurd h (by decide)) (fun as w o h => ?_)
  unfold U_X0_isThere at h
  split at h
  next =>
    split at h
    next => exact ⟨Nat.le_of_ble_eq_true rfl, fu, (E_X0_isThere fu _ w).symm.trans h⟩
    next => cases h
  next => cases h
def T_X0_addStone : List (Nat × Instr) := [(0, .aload_n 0), (1, .getfield 21), (4, .aload_n 0), (5, .getfield 49), (8, .iload_n 1), (9, .iastore), (10, .aload_n 0), (11, .getfield 24), (14, .aload_n 0), (15, .getfield 49), (18, .iload_n 2), (19, .iastore), (20, .aload_n 0), (21, .getfield 27), (24, .aload_n 0), (25, .getfield 49), (28, .iload_n 3), (29, .iastore), (30, .aload_n 0), (31, .getfield 30), (34, .aload_n 0), (35, .getfield 49), (38, .iload 4), (40, .iastore), (41, .aload_n 0), (42, .dup), (43, .getfield 49), (46, .iconst 1), (47, .iadd), (48, .putfield 49), (51, .aload_n 0), (52, .getfield 49), (55, .iconst 1), (56, .isub), (57, .ireturn)]
def op_X0_addStone (fu : Nat) : Nat → Kont → XL → List Value → XW → Instr → Option XO := opK 5 (rzOf (some .int)) fl_BrookStones_Brook [] [] [] [] [] []
def M_X0_addStone (fu : Nat) (a0 : Nat) (a1 : Int32) (a2 : Int32) (a3 : Int32) (a4 : Int32) (w : XW) : Option XO :=
  (gR w a0 0 3).bind fun r1 =>
  (gI w a0 0 12).bind fun x2 =>
  (sI w r1 x2 a1).bind fun w3 =>
  (gR w3 a0 0 4).bind fun r4 =>
  (gI w3 a0 0 12).bind fun x5 =>
  (sI w3 r4 x5 a2).bind fun w6 =>
  (gR w6 a0 0 5).bind fun r7 =>
  (gI w6 a0 0 12).bind fun x8 =>
  (sI w6 r7 x8 a3).bind fun w9 =>
  (gR w9 a0 0 6).bind fun r10 =>
  (gI w9 a0 0 12).bind fun x11 =>
  (sI w9 r10 x11 a4).bind fun w12 =>
  (gI w12 a0 0 12).bind fun x13 =>
  (pF w12 a0 0 12 (.int (x13 + (1 : Int32)))).bind fun w14 =>
  (gI w14 a0 0 12).bind fun x15 =>
  some (some (.int (x15 - (1 : Int32))), w14)
def U_X0_addStone (fu : Nat) : Orc := fun as w => match as with
  | [.ref a0, .int a1, .int a2, .int a3, .int a4] => if isO w a0 0 = true then M_X0_addStone fu a0 a1 a2 a3 a4 w else none
  | _ => none
def K_X0_addStone (fu : Nat) (n : Nat) : Kont := fun pc ls st w => none
set_option maxRecDepth 100000 in
set_option maxHeartbeats 4000000 in
theorem E_X0_addStone (fu : Nat) (a0 : Nat) (a1 : Int32) (a2 : Int32) (a3 : Int32) (a4 : Int32) (w : XW) : M_X0_addStone fu a0 a1 a2 a3 a4 w = ev T_X0_addStone (op_X0_addStone fu) [] (K_X0_addStone fu fu) 37 0 (lv_args 0 [.ref a0, .int a1, .int a2, .int a3, .int a4]) [] w := by
  rfl
theorem D_X0_addStone (fu : Nat) : DS T_X0_addStone (op_X0_addStone fu) [] 37 (K_X0_addStone fu) := by
  refine ⟨fun pc ls st w => rfl, fun n pc ls st w o h => ?_⟩
  cases h
theorem H_X0_addStone (fu : Nat) : ∀ as w o, U_X0_addStone fu as w = some o → ∃ a r, as = .ref a :: r ∧ r.length = 4 ∧ isO w a 0 = true := by
  intro as w o h
  unfold U_X0_addStone at h
  split at h
  next =>
    split at h
    next hh => exact ⟨_, _, rfl, rfl, hh⟩
    next => cases h
  next => cases h
set_option maxRecDepth 100000 in
set_option maxHeartbeats 4000000 in
theorem S_X0_addStone (fu : Nat) {l : Launch} {D : va_G} {cA : Nat → ClassId} {base b : Nat} : CS l D cA base b 1 y_X0_addStone prog_2_method_7_code 5 (some .int) (U_X0_addStone fu) ∧ OM (U_X0_addStone fu) := by
  refine CS_of (d := 0) (y := y_X0_addStone) (cc := prog_2_method_7_code) (nL := 5) (ret := (some .int)) (F := U_X0_addStone fu) (fl := fl_BrookStones_Brook) (nl := []) (kl := []) (k2 := []) (mv := []) (ms := []) (mi := []) (ini := false) hI_w fl_BrookStones_Brook_ok nil_all nil_all nil_all
    (nil_all)
    (nil_all)
    (nil_all)
    (T := T_X0_addStone) (by decide +kernel) (cut := []) (N := 37) (D_X0_addStone fu) (by decide +kernel) (fun h => absurd h (by decide)) (fun as w o h => ?_)
  unfold U_X0_addStone at h
  split at h
  next =>
    split at h
    next => exact ⟨Nat.le_of_ble_eq_true rfl, fu, (E_X0_addStone fu _ _ _ _ _ w).symm.trans h⟩
    next => cases h
  next => cases h
def T_X7_stone : List (Nat × Instr) := [(0, .iload_n 1), (1, .iconst 0), (2, .iconst 2), (3, .invokestatic 105), (6, .ifCond .eq 13), (9, .iload_n 2), (10, .iconst 1), (11, .bipush 20), (13, .invokestatic 105), (16, .ifCond .ne 6), (19, .bipush (-2)), (21, .ireturn), (22, .iload_n 3), (23, .iconst 1), (24, .bipush 9), (26, .invokestatic 105), (29, .ifCond .eq 14), (32, .iload 4), (34, .iconst 0), (35, .bipush 9), (37, .invokestatic 105), (40, .ifCond .ne 6), (43, .bipush (-2)), (45, .ireturn), (46, .aload_n 0), (47, .getfield 12), (50, .invokevirtual 109), (53, .ifCond .ne 6), (56, .bipush (-3)), (58, .ireturn), (59, .aload_n 0), (60, .getfield 12), (63, .getfield 113), (66, .bipush 6), (68, .if_icmp .lt 6), (71, .bipush (-4)), (73, .ireturn), (74, .aload_n 0), (75, .getfield 12), (78, .iload_n 1), (79, .iload_n 2), (80, .iload_n 3), (81, .iload 4), (83, .invokevirtual 116), (86, .ireturn)]
def op_X7_stone (fu : Nat) : Nat → Kont → XL → List Value → XW → Instr → Option XO := opK 5 (rzOf (some .int)) fl_BrookStones nl_BrookStones [] [] [(109, 1, 1, (U_X0_isThere fu)), (116, 5, 1, (U_X0_addStone fu))] [(105, 3, 1, (U_X7_isWithin fu))] []
def M_X7_stone (fu : Nat) (a0 : Nat) (a1 : Int32) (a2 : Int32) (a3 : Int32) (a4 : Int32) (w : XW) : Option XO :=
  cI (U_X7_isWithin fu [.int a1, .int (0 : Int32), .int (2 : Int32)] w) fun x2 w1 =>
  (if x2 = 0 then
    some (some (.int (-2 : Int32)), w1)
  else
    cI (U_X7_isWithin fu [.int a2, .int (1 : Int32), .int (20 : Int32)] w1) fun x4 w3 =>
    (if x4 = 0 then
      some (some (.int (-2 : Int32)), w3)
    else
      cI (U_X7_isWithin fu [.int a3, .int (1 : Int32), .int (9 : Int32)] w3) fun x6 w5 =>
      (if x6 = 0 then
        some (some (.int (-2 : Int32)), w5)
      else
        cI (U_X7_isWithin fu [.int a4, .int (0 : Int32), .int (9 : Int32)] w5) fun x8 w7 =>
        (if x8 = 0 then
          some (some (.int (-2 : Int32)), w7)
        else
          (gR w7 a0 6 0).bind fun r9 =>
          cI (U_X0_isThere fu [.ref r9] w7) fun x11 w10 =>
          (if x11 = 0 then
            some (some (.int (-3 : Int32)), w10)
          else
            (gR w10 a0 6 0).bind fun r12 =>
            (gI w10 r12 0 12).bind fun x13 =>
            (if x13 < (6 : Int32) then
              (gR w10 a0 6 0).bind fun r14 =>
              cI (U_X0_addStone fu [.ref r14, .int a1, .int a2, .int a3, .int a4] w10) fun x16 w15 =>
              some (some (.int x16), w15)
            else
              some (some (.int (-4 : Int32)), w10)))))))
def U_X7_stone (fu : Nat) : Orc := fun as w => match as with
  | [.ref a0, .int a1, .int a2, .int a3, .int a4] => if isO w a0 6 = true then M_X7_stone fu a0 a1 a2 a3 a4 w else none
  | _ => none
def K_X7_stone (fu : Nat) (n : Nat) : Kont := fun pc ls st w => none
set_option maxRecDepth 100000 in
set_option maxHeartbeats 4000000 in
theorem E_X7_stone (fu : Nat) (a0 : Nat) (a1 : Int32) (a2 : Int32) (a3 : Int32) (a4 : Int32) (w : XW) : M_X7_stone fu a0 a1 a2 a3 a4 w = ev T_X7_stone (op_X7_stone fu) [] (K_X7_stone fu fu) 47 0 (lv_args 0 [.ref a0, .int a1, .int a2, .int a3, .int a4]) [] w := by
  rfl
theorem D_X7_stone (fu : Nat) : DS T_X7_stone (op_X7_stone fu) [] 47 (K_X7_stone fu) := by
  refine ⟨fun pc ls st w => rfl, fun n pc ls st w o h => ?_⟩
  cases h
theorem H_X7_stone (fu : Nat) : ∀ as w o, U_X7_stone fu as w = some o → ∃ a r, as = .ref a :: r ∧ r.length = 4 ∧ isO w a 6 = true := by
  intro as w o h
  unfold U_X7_stone at h
  split at h
  next =>
    split at h
    next hh => exact ⟨_, _, rfl, rfl, hh⟩
    next => cases h
  next => cases h
set_option maxRecDepth 100000 in
set_option maxHeartbeats 4000000 in
theorem S_X7_stone (fu : Nat) {l : Launch} {D : va_G} {cA : Nat → ClassId} {base b : Nat} : CS l D cA base b 2 y_X7_stone prog_1_method_6_code 5 (some .int) (U_X7_stone fu) ∧ OM (U_X7_stone fu) := by
  refine CS_of (d := 1) (y := y_X7_stone) (cc := prog_1_method_6_code) (nL := 5) (ret := (some .int)) (F := U_X7_stone fu) (fl := fl_BrookStones) (nl := nl_BrookStones) (kl := []) (k2 := []) (mv := [(109, 1, 1, (U_X0_isThere fu)), (116, 5, 1, (U_X0_addStone fu))]) (ms := [(105, 3, 1, (U_X7_isWithin fu))]) (mi := []) (ini := false) hI_w fl_BrookStones_ok nl_BrookStones_ok nil_all nil_all
    (cons_all (⟨⟨show (1 : Nat) ≠ 3 by decide, y_X0_isThere, prog_2_method_3_code, 1, (some .boolean), 1, "BrookStones", 0, TX0, 15, 0, (S_X0_isThere fu (l := l) (D := D) (cA := cA) (base := base) (b := b)).1, by decide, by decide, rfl, H_X0_isThere fu, rfl, mi_X0_isThere.1, mi_X0_isThere.2.1, mi_X0_isThere.2.2.1, mi_X0_isThere.2.2.2.1, mi_X0_isThere.2.2.2.2, Or.inr (tblN_of (i := 305) rfl rfl)⟩, (S_X0_isThere fu (l := l) (D := D) (cA := cA) (base := base) (b := b)).2⟩) (cons_all (⟨⟨show (1 : Nat) ≠ 3 by decide, y_X0_addStone, prog_2_method_7_code, 5, (some .int), 1, "BrookStones", 0, TX0, 15, 4, (S_X0_addStone fu (l := l) (D := D) (cA := cA) (base := base) (b := b)).1, by decide, by decide, rfl, H_X0_addStone fu, rfl, mi_X0_addStone.1, mi_X0_addStone.2.1, mi_X0_addStone.2.2.1, mi_X0_addStone.2.2.2.1, mi_X0_addStone.2.2.2.2, Or.inr (tblN_of (i := 477) rfl rfl)⟩, (S_X0_addStone fu (l := l) (D := D) (cA := cA) (base := base) (b := b)).2⟩) (nil_all)))
    (cons_all (⟨Or.inl ⟨show (1 : Nat) ≠ 3 by decide, y_X7_isWithin, prog_1_method_46_code, 3, (some .boolean), 1, "BrookStones", (S_X7_isWithin fu (l := l) (D := D) (cA := cA) (base := base) (b := b)).1, by decide, by decide, mi_X7_isWithin.1, mi_X7_isWithin.2.1, mi_X7_isWithin.2.2.1, mi_X7_isWithin.2.2.2, Or.inl (tblG_of (i := 304) rfl rfl)⟩, (S_X7_isWithin fu (l := l) (D := D) (cA := cA) (base := base) (b := b)).2⟩) (nil_all))
    (nil_all)
    (T := T_X7_stone) (by decide +kernel) (cut := []) (N := 47) (D_X7_stone fu) (by decide +kernel) (fun h => absurd h (by decide)) (fun as w o h => ?_)
  unfold U_X7_stone at h
  split at h
  next =>
    split at h
    next => exact ⟨Nat.le_of_ble_eq_true rfl, fu, (E_X7_stone fu _ _ _ _ _ w).symm.trans h⟩
    next => cases h
  next => cases h
def T_L_stones : List (Nat × Instr) := [(0, .aload_n 1), (1, .iload_n 2), (2, .invokestatic 9), (5, .iload_n 3), (6, .iconst 1), (7, .iadd), (8, .invokestatic 15), (11, .istore 5), (13, .iconst 0), (14, .istore 6), (16, .iload 6), (18, .iload 5), (20, .if_icmp .ge 159), (23, .aload_n 1), (24, .iload_n 2), (25, .iconst 1), (26, .iadd), (27, .iload 6), (29, .iconst 3), (30, .irem), (31, .iadd), (32, .invokestatic 9), (35, .iload 6), (37, .iconst 3), (38, .idiv), (39, .bipush 12), (41, .imul), (42, .ishr), (43, .istore 7), (45, .aload 4), (47, .iload 6), (49, .iload 7), (51, .iconst 3), (52, .invokestatic 15), (55, .iastore), (56, .aload 4), (58, .bipush 6), (60, .iload 6), (62, .iadd), (63, .iconst 1), (64, .iload 7), (66, .iconst 2), (67, .ishr), (68, .aload_n 1), (69, .iload_n 2), (70, .invokestatic 9), (73, .bipush 6), (75, .ishr), (76, .iconst 2), (77, .invokestatic 15), (80, .ifCond .ne 8), (83, .bipush 20), (85, .goto 5), (88, .bipush 8), (90, .invokestatic 15), (93, .iadd), (94, .iastore), (95, .aload 4), (97, .bipush 12), (99, .iload 6), (101, .iadd), (102, .iconst 1), (103, .iload 7), (105, .iconst 5), (106, .ishr), (107, .bipush 9), (109, .invokestatic 15), (112, .iadd), (113, .iastore), (114, .aload 4), (116, .bipush 18), (118, .iload 6), (120, .iadd), (121, .iload 7), (123, .bipush 8), (125, .ishr), (126, .bipush 10), (128, .invokestatic 15), (131, .iastore), (132, .aload_n 0), (133, .aload 4), (135, .iload 6), (137, .iaload), (138, .aload 4), (140, .bipush 6), (142, .iload 6), (144, .iadd), (145, .iaload), (146, .aload 4), (148, .bipush 12), (150, .iload 6), (152, .iadd), (153, .iaload), (154, .aload 4), (156, .bipush 18), (158, .iload 6), (160, .iadd), (161, .iaload), (162, .invokevirtual 28), (165, .iload 6), (167, .if_icmp .eq 6), (170, .bipush (-99)), (172, .ireturn), (173, .iinc 6 1), (176, .goto (-160)), (179, .iload 5), (181, .ireturn)]
def op_L_stones (fu : Nat) : Nat → Kont → XL → List Value → XW → Instr → Option XO := opK 8 (rzOf (some .int)) [] nl_BrookStonesLaw kl_BrookStonesLaw [] [(28, 5, 1, (U_X7_stone fu))] [(9, 2, 1, (U_L_cell fu)), (15, 2, 1, (U_L_some fu))] []
def F_L_stones (fu : Nat) : Nat → (Nat → Nat → Int32 → Nat → Int32 → Int32 → XW → Option XO) × (Nat → Nat → Int32 → Nat → Int32 → Int32 → Int32 → Int32 → Int32 → Int32 → Int32 → Nat → XW → Option XO)
  | 0 => (fun _ _ _ _ _ _ _ => none, fun _ _ _ _ _ _ _ _ _ _ _ _ _ => none)
  | n + 1 => ((fun a0 a1 a2 a4 a5 a6 w =>
    (if a6 < a5 then
      (if (3 : Int32) = 0 then none else
      cI (U_L_cell fu [.ref a1, .int ((a2 + (1 : Int32)) + (a6 - a6 / (3 : Int32) * (3 : Int32)))] w) fun x2 w1 =>
      (if (3 : Int32) = 0 then none else
      cI (U_L_some fu [.int (x2 >>> (((a6 / (3 : Int32)) * (12 : Int32)) &&& 31)), .int (3 : Int32)] w1) fun x4 w3 =>
      (sI w3 a4 a6 x4).bind fun w5 =>
      cI (U_L_cell fu [.ref a1, .int a2] w5) fun x7 w6 =>
      cI (U_L_some fu [.int (x7 >>> ((6 : Int32) &&& 31)), .int (2 : Int32)] w6) fun x9 w8 =>
      (if x9 = 0 then
        (F_L_stones fu n).2 a0 a1 a2 a4 a5 a6 (x2 >>> (((a6 / (3 : Int32)) * (12 : Int32)) &&& 31)) (20 : Int32) ((x2 >>> (((a6 / (3 : Int32)) * (12 : Int32)) &&& 31)) >>> ((2 : Int32) &&& 31)) (1 : Int32) ((6 : Int32) + a6) a4 w8
      else
        (F_L_stones fu n).2 a0 a1 a2 a4 a5 a6 (x2 >>> (((a6 / (3 : Int32)) * (12 : Int32)) &&& 31)) (8 : Int32) ((x2 >>> (((a6 / (3 : Int32)) * (12 : Int32)) &&& 31)) >>> ((2 : Int32) &&& 31)) (1 : Int32) ((6 : Int32) + a6) a4 w8)))
    else
      some (some (.int a5), w))),
   (fun a0 a1 a2 a4 a5 a6 a7 s0 s1 s2 s3 s4 w =>
    cI (U_L_some fu [.int s1, .int s0] w) fun x11 w10 =>
    (sI w10 s4 s3 (s2 + x11)).bind fun w12 =>
    cI (U_L_some fu [.int (a7 >>> ((5 : Int32) &&& 31)), .int (9 : Int32)] w12) fun x14 w13 =>
    (sI w13 a4 ((12 : Int32) + a6) ((1 : Int32) + x14)).bind fun w15 =>
    cI (U_L_some fu [.int (a7 >>> ((8 : Int32) &&& 31)), .int (10 : Int32)] w15) fun x17 w16 =>
    (sI w16 a4 ((18 : Int32) + a6) x17).bind fun w18 =>
    (aI w18 a4 a6).bind fun x19 =>
    (aI w18 a4 ((6 : Int32) + a6)).bind fun x20 =>
    (aI w18 a4 ((12 : Int32) + a6)).bind fun x21 =>
    (aI w18 a4 ((18 : Int32) + a6)).bind fun x22 =>
    cI (U_X7_stone fu [.ref a0, .int x19, .int x20, .int x21, .int x22] w18) fun x24 w23 =>
    (if x24 = a6 then
      (F_L_stones fu n).1 a0 a1 a2 a4 a5 (a6 + (1 : Int32)) w23
    else
      some (some (.int (-99 : Int32)), w23))))
def M_L_stones (fu : Nat) (a0 : Nat) (a1 : Nat) (a2 : Int32) (a3 : Int32) (a4 : Nat) (w : XW) : Option XO :=
  cI (U_L_cell fu [.ref a1, .int a2] w) fun x26 w25 =>
  cI (U_L_some fu [.int x26, .int (a3 + (1 : Int32))] w25) fun x28 w27 =>
  (F_L_stones fu fu).1 a0 a1 a2 a4 x28 (0 : Int32) w27
def U_L_stones (fu : Nat) : Orc := fun as w => match as with
  | [.ref a0, .ref a1, .int a2, .int a3, .ref a4] => M_L_stones fu a0 a1 a2 a3 a4 w
  | _ => none
def K_L_stones (fu : Nat) (n : Nat) : Kont := fun pc ls st w => bif pc == 16 then ((xr ls 0).bind fun a0 => (xr ls 1).bind fun a1 => (xi ls 2).bind fun a2 => (xr ls 4).bind fun a4 => (xi ls 5).bind fun a5 => (xi ls 6).bind fun a6 => skN st ((F_L_stones fu n).1 a0 a1 a2 a4 a5 a6 w)) else bif pc == 90 then ((xr ls 0).bind fun a0 => (xr ls 1).bind fun a1 => (xi ls 2).bind fun a2 => (xr ls 4).bind fun a4 => (xi ls 5).bind fun a5 => (xi ls 6).bind fun a6 => (xi ls 7).bind fun a7 => skI st fun s0 st => skI st fun s1 st => skI st fun s2 st => skI st fun s3 st => skR st fun s4 st => skN st ((F_L_stones fu n).2 a0 a1 a2 a4 a5 a6 a7 s0 s1 s2 s3 s4 w)) else none
set_option maxRecDepth 100000 in
set_option maxHeartbeats 4000000 in
theorem E_L_stones_16 (fu : Nat) (n : Nat) (a0 : Nat) (a1 : Nat) (a2 : Int32) (a4 : Nat) (a5 : Int32) (a6 : Int32) (w : XW) : (F_L_stones fu (n + 1)).1 a0 a1 a2 a4 a5 a6 w = ev T_L_stones (op_L_stones fu) [16, 90] (K_L_stones fu n) 109 16 [(0, .ref a0), (1, .ref a1), (2, .int a2), (4, .ref a4), (5, .int a5), (6, .int a6)] [] w := by
  rfl
set_option maxRecDepth 100000 in
set_option maxHeartbeats 4000000 in
theorem E_L_stones_90 (fu : Nat) (n : Nat) (a0 : Nat) (a1 : Nat) (a2 : Int32) (a4 : Nat) (a5 : Int32) (a6 : Int32) (a7 : Int32) (s0 : Int32) (s1 : Int32) (s2 : Int32) (s3 : Int32) (s4 : Nat) (w : XW) : (F_L_stones fu (n + 1)).2 a0 a1 a2 a4 a5 a6 a7 s0 s1 s2 s3 s4 w = ev T_L_stones (op_L_stones fu) [16, 90] (K_L_stones fu n) 109 90 [(0, .ref a0), (1, .ref a1), (2, .int a2), (4, .ref a4), (5, .int a5), (6, .int a6), (7, .int a7)] [.int s0, .int s1, .int s2, .int s3, .ref s4] w := by
  rfl
set_option maxRecDepth 100000 in
set_option maxHeartbeats 4000000 in
theorem E_L_stones (fu : Nat) (a0 : Nat) (a1 : Nat) (a2 : Int32) (a3 : Int32) (a4 : Nat) (w : XW) : M_L_stones fu a0 a1 a2 a3 a4 w = ev T_L_stones (op_L_stones fu) [16, 90] (K_L_stones fu fu) 109 0 (lv_args 0 [.ref a0, .ref a1, .int a2, .int a3, .ref a4]) [] w := by
  rfl
theorem D_L_stones (fu : Nat) : DS T_L_stones (op_L_stones fu) [16, 90] 109 (K_L_stones fu) := by
  refine ⟨fun pc ls st w => c_none (b_none fun _ => b_none fun _ => b_none fun _ => b_none fun _ => b_none fun _ => b_none fun _ => skN_none rfl) (c_none (b_none fun _ => b_none fun _ => b_none fun _ => b_none fun _ => b_none fun _ => b_none fun _ => b_none fun _ => skI_none fun _ _ => skI_none fun _ _ => skI_none fun _ _ => skI_none fun _ _ => skR_none fun _ _ => skN_none rfl) (rfl)), fun n pc ls st w o h => ?_⟩
  rcases c_some h with ⟨rfl, h⟩ | h
  · obtain ⟨a0, h0, h⟩ := some_of h; obtain ⟨a1, h1, h⟩ := some_of h; obtain ⟨a2, h2, h⟩ := some_of h; obtain ⟨a4, h4, h⟩ := some_of h; obtain ⟨a5, h5, h⟩ := some_of h; obtain ⟨a6, h6, h⟩ := some_of h;
    obtain ⟨e, g⟩ := skN_of h
    subst e
    exact ⟨[(0, .ref a0), (1, .ref a1), (2, .int a2), (4, .ref a4), (5, .int a5), (6, .int a6)], cons_all (xr_of h0) (cons_all (xr_of h1) (cons_all (xi_of h2) (cons_all (xr_of h4) (cons_all (xi_of h5) (cons_all (xi_of h6) (nil_all)))))), (E_L_stones_16 fu n a0 a1 a2 a4 a5 a6 w).symm.trans g⟩
  rcases c_some h with ⟨rfl, h⟩ | h
  · obtain ⟨a0, h0, h⟩ := some_of h; obtain ⟨a1, h1, h⟩ := some_of h; obtain ⟨a2, h2, h⟩ := some_of h; obtain ⟨a4, h4, h⟩ := some_of h; obtain ⟨a5, h5, h⟩ := some_of h; obtain ⟨a6, h6, h⟩ := some_of h; obtain ⟨a7, h7, h⟩ := some_of h;
    obtain ⟨s0, st0, e0, g0⟩ := skI_of h
    obtain ⟨s1, st1, e1, g1⟩ := skI_of g0
    obtain ⟨s2, st2, e2, g2⟩ := skI_of g1
    obtain ⟨s3, st3, e3, g3⟩ := skI_of g2
    obtain ⟨s4, st4, e4, g4⟩ := skR_of g3
    obtain ⟨e, g⟩ := skN_of g4
    subst e
    subst e4
    subst e3
    subst e2
    subst e1
    subst e0
    exact ⟨[(0, .ref a0), (1, .ref a1), (2, .int a2), (4, .ref a4), (5, .int a5), (6, .int a6), (7, .int a7)], cons_all (xr_of h0) (cons_all (xr_of h1) (cons_all (xi_of h2) (cons_all (xr_of h4) (cons_all (xi_of h5) (cons_all (xi_of h6) (cons_all (xi_of h7) (nil_all))))))), (E_L_stones_90 fu n a0 a1 a2 a4 a5 a6 a7 s0 s1 s2 s3 s4 w).symm.trans g⟩
  · cases h
set_option maxRecDepth 100000 in
set_option maxHeartbeats 4000000 in
theorem S_L_stones (fu : Nat) {l : Launch} {D : va_G} {cA : Nat → ClassId} {base b : Nat} : CS l D cA base b 3 y_L_stones method_5_code 8 (some .int) (U_L_stones fu) ∧ OM (U_L_stones fu) := by
  refine CS_of (d := 2) (y := y_L_stones) (cc := method_5_code) (nL := 8) (ret := (some .int)) (F := U_L_stones fu) (fl := []) (nl := nl_BrookStonesLaw) (kl := kl_BrookStonesLaw) (k2 := []) (mv := [(28, 5, 1, (U_X7_stone fu))]) (ms := [(9, 2, 1, (U_L_cell fu)), (15, 2, 1, (U_L_some fu))]) (mi := []) (ini := false) hI_w nil_all nl_BrookStonesLaw_ok kl_BrookStonesLaw_ok nil_all
    (cons_all (⟨⟨show (1 : Nat) ≠ 3 by decide, y_X7_stone, prog_1_method_6_code, 5, (some .int), 2, "BrookStones", 6, TX7, 8, 4, (S_X7_stone fu (l := l) (D := D) (cA := cA) (base := base) (b := b)).1, by decide, by decide, rfl, H_X7_stone fu, rfl, mi_X7_stone.1, mi_X7_stone.2.1, mi_X7_stone.2.2.1, mi_X7_stone.2.2.2.1, mi_X7_stone.2.2.2.2, Or.inl (tblG_of (i := 473) rfl rfl)⟩, (S_X7_stone fu (l := l) (D := D) (cA := cA) (base := base) (b := b)).2⟩) (nil_all))
    (cons_all (⟨Or.inl ⟨show (1 : Nat) ≠ 3 by decide, y_L_cell, method_2_code, 2, (some .int), 1, "BrookStones", (S_L_cell fu (l := l) (D := D) (cA := cA) (base := base) (b := b)).1, by decide, by decide, mi_L_cell.1, mi_L_cell.2.1, mi_L_cell.2.2.1, mi_L_cell.2.2.2, Or.inl (tblG_of (i := 459) rfl rfl)⟩, (S_L_cell fu (l := l) (D := D) (cA := cA) (base := base) (b := b)).2⟩) (cons_all (⟨Or.inl ⟨show (1 : Nat) ≠ 3 by decide, y_L_some, method_3_code, 2, (some .int), 1, "BrookStones", (S_L_some fu (l := l) (D := D) (cA := cA) (base := base) (b := b)).1, by decide, by decide, mi_L_some.1, mi_L_some.2.1, mi_L_some.2.2.1, mi_L_some.2.2.2, Or.inl (tblG_of (i := 463) rfl rfl)⟩, (S_L_some fu (l := l) (D := D) (cA := cA) (base := base) (b := b)).2⟩) (nil_all)))
    (nil_all)
    (T := T_L_stones) (by decide +kernel) (cut := [16, 90]) (N := 109) (D_L_stones fu) (by decide +kernel) (fun h => absurd h (by decide)) (fun as w o h => ?_)
  unfold U_L_stones at h
  split at h
  next =>
    exact ⟨Nat.le_of_ble_eq_true rfl, fu, (E_L_stones fu _ _ _ _ _ w).symm.trans h⟩
  next => cases h
def T_X0_addWalker : List (Nat × Instr) := [(0, .aload_n 0), (1, .getfield 33), (4, .aload_n 0), (5, .getfield 55), (8, .iload_n 1), (9, .iastore), (10, .aload_n 0), (11, .dup), (12, .getfield 55), (15, .iconst 1), (16, .iadd), (17, .putfield 55), (20, .aload_n 0), (21, .getfield 55), (24, .iconst 1), (25, .isub), (26, .ireturn)]
def op_X0_addWalker (fu : Nat) : Nat → Kont → XL → List Value → XW → Instr → Option XO := opK 2 (rzOf (some .int)) fl_BrookStones_Brook [] [] [] [] [] []
def M_X0_addWalker (fu : Nat) (a0 : Nat) (a1 : Int32) (w : XW) : Option XO :=
  (gR w a0 0 7).bind fun r1 =>
  (gI w a0 0 14).bind fun x2 =>
  (sI w r1 x2 a1).bind fun w3 =>
  (gI w3 a0 0 14).bind fun x4 =>
  (pF w3 a0 0 14 (.int (x4 + (1 : Int32)))).bind fun w5 =>
  (gI w5 a0 0 14).bind fun x6 =>
  some (some (.int (x6 - (1 : Int32))), w5)
def U_X0_addWalker (fu : Nat) : Orc := fun as w => match as with
  | [.ref a0, .int a1] => if isO w a0 0 = true then M_X0_addWalker fu a0 a1 w else none
  | _ => none
def K_X0_addWalker (fu : Nat) (n : Nat) : Kont := fun pc ls st w => none
set_option maxRecDepth 100000 in
set_option maxHeartbeats 4000000 in
theorem E_X0_addWalker (fu : Nat) (a0 : Nat) (a1 : Int32) (w : XW) : M_X0_addWalker fu a0 a1 w = ev T_X0_addWalker (op_X0_addWalker fu) [] (K_X0_addWalker fu fu) 19 0 (lv_args 0 [.ref a0, .int a1]) [] w := by
  rfl
theorem D_X0_addWalker (fu : Nat) : DS T_X0_addWalker (op_X0_addWalker fu) [] 19 (K_X0_addWalker fu) := by
  refine ⟨fun pc ls st w => rfl, fun n pc ls st w o h => ?_⟩
  cases h
theorem H_X0_addWalker (fu : Nat) : ∀ as w o, U_X0_addWalker fu as w = some o → ∃ a r, as = .ref a :: r ∧ r.length = 1 ∧ isO w a 0 = true := by
  intro as w o h
  unfold U_X0_addWalker at h
  split at h
  next =>
    split at h
    next hh => exact ⟨_, _, rfl, rfl, hh⟩
    next => cases h
  next => cases h
set_option maxRecDepth 100000 in
set_option maxHeartbeats 4000000 in
theorem S_X0_addWalker (fu : Nat) {l : Launch} {D : va_G} {cA : Nat → ClassId} {base b : Nat} : CS l D cA base b 1 y_X0_addWalker prog_2_method_8_code 2 (some .int) (U_X0_addWalker fu) ∧ OM (U_X0_addWalker fu) := by
  refine CS_of (d := 0) (y := y_X0_addWalker) (cc := prog_2_method_8_code) (nL := 2) (ret := (some .int)) (F := U_X0_addWalker fu) (fl := fl_BrookStones_Brook) (nl := []) (kl := []) (k2 := []) (mv := []) (ms := []) (mi := []) (ini := false) hI_w fl_BrookStones_Brook_ok nil_all nil_all nil_all
    (nil_all)
    (nil_all)
    (nil_all)
    (T := T_X0_addWalker) (by decide +kernel) (cut := []) (N := 19) (D_X0_addWalker fu) (by decide +kernel) (fun h => absurd h (by decide)) (fun as w o h => ?_)
  unfold U_X0_addWalker at h
  split at h
  next =>
    split at h
    next => exact ⟨Nat.le_of_ble_eq_true rfl, fu, (E_X0_addWalker fu _ _ w).symm.trans h⟩
    next => cases h
  next => cases h
def T_X7_walker : List (Nat × Instr) := [(0, .iload_n 1), (1, .iconst 1), (2, .bipush 9), (4, .invokestatic 105), (7, .ifCond .ne 6), (10, .bipush (-2)), (12, .ireturn), (13, .aload_n 0), (14, .getfield 12), (17, .invokevirtual 109), (20, .ifCond .ne 6), (23, .bipush (-3)), (25, .ireturn), (26, .aload_n 0), (27, .getfield 12), (30, .getfield 152), (33, .bipush 6), (35, .if_icmp .lt 6), (38, .bipush (-4)), (40, .ireturn), (41, .aload_n 0), (42, .getfield 12), (45, .iload_n 1), (46, .invokevirtual 155), (49, .ireturn)]
def op_X7_walker (fu : Nat) : Nat → Kont → XL → List Value → XW → Instr → Option XO := opK 2 (rzOf (some .int)) fl_BrookStones nl_BrookStones [] [] [(109, 1, 1, (U_X0_isThere fu)), (155, 2, 1, (U_X0_addWalker fu))] [(105, 3, 1, (U_X7_isWithin fu))] []
def M_X7_walker (fu : Nat) (a0 : Nat) (a1 : Int32) (w : XW) : Option XO :=
  cI (U_X7_isWithin fu [.int a1, .int (1 : Int32), .int (9 : Int32)] w) fun x2 w1 =>
  (if x2 = 0 then
    some (some (.int (-2 : Int32)), w1)
  else
    (gR w1 a0 6 0).bind fun r3 =>
    cI (U_X0_isThere fu [.ref r3] w1) fun x5 w4 =>
    (if x5 = 0 then
      some (some (.int (-3 : Int32)), w4)
    else
      (gR w4 a0 6 0).bind fun r6 =>
      (gI w4 r6 0 14).bind fun x7 =>
      (if x7 < (6 : Int32) then
        (gR w4 a0 6 0).bind fun r8 =>
        cI (U_X0_addWalker fu [.ref r8, .int a1] w4) fun x10 w9 =>
        some (some (.int x10), w9)
      else
        some (some (.int (-4 : Int32)), w4))))
def U_X7_walker (fu : Nat) : Orc := fun as w => match as with
  | [.ref a0, .int a1] => if isO w a0 6 = true then M_X7_walker fu a0 a1 w else none
  | _ => none
def K_X7_walker (fu : Nat) (n : Nat) : Kont := fun pc ls st w => none
set_option maxRecDepth 100000 in
set_option maxHeartbeats 4000000 in
theorem E_X7_walker (fu : Nat) (a0 : Nat) (a1 : Int32) (w : XW) : M_X7_walker fu a0 a1 w = ev T_X7_walker (op_X7_walker fu) [] (K_X7_walker fu fu) 27 0 (lv_args 0 [.ref a0, .int a1]) [] w := by
  rfl
theorem D_X7_walker (fu : Nat) : DS T_X7_walker (op_X7_walker fu) [] 27 (K_X7_walker fu) := by
  refine ⟨fun pc ls st w => rfl, fun n pc ls st w o h => ?_⟩
  cases h
theorem H_X7_walker (fu : Nat) : ∀ as w o, U_X7_walker fu as w = some o → ∃ a r, as = .ref a :: r ∧ r.length = 1 ∧ isO w a 6 = true := by
  intro as w o h
  unfold U_X7_walker at h
  split at h
  next =>
    split at h
    next hh => exact ⟨_, _, rfl, rfl, hh⟩
    next => cases h
  next => cases h
set_option maxRecDepth 100000 in
set_option maxHeartbeats 4000000 in
theorem S_X7_walker (fu : Nat) {l : Launch} {D : va_G} {cA : Nat → ClassId} {base b : Nat} : CS l D cA base b 2 y_X7_walker prog_1_method_10_code 2 (some .int) (U_X7_walker fu) ∧ OM (U_X7_walker fu) := by
  refine CS_of (d := 1) (y := y_X7_walker) (cc := prog_1_method_10_code) (nL := 2) (ret := (some .int)) (F := U_X7_walker fu) (fl := fl_BrookStones) (nl := nl_BrookStones) (kl := []) (k2 := []) (mv := [(109, 1, 1, (U_X0_isThere fu)), (155, 2, 1, (U_X0_addWalker fu))]) (ms := [(105, 3, 1, (U_X7_isWithin fu))]) (mi := []) (ini := false) hI_w fl_BrookStones_ok nl_BrookStones_ok nil_all nil_all
    (cons_all (⟨⟨show (1 : Nat) ≠ 3 by decide, y_X0_isThere, prog_2_method_3_code, 1, (some .boolean), 1, "BrookStones", 0, TX0, 15, 0, (S_X0_isThere fu (l := l) (D := D) (cA := cA) (base := base) (b := b)).1, by decide, by decide, rfl, H_X0_isThere fu, rfl, mi_X0_isThere.1, mi_X0_isThere.2.1, mi_X0_isThere.2.2.1, mi_X0_isThere.2.2.2.1, mi_X0_isThere.2.2.2.2, Or.inr (tblN_of (i := 305) rfl rfl)⟩, (S_X0_isThere fu (l := l) (D := D) (cA := cA) (base := base) (b := b)).2⟩) (cons_all (⟨⟨show (1 : Nat) ≠ 3 by decide, y_X0_addWalker, prog_2_method_8_code, 2, (some .int), 1, "BrookStones", 0, TX0, 15, 1, (S_X0_addWalker fu (l := l) (D := D) (cA := cA) (base := base) (b := b)).1, by decide, by decide, rfl, H_X0_addWalker fu, rfl, mi_X0_addWalker.1, mi_X0_addWalker.2.1, mi_X0_addWalker.2.2.1, mi_X0_addWalker.2.2.2.1, mi_X0_addWalker.2.2.2.2, Or.inr (tblN_of (i := 338) rfl rfl)⟩, (S_X0_addWalker fu (l := l) (D := D) (cA := cA) (base := base) (b := b)).2⟩) (nil_all)))
    (cons_all (⟨Or.inl ⟨show (1 : Nat) ≠ 3 by decide, y_X7_isWithin, prog_1_method_46_code, 3, (some .boolean), 1, "BrookStones", (S_X7_isWithin fu (l := l) (D := D) (cA := cA) (base := base) (b := b)).1, by decide, by decide, mi_X7_isWithin.1, mi_X7_isWithin.2.1, mi_X7_isWithin.2.2.1, mi_X7_isWithin.2.2.2, Or.inl (tblG_of (i := 304) rfl rfl)⟩, (S_X7_isWithin fu (l := l) (D := D) (cA := cA) (base := base) (b := b)).2⟩) (nil_all))
    (nil_all)
    (T := T_X7_walker) (by decide +kernel) (cut := []) (N := 27) (D_X7_walker fu) (by decide +kernel) (fun h => absurd h (by decide)) (fun as w o h => ?_)
  unfold U_X7_walker at h
  split at h
  next =>
    split at h
    next => exact ⟨Nat.le_of_ble_eq_true rfl, fu, (E_X7_walker fu _ _ w).symm.trans h⟩
    next => cases h
  next => cases h
def T_X0_isWalker : List (Nat × Instr) := [(0, .iload_n 1), (1, .ifCond .lt 15), (4, .iload_n 1), (5, .aload_n 0), (6, .getfield 55), (9, .if_icmp .ge 7), (12, .iconst 1), (13, .goto 4), (16, .iconst 0), (17, .ireturn)]
def op_X0_isWalker (fu : Nat) : Nat → Kont → XL → List Value → XW → Instr → Option XO := opK 2 (rzOf (some .boolean)) fl_BrookStones_Brook [] [] [] [] [] []
def M_X0_isWalker (fu : Nat) (a0 : Nat) (a1 : Int32) (w : XW) : Option XO :=
  (if a1 < 0 then
    retZ (0 : Int32) w
  else
    (gI w a0 0 14).bind fun x1 =>
    (if a1 < x1 then
      retZ (1 : Int32) w
    else
      retZ (0 : Int32) w))
def U_X0_isWalker (fu : Nat) : Orc := fun as w => match as with
  | [.ref a0, .int a1] => if isO w a0 0 = true then M_X0_isWalker fu a0 a1 w else none
  | _ => none
def K_X0_isWalker (fu : Nat) (n : Nat) : Kont := fun pc ls st w => none
set_option maxRecDepth 100000 in
set_option maxHeartbeats 4000000 in
theorem E_X0_isWalker (fu : Nat) (a0 : Nat) (a1 : Int32) (w : XW) : M_X0_isWalker fu a0 a1 w = ev T_X0_isWalker (op_X0_isWalker fu) [] (K_X0_isWalker fu fu) 12 0 (lv_args 0 [.ref a0, .int a1]) [] w := by
  rfl
theorem D_X0_isWalker (fu : Nat) : DS T_X0_isWalker (op_X0_isWalker fu) [] 12 (K_X0_isWalker fu) := by
  refine ⟨fun pc ls st w => rfl, fun n pc ls st w o h => ?_⟩
  cases h
theorem H_X0_isWalker (fu : Nat) : ∀ as w o, U_X0_isWalker fu as w = some o → ∃ a r, as = .ref a :: r ∧ r.length = 1 ∧ isO w a 0 = true := by
  intro as w o h
  unfold U_X0_isWalker at h
  split at h
  next =>
    split at h
    next hh => exact ⟨_, _, rfl, rfl, hh⟩
    next => cases h
  next => cases h
set_option maxRecDepth 100000 in
set_option maxHeartbeats 4000000 in
theorem S_X0_isWalker (fu : Nat) {l : Launch} {D : va_G} {cA : Nat → ClassId} {base b : Nat} : CS l D cA base b 1 y_X0_isWalker prog_2_method_6_code 2 (some .boolean) (U_X0_isWalker fu) ∧ OM (U_X0_isWalker fu) := by
  refine CS_of (d := 0) (y := y_X0_isWalker) (cc := prog_2_method_6_code) (nL := 2) (ret := (some .boolean)) (F := U_X0_isWalker fu) (fl := fl_BrookStones_Brook) (nl := []) (kl := []) (k2 := []) (mv := []) (ms := []) (mi := []) (ini := false) hI_w fl_BrookStones_Brook_ok nil_all nil_all nil_all
    (nil_all)
    (nil_all)
    (nil_all)
    (T := T_X0_isWalker) (by decide +kernel) (cut := []) (N := 12) (D_X0_isWalker fu) (by decide +kernel) (fun h => absurd h (by decide)) (fun as w o h => ?_)
  unfold U_X0_isWalker at h
  split at h
  next =>
    split at h
    next => exact ⟨Nat.le_of_ble_eq_true rfl, fu, (E_X0_isWalker fu _ _ w).symm.trans h⟩
    next => cases h
  next => cases h
def T_X7_stride : List (Nat × Instr) := [(0, .aload_n 0), (1, .getfield 12), (4, .iload_n 1), (5, .invokevirtual 158), (8, .ifCond .eq 15), (11, .aload_n 0), (12, .getfield 12), (15, .getfield 161), (18, .iload_n 1), (19, .iaload), (20, .goto 4), (23, .iconst (-1)), (24, .ireturn)]
def op_X7_stride (fu : Nat) : Nat → Kont → XL → List Value → XW → Instr → Option XO := opK 2 (rzOf (some .int)) fl_BrookStones nl_BrookStones [] [] [(158, 2, 1, (U_X0_isWalker fu))] [] []
def M_X7_stride (fu : Nat) (a0 : Nat) (a1 : Int32) (w : XW) : Option XO :=
  (gR w a0 6 0).bind fun r1 =>
  cI (U_X0_isWalker fu [.ref r1, .int a1] w) fun x3 w2 =>
  (if x3 = 0 then
    some (some (.int (-1 : Int32)), w2)
  else
    (gR w2 a0 6 0).bind fun r4 =>
    (gR w2 r4 0 7).bind fun r5 =>
    (aI w2 r5 a1).bind fun x6 =>
    some (some (.int x6), w2))
def U_X7_stride (fu : Nat) : Orc := fun as w => match as with
  | [.ref a0, .int a1] => if isO w a0 6 = true then M_X7_stride fu a0 a1 w else none
  | _ => none
def K_X7_stride (fu : Nat) (n : Nat) : Kont := fun pc ls st w => none
set_option maxRecDepth 100000 in
set_option maxHeartbeats 4000000 in
theorem E_X7_stride (fu : Nat) (a0 : Nat) (a1 : Int32) (w : XW) : M_X7_stride fu a0 a1 w = ev T_X7_stride (op_X7_stride fu) [] (K_X7_stride fu fu) 15 0 (lv_args 0 [.ref a0, .int a1]) [] w := by
  rfl
theorem D_X7_stride (fu : Nat) : DS T_X7_stride (op_X7_stride fu) [] 15 (K_X7_stride fu) := by
  refine ⟨fun pc ls st w => rfl, fun n pc ls st w o h => ?_⟩
  cases h
theorem H_X7_stride (fu : Nat) : ∀ as w o, U_X7_stride fu as w = some o → ∃ a r, as = .ref a :: r ∧ r.length = 1 ∧ isO w a 6 = true := by
  intro as w o h
  unfold U_X7_stride at h
  split at h
  next =>
    split at h
    next hh => exact ⟨_, _, rfl, rfl, hh⟩
    next => cases h
  next => cases h
set_option maxRecDepth 100000 in
set_option maxHeartbeats 4000000 in
theorem S_X7_stride (fu : Nat) {l : Launch} {D : va_G} {cA : Nat → ClassId} {base b : Nat} : CS l D cA base b 2 y_X7_stride prog_1_method_11_code 2 (some .int) (U_X7_stride fu) ∧ OM (U_X7_stride fu) := by
  refine CS_of (d := 1) (y := y_X7_stride) (cc := prog_1_method_11_code) (nL := 2) (ret := (some .int)) (F := U_X7_stride fu) (fl := fl_BrookStones) (nl := nl_BrookStones) (kl := []) (k2 := []) (mv := [(158, 2, 1, (U_X0_isWalker fu))]) (ms := []) (mi := []) (ini := false) hI_w fl_BrookStones_ok nl_BrookStones_ok nil_all nil_all
    (cons_all (⟨⟨show (1 : Nat) ≠ 3 by decide, y_X0_isWalker, prog_2_method_6_code, 2, (some .boolean), 1, "BrookStones", 0, TX0, 15, 1, (S_X0_isWalker fu (l := l) (D := D) (cA := cA) (base := base) (b := b)).1, by decide, by decide, rfl, H_X0_isWalker fu, rfl, mi_X0_isWalker.1, mi_X0_isWalker.2.1, mi_X0_isWalker.2.2.1, mi_X0_isWalker.2.2.2.1, mi_X0_isWalker.2.2.2.2, Or.inr (tblN_of (i := 346) rfl rfl)⟩, (S_X0_isWalker fu (l := l) (D := D) (cA := cA) (base := base) (b := b)).2⟩) (nil_all))
    (nil_all)
    (nil_all)
    (T := T_X7_stride) (by decide +kernel) (cut := []) (N := 15) (D_X7_stride fu) (by decide +kernel) (fun h => absurd h (by decide)) (fun as w o h => ?_)
  unfold U_X7_stride at h
  split at h
  next =>
    split at h
    next => exact ⟨Nat.le_of_ble_eq_true rfl, fu, (E_X7_stride fu _ _ w).symm.trans h⟩
    next => cases h
  next => cases h
def T_X0_isStone : List (Nat × Instr) := [(0, .iload_n 1), (1, .ifCond .lt 15), (4, .iload_n 1), (5, .aload_n 0), (6, .getfield 49), (9, .if_icmp .ge 7), (12, .iconst 1), (13, .goto 4), (16, .iconst 0), (17, .ireturn)]
def op_X0_isStone (fu : Nat) : Nat → Kont → XL → List Value → XW → Instr → Option XO := opK 2 (rzOf (some .boolean)) fl_BrookStones_Brook [] [] [] [] [] []
def M_X0_isStone (fu : Nat) (a0 : Nat) (a1 : Int32) (w : XW) : Option XO :=
  (if a1 < 0 then
    retZ (0 : Int32) w
  else
    (gI w a0 0 12).bind fun x1 =>
    (if a1 < x1 then
      retZ (1 : Int32) w
    else
      retZ (0 : Int32) w))
def U_X0_isStone (fu : Nat) : Orc := fun as w => match as with
  | [.ref a0, .int a1] => if isO w a0 0 = true then M_X0_isStone fu a0 a1 w else none
  | _ => none
def K_X0_isStone (fu : Nat) (n : Nat) : Kont := fun pc ls st w => none
set_option maxRecDepth 100000 in
set_option maxHeartbeats 4000000 in
theorem E_X0_isStone (fu : Nat) (a0 : Nat) (a1 : Int32) (w : XW) : M_X0_isStone fu a0 a1 w = ev T_X0_isStone (op_X0_isStone fu) [] (K_X0_isStone fu fu) 12 0 (lv_args 0 [.ref a0, .int a1]) [] w := by
  rfl
theorem D_X0_isStone (fu : Nat) : DS T_X0_isStone (op_X0_isStone fu) [] 12 (K_X0_isStone fu) := by
  refine ⟨fun pc ls st w => rfl, fun n pc ls st w o h => ?_⟩
  cases h
theorem H_X0_isStone (fu : Nat) : ∀ as w o, U_X0_isStone fu as w = some o → ∃ a r, as = .ref a :: r ∧ r.length = 1 ∧ isO w a 0 = true := by
  intro as w o h
  unfold U_X0_isStone at h
  split at h
  next =>
    split at h
    next hh => exact ⟨_, _, rfl, rfl, hh⟩
    next => cases h
  next => cases h
set_option maxRecDepth 100000 in
set_option maxHeartbeats 4000000 in
theorem S_X0_isStone (fu : Nat) {l : Launch} {D : va_G} {cA : Nat → ClassId} {base b : Nat} : CS l D cA base b 1 y_X0_isStone prog_2_method_5_code 2 (some .boolean) (U_X0_isStone fu) ∧ OM (U_X0_isStone fu) := by
  refine CS_of (d := 0) (y := y_X0_isStone) (cc := prog_2_method_5_code) (nL := 2) (ret := (some .boolean)) (F := U_X0_isStone fu) (fl := fl_BrookStones_Brook) (nl := []) (kl := []) (k2 := []) (mv := []) (ms := []) (mi := []) (ini := false) hI_w fl_BrookStones_Brook_ok nil_all nil_all nil_all
    (nil_all)
    (nil_all)
    (nil_all)
    (T := T_X0_isStone) (by decide +kernel) (cut := []) (N := 12) (D_X0_isStone fu) (by decide +kernel) (fun h => absurd h (by decide)) (fun as w o h => ?_)
  unfold U_X0_isStone at h
  split at h
  next =>
    split at h
    next => exact ⟨Nat.le_of_ble_eq_true rfl, fu, (E_X0_isStone fu _ _ w).symm.trans h⟩
    next => cases h
  next => cases h
def T_X0_isCell : List (Nat × Instr) := [(0, .iload_n 1), (1, .ifCond .lt 15), (4, .iload_n 1), (5, .aload_n 0), (6, .getfield 58), (9, .if_icmp .ge 7), (12, .iconst 1), (13, .goto 4), (16, .iconst 0), (17, .ireturn)]
def op_X0_isCell (fu : Nat) : Nat → Kont → XL → List Value → XW → Instr → Option XO := opK 2 (rzOf (some .boolean)) fl_BrookStones_Brook [] [] [] [] [] []
def M_X0_isCell (fu : Nat) (a0 : Nat) (a1 : Int32) (w : XW) : Option XO :=
  (if a1 < 0 then
    retZ (0 : Int32) w
  else
    (gI w a0 0 8).bind fun x1 =>
    (if a1 < x1 then
      retZ (1 : Int32) w
    else
      retZ (0 : Int32) w))
def U_X0_isCell (fu : Nat) : Orc := fun as w => match as with
  | [.ref a0, .int a1] => if isO w a0 0 = true then M_X0_isCell fu a0 a1 w else none
  | _ => none
def K_X0_isCell (fu : Nat) (n : Nat) : Kont := fun pc ls st w => none
set_option maxRecDepth 100000 in
set_option maxHeartbeats 4000000 in
theorem E_X0_isCell (fu : Nat) (a0 : Nat) (a1 : Int32) (w : XW) : M_X0_isCell fu a0 a1 w = ev T_X0_isCell (op_X0_isCell fu) [] (K_X0_isCell fu fu) 12 0 (lv_args 0 [.ref a0, .int a1]) [] w := by
  rfl
theorem D_X0_isCell (fu : Nat) : DS T_X0_isCell (op_X0_isCell fu) [] 12 (K_X0_isCell fu) := by
  refine ⟨fun pc ls st w => rfl, fun n pc ls st w o h => ?_⟩
  cases h
theorem H_X0_isCell (fu : Nat) : ∀ as w o, U_X0_isCell fu as w = some o → ∃ a r, as = .ref a :: r ∧ r.length = 1 ∧ isO w a 0 = true := by
  intro as w o h
  unfold U_X0_isCell at h
  split at h
  next =>
    split at h
    next hh => exact ⟨_, _, rfl, rfl, hh⟩
    next => cases h
  next => cases h
set_option maxRecDepth 100000 in
set_option maxHeartbeats 4000000 in
theorem S_X0_isCell (fu : Nat) {l : Launch} {D : va_G} {cA : Nat → ClassId} {base b : Nat} : CS l D cA base b 1 y_X0_isCell prog_2_method_4_code 2 (some .boolean) (U_X0_isCell fu) ∧ OM (U_X0_isCell fu) := by
  refine CS_of (d := 0) (y := y_X0_isCell) (cc := prog_2_method_4_code) (nL := 2) (ret := (some .boolean)) (F := U_X0_isCell fu) (fl := fl_BrookStones_Brook) (nl := []) (kl := []) (k2 := []) (mv := []) (ms := []) (mi := []) (ini := false) hI_w fl_BrookStones_Brook_ok nil_all nil_all nil_all
    (nil_all)
    (nil_all)
    (nil_all)
    (T := T_X0_isCell) (by decide +kernel) (cut := []) (N := 12) (D_X0_isCell fu) (by decide +kernel) (fun h => absurd h (by decide)) (fun as w o h => ?_)
  unfold U_X0_isCell at h
  split at h
  next =>
    split at h
    next => exact ⟨Nat.le_of_ble_eq_true rfl, fu, (E_X0_isCell fu _ _ w).symm.trans h⟩
    next => cases h
  next => cases h
def T_X7_has : List (Nat × Instr) := [(0, .iload_n 0), (1, .iload_n 1), (2, .ishr), (3, .iconst 1), (4, .iand), (5, .ifCond .eq 7), (8, .iconst 1), (9, .goto 4), (12, .iconst 0), (13, .ireturn)]
def op_X7_has (fu : Nat) : Nat → Kont → XL → List Value → XW → Instr → Option XO := opK 2 (rzOf (some .boolean)) fl_BrookStones nl_BrookStones [] [] [] [] []
def M_X7_has (fu : Nat) (a0 : Int32) (a1 : Int32) (w : XW) : Option XO :=
  (if ((a0 >>> (a1 &&& 31)) &&& (1 : Int32)) = 0 then
    retZ (0 : Int32) w
  else
    retZ (1 : Int32) w)
def U_X7_has (fu : Nat) : Orc := fun as w => match as with
  | [.int a0, .int a1] => M_X7_has fu a0 a1 w
  | _ => none
def K_X7_has (fu : Nat) (n : Nat) : Kont := fun pc ls st w => none
set_option maxRecDepth 100000 in
set_option maxHeartbeats 4000000 in
theorem E_X7_has (fu : Nat) (a0 : Int32) (a1 : Int32) (w : XW) : M_X7_has fu a0 a1 w = ev T_X7_has (op_X7_has fu) [] (K_X7_has fu fu) 12 0 (lv_args 0 [.int a0, .int a1]) [] w := by
  rfl
theorem D_X7_has (fu : Nat) : DS T_X7_has (op_X7_has fu) [] 12 (K_X7_has fu) := by
  refine ⟨fun pc ls st w => rfl, fun n pc ls st w o h => ?_⟩
  cases h
set_option maxRecDepth 100000 in
set_option maxHeartbeats 4000000 in
theorem S_X7_has (fu : Nat) {l : Launch} {D : va_G} {cA : Nat → ClassId} {base b : Nat} : CS l D cA base b 1 y_X7_has prog_1_method_47_code 2 (some .boolean) (U_X7_has fu) ∧ OM (U_X7_has fu) := by
  refine CS_of (d := 0) (y := y_X7_has) (cc := prog_1_method_47_code) (nL := 2) (ret := (some .boolean)) (F := U_X7_has fu) (fl := fl_BrookStones) (nl := nl_BrookStones) (kl := []) (k2 := []) (mv := []) (ms := []) (mi := []) (ini := false) hI_w fl_BrookStones_ok nl_BrookStones_ok nil_all nil_all
    (nil_all)
    (nil_all)
    (nil_all)
    (T := T_X7_has) (by decide +kernel) (cut := []) (N := 12) (D_X7_has fu) (by decide +kernel) (fun h => absurd h (by decide)) (fun as w o h => ?_)
  unfold U_X7_has at h
  split at h
  next =>
    exact ⟨Nat.le_of_ble_eq_true rfl, fu, (E_X7_has fu _ _ w).symm.trans h⟩
  next => cases h
def T_X0_cellOf : List (Nat × Instr) := [(0, .iconst 0), (1, .istore_n 2), (2, .iload_n 2), (3, .aload_n 0), (4, .getfield 58), (7, .if_icmp .ge 21), (10, .aload_n 0), (11, .getfield 18), (14, .iload_n 2), (15, .iaload), (16, .iload_n 1), (17, .if_icmp .ne 5), (20, .iload_n 2), (21, .ireturn), (22, .iinc 2 1), (25, .goto (-23)), (28, .bipush (-9)), (30, .ireturn)]
def op_X0_cellOf (fu : Nat) : Nat → Kont → XL → List Value → XW → Instr → Option XO := opK 3 (rzOf (some .int)) fl_BrookStones_Brook [] [] [] [] [] []
def F_X0_cellOf (fu : Nat) : Nat → (Nat → Int32 → Int32 → XW → Option XO)
  | 0 => fun _ _ _ _ => none
  | n + 1 => (fun a0 a1 a2 w =>
    (gI w a0 0 8).bind fun x1 =>
    (if a2 < x1 then
      (gR w a0 0 2).bind fun r2 =>
      (aI w r2 a2).bind fun x3 =>
      (if x3 = a1 then
        some (some (.int a2), w)
      else
        (F_X0_cellOf fu n) a0 a1 (a2 + (1 : Int32)) w)
    else
      some (some (.int (-9 : Int32)), w)))
def M_X0_cellOf (fu : Nat) (a0 : Nat) (a1 : Int32) (w : XW) : Option XO :=
  (F_X0_cellOf fu fu) a0 a1 (0 : Int32) w
def U_X0_cellOf (fu : Nat) : Orc := fun as w => match as with
  | [.ref a0, .int a1] => if isO w a0 0 = true then M_X0_cellOf fu a0 a1 w else none
  | _ => none
def K_X0_cellOf (fu : Nat) (n : Nat) : Kont := fun pc ls st w => bif pc == 2 then ((xr ls 0).bind fun a0 => (xi ls 1).bind fun a1 => (xi ls 2).bind fun a2 => skN st ((F_X0_cellOf fu n) a0 a1 a2 w)) else none
set_option maxRecDepth 100000 in
set_option maxHeartbeats 4000000 in
theorem E_X0_cellOf_2 (fu : Nat) (n : Nat) (a0 : Nat) (a1 : Int32) (a2 : Int32) (w : XW) : (F_X0_cellOf fu (n + 1)) a0 a1 a2 w = ev T_X0_cellOf (op_X0_cellOf fu) [2] (K_X0_cellOf fu n) 20 2 [(0, .ref a0), (1, .int a1), (2, .int a2)] [] w := by
  rfl
set_option maxRecDepth 100000 in
set_option maxHeartbeats 4000000 in
theorem E_X0_cellOf (fu : Nat) (a0 : Nat) (a1 : Int32) (w : XW) : M_X0_cellOf fu a0 a1 w = ev T_X0_cellOf (op_X0_cellOf fu) [2] (K_X0_cellOf fu fu) 20 0 (lv_args 0 [.ref a0, .int a1]) [] w := by
  rfl
theorem D_X0_cellOf (fu : Nat) : DS T_X0_cellOf (op_X0_cellOf fu) [2] 20 (K_X0_cellOf fu) := by
  refine ⟨fun pc ls st w => c_none (b_none fun _ => b_none fun _ => b_none fun _ => skN_none rfl) (rfl), fun n pc ls st w o h => ?_⟩
  rcases c_some h with ⟨rfl, h⟩ | h
  · obtain ⟨a0, h0, h⟩ := some_of h; obtain ⟨a1, h1, h⟩ := some_of h; obtain ⟨a2, h2, h⟩ := some_of h;
    obtain ⟨e, g⟩ := skN_of h
    subst e
    exact ⟨[(0, .ref a0), (1, .int a1), (2, .int a2)], cons_all (xr_of h0) (cons_all (xi_of h1) (cons_all (xi_of h2) (nil_all))), (E_X0_cellOf_2 fu n a0 a1 a2 w).symm.trans g⟩
  · cases h
theorem H_X0_cellOf (fu : Nat) : ∀ as w o, U_X0_cellOf fu as w = some o → ∃ a r, as = .ref a :: r ∧ r.length = 1 ∧ isO w a 0 = true := by
  intro as w o h
  unfold U_X0_cellOf at h
  split at h
  next =>
    split at h
    next hh => exact ⟨_, _, rfl, rfl, hh⟩
    next => cases h
  next => cases h
set_option maxRecDepth 100000 in
set_option maxHeartbeats 4000000 in
theorem S_X0_cellOf (fu : Nat) {l : Launch} {D : va_G} {cA : Nat → ClassId} {base b : Nat} : CS l D cA base b 1 y_X0_cellOf prog_2_method_14_code 3 (some .int) (U_X0_cellOf fu) ∧ OM (U_X0_cellOf fu) := by
  refine CS_of (d := 0) (y := y_X0_cellOf) (cc := prog_2_method_14_code) (nL := 3) (ret := (some .int)) (F := U_X0_cellOf fu) (fl := fl_BrookStones_Brook) (nl := []) (kl := []) (k2 := []) (mv := []) (ms := []) (mi := []) (ini := false) hI_w fl_BrookStones_Brook_ok nil_all nil_all nil_all
    (nil_all)
    (nil_all)
    (nil_all)
    (T := T_X0_cellOf) (by decide +kernel) (cut := [2]) (N := 20) (D_X0_cellOf fu) (by decide +kernel) (fun h => absurd h (by decide)) (fun as w o h => ?_)
  unfold U_X0_cellOf at h
  split at h
  next =>
    split at h
    next => exact ⟨Nat.le_of_ble_eq_true rfl, fu, (E_X0_cellOf fu _ _ w).symm.trans h⟩
    next => cases h
  next => cases h
def T_X0_takeUp : List (Nat × Instr) := [(0, .aload_n 0), (1, .iload_n 1), (2, .invokevirtual 61), (5, .istore_n 2), (6, .iload_n 2), (7, .bipush (-9)), (9, .if_icmp .eq 11), (12, .aload_n 0), (13, .getfield 18), (16, .iload_n 2), (17, .bipush (-9)), (19, .iastore), (20, .return_)]
def op_X0_takeUp (fu : Nat) : Nat → Kont → XL → List Value → XW → Instr → Option XO := opK 3 (rzOf (none)) fl_BrookStones_Brook [] [] [] [(61, 2, 1, (U_X0_cellOf fu))] [] []
def M_X0_takeUp (fu : Nat) (a0 : Nat) (a1 : Int32) (w : XW) : Option XO :=
  cI (U_X0_cellOf fu [.ref a0, .int a1] w) fun x2 w1 =>
  (if x2 = (-9 : Int32) then
    some (none, w1)
  else
    (gR w1 a0 0 2).bind fun r3 =>
    (sI w1 r3 x2 (-9 : Int32)).bind fun w4 =>
    some (none, w4))
def U_X0_takeUp (fu : Nat) : Orc := fun as w => match as with
  | [.ref a0, .int a1] => if isO w a0 0 = true then M_X0_takeUp fu a0 a1 w else none
  | _ => none
def K_X0_takeUp (fu : Nat) (n : Nat) : Kont := fun pc ls st w => none
set_option maxRecDepth 100000 in
set_option maxHeartbeats 4000000 in
theorem E_X0_takeUp (fu : Nat) (a0 : Nat) (a1 : Int32) (w : XW) : M_X0_takeUp fu a0 a1 w = ev T_X0_takeUp (op_X0_takeUp fu) [] (K_X0_takeUp fu fu) 15 0 (lv_args 0 [.ref a0, .int a1]) [] w := by
  rfl
theorem D_X0_takeUp (fu : Nat) : DS T_X0_takeUp (op_X0_takeUp fu) [] 15 (K_X0_takeUp fu) := by
  refine ⟨fun pc ls st w => rfl, fun n pc ls st w o h => ?_⟩
  cases h
theorem H_X0_takeUp (fu : Nat) : ∀ as w o, U_X0_takeUp fu as w = some o → ∃ a r, as = .ref a :: r ∧ r.length = 1 ∧ isO w a 0 = true := by
  intro as w o h
  unfold U_X0_takeUp at h
  split at h
  next =>
    split at h
    next hh => exact ⟨_, _, rfl, rfl, hh⟩
    next => cases h
  next => cases h
set_option maxRecDepth 100000 in
set_option maxHeartbeats 4000000 in
theorem S_X0_takeUp (fu : Nat) {l : Launch} {D : va_G} {cA : Nat → ClassId} {base b : Nat} : CS l D cA base b 2 y_X0_takeUp prog_2_method_15_code 3 (none) (U_X0_takeUp fu) ∧ OM (U_X0_takeUp fu) := by
  refine CS_of (d := 1) (y := y_X0_takeUp) (cc := prog_2_method_15_code) (nL := 3) (ret := (none)) (F := U_X0_takeUp fu) (fl := fl_BrookStones_Brook) (nl := []) (kl := []) (k2 := []) (mv := [(61, 2, 1, (U_X0_cellOf fu))]) (ms := []) (mi := []) (ini := false) hI_w fl_BrookStones_Brook_ok nil_all nil_all nil_all
    (cons_all (⟨⟨show (1 : Nat) ≠ 3 by decide, y_X0_cellOf, prog_2_method_14_code, 3, (some .int), 1, "BrookStones", 0, TX0, 15, 1, (S_X0_cellOf fu (l := l) (D := D) (cA := cA) (base := base) (b := b)).1, by decide, by decide, rfl, H_X0_cellOf fu, rfl, mi_X0_cellOf.1, mi_X0_cellOf.2.1, mi_X0_cellOf.2.2.1, mi_X0_cellOf.2.2.2.1, mi_X0_cellOf.2.2.2.2, Or.inl (tblG_of (i := 333) rfl rfl)⟩, (S_X0_cellOf fu (l := l) (D := D) (cA := cA) (base := base) (b := b)).2⟩) (nil_all))
    (nil_all)
    (nil_all)
    (T := T_X0_takeUp) (by decide +kernel) (cut := []) (N := 15) (D_X0_takeUp fu) (by decide +kernel) (fun h => absurd h (by decide)) (fun as w o h => ?_)
  unfold U_X0_takeUp at h
  split at h
  next =>
    split at h
    next => exact ⟨Nat.le_of_ble_eq_true rfl, fu, (E_X0_takeUp fu _ _ w).symm.trans h⟩
    next => cases h
  next => cases h
def T_X7_set : List (Nat × Instr) := [(0, .aload_n 0), (1, .getfield 12), (4, .iload_n 1), (5, .invokevirtual 119), (8, .ifCond .eq 20), (11, .iload_n 2), (12, .bipush (-9)), (14, .if_icmp .eq 16), (17, .aload_n 0), (18, .getfield 12), (21, .iload_n 2), (22, .invokevirtual 77), (25, .ifCond .ne 5), (28, .iconst (-1)), (29, .ireturn), (30, .aload_n 0), (31, .getfield 12), (34, .getfield 138), (37, .iload_n 1), (38, .invokestatic 94), (41, .ifCond .ne 23), (44, .iload_n 2), (45, .bipush (-9)), (47, .if_icmp .eq 20), (50, .aload_n 0), (51, .getfield 12), (54, .getfield 81), (57, .iload_n 2), (58, .iaload), (59, .bipush (-9)), (61, .if_icmp .eq 6), (64, .bipush (-3)), (66, .ireturn), (67, .aload_n 0), (68, .getfield 12), (71, .iload_n 1), (72, .invokevirtual 144), (75, .iload_n 2), (76, .bipush (-9)), (78, .if_icmp .eq 13), (81, .aload_n 0), (82, .getfield 12), (85, .getfield 81), (88, .iload_n 2), (89, .iload_n 1), (90, .iastore), (91, .iconst 1), (92, .ireturn)]
def op_X7_set (fu : Nat) : Nat → Kont → XL → List Value → XW → Instr → Option XO := opK 3 (rzOf (some .int)) fl_BrookStones nl_BrookStones [] [] [(119, 2, 1, (U_X0_isStone fu)), (77, 2, 1, (U_X0_isCell fu)), (144, 2, 0, (U_X0_takeUp fu))] [(94, 2, 1, (U_X7_has fu))] []
def F_X7_set (fu : Nat) : Nat → (Nat → Int32 → Int32 → XW → Option XO) × (Nat → Int32 → Int32 → XW → Option XO)
  | 0 => (fun _ _ _ _ => none, fun _ _ _ _ => none)
  | n + 1 => ((fun a0 a1 a2 w =>
    (gR w a0 6 0).bind fun r1 =>
    (gI w r1 0 13).bind fun x2 =>
    cI (U_X7_has fu [.int x2, .int a1] w) fun x4 w3 =>
    (if x4 = 0 then
      (if a2 = (-9 : Int32) then
        (F_X7_set fu n).2 a0 a1 a2 w3
      else
        (gR w3 a0 6 0).bind fun r5 =>
        (gR w3 r5 0 2).bind fun r6 =>
        (aI w3 r6 a2).bind fun x7 =>
        (if x7 = (-9 : Int32) then
          (F_X7_set fu n).2 a0 a1 a2 w3
        else
          some (some (.int (-3 : Int32)), w3)))
    else
      some (some (.int (-3 : Int32)), w3))),
   (fun a0 a1 a2 w =>
    (gR w a0 6 0).bind fun r8 =>
    cV (U_X0_takeUp fu [.ref r8, .int a1] w) fun w9 =>
    (if a2 = (-9 : Int32) then
      some (some (.int (1 : Int32)), w9)
    else
      (gR w9 a0 6 0).bind fun r10 =>
      (gR w9 r10 0 2).bind fun r11 =>
      (sI w9 r11 a2 a1).bind fun w12 =>
      some (some (.int (1 : Int32)), w12))))
def M_X7_set (fu : Nat) (a0 : Nat) (a1 : Int32) (a2 : Int32) (w : XW) : Option XO :=
  (gR w a0 6 0).bind fun r13 =>
  cI (U_X0_isStone fu [.ref r13, .int a1] w) fun x15 w14 =>
  (if x15 = 0 then
    some (some (.int (-1 : Int32)), w14)
  else
    (if a2 = (-9 : Int32) then
      (F_X7_set fu fu).1 a0 a1 a2 w14
    else
      (gR w14 a0 6 0).bind fun r16 =>
      cI (U_X0_isCell fu [.ref r16, .int a2] w14) fun x18 w17 =>
      (if x18 = 0 then
        some (some (.int (-1 : Int32)), w17)
      else
        (F_X7_set fu fu).1 a0 a1 a2 w17)))
def U_X7_set (fu : Nat) : Orc := fun as w => match as with
  | [.ref a0, .int a1, .int a2] => if isO w a0 6 = true then M_X7_set fu a0 a1 a2 w else none
  | _ => none
def K_X7_set (fu : Nat) (n : Nat) : Kont := fun pc ls st w => bif pc == 30 then ((xr ls 0).bind fun a0 => (xi ls 1).bind fun a1 => (xi ls 2).bind fun a2 => skN st ((F_X7_set fu n).1 a0 a1 a2 w)) else bif pc == 67 then ((xr ls 0).bind fun a0 => (xi ls 1).bind fun a1 => (xi ls 2).bind fun a2 => skN st ((F_X7_set fu n).2 a0 a1 a2 w)) else none
set_option maxRecDepth 100000 in
set_option maxHeartbeats 4000000 in
theorem E_X7_set_30 (fu : Nat) (n : Nat) (a0 : Nat) (a1 : Int32) (a2 : Int32) (w : XW) : (F_X7_set fu (n + 1)).1 a0 a1 a2 w = ev T_X7_set (op_X7_set fu) [30, 67] (K_X7_set fu n) 50 30 [(0, .ref a0), (1, .int a1), (2, .int a2)] [] w := by
  rfl
set_option maxRecDepth 100000 in
set_option maxHeartbeats 4000000 in
theorem E_X7_set_67 (fu : Nat) (n : Nat) (a0 : Nat) (a1 : Int32) (a2 : Int32) (w : XW) : (F_X7_set fu (n + 1)).2 a0 a1 a2 w = ev T_X7_set (op_X7_set fu) [30, 67] (K_X7_set fu n) 50 67 [(0, .ref a0), (1, .int a1), (2, .int a2)] [] w := by
  rfl
set_option maxRecDepth 100000 in
set_option maxHeartbeats 4000000 in
theorem E_X7_set (fu : Nat) (a0 : Nat) (a1 : Int32) (a2 : Int32) (w : XW) : M_X7_set fu a0 a1 a2 w = ev T_X7_set (op_X7_set fu) [30, 67] (K_X7_set fu fu) 50 0 (lv_args 0 [.ref a0, .int a1, .int a2]) [] w := by
  rfl
theorem D_X7_set (fu : Nat) : DS T_X7_set (op_X7_set fu) [30, 67] 50 (K_X7_set fu) := by
  refine ⟨fun pc ls st w => c_none (b_none fun _ => b_none fun _ => b_none fun _ => skN_none rfl) (c_none (b_none fun _ => b_none fun _ => b_none fun _ => skN_none rfl) (rfl)), fun n pc ls st w o h => ?_⟩
  rcases c_some h with ⟨rfl, h⟩ | h
  · obtain ⟨a0, h0, h⟩ := some_of h; obtain ⟨a1, h1, h⟩ := some_of h; obtain ⟨a2, h2, h⟩ := some_of h;
    obtain ⟨e, g⟩ := skN_of h
    subst e
    exact ⟨[(0, .ref a0), (1, .int a1), (2, .int a2)], cons_all (xr_of h0) (cons_all (xi_of h1) (cons_all (xi_of h2) (nil_all))), (E_X7_set_30 fu n a0 a1 a2 w).symm.trans g⟩
  rcases c_some h with ⟨rfl, h⟩ | h
  · obtain ⟨a0, h0, h⟩ := some_of h; obtain ⟨a1, h1, h⟩ := some_of h; obtain ⟨a2, h2, h⟩ := some_of h;
    obtain ⟨e, g⟩ := skN_of h
    subst e
    exact ⟨[(0, .ref a0), (1, .int a1), (2, .int a2)], cons_all (xr_of h0) (cons_all (xi_of h1) (cons_all (xi_of h2) (nil_all))), (E_X7_set_67 fu n a0 a1 a2 w).symm.trans g⟩
  · cases h
theorem H_X7_set (fu : Nat) : ∀ as w o, U_X7_set fu as w = some o → ∃ a r, as = .ref a :: r ∧ r.length = 2 ∧ isO w a 6 = true := by
  intro as w o h
  unfold U_X7_set at h
  split at h
  next =>
    split at h
    next hh => exact ⟨_, _, rfl, rfl, hh⟩
    next => cases h
  next => cases h
set_option maxRecDepth 100000 in
set_option maxHeartbeats 4000000 in
theorem S_X7_set (fu : Nat) {l : Launch} {D : va_G} {cA : Nat → ClassId} {base b : Nat} : CS l D cA base b 3 y_X7_set prog_1_method_8_code 3 (some .int) (U_X7_set fu) ∧ OM (U_X7_set fu) := by
  refine CS_of (d := 2) (y := y_X7_set) (cc := prog_1_method_8_code) (nL := 3) (ret := (some .int)) (F := U_X7_set fu) (fl := fl_BrookStones) (nl := nl_BrookStones) (kl := []) (k2 := []) (mv := [(119, 2, 1, (U_X0_isStone fu)), (77, 2, 1, (U_X0_isCell fu)), (144, 2, 0, (U_X0_takeUp fu))]) (ms := [(94, 2, 1, (U_X7_has fu))]) (mi := []) (ini := false) hI_w fl_BrookStones_ok nl_BrookStones_ok nil_all nil_all
    (cons_all (⟨⟨show (1 : Nat) ≠ 3 by decide, y_X0_isStone, prog_2_method_5_code, 2, (some .boolean), 1, "BrookStones", 0, TX0, 15, 1, (S_X0_isStone fu (l := l) (D := D) (cA := cA) (base := base) (b := b)).1, by decide, by decide, rfl, H_X0_isStone fu, rfl, mi_X0_isStone.1, mi_X0_isStone.2.1, mi_X0_isStone.2.2.1, mi_X0_isStone.2.2.2.1, mi_X0_isStone.2.2.2.2, Or.inr (tblN_of (i := 313) rfl rfl)⟩, (S_X0_isStone fu (l := l) (D := D) (cA := cA) (base := base) (b := b)).2⟩) (cons_all (⟨⟨show (1 : Nat) ≠ 3 by decide, y_X0_isCell, prog_2_method_4_code, 2, (some .boolean), 1, "BrookStones", 0, TX0, 15, 1, (S_X0_isCell fu (l := l) (D := D) (cA := cA) (base := base) (b := b)).1, by decide, by decide, rfl, H_X0_isCell fu, rfl, mi_X0_isCell.1, mi_X0_isCell.2.1, mi_X0_isCell.2.2.1, mi_X0_isCell.2.2.2.1, mi_X0_isCell.2.2.2.2, Or.inr (tblN_of (i := 289) rfl rfl)⟩, (S_X0_isCell fu (l := l) (D := D) (cA := cA) (base := base) (b := b)).2⟩) (cons_all (⟨⟨show (0 : Nat) ≠ 3 by decide, y_X0_takeUp, prog_2_method_15_code, 3, (none), 2, "BrookStones", 0, TX0, 15, 1, (S_X0_takeUp fu (l := l) (D := D) (cA := cA) (base := base) (b := b)).1, by decide, by decide, rfl, H_X0_takeUp fu, rfl, mi_X0_takeUp.1, mi_X0_takeUp.2.1, mi_X0_takeUp.2.2.1, mi_X0_takeUp.2.2.2.1, mi_X0_takeUp.2.2.2.2, Or.inr (tblN_of (i := 329) rfl rfl)⟩, (S_X0_takeUp fu (l := l) (D := D) (cA := cA) (base := base) (b := b)).2⟩) (nil_all))))
    (cons_all (⟨Or.inl ⟨show (1 : Nat) ≠ 3 by decide, y_X7_has, prog_1_method_47_code, 2, (some .boolean), 1, "BrookStones", (S_X7_has fu (l := l) (D := D) (cA := cA) (base := base) (b := b)).1, by decide, by decide, mi_X7_has.1, mi_X7_has.2.1, mi_X7_has.2.2.1, mi_X7_has.2.2.2, Or.inl (tblG_of (i := 293) rfl rfl)⟩, (S_X7_has fu (l := l) (D := D) (cA := cA) (base := base) (b := b)).2⟩) (nil_all))
    (nil_all)
    (T := T_X7_set) (by decide +kernel) (cut := [30, 67]) (N := 50) (D_X7_set fu) (by decide +kernel) (fun h => absurd h (by decide)) (fun as w o h => ?_)
  unfold U_X7_set at h
  split at h
  next =>
    split at h
    next => exact ⟨Nat.le_of_ble_eq_true rfl, fu, (E_X7_set fu _ _ _ w).symm.trans h⟩
    next => cases h
  next => cases h
def T_X0_holdOf : List (Nat × Instr) := [(0, .aload_n 0), (1, .getfield 21), (4, .iload_n 1), (5, .iaload), (6, .iconst 1), (7, .if_icmp .lt 14), (10, .aload_n 0), (11, .getfield 27), (14, .iload_n 1), (15, .iaload), (16, .iconst 3), (17, .iadd), (18, .goto 9), (21, .aload_n 0), (22, .getfield 27), (25, .iload_n 1), (26, .iaload), (27, .ireturn)]
def op_X0_holdOf (fu : Nat) : Nat → Kont → XL → List Value → XW → Instr → Option XO := opK 2 (rzOf (some .int)) fl_BrookStones_Brook [] [] [] [] [] []
def M_X0_holdOf (fu : Nat) (a0 : Nat) (a1 : Int32) (w : XW) : Option XO :=
  (gR w a0 0 3).bind fun r1 =>
  (aI w r1 a1).bind fun x2 =>
  (if x2 < (1 : Int32) then
    (gR w a0 0 5).bind fun r3 =>
    (aI w r3 a1).bind fun x4 =>
    some (some (.int x4), w)
  else
    (gR w a0 0 5).bind fun r5 =>
    (aI w r5 a1).bind fun x6 =>
    some (some (.int (x6 + (3 : Int32))), w))
def U_X0_holdOf (fu : Nat) : Orc := fun as w => match as with
  | [.ref a0, .int a1] => if isO w a0 0 = true then M_X0_holdOf fu a0 a1 w else none
  | _ => none
def K_X0_holdOf (fu : Nat) (n : Nat) : Kont := fun pc ls st w => none
set_option maxRecDepth 100000 in
set_option maxHeartbeats 4000000 in
theorem E_X0_holdOf (fu : Nat) (a0 : Nat) (a1 : Int32) (w : XW) : M_X0_holdOf fu a0 a1 w = ev T_X0_holdOf (op_X0_holdOf fu) [] (K_X0_holdOf fu fu) 20 0 (lv_args 0 [.ref a0, .int a1]) [] w := by
  rfl
theorem D_X0_holdOf (fu : Nat) : DS T_X0_holdOf (op_X0_holdOf fu) [] 20 (K_X0_holdOf fu) := by
  refine ⟨fun pc ls st w => rfl, fun n pc ls st w o h => ?_⟩
  cases h
theorem H_X0_holdOf (fu : Nat) : ∀ as w o, U_X0_holdOf fu as w = some o → ∃ a r, as = .ref a :: r ∧ r.length = 1 ∧ isO w a 0 = true := by
  intro as w o h
  unfold U_X0_holdOf at h
  split at h
  next =>
    split at h
    next hh => exact ⟨_, _, rfl, rfl, hh⟩
    next => cases h
  next => cases h
set_option maxRecDepth 100000 in
set_option maxHeartbeats 4000000 in
theorem S_X0_holdOf (fu : Nat) {l : Launch} {D : va_G} {cA : Nat → ClassId} {base b : Nat} : CS l D cA base b 1 y_X0_holdOf prog_2_method_10_code 2 (some .int) (U_X0_holdOf fu) ∧ OM (U_X0_holdOf fu) := by
  refine CS_of (d := 0) (y := y_X0_holdOf) (cc := prog_2_method_10_code) (nL := 2) (ret := (some .int)) (F := U_X0_holdOf fu) (fl := fl_BrookStones_Brook) (nl := []) (kl := []) (k2 := []) (mv := []) (ms := []) (mi := []) (ini := false) hI_w fl_BrookStones_Brook_ok nil_all nil_all nil_all
    (nil_all)
    (nil_all)
    (nil_all)
    (T := T_X0_holdOf) (by decide +kernel) (cut := []) (N := 20) (D_X0_holdOf fu) (by decide +kernel) (fun h => absurd h (by decide)) (fun as w o h => ?_)
  unfold U_X0_holdOf at h
  split at h
  next =>
    split at h
    next => exact ⟨Nat.le_of_ble_eq_true rfl, fu, (E_X0_holdOf fu _ _ w).symm.trans h⟩
    next => cases h
  next => cases h
