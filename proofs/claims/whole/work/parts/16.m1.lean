def T_J7_fill_53178 : List (Nat × Instr) := [(0, .iconst 0), (1, .istore_n 2), (2, .aload_n 0), (3, .arraylength), (4, .istore_n 3), (5, .iload_n 2), (6, .iload_n 3), (7, .if_icmp .ge 13), (10, .aload_n 0), (11, .iload_n 2), (12, .iload_n 1), (13, .iastore), (14, .iinc 2 1), (17, .goto (-12)), (20, .return_)]
def op_J7_fill_53178 (fu : Nat) : Nat → Kont → XL → List Value → XW → Instr → Option XO := opK 4 (rzOf (none)) [] [] [] [] [] [] []
def F_J7_fill_53178 (fu : Nat) : Nat → (Nat → Int32 → Int32 → Int32 → XW → Option XO)
  | 0 => fun _ _ _ _ _ => none
  | n + 1 => (fun a0 a1 a2 a3 w =>
    (if a2 < a3 then
      (sI w a0 a2 a1).bind fun w1 =>
      (F_J7_fill_53178 fu n) a0 a1 (a2 + (1 : Int32)) a3 w1
    else
      some (none, w)))
def M_J7_fill_53178 (fu : Nat) (a0 : Nat) (a1 : Int32) (w : XW) : Option XO :=
  (aL w a0).bind fun x2 =>
  (F_J7_fill_53178 fu fu) a0 a1 (0 : Int32) x2 w
def U_J7_fill_53178 (fu : Nat) : Orc := fun as w => match as with
  | [.ref a0, .int a1] => M_J7_fill_53178 fu a0 a1 w
  | _ => none
def K_J7_fill_53178 (fu : Nat) (n : Nat) : Kont := fun pc ls st w => bif pc == 5 then ((xr ls 0).bind fun a0 => (xi ls 1).bind fun a1 => (xi ls 2).bind fun a2 => (xi ls 3).bind fun a3 => skN st ((F_J7_fill_53178 fu n) a0 a1 a2 a3 w)) else none
set_option maxRecDepth 100000 in
set_option maxHeartbeats 4000000 in
theorem E_J7_fill_53178_5 (fu : Nat) (n : Nat) (a0 : Nat) (a1 : Int32) (a2 : Int32) (a3 : Int32) (w : XW) : (F_J7_fill_53178 fu (n + 1)) a0 a1 a2 a3 w = ev T_J7_fill_53178 (op_J7_fill_53178 fu) [5] (K_J7_fill_53178 fu n) 17 5 [(0, .ref a0), (1, .int a1), (2, .int a2), (3, .int a3)] [] w := by
  rfl
set_option maxRecDepth 100000 in
set_option maxHeartbeats 4000000 in
theorem E_J7_fill_53178 (fu : Nat) (a0 : Nat) (a1 : Int32) (w : XW) : M_J7_fill_53178 fu a0 a1 w = ev T_J7_fill_53178 (op_J7_fill_53178 fu) [5] (K_J7_fill_53178 fu fu) 17 0 (lv_args 0 [.ref a0, .int a1]) [] w := by
  rfl
theorem D_J7_fill_53178 (fu : Nat) : DS T_J7_fill_53178 (op_J7_fill_53178 fu) [5] 17 (K_J7_fill_53178 fu) := by
  refine ⟨fun pc ls st w => c_none (b_none fun _ => b_none fun _ => b_none fun _ => b_none fun _ => skN_none rfl) (rfl), fun n pc ls st w o h => ?_⟩
  rcases c_some h with ⟨rfl, h⟩ | h
  · obtain ⟨a0, h0, h⟩ := some_of h; obtain ⟨a1, h1, h⟩ := some_of h; obtain ⟨a2, h2, h⟩ := some_of h; obtain ⟨a3, h3, h⟩ := some_of h;
    obtain ⟨e, g⟩ := skN_of h
    subst e
    exact ⟨[(0, .ref a0), (1, .int a1), (2, .int a2), (3, .int a3)], cons_all (xr_of h0) (cons_all (xi_of h1) (cons_all (xi_of h2) (cons_all (xi_of h3) (nil_all)))), (E_J7_fill_53178_5 fu n a0 a1 a2 a3 w).symm.trans g⟩
  · cases h
set_option maxRecDepth 100000 in
set_option maxHeartbeats 4000000 in
theorem S_J7_fill_53178 (fu : Nat) {l : Launch} {D : va_G} {cA : Nat → ClassId} {base b : Nat} : CS l D cA base b 1 y_J7_fill_53178 prog_14_method_103_code 4 (none) (U_J7_fill_53178 fu) ∧ OM (U_J7_fill_53178 fu) := by
  refine CS_of (d := 0) (y := y_J7_fill_53178) (cc := prog_14_method_103_code) (nL := 4) (ret := (none)) (F := U_J7_fill_53178 fu) (fl := []) (nl := []) (kl := []) (k2 := []) (mv := []) (ms := []) (mi := []) (ini := false) hI_w hZ_w nil_all nil_all nil_all nil_all
    (nil_all)
    (nil_all)
    (nil_all)
    (T := T_J7_fill_53178) (by decide +kernel) (cut := [5]) (N := 17) (D_J7_fill_53178 fu) (by decide +kernel) (fun h => absurd h (by decide)) (fun as w o h => ?_)
  unfold U_J7_fill_53178 at h
  split at h
  next =>
    exact ⟨Nat.le_of_ble_eq_true rfl, fu, (E_J7_fill_53178 fu _ _ w).symm.trans h⟩
  next => cases h
def T_X0_init : List (Nat × Instr) := [(0, .aload_n 0), (1, .invokespecial 3), (4, .aload_n 0), (5, .bipush 7), (7, .newarray .int), (9, .putfield 9), (12, .aload_n 0), (13, .bipush 7), (15, .newarray .int), (17, .putfield 15), (20, .aload_n 0), (21, .bipush 7), (23, .newarray .int), (25, .putfield 18), (28, .aload_n 0), (29, .bipush 6), (31, .newarray .int), (33, .putfield 21), (36, .aload_n 0), (37, .bipush 6), (39, .newarray .int), (41, .putfield 24), (44, .aload_n 0), (45, .bipush 6), (47, .newarray .int), (49, .putfield 27), (52, .aload_n 0), (53, .bipush 6), (55, .newarray .int), (57, .putfield 30), (60, .aload_n 0), (61, .bipush 6), (63, .newarray .int), (65, .putfield 33), (68, .aload_n 0), (69, .getfield 18), (72, .bipush (-9)), (74, .invokestatic 36), (77, .return_)]
def op_X0_init (fu : Nat) : Nat → Kont → XL → List Value → XW → Instr → Option XO := opK 1 (rzOf (none)) fl_BrookStones_Brook_i [] [] [] [] [(36, 2, 0, (U_J7_fill_53178 fu))] [(3, 1, 0, oInit)]
def M_X0_init (fu : Nat) (a0 : Nat) (w : XW) : Option XO :=
  cV (oInit [.ref a0] w) fun w1 =>
  (if 0 ≤ (7 : Int32) ∧ (7 : Int32) ≤ 1000 ∧ 0 < List.length w1 then
  (pF (w1 ++ [.inr (0, List.replicate (Int32.toNatClampNeg (7 : Int32)) 0)]) a0 0 0 (.ref (List.length w1))).bind fun w2 =>
  (if 0 ≤ (7 : Int32) ∧ (7 : Int32) ≤ 1000 ∧ 0 < List.length w2 then
  (pF (w2 ++ [.inr (0, List.replicate (Int32.toNatClampNeg (7 : Int32)) 0)]) a0 0 1 (.ref (List.length w2))).bind fun w3 =>
  (if 0 ≤ (7 : Int32) ∧ (7 : Int32) ≤ 1000 ∧ 0 < List.length w3 then
  (pF (w3 ++ [.inr (0, List.replicate (Int32.toNatClampNeg (7 : Int32)) 0)]) a0 0 2 (.ref (List.length w3))).bind fun w4 =>
  (if 0 ≤ (6 : Int32) ∧ (6 : Int32) ≤ 1000 ∧ 0 < List.length w4 then
  (pF (w4 ++ [.inr (0, List.replicate (Int32.toNatClampNeg (6 : Int32)) 0)]) a0 0 3 (.ref (List.length w4))).bind fun w5 =>
  (if 0 ≤ (6 : Int32) ∧ (6 : Int32) ≤ 1000 ∧ 0 < List.length w5 then
  (pF (w5 ++ [.inr (0, List.replicate (Int32.toNatClampNeg (6 : Int32)) 0)]) a0 0 4 (.ref (List.length w5))).bind fun w6 =>
  (if 0 ≤ (6 : Int32) ∧ (6 : Int32) ≤ 1000 ∧ 0 < List.length w6 then
  (pF (w6 ++ [.inr (0, List.replicate (Int32.toNatClampNeg (6 : Int32)) 0)]) a0 0 5 (.ref (List.length w6))).bind fun w7 =>
  (if 0 ≤ (6 : Int32) ∧ (6 : Int32) ≤ 1000 ∧ 0 < List.length w7 then
  (pF (w7 ++ [.inr (0, List.replicate (Int32.toNatClampNeg (6 : Int32)) 0)]) a0 0 6 (.ref (List.length w7))).bind fun w8 =>
  (if 0 ≤ (6 : Int32) ∧ (6 : Int32) ≤ 1000 ∧ 0 < List.length w8 then
  (pF (w8 ++ [.inr (0, List.replicate (Int32.toNatClampNeg (6 : Int32)) 0)]) a0 0 7 (.ref (List.length w8))).bind fun w9 =>
  (gR w9 a0 0 2).bind fun r10 =>
  cV (U_J7_fill_53178 fu [.ref r10, .int (-9 : Int32)] w9) fun w11 =>
  some (none, w11)
  else none)
  else none)
  else none)
  else none)
  else none)
  else none)
  else none)
  else none)
def U_X0_init (fu : Nat) : Orc := fun as w => match as with
  | [.ref a0] => M_X0_init fu a0 w
  | _ => none
def K_X0_init (fu : Nat) (n : Nat) : Kont := fun pc ls st w => none
set_option maxRecDepth 100000 in
set_option maxHeartbeats 4000000 in
theorem E_X0_init (fu : Nat) (a0 : Nat) (w : XW) : M_X0_init fu a0 w = ev T_X0_init (op_X0_init fu) [] (K_X0_init fu fu) 41 0 (lv_args 0 [.ref a0]) [] w := by
  rfl
theorem D_X0_init (fu : Nat) : DS T_X0_init (op_X0_init fu) [] 41 (K_X0_init fu) := by
  refine ⟨fun pc ls st w => rfl, fun n pc ls st w o h => ?_⟩
  cases h
theorem H_X0_init (fu : Nat) : ∀ as w o, U_X0_init fu as w = some o → ∃ a r, as = .ref a :: r ∧ r.length = 0 := by
  intro as w o h
  unfold U_X0_init at h
  split at h
  next => exact ⟨_, _, rfl, rfl⟩
  next => cases h
set_option maxRecDepth 100000 in
set_option maxHeartbeats 4000000 in
theorem S_X0_init (fu : Nat) {l : Launch} {D : va_G} {cA : Nat → ClassId} {base b : Nat} : CS l D cA base b 2 y_X0_init prog_2_method_1_code 1 (none) (U_X0_init fu) ∧ OM (U_X0_init fu) := by
  refine CS_of (d := 1) (y := y_X0_init) (cc := prog_2_method_1_code) (nL := 1) (ret := (none)) (F := U_X0_init fu) (fl := fl_BrookStones_Brook_i) (nl := []) (kl := []) (k2 := []) (mv := []) (ms := [(36, 2, 0, (U_J7_fill_53178 fu))]) (mi := [(3, 1, 0, oInit)]) (ini := true) hI_w hZ_w fl_BrookStones_Brook_i_ok nil_all nil_all nil_all
    (nil_all)
    (cons_all (⟨Or.inl ⟨show (0 : Nat) ≠ 3 by decide, y_J7_fill_53178, prog_14_method_103_code, 4, (none), 1, "BrookStones", (S_J7_fill_53178 fu (l := l) (D := D) (cA := cA) (base := base) (b := b)).1, by decide, by decide, mi_J7_fill_53178.1, mi_J7_fill_53178.2.1, mi_J7_fill_53178.2.2.1, mi_J7_fill_53178.2.2.2, Or.inl (tblG_of (i := 28) rfl rfl)⟩, (S_J7_fill_53178 fu (l := l) (D := D) (cA := cA) (base := base) (b := b)).2⟩) (nil_all))
    (cons_all (⟨Or.inr ⟨rfl, rfl, rfl, tblG_of (i := 27) rfl rfl, tblG_of (i := 20) rfl rfl, tblG_of (i := 21) rfl rfl⟩, om_init⟩) (nil_all))
    (T := T_X0_init) (by decide +kernel) (cut := []) (N := 41) (D_X0_init fu) (by decide +kernel) (fun _ => rfl) (fun as w o h => ?_)
  unfold U_X0_init at h
  split at h
  next =>
    exact ⟨Nat.le_of_ble_eq_true rfl, fu, (E_X0_init fu _ w).symm.trans h⟩
  next => cases h
def T_X4_init : List (Nat × Instr) := [(0, .aload_n 0), (1, .invokespecial 3), (4, .aload_n 0), (5, .iconst 4), (6, .newarray .int), (8, .putfield 9), (11, .aload_n 0), (12, .iconst 4), (13, .newarray .int), (15, .putfield 15), (18, .aload_n 0), (19, .sipush 240), (22, .newarray .int), (24, .putfield 18), (27, .aload_n 0), (28, .getfield 15), (31, .iconst (-1)), (32, .invokestatic 21), (35, .return_)]
def op_X4_init (fu : Nat) : Nat → Kont → XL → List Value → XW → Instr → Option XO := opK 1 (rzOf (none)) fl_BrookStones_Sheets_i [] [] [] [] [(21, 2, 0, (U_J7_fill_53178 fu))] [(3, 1, 0, oInit)]
def M_X4_init (fu : Nat) (a0 : Nat) (w : XW) : Option XO :=
  cV (oInit [.ref a0] w) fun w1 =>
  (if 0 ≤ (4 : Int32) ∧ (4 : Int32) ≤ 1000 ∧ 0 < List.length w1 then
  (pF (w1 ++ [.inr (0, List.replicate (Int32.toNatClampNeg (4 : Int32)) 0)]) a0 4 0 (.ref (List.length w1))).bind fun w2 =>
  (if 0 ≤ (4 : Int32) ∧ (4 : Int32) ≤ 1000 ∧ 0 < List.length w2 then
  (pF (w2 ++ [.inr (0, List.replicate (Int32.toNatClampNeg (4 : Int32)) 0)]) a0 4 1 (.ref (List.length w2))).bind fun w3 =>
  (if 0 ≤ (240 : Int32) ∧ (240 : Int32) ≤ 1000 ∧ 0 < List.length w3 then
  (pF (w3 ++ [.inr (0, List.replicate (Int32.toNatClampNeg (240 : Int32)) 0)]) a0 4 2 (.ref (List.length w3))).bind fun w4 =>
  (gR w4 a0 4 1).bind fun r5 =>
  cV (U_J7_fill_53178 fu [.ref r5, .int (-1 : Int32)] w4) fun w6 =>
  some (none, w6)
  else none)
  else none)
  else none)
def U_X4_init (fu : Nat) : Orc := fun as w => match as with
  | [.ref a0] => M_X4_init fu a0 w
  | _ => none
def K_X4_init (fu : Nat) (n : Nat) : Kont := fun pc ls st w => none
set_option maxRecDepth 100000 in
set_option maxHeartbeats 4000000 in
theorem E_X4_init (fu : Nat) (a0 : Nat) (w : XW) : M_X4_init fu a0 w = ev T_X4_init (op_X4_init fu) [] (K_X4_init fu fu) 21 0 (lv_args 0 [.ref a0]) [] w := by
  rfl
theorem D_X4_init (fu : Nat) : DS T_X4_init (op_X4_init fu) [] 21 (K_X4_init fu) := by
  refine ⟨fun pc ls st w => rfl, fun n pc ls st w o h => ?_⟩
  cases h
theorem H_X4_init (fu : Nat) : ∀ as w o, U_X4_init fu as w = some o → ∃ a r, as = .ref a :: r ∧ r.length = 0 := by
  intro as w o h
  unfold U_X4_init at h
  split at h
  next => exact ⟨_, _, rfl, rfl⟩
  next => cases h
set_option maxRecDepth 100000 in
set_option maxHeartbeats 4000000 in
theorem S_X4_init (fu : Nat) {l : Launch} {D : va_G} {cA : Nat → ClassId} {base b : Nat} : CS l D cA base b 2 y_X4_init prog_6_method_1_code 1 (none) (U_X4_init fu) ∧ OM (U_X4_init fu) := by
  refine CS_of (d := 1) (y := y_X4_init) (cc := prog_6_method_1_code) (nL := 1) (ret := (none)) (F := U_X4_init fu) (fl := fl_BrookStones_Sheets_i) (nl := []) (kl := []) (k2 := []) (mv := []) (ms := [(21, 2, 0, (U_J7_fill_53178 fu))]) (mi := [(3, 1, 0, oInit)]) (ini := true) hI_w hZ_w fl_BrookStones_Sheets_i_ok nil_all nil_all nil_all
    (nil_all)
    (cons_all (⟨Or.inl ⟨show (0 : Nat) ≠ 3 by decide, y_J7_fill_53178, prog_14_method_103_code, 4, (none), 1, "BrookStones", (S_J7_fill_53178 fu (l := l) (D := D) (cA := cA) (base := base) (b := b)).1, by decide, by decide, mi_J7_fill_53178.1, mi_J7_fill_53178.2.1, mi_J7_fill_53178.2.2.1, mi_J7_fill_53178.2.2.2, Or.inl (tblG_of (i := 114) rfl rfl)⟩, (S_J7_fill_53178 fu (l := l) (D := D) (cA := cA) (base := base) (b := b)).2⟩) (nil_all))
    (cons_all (⟨Or.inr ⟨rfl, rfl, rfl, tblG_of (i := 113) rfl rfl, tblG_of (i := 20) rfl rfl, tblG_of (i := 21) rfl rfl⟩, om_init⟩) (nil_all))
    (T := T_X4_init) (by decide +kernel) (cut := []) (N := 21) (D_X4_init fu) (by decide +kernel) (fun _ => rfl) (fun as w o h => ?_)
  unfold U_X4_init at h
  split at h
  next =>
    exact ⟨Nat.le_of_ble_eq_true rfl, fu, (E_X4_init fu _ w).symm.trans h⟩
  next => cases h
def T_X6_init : List (Nat × Instr) := [(0, .aload_n 0), (1, .invokespecial 3), (4, .aload_n 0), (5, .bipush 8), (7, .newarray .int), (9, .putfield 9), (12, .aload_n 0), (13, .bipush 9), (15, .newarray .int), (17, .putfield 15), (20, .return_)]
def op_X6_init (fu : Nat) : Nat → Kont → XL → List Value → XW → Instr → Option XO := opK 1 (rzOf (none)) fl_BrookStones_Way_i [] [] [] [] [] [(3, 1, 0, oInit)]
def M_X6_init (fu : Nat) (a0 : Nat) (w : XW) : Option XO :=
  cV (oInit [.ref a0] w) fun w1 =>
  (if 0 ≤ (8 : Int32) ∧ (8 : Int32) ≤ 1000 ∧ 0 < List.length w1 then
  (pF (w1 ++ [.inr (0, List.replicate (Int32.toNatClampNeg (8 : Int32)) 0)]) a0 5 0 (.ref (List.length w1))).bind fun w2 =>
  (if 0 ≤ (9 : Int32) ∧ (9 : Int32) ≤ 1000 ∧ 0 < List.length w2 then
  (pF (w2 ++ [.inr (0, List.replicate (Int32.toNatClampNeg (9 : Int32)) 0)]) a0 5 1 (.ref (List.length w2))).bind fun w3 =>
  some (none, w3)
  else none)
  else none)
def U_X6_init (fu : Nat) : Orc := fun as w => match as with
  | [.ref a0] => M_X6_init fu a0 w
  | _ => none
def K_X6_init (fu : Nat) (n : Nat) : Kont := fun pc ls st w => none
set_option maxRecDepth 100000 in
set_option maxHeartbeats 4000000 in
theorem E_X6_init (fu : Nat) (a0 : Nat) (w : XW) : M_X6_init fu a0 w = ev T_X6_init (op_X6_init fu) [] (K_X6_init fu fu) 13 0 (lv_args 0 [.ref a0]) [] w := by
  rfl
theorem D_X6_init (fu : Nat) : DS T_X6_init (op_X6_init fu) [] 13 (K_X6_init fu) := by
  refine ⟨fun pc ls st w => rfl, fun n pc ls st w o h => ?_⟩
  cases h
theorem H_X6_init (fu : Nat) : ∀ as w o, U_X6_init fu as w = some o → ∃ a r, as = .ref a :: r ∧ r.length = 0 := by
  intro as w o h
  unfold U_X6_init at h
  split at h
  next => exact ⟨_, _, rfl, rfl⟩
  next => cases h
set_option maxRecDepth 100000 in
set_option maxHeartbeats 4000000 in
theorem S_X6_init (fu : Nat) {l : Launch} {D : va_G} {cA : Nat → ClassId} {base b : Nat} : CS l D cA base b 1 y_X6_init prog_8_method_1_code 1 (none) (U_X6_init fu) ∧ OM (U_X6_init fu) := by
  refine CS_of (d := 0) (y := y_X6_init) (cc := prog_8_method_1_code) (nL := 1) (ret := (none)) (F := U_X6_init fu) (fl := fl_BrookStones_Way_i) (nl := []) (kl := []) (k2 := []) (mv := []) (ms := []) (mi := [(3, 1, 0, oInit)]) (ini := true) hI_w hZ_w fl_BrookStones_Way_i_ok nil_all nil_all nil_all
    (nil_all)
    (nil_all)
    (cons_all (⟨Or.inr ⟨rfl, rfl, rfl, tblG_of (i := 132) rfl rfl, tblG_of (i := 20) rfl rfl, tblG_of (i := 21) rfl rfl⟩, om_init⟩) (nil_all))
    (T := T_X6_init) (by decide +kernel) (cut := []) (N := 13) (D_X6_init fu) (by decide +kernel) (fun _ => rfl) (fun as w o h => ?_)
  unfold U_X6_init at h
  split at h
  next =>
    exact ⟨Nat.le_of_ble_eq_true rfl, fu, (E_X6_init fu _ w).symm.trans h⟩
  next => cases h
def T_X1_init : List (Nat × Instr) := [(0, .aload_n 0), (1, .invokespecial 3), (4, .aload_n 0), (5, .bipush 7), (7, .newarray .int), (9, .putfield 9), (12, .aload_n 0), (13, .bipush 7), (15, .newarray .int), (17, .putfield 15), (20, .return_)]
def op_X1_init (fu : Nat) : Nat → Kont → XL → List Value → XW → Instr → Option XO := opK 1 (rzOf (none)) fl_BrookStones_Flood_i [] [] [] [] [] [(3, 1, 0, oInit)]
def M_X1_init (fu : Nat) (a0 : Nat) (w : XW) : Option XO :=
  cV (oInit [.ref a0] w) fun w1 =>
  (if 0 ≤ (7 : Int32) ∧ (7 : Int32) ≤ 1000 ∧ 0 < List.length w1 then
  (pF (w1 ++ [.inr (0, List.replicate (Int32.toNatClampNeg (7 : Int32)) 0)]) a0 1 0 (.ref (List.length w1))).bind fun w2 =>
  (if 0 ≤ (7 : Int32) ∧ (7 : Int32) ≤ 1000 ∧ 0 < List.length w2 then
  (pF (w2 ++ [.inr (0, List.replicate (Int32.toNatClampNeg (7 : Int32)) 0)]) a0 1 1 (.ref (List.length w2))).bind fun w3 =>
  some (none, w3)
  else none)
  else none)
def U_X1_init (fu : Nat) : Orc := fun as w => match as with
  | [.ref a0] => M_X1_init fu a0 w
  | _ => none
def K_X1_init (fu : Nat) (n : Nat) : Kont := fun pc ls st w => none
set_option maxRecDepth 100000 in
set_option maxHeartbeats 4000000 in
theorem E_X1_init (fu : Nat) (a0 : Nat) (w : XW) : M_X1_init fu a0 w = ev T_X1_init (op_X1_init fu) [] (K_X1_init fu fu) 13 0 (lv_args 0 [.ref a0]) [] w := by
  rfl
theorem D_X1_init (fu : Nat) : DS T_X1_init (op_X1_init fu) [] 13 (K_X1_init fu) := by
  refine ⟨fun pc ls st w => rfl, fun n pc ls st w o h => ?_⟩
  cases h
theorem H_X1_init (fu : Nat) : ∀ as w o, U_X1_init fu as w = some o → ∃ a r, as = .ref a :: r ∧ r.length = 0 := by
  intro as w o h
  unfold U_X1_init at h
  split at h
  next => exact ⟨_, _, rfl, rfl⟩
  next => cases h
set_option maxRecDepth 100000 in
set_option maxHeartbeats 4000000 in
theorem S_X1_init (fu : Nat) {l : Launch} {D : va_G} {cA : Nat → ClassId} {base b : Nat} : CS l D cA base b 1 y_X1_init prog_3_method_1_code 1 (none) (U_X1_init fu) ∧ OM (U_X1_init fu) := by
  refine CS_of (d := 0) (y := y_X1_init) (cc := prog_3_method_1_code) (nL := 1) (ret := (none)) (F := U_X1_init fu) (fl := fl_BrookStones_Flood_i) (nl := []) (kl := []) (k2 := []) (mv := []) (ms := []) (mi := [(3, 1, 0, oInit)]) (ini := true) hI_w hZ_w fl_BrookStones_Flood_i_ok nil_all nil_all nil_all
    (nil_all)
    (nil_all)
    (cons_all (⟨Or.inr ⟨rfl, rfl, rfl, tblG_of (i := 158) rfl rfl, tblG_of (i := 20) rfl rfl, tblG_of (i := 21) rfl rfl⟩, om_init⟩) (nil_all))
    (T := T_X1_init) (by decide +kernel) (cut := []) (N := 13) (D_X1_init fu) (by decide +kernel) (fun _ => rfl) (fun as w o h => ?_)
  unfold U_X1_init at h
  split at h
  next =>
    exact ⟨Nat.le_of_ble_eq_true rfl, fu, (E_X1_init fu _ w).symm.trans h⟩
  next => cases h
def T_X3_init : List (Nat × Instr) := [(0, .aload_n 0), (1, .invokespecial 5), (4, .aload_n 0), (5, .bipush 7), (7, .newarray .int), (9, .putfield 11), (12, .aload_n 0), (13, .bipush 7), (15, .newarray .int), (17, .putfield 15), (20, .aload_n 0), (21, .bipush 6), (23, .newarray .int), (25, .putfield 18), (28, .aload_n 0), (29, .bipush 8), (31, .bipush 8), (33, .multianewarray 21 2), (37, .putfield 23), (40, .return_)]
def op_X3_init (fu : Nat) : Nat → Kont → XL → List Value → XW → Instr → Option XO := opK 1 (rzOf (none)) fl_BrookStones_Planner_i nl_BrookStones_Planner kl_BrookStones_Planner [] [] [] [(5, 1, 0, oInit)]
def M_X3_init (fu : Nat) (a0 : Nat) (w : XW) : Option XO :=
  cV (oInit [.ref a0] w) fun w1 =>
  (if 0 ≤ (7 : Int32) ∧ (7 : Int32) ≤ 1000 ∧ 0 < List.length w1 then
  (pF (w1 ++ [.inr (0, List.replicate (Int32.toNatClampNeg (7 : Int32)) 0)]) a0 3 0 (.ref (List.length w1))).bind fun w2 =>
  (if 0 ≤ (7 : Int32) ∧ (7 : Int32) ≤ 1000 ∧ 0 < List.length w2 then
  (pF (w2 ++ [.inr (0, List.replicate (Int32.toNatClampNeg (7 : Int32)) 0)]) a0 3 1 (.ref (List.length w2))).bind fun w3 =>
  (if 0 ≤ (6 : Int32) ∧ (6 : Int32) ≤ 1000 ∧ 0 < List.length w3 then
  (pF (w3 ++ [.inr (0, List.replicate (Int32.toNatClampNeg (6 : Int32)) 0)]) a0 3 2 (.ref (List.length w3))).bind fun w4 =>
  (if 0 ≤ (8 : Int32) ∧ (8 : Int32) ≤ 1000 ∧ 0 ≤ (8 : Int32) ∧ (8 : Int32) ≤ 1000 ∧ 0 < List.length w4 ∧ List.length w4 ≤ 1000 then
  (pF (w4 ++ mkA (List.length w4) (8 : Int32) (8 : Int32)) a0 3 3 (.ref (List.length w4))).bind fun w5 =>
  some (none, w5)
  else none)
  else none)
  else none)
  else none)
def U_X3_init (fu : Nat) : Orc := fun as w => match as with
  | [.ref a0] => M_X3_init fu a0 w
  | _ => none
def K_X3_init (fu : Nat) (n : Nat) : Kont := fun pc ls st w => none
set_option maxRecDepth 100000 in
set_option maxHeartbeats 4000000 in
theorem E_X3_init (fu : Nat) (a0 : Nat) (w : XW) : M_X3_init fu a0 w = ev T_X3_init (op_X3_init fu) [] (K_X3_init fu fu) 22 0 (lv_args 0 [.ref a0]) [] w := by
  rfl
theorem D_X3_init (fu : Nat) : DS T_X3_init (op_X3_init fu) [] 22 (K_X3_init fu) := by
  refine ⟨fun pc ls st w => rfl, fun n pc ls st w o h => ?_⟩
  cases h
theorem H_X3_init (fu : Nat) : ∀ as w o, U_X3_init fu as w = some o → ∃ a r, as = .ref a :: r ∧ r.length = 0 := by
  intro as w o h
  unfold U_X3_init at h
  split at h
  next => exact ⟨_, _, rfl, rfl⟩
  next => cases h
set_option maxRecDepth 100000 in
set_option maxHeartbeats 4000000 in
theorem S_X3_init (fu : Nat) {l : Launch} {D : va_G} {cA : Nat → ClassId} {base b : Nat} : CS l D cA base b 1 y_X3_init prog_5_method_1_code 1 (none) (U_X3_init fu) ∧ OM (U_X3_init fu) := by
  refine CS_of (d := 0) (y := y_X3_init) (cc := prog_5_method_1_code) (nL := 1) (ret := (none)) (F := U_X3_init fu) (fl := fl_BrookStones_Planner_i) (nl := nl_BrookStones_Planner) (kl := kl_BrookStones_Planner) (k2 := []) (mv := []) (ms := []) (mi := [(5, 1, 0, oInit)]) (ini := true) hI_w hZ_w fl_BrookStones_Planner_i_ok nl_BrookStones_Planner_ok kl_BrookStones_Planner_ok nil_all
    (nil_all)
    (nil_all)
    (cons_all (⟨Or.inr ⟨rfl, rfl, rfl, tblG_of (i := 177) rfl rfl, tblG_of (i := 20) rfl rfl, tblG_of (i := 21) rfl rfl⟩, om_init⟩) (nil_all))
    (T := T_X3_init) (by decide +kernel) (cut := []) (N := 22) (D_X3_init fu) (by decide +kernel) (fun _ => rfl) (fun as w o h => ?_)
  unfold U_X3_init at h
  split at h
  next =>
    exact ⟨Nat.le_of_ble_eq_true rfl, fu, (E_X3_init fu _ w).symm.trans h⟩
  next => cases h
def T_X2_init : List (Nat × Instr) := [(0, .aload_n 0), (1, .invokespecial 3), (4, .aload_n 0), (5, .sipush 128), (8, .newarray .int), (10, .putfield 9), (13, .return_)]
def op_X2_init (fu : Nat) : Nat → Kont → XL → List Value → XW → Instr → Option XO := opK 1 (rzOf (none)) fl_BrookStones_Layings_i [] [] [] [] [] [(3, 1, 0, oInit)]
def M_X2_init (fu : Nat) (a0 : Nat) (w : XW) : Option XO :=
  cV (oInit [.ref a0] w) fun w1 =>
  (if 0 ≤ (128 : Int32) ∧ (128 : Int32) ≤ 1000 ∧ 0 < List.length w1 then
  (pF (w1 ++ [.inr (0, List.replicate (Int32.toNatClampNeg (128 : Int32)) 0)]) a0 2 0 (.ref (List.length w1))).bind fun w2 =>
  some (none, w2)
  else none)
def U_X2_init (fu : Nat) : Orc := fun as w => match as with
  | [.ref a0] => M_X2_init fu a0 w
  | _ => none
def K_X2_init (fu : Nat) (n : Nat) : Kont := fun pc ls st w => none
set_option maxRecDepth 100000 in
set_option maxHeartbeats 4000000 in
theorem E_X2_init (fu : Nat) (a0 : Nat) (w : XW) : M_X2_init fu a0 w = ev T_X2_init (op_X2_init fu) [] (K_X2_init fu fu) 9 0 (lv_args 0 [.ref a0]) [] w := by
  rfl
theorem D_X2_init (fu : Nat) : DS T_X2_init (op_X2_init fu) [] 9 (K_X2_init fu) := by
  refine ⟨fun pc ls st w => rfl, fun n pc ls st w o h => ?_⟩
  cases h
theorem H_X2_init (fu : Nat) : ∀ as w o, U_X2_init fu as w = some o → ∃ a r, as = .ref a :: r ∧ r.length = 0 := by
  intro as w o h
  unfold U_X2_init at h
  split at h
  next => exact ⟨_, _, rfl, rfl⟩
  next => cases h
set_option maxRecDepth 100000 in
set_option maxHeartbeats 4000000 in
theorem S_X2_init (fu : Nat) {l : Launch} {D : va_G} {cA : Nat → ClassId} {base b : Nat} : CS l D cA base b 1 y_X2_init prog_4_method_1_code 1 (none) (U_X2_init fu) ∧ OM (U_X2_init fu) := by
  refine CS_of (d := 0) (y := y_X2_init) (cc := prog_4_method_1_code) (nL := 1) (ret := (none)) (F := U_X2_init fu) (fl := fl_BrookStones_Layings_i) (nl := []) (kl := []) (k2 := []) (mv := []) (ms := []) (mi := [(3, 1, 0, oInit)]) (ini := true) hI_w hZ_w fl_BrookStones_Layings_i_ok nil_all nil_all nil_all
    (nil_all)
    (nil_all)
    (cons_all (⟨Or.inr ⟨rfl, rfl, rfl, tblG_of (i := 211) rfl rfl, tblG_of (i := 20) rfl rfl, tblG_of (i := 21) rfl rfl⟩, om_init⟩) (nil_all))
    (T := T_X2_init) (by decide +kernel) (cut := []) (N := 9) (D_X2_init fu) (by decide +kernel) (fun _ => rfl) (fun as w o h => ?_)
  unfold U_X2_init at h
  split at h
  next =>
    exact ⟨Nat.le_of_ble_eq_true rfl, fu, (E_X2_init fu _ w).symm.trans h⟩
  next => cases h
def T_X7_init : List (Nat × Instr) := [(0, .aload_n 0), (1, .invokespecial 3), (4, .aload_n 0), (5, .new 9), (8, .dup), (9, .invokespecial 11), (12, .putfield 12), (15, .aload_n 0), (16, .new 18), (19, .dup), (20, .invokespecial 20), (23, .putfield 21), (26, .aload_n 0), (27, .new 25), (30, .dup), (31, .invokespecial 27), (34, .putfield 28), (37, .aload_n 0), (38, .new 32), (41, .dup), (42, .invokespecial 34), (45, .putfield 35), (48, .aload_n 0), (49, .new 39), (52, .dup), (53, .invokespecial 41), (56, .putfield 42), (59, .aload_n 0), (60, .new 46), (63, .dup), (64, .invokespecial 48), (67, .putfield 49), (70, .return_)]
def op_X7_init (fu : Nat) : Nat → Kont → XL → List Value → XW → Instr → Option XO := opK 1 (rzOf (none)) fl_BrookStones_i nl_BrookStones [] k2_BrookStones [] [] [(3, 1, 0, oInit), (11, 1, 0, (U_X0_init fu)), (20, 1, 0, (U_X4_init fu)), (27, 1, 0, (U_X6_init fu)), (34, 1, 0, (U_X1_init fu)), (41, 1, 0, (U_X3_init fu)), (48, 1, 0, (U_X2_init fu))]
def M_X7_init (fu : Nat) (a0 : Nat) (w : XW) : Option XO :=
  cV (oInit [.ref a0] w) fun w1 =>
  (if 0 < List.length w1 then
  cV (U_X0_init fu [.ref (List.length w1)] (w1 ++ [.inl (0, [.null, .null, .null, .null, .null, .null, .null, .null, .int 0, .int 0, .int 0, .int 0, .int 0, .int 0, .int 0])])) fun w2 =>
  (pF w2 a0 6 0 (.ref (List.length w1))).bind fun w3 =>
  (if 0 < List.length w3 then
  cV (U_X4_init fu [.ref (List.length w3)] (w3 ++ [.inl (4, [.null, .null, .null])])) fun w4 =>
  (pF w4 a0 6 1 (.ref (List.length w3))).bind fun w5 =>
  (if 0 < List.length w5 then
  cV (U_X6_init fu [.ref (List.length w5)] (w5 ++ [.inl (5, [.null, .null, .int 0, .int 0, .int 0, .int 0])])) fun w6 =>
  (pF w6 a0 6 2 (.ref (List.length w5))).bind fun w7 =>
  (if 0 < List.length w7 then
  cV (U_X1_init fu [.ref (List.length w7)] (w7 ++ [.inl (1, [.null, .null, .int 0])])) fun w8 =>
  (pF w8 a0 6 3 (.ref (List.length w7))).bind fun w9 =>
  (if 0 < List.length w9 then
  cV (U_X3_init fu [.ref (List.length w9)] (w9 ++ [.inl (3, [.null, .null, .null, .null, .int 0, .int 0, .int 0, .int 0])])) fun w10 =>
  (pF w10 a0 6 4 (.ref (List.length w9))).bind fun w11 =>
  (if 0 < List.length w11 then
  cV (U_X2_init fu [.ref (List.length w11)] (w11 ++ [.inl (2, [.null, .int 0])])) fun w12 =>
  (pF w12 a0 6 5 (.ref (List.length w11))).bind fun w13 =>
  some (none, w13)
  else none)
  else none)
  else none)
  else none)
  else none)
  else none)
def U_X7_init (fu : Nat) : Orc := fun as w => match as with
  | [.ref a0] => M_X7_init fu a0 w
  | _ => none
def K_X7_init (fu : Nat) (n : Nat) : Kont := fun pc ls st w => none
set_option maxRecDepth 100000 in
set_option maxHeartbeats 4000000 in
theorem E_X7_init (fu : Nat) (a0 : Nat) (w : XW) : M_X7_init fu a0 w = ev T_X7_init (op_X7_init fu) [] (K_X7_init fu fu) 35 0 (lv_args 0 [.ref a0]) [] w := by
  rfl
theorem D_X7_init (fu : Nat) : DS T_X7_init (op_X7_init fu) [] 35 (K_X7_init fu) := by
  refine ⟨fun pc ls st w => rfl, fun n pc ls st w o h => ?_⟩
  cases h
theorem H_X7_init (fu : Nat) : ∀ as w o, U_X7_init fu as w = some o → ∃ a r, as = .ref a :: r ∧ r.length = 0 := by
  intro as w o h
  unfold U_X7_init at h
  split at h
  next => exact ⟨_, _, rfl, rfl⟩
  next => cases h
set_option maxRecDepth 100000 in
set_option maxHeartbeats 4000000 in
theorem S_X7_init (fu : Nat) {l : Launch} {D : va_G} {cA : Nat → ClassId} {base b : Nat} : CS l D cA base b 3 y_X7_init prog_1_method_1_code 1 (none) (U_X7_init fu) ∧ OM (U_X7_init fu) := by
  refine CS_of (d := 2) (y := y_X7_init) (cc := prog_1_method_1_code) (nL := 1) (ret := (none)) (F := U_X7_init fu) (fl := fl_BrookStones_i) (nl := nl_BrookStones) (kl := []) (k2 := k2_BrookStones) (mv := []) (ms := []) (mi := [(3, 1, 0, oInit), (11, 1, 0, (U_X0_init fu)), (20, 1, 0, (U_X4_init fu)), (27, 1, 0, (U_X6_init fu)), (34, 1, 0, (U_X1_init fu)), (41, 1, 0, (U_X3_init fu)), (48, 1, 0, (U_X2_init fu))]) (ini := true) hI_w hZ_w fl_BrookStones_i_ok nl_BrookStones_ok nil_all k2_BrookStones_ok
    (nil_all)
    (nil_all)
    (cons_all (⟨Or.inr ⟨rfl, rfl, rfl, tblG_of (i := 19) rfl rfl, tblG_of (i := 20) rfl rfl, tblG_of (i := 21) rfl rfl⟩, om_init⟩) (cons_all (⟨Or.inl ⟨show (0 : Nat) ≠ 3 by decide, y_X0_init, prog_2_method_1_code, 1, 2, "BrookStones", 0, (S_X0_init fu (l := l) (D := D) (cA := cA) (base := base) (b := b)).1, by decide, by decide, rfl, H_X0_init fu, rfl, mi_X0_init.1, mi_X0_init.2.1, mi_X0_init.2.2.1, mi_X0_init.2.2.2, Or.inr (tblN_of (i := 24) rfl rfl)⟩, (S_X0_init fu (l := l) (D := D) (cA := cA) (base := base) (b := b)).2⟩) (cons_all (⟨Or.inl ⟨show (0 : Nat) ≠ 3 by decide, y_X4_init, prog_6_method_1_code, 1, 2, "BrookStones", 0, (S_X4_init fu (l := l) (D := D) (cA := cA) (base := base) (b := b)).1, by decide, by decide, rfl, H_X4_init fu, rfl, mi_X4_init.1, mi_X4_init.2.1, mi_X4_init.2.2.1, mi_X4_init.2.2.2, Or.inr (tblN_of (i := 110) rfl rfl)⟩, (S_X4_init fu (l := l) (D := D) (cA := cA) (base := base) (b := b)).2⟩) (cons_all (⟨Or.inl ⟨show (0 : Nat) ≠ 3 by decide, y_X6_init, prog_8_method_1_code, 1, 1, "BrookStones", 0, (S_X6_init fu (l := l) (D := D) (cA := cA) (base := base) (b := b)).1, by decide, by decide, rfl, H_X6_init fu, rfl, mi_X6_init.1, mi_X6_init.2.1, mi_X6_init.2.2.1, mi_X6_init.2.2.2, Or.inr (tblN_of (i := 129) rfl rfl)⟩, (S_X6_init fu (l := l) (D := D) (cA := cA) (base := base) (b := b)).2⟩) (cons_all (⟨Or.inl ⟨show (0 : Nat) ≠ 3 by decide, y_X1_init, prog_3_method_1_code, 1, 1, "BrookStones", 0, (S_X1_init fu (l := l) (D := D) (cA := cA) (base := base) (b := b)).1, by decide, by decide, rfl, H_X1_init fu, rfl, mi_X1_init.1, mi_X1_init.2.1, mi_X1_init.2.2.1, mi_X1_init.2.2.2, Or.inr (tblN_of (i := 155) rfl rfl)⟩, (S_X1_init fu (l := l) (D := D) (cA := cA) (base := base) (b := b)).2⟩) (cons_all (⟨Or.inl ⟨show (0 : Nat) ≠ 3 by decide, y_X3_init, prog_5_method_1_code, 1, 1, "BrookStones", 0, (S_X3_init fu (l := l) (D := D) (cA := cA) (base := base) (b := b)).1, by decide, by decide, rfl, H_X3_init fu, rfl, mi_X3_init.1, mi_X3_init.2.1, mi_X3_init.2.2.1, mi_X3_init.2.2.2, Or.inr (tblN_of (i := 174) rfl rfl)⟩, (S_X3_init fu (l := l) (D := D) (cA := cA) (base := base) (b := b)).2⟩) (cons_all (⟨Or.inl ⟨show (0 : Nat) ≠ 3 by decide, y_X2_init, prog_4_method_1_code, 1, 1, "BrookStones", 0, (S_X2_init fu (l := l) (D := D) (cA := cA) (base := base) (b := b)).1, by decide, by decide, rfl, H_X2_init fu, rfl, mi_X2_init.1, mi_X2_init.2.1, mi_X2_init.2.2.1, mi_X2_init.2.2.2, Or.inr (tblN_of (i := 208) rfl rfl)⟩, (S_X2_init fu (l := l) (D := D) (cA := cA) (base := base) (b := b)).2⟩) (nil_all))))))))
    (T := T_X7_init) (by decide +kernel) (cut := []) (N := 35) (D_X7_init fu) (by decide +kernel) (fun _ => rfl) (fun as w o h => ?_)
  unfold U_X7_init at h
  split at h
  next =>
    exact ⟨Nat.le_of_ble_eq_true rfl, fu, (E_X7_init fu _ w).symm.trans h⟩
  next => cases h
def T_X8_init : List (Nat × Instr) := [(0, .aload_n 0), (1, .invokespecial 1), (4, .aload_n 0), (5, .iconst 4), (6, .newarray .int), (8, .dup), (9, .iconst 0), (10, .bipush (-9)), (12, .iastore), (13, .dup), (14, .iconst 1), (15, .bipush (-9)), (17, .iastore), (18, .dup), (19, .iconst 2), (20, .bipush (-9)), (22, .iastore), (23, .dup), (24, .iconst 3), (25, .bipush (-9)), (27, .iastore), (28, .putfield 9), (31, .aload_n 0), (32, .iconst 4), (33, .newarray .int), (35, .putfield 13), (38, .aload_n 0), (39, .sipush 240), (42, .newarray .int), (44, .putfield 16), (47, .aload_n 0), (48, .bipush 7), (50, .newarray .int), (52, .putfield 19), (55, .aload_n 0), (56, .bipush 7), (58, .newarray .int), (60, .putfield 22), (63, .aload_n 0), (64, .bipush 7), (66, .newarray .boolean), (68, .putfield 25), (71, .aload_n 0), (72, .bipush 7), (74, .newarray .int), (76, .putfield 29), (79, .aload_n 0), (80, .bipush 7), (82, .newarray .int), (84, .putfield 32), (87, .aload_n 0), (88, .bipush 7), (90, .newarray .int), (92, .putfield 35), (95, .aload_n 0), (96, .bipush 6), (98, .newarray .int), (100, .putfield 38), (103, .aload_n 0), (104, .bipush 6), (106, .newarray .int), (108, .putfield 41), (111, .aload_n 0), (112, .bipush 6), (114, .newarray .int), (116, .putfield 44), (119, .aload_n 0), (120, .bipush 6), (122, .newarray .int), (124, .putfield 47), (127, .aload_n 0), (128, .bipush 6), (130, .newarray .int), (132, .putfield 50), (135, .aload_n 0), (136, .bipush 6), (138, .newarray .int), (140, .putfield 53), (143, .aload_n 0), (144, .bipush 7), (146, .newarray .int), (148, .putfield 56), (151, .aload_n 0), (152, .bipush 9), (154, .newarray .int), (156, .putfield 59), (159, .aload_n 0), (160, .bipush 7), (162, .newarray .int), (164, .putfield 62), (167, .aload_n 0), (168, .bipush 7), (170, .newarray .int), (172, .putfield 65), (175, .aload_n 0), (176, .bipush 7), (178, .newarray .boolean), (180, .putfield 68), (183, .aload_n 0), (184, .bipush (-9)), (186, .putfield 71), (189, .aload_n 0), (190, .bipush 7), (192, .newarray .int), (194, .putfield 75), (197, .aload_n 0), (198, .bipush 7), (200, .newarray .int), (202, .putfield 78), (205, .aload_n 0), (206, .sipush 128), (209, .newarray .int), (211, .putfield 81), (214, .return_)]
def op_X8_init (fu : Nat) : Nat → Kont → XL → List Value → XW → Instr → Option XO := opK 1 (rzOf (none)) fl_BrookStonesModel_i [] kl_BrookStonesModel k2_BrookStonesModel [] [] [(1, 1, 0, oInit)]
def M_X8_init (fu : Nat) (a0 : Nat) (w : XW) : Option XO :=
  cV (oInit [.ref a0] w) fun w1 =>
  (if 0 ≤ (4 : Int32) ∧ (4 : Int32) ≤ 1000 ∧ 0 < List.length w1 then
  (sI (w1 ++ [.inr (0, List.replicate (Int32.toNatClampNeg (4 : Int32)) 0)]) (List.length w1) (0 : Int32) (-9 : Int32)).bind fun w2 =>
  (sI w2 (List.length w1) (1 : Int32) (-9 : Int32)).bind fun w3 =>
  (sI w3 (List.length w1) (2 : Int32) (-9 : Int32)).bind fun w4 =>
  (sI w4 (List.length w1) (3 : Int32) (-9 : Int32)).bind fun w5 =>
  (pF w5 a0 7 2 (.ref (List.length w1))).bind fun w6 =>
  (if 0 ≤ (4 : Int32) ∧ (4 : Int32) ≤ 1000 ∧ 0 < List.length w6 then
  (pF (w6 ++ [.inr (0, List.replicate (Int32.toNatClampNeg (4 : Int32)) 0)]) a0 7 3 (.ref (List.length w6))).bind fun w7 =>
  (if 0 ≤ (240 : Int32) ∧ (240 : Int32) ≤ 1000 ∧ 0 < List.length w7 then
  (pF (w7 ++ [.inr (0, List.replicate (Int32.toNatClampNeg (240 : Int32)) 0)]) a0 7 4 (.ref (List.length w7))).bind fun w8 =>
  (if 0 ≤ (7 : Int32) ∧ (7 : Int32) ≤ 1000 ∧ 0 < List.length w8 then
  (pF (w8 ++ [.inr (0, List.replicate (Int32.toNatClampNeg (7 : Int32)) 0)]) a0 7 8 (.ref (List.length w8))).bind fun w9 =>
  (if 0 ≤ (7 : Int32) ∧ (7 : Int32) ≤ 1000 ∧ 0 < List.length w9 then
  (pF (w9 ++ [.inr (0, List.replicate (Int32.toNatClampNeg (7 : Int32)) 0)]) a0 7 9 (.ref (List.length w9))).bind fun w10 =>
  (if 0 ≤ (7 : Int32) ∧ (7 : Int32) ≤ 1000 ∧ 0 < List.length w10 then
  (pF (w10 ++ [.inr (1, List.replicate (Int32.toNatClampNeg (7 : Int32)) 0)]) a0 7 10 (.ref (List.length w10))).bind fun w11 =>
  (if 0 ≤ (7 : Int32) ∧ (7 : Int32) ≤ 1000 ∧ 0 < List.length w11 then
  (pF (w11 ++ [.inr (0, List.replicate (Int32.toNatClampNeg (7 : Int32)) 0)]) a0 7 11 (.ref (List.length w11))).bind fun w12 =>
  (if 0 ≤ (7 : Int32) ∧ (7 : Int32) ≤ 1000 ∧ 0 < List.length w12 then
  (pF (w12 ++ [.inr (0, List.replicate (Int32.toNatClampNeg (7 : Int32)) 0)]) a0 7 15 (.ref (List.length w12))).bind fun w13 =>
  (if 0 ≤ (7 : Int32) ∧ (7 : Int32) ≤ 1000 ∧ 0 < List.length w13 then
  (pF (w13 ++ [.inr (0, List.replicate (Int32.toNatClampNeg (7 : Int32)) 0)]) a0 7 16 (.ref (List.length w13))).bind fun w14 =>
  (if 0 ≤ (6 : Int32) ∧ (6 : Int32) ≤ 1000 ∧ 0 < List.length w14 then
  (pF (w14 ++ [.inr (0, List.replicate (Int32.toNatClampNeg (6 : Int32)) 0)]) a0 7 18 (.ref (List.length w14))).bind fun w15 =>
  (if 0 ≤ (6 : Int32) ∧ (6 : Int32) ≤ 1000 ∧ 0 < List.length w15 then
  (pF (w15 ++ [.inr (0, List.replicate (Int32.toNatClampNeg (6 : Int32)) 0)]) a0 7 19 (.ref (List.length w15))).bind fun w16 =>
  (if 0 ≤ (6 : Int32) ∧ (6 : Int32) ≤ 1000 ∧ 0 < List.length w16 then
  (pF (w16 ++ [.inr (0, List.replicate (Int32.toNatClampNeg (6 : Int32)) 0)]) a0 7 20 (.ref (List.length w16))).bind fun w17 =>
  (if 0 ≤ (6 : Int32) ∧ (6 : Int32) ≤ 1000 ∧ 0 < List.length w17 then
  (pF (w17 ++ [.inr (0, List.replicate (Int32.toNatClampNeg (6 : Int32)) 0)]) a0 7 21 (.ref (List.length w17))).bind fun w18 =>
  (if 0 ≤ (6 : Int32) ∧ (6 : Int32) ≤ 1000 ∧ 0 < List.length w18 then
  (pF (w18 ++ [.inr (0, List.replicate (Int32.toNatClampNeg (6 : Int32)) 0)]) a0 7 22 (.ref (List.length w18))).bind fun w19 =>
  (if 0 ≤ (6 : Int32) ∧ (6 : Int32) ≤ 1000 ∧ 0 < List.length w19 then
  (pF (w19 ++ [.inr (0, List.replicate (Int32.toNatClampNeg (6 : Int32)) 0)]) a0 7 24 (.ref (List.length w19))).bind fun w20 =>
  (if 0 ≤ (7 : Int32) ∧ (7 : Int32) ≤ 1000 ∧ 0 < List.length w20 then
  (pF (w20 ++ [.inr (0, List.replicate (Int32.toNatClampNeg (7 : Int32)) 0)]) a0 7 25 (.ref (List.length w20))).bind fun w21 =>
  (if 0 ≤ (9 : Int32) ∧ (9 : Int32) ≤ 1000 ∧ 0 < List.length w21 then
  (pF (w21 ++ [.inr (0, List.replicate (Int32.toNatClampNeg (9 : Int32)) 0)]) a0 7 27 (.ref (List.length w21))).bind fun w22 =>
  (if 0 ≤ (7 : Int32) ∧ (7 : Int32) ≤ 1000 ∧ 0 < List.length w22 then
  (pF (w22 ++ [.inr (0, List.replicate (Int32.toNatClampNeg (7 : Int32)) 0)]) a0 7 28 (.ref (List.length w22))).bind fun w23 =>
  (if 0 ≤ (7 : Int32) ∧ (7 : Int32) ≤ 1000 ∧ 0 < List.length w23 then
  (pF (w23 ++ [.inr (0, List.replicate (Int32.toNatClampNeg (7 : Int32)) 0)]) a0 7 29 (.ref (List.length w23))).bind fun w24 =>
  (if 0 ≤ (7 : Int32) ∧ (7 : Int32) ≤ 1000 ∧ 0 < List.length w24 then
  (pF (w24 ++ [.inr (1, List.replicate (Int32.toNatClampNeg (7 : Int32)) 0)]) a0 7 30 (.ref (List.length w24))).bind fun w25 =>
  (pF w25 a0 7 31 (.int (-9 : Int32))).bind fun w26 =>
  (if 0 ≤ (7 : Int32) ∧ (7 : Int32) ≤ 1000 ∧ 0 < List.length w26 then
  (pF (w26 ++ [.inr (0, List.replicate (Int32.toNatClampNeg (7 : Int32)) 0)]) a0 7 32 (.ref (List.length w26))).bind fun w27 =>
  (if 0 ≤ (7 : Int32) ∧ (7 : Int32) ≤ 1000 ∧ 0 < List.length w27 then
  (pF (w27 ++ [.inr (0, List.replicate (Int32.toNatClampNeg (7 : Int32)) 0)]) a0 7 33 (.ref (List.length w27))).bind fun w28 =>
  (if 0 ≤ (128 : Int32) ∧ (128 : Int32) ≤ 1000 ∧ 0 < List.length w28 then
  (pF (w28 ++ [.inr (0, List.replicate (Int32.toNatClampNeg (128 : Int32)) 0)]) a0 7 36 (.ref (List.length w28))).bind fun w29 =>
  some (none, w29)
  else none)
  else none)
  else none)
  else none)
  else none)
  else none)
  else none)
  else none)
  else none)
  else none)
  else none)
  else none)
  else none)
  else none)
  else none)
  else none)
  else none)
  else none)
  else none)
  else none)
  else none)
  else none)
  else none)
def U_X8_init (fu : Nat) : Orc := fun as w => match as with
  | [.ref a0] => M_X8_init fu a0 w
  | _ => none
def K_X8_init (fu : Nat) (n : Nat) : Kont := fun pc ls st w => none
set_option maxRecDepth 100000 in
set_option maxHeartbeats 4000000 in
theorem E_X8_init (fu : Nat) (a0 : Nat) (w : XW) : M_X8_init fu a0 w = ev T_X8_init (op_X8_init fu) [] (K_X8_init fu fu) 116 0 (lv_args 0 [.ref a0]) [] w := by
  rfl
theorem D_X8_init (fu : Nat) : DS T_X8_init (op_X8_init fu) [] 116 (K_X8_init fu) := by
  refine ⟨fun pc ls st w => rfl, fun n pc ls st w o h => ?_⟩
  cases h
theorem H_X8_init (fu : Nat) : ∀ as w o, U_X8_init fu as w = some o → ∃ a r, as = .ref a :: r ∧ r.length = 0 := by
  intro as w o h
  unfold U_X8_init at h
  split at h
  next => exact ⟨_, _, rfl, rfl⟩
  next => cases h
set_option maxRecDepth 100000 in
set_option maxHeartbeats 4000000 in
theorem S_X8_init (fu : Nat) {l : Launch} {D : va_G} {cA : Nat → ClassId} {base b : Nat} : CS l D cA base b 1 y_X8_init prog_10_method_1_code 1 (none) (U_X8_init fu) ∧ OM (U_X8_init fu) := by
  refine CS_of (d := 0) (y := y_X8_init) (cc := prog_10_method_1_code) (nL := 1) (ret := (none)) (F := U_X8_init fu) (fl := fl_BrookStonesModel_i) (nl := []) (kl := kl_BrookStonesModel) (k2 := k2_BrookStonesModel) (mv := []) (ms := []) (mi := [(1, 1, 0, oInit)]) (ini := true) hI_w hZ_w fl_BrookStonesModel_i_ok nil_all kl_BrookStonesModel_ok k2_BrookStonesModel_ok
    (nil_all)
    (nil_all)
    (cons_all (⟨Or.inr ⟨rfl, rfl, rfl, tblG_of (i := 740) rfl rfl, tblG_of (i := 20) rfl rfl, tblG_of (i := 21) rfl rfl⟩, om_init⟩) (nil_all))
    (T := T_X8_init) (by decide +kernel) (cut := []) (N := 116) (D_X8_init fu) (by decide +kernel) (fun _ => rfl) (fun as w o h => ?_)
  unfold U_X8_init at h
  split at h
  next =>
    exact ⟨Nat.le_of_ble_eq_true rfl, fu, (E_X8_init fu _ w).symm.trans h⟩
  next => cases h
def T_X7_isWithin : List (Nat × Instr) := [(0, .iload_n 0), (1, .iload_n 1), (2, .if_icmp .lt 12), (5, .iload_n 0), (6, .iload_n 2), (7, .if_icmp .gt 7), (10, .iconst 1), (11, .goto 4), (14, .iconst 0), (15, .ireturn)]
def op_X7_isWithin (fu : Nat) : Nat → Kont → XL → List Value → XW → Instr → Option XO := opK 3 (rzOf (some .boolean)) fl_BrookStones nl_BrookStones [] k2_BrookStones [] [] []
def M_X7_isWithin (fu : Nat) (a0 : Int32) (a1 : Int32) (a2 : Int32) (w : XW) : Option XO :=
  (if a0 < a1 then
    retZ (0 : Int32) w
  else
    (if a2 < a0 then
      retZ (0 : Int32) w
    else
      retZ (1 : Int32) w))
def U_X7_isWithin (fu : Nat) : Orc := fun as w => match as with
  | [.int a0, .int a1, .int a2] => M_X7_isWithin fu a0 a1 a2 w
  | _ => none
def K_X7_isWithin (fu : Nat) (n : Nat) : Kont := fun pc ls st w => none
set_option maxRecDepth 100000 in
set_option maxHeartbeats 4000000 in
theorem E_X7_isWithin (fu : Nat) (a0 : Int32) (a1 : Int32) (a2 : Int32) (w : XW) : M_X7_isWithin fu a0 a1 a2 w = ev T_X7_isWithin (op_X7_isWithin fu) [] (K_X7_isWithin fu fu) 12 0 (lv_args 0 [.int a0, .int a1, .int a2]) [] w := by
  rfl
theorem D_X7_isWithin (fu : Nat) : DS T_X7_isWithin (op_X7_isWithin fu) [] 12 (K_X7_isWithin fu) := by
  refine ⟨fun pc ls st w => rfl, fun n pc ls st w o h => ?_⟩
  cases h
set_option maxRecDepth 100000 in
set_option maxHeartbeats 4000000 in
theorem S_X7_isWithin (fu : Nat) {l : Launch} {D : va_G} {cA : Nat → ClassId} {base b : Nat} : CS l D cA base b 1 y_X7_isWithin prog_1_method_46_code 3 (some .boolean) (U_X7_isWithin fu) ∧ OM (U_X7_isWithin fu) := by
  refine CS_of (d := 0) (y := y_X7_isWithin) (cc := prog_1_method_46_code) (nL := 3) (ret := (some .boolean)) (F := U_X7_isWithin fu) (fl := fl_BrookStones) (nl := nl_BrookStones) (kl := []) (k2 := k2_BrookStones) (mv := []) (ms := []) (mi := []) (ini := false) hI_w hZ_w fl_BrookStones_ok nl_BrookStones_ok nil_all k2_BrookStones_ok
    (nil_all)
    (nil_all)
    (nil_all)
    (T := T_X7_isWithin) (by decide +kernel) (cut := []) (N := 12) (D_X7_isWithin fu) (by decide +kernel) (fun h => absurd h (by decide)) (fun as w o h => ?_)
  unfold U_X7_isWithin at h
  split at h
  next =>
    exact ⟨Nat.le_of_ble_eq_true rfl, fu, (E_X7_isWithin fu _ _ _ w).symm.trans h⟩
  next => cases h
def T_X4_isSheet : List (Nat × Instr) := [(0, .iload_n 0), (1, .iconst 0), (2, .iconst 3), (3, .invokestatic 27), (6, .ireturn)]
def op_X4_isSheet (fu : Nat) : Nat → Kont → XL → List Value → XW → Instr → Option XO := opK 1 (rzOf (some .boolean)) fl_BrookStones_Sheets [] [] [] [] [(27, 3, 1, (U_X7_isWithin fu))] []
def M_X4_isSheet (fu : Nat) (a0 : Int32) (w : XW) : Option XO :=
  cI (U_X7_isWithin fu [.int a0, .int (0 : Int32), .int (3 : Int32)] w) fun x2 w1 =>
  retZ x2 w1
def U_X4_isSheet (fu : Nat) : Orc := fun as w => match as with
  | [.int a0] => M_X4_isSheet fu a0 w
  | _ => none
def K_X4_isSheet (fu : Nat) (n : Nat) : Kont := fun pc ls st w => none
set_option maxRecDepth 100000 in
set_option maxHeartbeats 4000000 in
theorem E_X4_isSheet (fu : Nat) (a0 : Int32) (w : XW) : M_X4_isSheet fu a0 w = ev T_X4_isSheet (op_X4_isSheet fu) [] (K_X4_isSheet fu fu) 7 0 (lv_args 0 [.int a0]) [] w := by
  rfl
theorem D_X4_isSheet (fu : Nat) : DS T_X4_isSheet (op_X4_isSheet fu) [] 7 (K_X4_isSheet fu) := by
  refine ⟨fun pc ls st w => rfl, fun n pc ls st w o h => ?_⟩
  cases h
set_option maxRecDepth 100000 in
set_option maxHeartbeats 4000000 in
theorem S_X4_isSheet (fu : Nat) {l : Launch} {D : va_G} {cA : Nat → ClassId} {base b : Nat} : CS l D cA base b 2 y_X4_isSheet prog_6_method_2_code 1 (some .boolean) (U_X4_isSheet fu) ∧ OM (U_X4_isSheet fu) := by
  refine CS_of (d := 1) (y := y_X4_isSheet) (cc := prog_6_method_2_code) (nL := 1) (ret := (some .boolean)) (F := U_X4_isSheet fu) (fl := fl_BrookStones_Sheets) (nl := []) (kl := []) (k2 := []) (mv := []) (ms := [(27, 3, 1, (U_X7_isWithin fu))]) (mi := []) (ini := false) hI_w hZ_w fl_BrookStones_Sheets_ok nil_all nil_all nil_all
    (nil_all)
    (cons_all (⟨Or.inl ⟨show (1 : Nat) ≠ 3 by decide, y_X7_isWithin, prog_1_method_46_code, 3, (some .boolean), 1, "BrookStones", (S_X7_isWithin fu (l := l) (D := D) (cA := cA) (base := base) (b := b)).1, by decide, by decide, mi_X7_isWithin.1, mi_X7_isWithin.2.1, mi_X7_isWithin.2.2.1, mi_X7_isWithin.2.2.2, Or.inr (tblN_of (i := 255) rfl rfl)⟩, (S_X7_isWithin fu (l := l) (D := D) (cA := cA) (base := base) (b := b)).2⟩) (nil_all))
    (nil_all)
    (T := T_X4_isSheet) (by decide +kernel) (cut := []) (N := 7) (D_X4_isSheet fu) (by decide +kernel) (fun h => absurd h (by decide)) (fun as w o h => ?_)
  unfold U_X4_isSheet at h
  split at h
  next =>
    exact ⟨Nat.le_of_ble_eq_true rfl, fu, (E_X4_isSheet fu _ w).symm.trans h⟩
  next => cases h
def T_X4_isSort : List (Nat × Instr) := [(0, .iload_n 0), (1, .iconst 0), (2, .iconst 2), (3, .invokestatic 27), (6, .ireturn)]
def op_X4_isSort (fu : Nat) : Nat → Kont → XL → List Value → XW → Instr → Option XO := opK 1 (rzOf (some .boolean)) fl_BrookStones_Sheets [] [] [] [] [(27, 3, 1, (U_X7_isWithin fu))] []
def M_X4_isSort (fu : Nat) (a0 : Int32) (w : XW) : Option XO :=
  cI (U_X7_isWithin fu [.int a0, .int (0 : Int32), .int (2 : Int32)] w) fun x2 w1 =>
  retZ x2 w1
def U_X4_isSort (fu : Nat) : Orc := fun as w => match as with
  | [.int a0] => M_X4_isSort fu a0 w
  | _ => none
def K_X4_isSort (fu : Nat) (n : Nat) : Kont := fun pc ls st w => none
set_option maxRecDepth 100000 in
set_option maxHeartbeats 4000000 in
theorem E_X4_isSort (fu : Nat) (a0 : Int32) (w : XW) : M_X4_isSort fu a0 w = ev T_X4_isSort (op_X4_isSort fu) [] (K_X4_isSort fu fu) 7 0 (lv_args 0 [.int a0]) [] w := by
  rfl
theorem D_X4_isSort (fu : Nat) : DS T_X4_isSort (op_X4_isSort fu) [] 7 (K_X4_isSort fu) := by
  refine ⟨fun pc ls st w => rfl, fun n pc ls st w o h => ?_⟩
  cases h
set_option maxRecDepth 100000 in
set_option maxHeartbeats 4000000 in
theorem S_X4_isSort (fu : Nat) {l : Launch} {D : va_G} {cA : Nat → ClassId} {base b : Nat} : CS l D cA base b 2 y_X4_isSort prog_6_method_3_code 1 (some .boolean) (U_X4_isSort fu) ∧ OM (U_X4_isSort fu) := by
  refine CS_of (d := 1) (y := y_X4_isSort) (cc := prog_6_method_3_code) (nL := 1) (ret := (some .boolean)) (F := U_X4_isSort fu) (fl := fl_BrookStones_Sheets) (nl := []) (kl := []) (k2 := []) (mv := []) (ms := [(27, 3, 1, (U_X7_isWithin fu))]) (mi := []) (ini := false) hI_w hZ_w fl_BrookStones_Sheets_ok nil_all nil_all nil_all
    (nil_all)
    (cons_all (⟨Or.inl ⟨show (1 : Nat) ≠ 3 by decide, y_X7_isWithin, prog_1_method_46_code, 3, (some .boolean), 1, "BrookStones", (S_X7_isWithin fu (l := l) (D := D) (cA := cA) (base := base) (b := b)).1, by decide, by decide, mi_X7_isWithin.1, mi_X7_isWithin.2.1, mi_X7_isWithin.2.2.1, mi_X7_isWithin.2.2.2, Or.inr (tblN_of (i := 255) rfl rfl)⟩, (S_X7_isWithin fu (l := l) (D := D) (cA := cA) (base := base) (b := b)).2⟩) (nil_all))
    (nil_all)
    (T := T_X4_isSort) (by decide +kernel) (cut := []) (N := 7) (D_X4_isSort fu) (by decide +kernel) (fun h => absurd h (by decide)) (fun as w o h => ?_)
  unfold U_X4_isSort at h
  split at h
  next =>
    exact ⟨Nat.le_of_ble_eq_true rfl, fu, (E_X4_isSort fu _ w).symm.trans h⟩
  next => cases h
def T_X4_isThere : List (Nat × Instr) := [(0, .aload_n 0), (1, .getfield 15), (4, .iload_n 1), (5, .iaload), (6, .iconst (-1)), (7, .if_icmp .eq 7), (10, .iconst 1), (11, .goto 4), (14, .iconst 0), (15, .ireturn)]
def op_X4_isThere (fu : Nat) : Nat → Kont → XL → List Value → XW → Instr → Option XO := opK 2 (rzOf (some .boolean)) fl_BrookStones_Sheets [] [] [] [] [] []
def M_X4_isThere (fu : Nat) (a0 : Nat) (a1 : Int32) (w : XW) : Option XO :=
  (gR w a0 4 1).bind fun r1 =>
  (aI w r1 a1).bind fun x2 =>
  (if x2 = (-1 : Int32) then
    retZ (0 : Int32) w
  else
    retZ (1 : Int32) w)
def U_X4_isThere (fu : Nat) : Orc := fun as w => match as with
  | [.ref a0, .int a1] => if isO w a0 4 = true then M_X4_isThere fu a0 a1 w else none
  | _ => none
def K_X4_isThere (fu : Nat) (n : Nat) : Kont := fun pc ls st w => none
set_option maxRecDepth 100000 in
set_option maxHeartbeats 4000000 in
theorem E_X4_isThere (fu : Nat) (a0 : Nat) (a1 : Int32) (w : XW) : M_X4_isThere fu a0 a1 w = ev T_X4_isThere (op_X4_isThere fu) [] (K_X4_isThere fu fu) 12 0 (lv_args 0 [.ref a0, .int a1]) [] w := by
  rfl
theorem D_X4_isThere (fu : Nat) : DS T_X4_isThere (op_X4_isThere fu) [] 12 (K_X4_isThere fu) := by
  refine ⟨fun pc ls st w => rfl, fun n pc ls st w o h => ?_⟩
  cases h
theorem H_X4_isThere (fu : Nat) : ∀ as w o, U_X4_isThere fu as w = some o → ∃ a r, as = .ref a :: r ∧ r.length = 1 ∧ isO w a 4 = true := by
  intro as w o h
  unfold U_X4_isThere at h
  split at h
  next =>
    split at h
    next hh => exact ⟨_, _, rfl, rfl, hh⟩
    next => cases h
  next => cases h
set_option maxRecDepth 100000 in
set_option maxHeartbeats 4000000 in
theorem S_X4_isThere (fu : Nat) {l : Launch} {D : va_G} {cA : Nat → ClassId} {base b : Nat} : CS l D cA base b 1 y_X4_isThere prog_6_method_4_code 2 (some .boolean) (U_X4_isThere fu) ∧ OM (U_X4_isThere fu) := by
  refine CS_of (d := 0) (y := y_X4_isThere) (cc := prog_6_method_4_code) (nL := 2) (ret := (some .boolean)) (F := U_X4_isThere fu) (fl := fl_BrookStones_Sheets) (nl := []) (kl := []) (k2 := []) (mv := []) (ms := []) (mi := []) (ini := false) hI_w hZ_w fl_BrookStones_Sheets_ok nil_all nil_all nil_all
    (nil_all)
    (nil_all)
    (nil_all)
    (T := T_X4_isThere) (by decide +kernel) (cut := []) (N := 12) (D_X4_isThere fu) (by decide +kernel) (fun h => absurd h (by decide)) (fun as w o h => ?_)
  unfold U_X4_isThere at h
  split at h
  next =>
    split at h
    next => exact ⟨Nat.le_of_ble_eq_true rfl, fu, (E_X4_isThere fu _ _ w).symm.trans h⟩
    next => cases h
  next => cases h
def T_X4_reaches : List (Nat × Instr) := [(0, .iload_n 2), (1, .ifCond .lt 29), (4, .iload_n 2), (5, .aload_n 0), (6, .getfield 15), (9, .iload_n 1), (10, .iaload), (11, .if_icmp .gt 19), (14, .iload_n 3), (15, .aload_n 0), (16, .getfield 15), (19, .iload_n 1), (20, .iaload), (21, .iload_n 2), (22, .isub), (23, .if_icmp .gt 7), (26, .iconst 1), (27, .goto 4), (30, .iconst 0), (31, .ireturn)]
def op_X4_reaches (fu : Nat) : Nat → Kont → XL → List Value → XW → Instr → Option XO := opK 4 (rzOf (some .boolean)) fl_BrookStones_Sheets [] [] [] [] [] []
def M_X4_reaches (fu : Nat) (a0 : Nat) (a1 : Int32) (a2 : Int32) (a3 : Int32) (w : XW) : Option XO :=
  (if a2 < 0 then
    retZ (0 : Int32) w
  else
    (gR w a0 4 1).bind fun r1 =>
    (aI w r1 a1).bind fun x2 =>
    (if x2 < a2 then
      retZ (0 : Int32) w
    else
      (gR w a0 4 1).bind fun r3 =>
      (aI w r3 a1).bind fun x4 =>
      (if (x4 - a2) < a3 then
        retZ (0 : Int32) w
      else
        retZ (1 : Int32) w)))
def U_X4_reaches (fu : Nat) : Orc := fun as w => match as with
  | [.ref a0, .int a1, .int a2, .int a3] => if isO w a0 4 = true then M_X4_reaches fu a0 a1 a2 a3 w else none
  | _ => none
def K_X4_reaches (fu : Nat) (n : Nat) : Kont := fun pc ls st w => none
set_option maxRecDepth 100000 in
set_option maxHeartbeats 4000000 in
theorem E_X4_reaches (fu : Nat) (a0 : Nat) (a1 : Int32) (a2 : Int32) (a3 : Int32) (w : XW) : M_X4_reaches fu a0 a1 a2 a3 w = ev T_X4_reaches (op_X4_reaches fu) [] (K_X4_reaches fu fu) 22 0 (lv_args 0 [.ref a0, .int a1, .int a2, .int a3]) [] w := by
  rfl
theorem D_X4_reaches (fu : Nat) : DS T_X4_reaches (op_X4_reaches fu) [] 22 (K_X4_reaches fu) := by
  refine ⟨fun pc ls st w => rfl, fun n pc ls st w o h => ?_⟩
  cases h
theorem H_X4_reaches (fu : Nat) : ∀ as w o, U_X4_reaches fu as w = some o → ∃ a r, as = .ref a :: r ∧ r.length = 3 ∧ isO w a 4 = true := by
  intro as w o h
  unfold U_X4_reaches at h
  split at h
  next =>
    split at h
    next hh => exact ⟨_, _, rfl, rfl, hh⟩
    next => cases h
  next => cases h
set_option maxRecDepth 100000 in
set_option maxHeartbeats 4000000 in
theorem S_X4_reaches (fu : Nat) {l : Launch} {D : va_G} {cA : Nat → ClassId} {base b : Nat} : CS l D cA base b 1 y_X4_reaches prog_6_method_11_code 4 (some .boolean) (U_X4_reaches fu) ∧ OM (U_X4_reaches fu) := by
  refine CS_of (d := 0) (y := y_X4_reaches) (cc := prog_6_method_11_code) (nL := 4) (ret := (some .boolean)) (F := U_X4_reaches fu) (fl := fl_BrookStones_Sheets) (nl := []) (kl := []) (k2 := []) (mv := []) (ms := []) (mi := []) (ini := false) hI_w hZ_w fl_BrookStones_Sheets_ok nil_all nil_all nil_all
    (nil_all)
    (nil_all)
    (nil_all)
    (T := T_X4_reaches) (by decide +kernel) (cut := []) (N := 22) (D_X4_reaches fu) (by decide +kernel) (fun h => absurd h (by decide)) (fun as w o h => ?_)
  unfold U_X4_reaches at h
  split at h
  next =>
    split at h
    next => exact ⟨Nat.le_of_ble_eq_true rfl, fu, (E_X4_reaches fu _ _ _ _ w).symm.trans h⟩
    next => cases h
  next => cases h
def T_X4_faultOfCells : List (Nat × Instr) := [(0, .aload_n 0), (1, .iload_n 1), (2, .invokevirtual 44), (5, .ifCond .ne 5), (8, .iconst 1), (9, .ireturn), (10, .aload_n 0), (11, .getfield 9), (14, .iload_n 1), (15, .iaload), (16, .iload_n 2), (17, .if_icmp .eq 5), (20, .iconst 2), (21, .ireturn), (22, .iload 4), (24, .ifCond .ge 5), (27, .iconst 4), (28, .ireturn), (29, .aload_n 0), (30, .iload_n 1), (31, .iload_n 3), (32, .iload 4), (34, .invokevirtual 48), (37, .ifCond .eq 7), (40, .iconst 0), (41, .goto 4), (44, .iconst 3), (45, .ireturn)]
def op_X4_faultOfCells (fu : Nat) : Nat → Kont → XL → List Value → XW → Instr → Option XO := opK 5 (rzOf (some .int)) fl_BrookStones_Sheets [] [] [] [(44, 2, 1, (U_X4_isThere fu)), (48, 4, 1, (U_X4_reaches fu))] [] []
def M_X4_faultOfCells (fu : Nat) (a0 : Nat) (a1 : Int32) (a2 : Int32) (a3 : Int32) (a4 : Int32) (w : XW) : Option XO :=
  cI (U_X4_isThere fu [.ref a0, .int a1] w) fun x2 w1 =>
  (if x2 = 0 then
    some (some (.int (1 : Int32)), w1)
  else
    (gR w1 a0 4 0).bind fun r3 =>
    (aI w1 r3 a1).bind fun x4 =>
    (if x4 = a2 then
      (if a4 < 0 then
        some (some (.int (4 : Int32)), w1)
      else
        cI (U_X4_reaches fu [.ref a0, .int a1, .int a3, .int a4] w1) fun x6 w5 =>
        (if x6 = 0 then
          some (some (.int (3 : Int32)), w5)
        else
          some (some (.int (0 : Int32)), w5)))
    else
      some (some (.int (2 : Int32)), w1)))
def U_X4_faultOfCells (fu : Nat) : Orc := fun as w => match as with
  | [.ref a0, .int a1, .int a2, .int a3, .int a4] => if isO w a0 4 = true then M_X4_faultOfCells fu a0 a1 a2 a3 a4 w else none
  | _ => none
def K_X4_faultOfCells (fu : Nat) (n : Nat) : Kont := fun pc ls st w => none
set_option maxRecDepth 100000 in
set_option maxHeartbeats 4000000 in
theorem E_X4_faultOfCells (fu : Nat) (a0 : Nat) (a1 : Int32) (a2 : Int32) (a3 : Int32) (a4 : Int32) (w : XW) : M_X4_faultOfCells fu a0 a1 a2 a3 a4 w = ev T_X4_faultOfCells (op_X4_faultOfCells fu) [] (K_X4_faultOfCells fu fu) 30 0 (lv_args 0 [.ref a0, .int a1, .int a2, .int a3, .int a4]) [] w := by
  rfl
theorem D_X4_faultOfCells (fu : Nat) : DS T_X4_faultOfCells (op_X4_faultOfCells fu) [] 30 (K_X4_faultOfCells fu) := by
  refine ⟨fun pc ls st w => rfl, fun n pc ls st w o h => ?_⟩
  cases h
theorem H_X4_faultOfCells (fu : Nat) : ∀ as w o, U_X4_faultOfCells fu as w = some o → ∃ a r, as = .ref a :: r ∧ r.length = 4 ∧ isO w a 4 = true := by
  intro as w o h
  unfold U_X4_faultOfCells at h
  split at h
  next =>
    split at h
    next hh => exact ⟨_, _, rfl, rfl, hh⟩
    next => cases h
  next => cases h
set_option maxRecDepth 100000 in
set_option maxHeartbeats 4000000 in
theorem S_X4_faultOfCells (fu : Nat) {l : Launch} {D : va_G} {cA : Nat → ClassId} {base b : Nat} : CS l D cA base b 2 y_X4_faultOfCells prog_6_method_12_code 5 (some .int) (U_X4_faultOfCells fu) ∧ OM (U_X4_faultOfCells fu) := by
  refine CS_of (d := 1) (y := y_X4_faultOfCells) (cc := prog_6_method_12_code) (nL := 5) (ret := (some .int)) (F := U_X4_faultOfCells fu) (fl := fl_BrookStones_Sheets) (nl := []) (kl := []) (k2 := []) (mv := [(44, 2, 1, (U_X4_isThere fu)), (48, 4, 1, (U_X4_reaches fu))]) (ms := []) (mi := []) (ini := false) hI_w hZ_w fl_BrookStones_Sheets_ok nil_all nil_all nil_all
    (cons_all (⟨⟨show (1 : Nat) ≠ 3 by decide, y_X4_isThere, prog_6_method_4_code, 2, (some .boolean), 1, "BrookStones", 4, TX4, 3, 1, (S_X4_isThere fu (l := l) (D := D) (cA := cA) (base := base) (b := b)).1, by decide, by decide, rfl, H_X4_isThere fu, rfl, mi_X4_isThere.1, mi_X4_isThere.2.1, mi_X4_isThere.2.2.1, mi_X4_isThere.2.2.2.1, mi_X4_isThere.2.2.2.2, Or.inl (tblG_of (i := 265) rfl rfl)⟩, (S_X4_isThere fu (l := l) (D := D) (cA := cA) (base := base) (b := b)).2⟩) (cons_all (⟨⟨show (1 : Nat) ≠ 3 by decide, y_X4_reaches, prog_6_method_11_code, 4, (some .boolean), 1, "BrookStones", 4, TX4, 3, 3, (S_X4_reaches fu (l := l) (D := D) (cA := cA) (base := base) (b := b)).1, by decide, by decide, rfl, H_X4_reaches fu, rfl, mi_X4_reaches.1, mi_X4_reaches.2.1, mi_X4_reaches.2.2.1, mi_X4_reaches.2.2.2.1, mi_X4_reaches.2.2.2.2, Or.inl (tblG_of (i := 269) rfl rfl)⟩, (S_X4_reaches fu (l := l) (D := D) (cA := cA) (base := base) (b := b)).2⟩) (nil_all)))
    (nil_all)
    (nil_all)
    (T := T_X4_faultOfCells) (by decide +kernel) (cut := []) (N := 30) (D_X4_faultOfCells fu) (by decide +kernel) (fun h => absurd h (by decide)) (fun as w o h => ?_)
  unfold U_X4_faultOfCells at h
  split at h
  next =>
    split at h
    next => exact ⟨Nat.le_of_ble_eq_true rfl, fu, (E_X4_faultOfCells fu _ _ _ _ _ w).symm.trans h⟩
    next => cases h
  next => cases h
def T_X7_failBy : List (Nat × Instr) := [(0, .aload_n 0), (1, .iload_n 1), (2, .putfield 53), (5, .bipush (-10)), (7, .iload_n 1), (8, .isub), (9, .ireturn)]
def op_X7_failBy (fu : Nat) : Nat → Kont → XL → List Value → XW → Instr → Option XO := opK 2 (rzOf (some .int)) fl_BrookStones nl_BrookStones [] k2_BrookStones [] [] []
def M_X7_failBy (fu : Nat) (a0 : Nat) (a1 : Int32) (w : XW) : Option XO :=
  (pF w a0 6 7 (.int a1)).bind fun w1 =>
  some (some (.int ((-10 : Int32) - a1)), w1)
def U_X7_failBy (fu : Nat) : Orc := fun as w => match as with
  | [.ref a0, .int a1] => if isO w a0 6 = true then M_X7_failBy fu a0 a1 w else none
  | _ => none
def K_X7_failBy (fu : Nat) (n : Nat) : Kont := fun pc ls st w => none
set_option maxRecDepth 100000 in
set_option maxHeartbeats 4000000 in
theorem E_X7_failBy (fu : Nat) (a0 : Nat) (a1 : Int32) (w : XW) : M_X7_failBy fu a0 a1 w = ev T_X7_failBy (op_X7_failBy fu) [] (K_X7_failBy fu fu) 9 0 (lv_args 0 [.ref a0, .int a1]) [] w := by
  rfl
theorem D_X7_failBy (fu : Nat) : DS T_X7_failBy (op_X7_failBy fu) [] 9 (K_X7_failBy fu) := by
  refine ⟨fun pc ls st w => rfl, fun n pc ls st w o h => ?_⟩
  cases h
theorem H_X7_failBy (fu : Nat) : ∀ as w o, U_X7_failBy fu as w = some o → ∃ a r, as = .ref a :: r ∧ r.length = 1 ∧ isO w a 6 = true := by
  intro as w o h
  unfold U_X7_failBy at h
  split at h
  next =>
    split at h
    next hh => exact ⟨_, _, rfl, rfl, hh⟩
    next => cases h
  next => cases h
set_option maxRecDepth 100000 in
set_option maxHeartbeats 4000000 in
theorem S_X7_failBy (fu : Nat) {l : Launch} {D : va_G} {cA : Nat → ClassId} {base b : Nat} : CS l D cA base b 1 y_X7_failBy prog_1_method_40_code 2 (some .int) (U_X7_failBy fu) ∧ OM (U_X7_failBy fu) := by
  refine CS_of (d := 0) (y := y_X7_failBy) (cc := prog_1_method_40_code) (nL := 2) (ret := (some .int)) (F := U_X7_failBy fu) (fl := fl_BrookStones) (nl := nl_BrookStones) (kl := []) (k2 := k2_BrookStones) (mv := []) (ms := []) (mi := []) (ini := false) hI_w hZ_w fl_BrookStones_ok nl_BrookStones_ok nil_all k2_BrookStones_ok
    (nil_all)
    (nil_all)
    (nil_all)
    (T := T_X7_failBy) (by decide +kernel) (cut := []) (N := 9) (D_X7_failBy fu) (by decide +kernel) (fun h => absurd h (by decide)) (fun as w o h => ?_)
  unfold U_X7_failBy at h
  split at h
  next =>
    split at h
    next => exact ⟨Nat.le_of_ble_eq_true rfl, fu, (E_X7_failBy fu _ _ w).symm.trans h⟩
    next => cases h
  next => cases h
def T_X7_refusalOfCells : List (Nat × Instr) := [(0, .iload_n 1), (1, .invokestatic 256), (4, .ifCond .ne 5), (7, .iconst (-1)), (8, .ireturn), (9, .iload_n 2), (10, .invokestatic 259), (13, .ifCond .ne 6), (16, .bipush (-2)), (18, .ireturn), (19, .aload_n 0), (20, .getfield 21), (23, .iload_n 1), (24, .iload_n 2), (25, .iload_n 3), (26, .iload 4), (28, .invokevirtual 305), (31, .istore 5), (33, .iload 5), (35, .ifCond .ne 7), (38, .iconst 0), (39, .goto 9), (42, .aload_n 0), (43, .iload 5), (45, .invokevirtual 262), (48, .ireturn)]
def op_X7_refusalOfCells (fu : Nat) : Nat → Kont → XL → List Value → XW → Instr → Option XO := opK 6 (rzOf (some .int)) fl_BrookStones nl_BrookStones [] k2_BrookStones [(305, 5, 1, (U_X4_faultOfCells fu)), (262, 2, 1, (U_X7_failBy fu))] [(256, 1, 1, (U_X4_isSheet fu)), (259, 1, 1, (U_X4_isSort fu))] []
def M_X7_refusalOfCells (fu : Nat) (a0 : Nat) (a1 : Int32) (a2 : Int32) (a3 : Int32) (a4 : Int32) (w : XW) : Option XO :=
  cI (U_X4_isSheet fu [.int a1] w) fun x2 w1 =>
  (if x2 = 0 then
    some (some (.int (-1 : Int32)), w1)
  else
    cI (U_X4_isSort fu [.int a2] w1) fun x4 w3 =>
    (if x4 = 0 then
      some (some (.int (-2 : Int32)), w3)
    else
      (gR w3 a0 6 1).bind fun r5 =>
      cI (U_X4_faultOfCells fu [.ref r5, .int a1, .int a2, .int a3, .int a4] w3) fun x7 w6 =>
      (if x7 = 0 then
        some (some (.int (0 : Int32)), w6)
      else
        cI (U_X7_failBy fu [.ref a0, .int x7] w6) fun x9 w8 =>
        some (some (.int x9), w8))))
def U_X7_refusalOfCells (fu : Nat) : Orc := fun as w => match as with
  | [.ref a0, .int a1, .int a2, .int a3, .int a4] => if isO w a0 6 = true then M_X7_refusalOfCells fu a0 a1 a2 a3 a4 w else none
  | _ => none
def K_X7_refusalOfCells (fu : Nat) (n : Nat) : Kont := fun pc ls st w => none
set_option maxRecDepth 100000 in
set_option maxHeartbeats 4000000 in
theorem E_X7_refusalOfCells (fu : Nat) (a0 : Nat) (a1 : Int32) (a2 : Int32) (a3 : Int32) (a4 : Int32) (w : XW) : M_X7_refusalOfCells fu a0 a1 a2 a3 a4 w = ev T_X7_refusalOfCells (op_X7_refusalOfCells fu) [] (K_X7_refusalOfCells fu fu) 28 0 (lv_args 0 [.ref a0, .int a1, .int a2, .int a3, .int a4]) [] w := by
  rfl
theorem D_X7_refusalOfCells (fu : Nat) : DS T_X7_refusalOfCells (op_X7_refusalOfCells fu) [] 28 (K_X7_refusalOfCells fu) := by
  refine ⟨fun pc ls st w => rfl, fun n pc ls st w o h => ?_⟩
  cases h
theorem H_X7_refusalOfCells (fu : Nat) : ∀ as w o, U_X7_refusalOfCells fu as w = some o → ∃ a r, as = .ref a :: r ∧ r.length = 4 ∧ isO w a 6 = true := by
  intro as w o h
  unfold U_X7_refusalOfCells at h
  split at h
  next =>
    split at h
    next hh => exact ⟨_, _, rfl, rfl, hh⟩
    next => cases h
  next => cases h
set_option maxRecDepth 100000 in
set_option maxHeartbeats 4000000 in
theorem S_X7_refusalOfCells (fu : Nat) {l : Launch} {D : va_G} {cA : Nat → ClassId} {base b : Nat} : CS l D cA base b 3 y_X7_refusalOfCells prog_1_method_39_code 6 (some .int) (U_X7_refusalOfCells fu) ∧ OM (U_X7_refusalOfCells fu) := by
  refine CS_of (d := 2) (y := y_X7_refusalOfCells) (cc := prog_1_method_39_code) (nL := 6) (ret := (some .int)) (F := U_X7_refusalOfCells fu) (fl := fl_BrookStones) (nl := nl_BrookStones) (kl := []) (k2 := k2_BrookStones) (mv := [(305, 5, 1, (U_X4_faultOfCells fu)), (262, 2, 1, (U_X7_failBy fu))]) (ms := [(256, 1, 1, (U_X4_isSheet fu)), (259, 1, 1, (U_X4_isSort fu))]) (mi := []) (ini := false) hI_w hZ_w fl_BrookStones_ok nl_BrookStones_ok nil_all k2_BrookStones_ok
    (cons_all (⟨⟨show (1 : Nat) ≠ 3 by decide, y_X4_faultOfCells, prog_6_method_12_code, 5, (some .int), 2, "BrookStones", 4, TX4, 3, 4, (S_X4_faultOfCells fu (l := l) (D := D) (cA := cA) (base := base) (b := b)).1, by decide, by decide, rfl, H_X4_faultOfCells fu, rfl, mi_X4_faultOfCells.1, mi_X4_faultOfCells.2.1, mi_X4_faultOfCells.2.2.1, mi_X4_faultOfCells.2.2.2.1, mi_X4_faultOfCells.2.2.2.2, Or.inr (tblN_of (i := 261) rfl rfl)⟩, (S_X4_faultOfCells fu (l := l) (D := D) (cA := cA) (base := base) (b := b)).2⟩) (cons_all (⟨⟨show (1 : Nat) ≠ 3 by decide, y_X7_failBy, prog_1_method_40_code, 2, (some .int), 1, "BrookStones", 6, TX7, 8, 1, (S_X7_failBy fu (l := l) (D := D) (cA := cA) (base := base) (b := b)).1, by decide, by decide, rfl, H_X7_failBy fu, rfl, mi_X7_failBy.1, mi_X7_failBy.2.1, mi_X7_failBy.2.2.1, mi_X7_failBy.2.2.2.1, mi_X7_failBy.2.2.2.2, Or.inl (tblG_of (i := 273) rfl rfl)⟩, (S_X7_failBy fu (l := l) (D := D) (cA := cA) (base := base) (b := b)).2⟩) (nil_all)))
    (cons_all (⟨Or.inl ⟨show (1 : Nat) ≠ 3 by decide, y_X4_isSheet, prog_6_method_2_code, 1, (some .boolean), 2, "BrookStones", (S_X4_isSheet fu (l := l) (D := D) (cA := cA) (base := base) (b := b)).1, by decide, by decide, mi_X4_isSheet.1, mi_X4_isSheet.2.1, mi_X4_isSheet.2.2.1, mi_X4_isSheet.2.2.2, Or.inr (tblN_of (i := 252) rfl rfl)⟩, (S_X4_isSheet fu (l := l) (D := D) (cA := cA) (base := base) (b := b)).2⟩) (cons_all (⟨Or.inl ⟨show (1 : Nat) ≠ 3 by decide, y_X4_isSort, prog_6_method_3_code, 1, (some .boolean), 2, "BrookStones", (S_X4_isSort fu (l := l) (D := D) (cA := cA) (base := base) (b := b)).1, by decide, by decide, mi_X4_isSort.1, mi_X4_isSort.2.1, mi_X4_isSort.2.2.1, mi_X4_isSort.2.2.2, Or.inr (tblN_of (i := 258) rfl rfl)⟩, (S_X4_isSort fu (l := l) (D := D) (cA := cA) (base := base) (b := b)).2⟩) (nil_all)))
    (nil_all)
    (T := T_X7_refusalOfCells) (by decide +kernel) (cut := []) (N := 28) (D_X7_refusalOfCells fu) (by decide +kernel) (fun h => absurd h (by decide)) (fun as w o h => ?_)
  unfold U_X7_refusalOfCells at h
  split at h
  next =>
    split at h
    next => exact ⟨Nat.le_of_ble_eq_true rfl, fu, (E_X7_refusalOfCells fu _ _ _ _ _ w).symm.trans h⟩
    next => cases h
  next => cases h
def T_X4_at : List (Nat × Instr) := [(0, .aload_n 0), (1, .getfield 18), (4, .iload_n 1), (5, .bipush 60), (7, .imul), (8, .iload_n 2), (9, .iadd), (10, .iaload), (11, .ireturn)]
def op_X4_at (fu : Nat) : Nat → Kont → XL → List Value → XW → Instr → Option XO := opK 3 (rzOf (some .int)) fl_BrookStones_Sheets [] [] [] [] [] []
def M_X4_at (fu : Nat) (a0 : Nat) (a1 : Int32) (a2 : Int32) (w : XW) : Option XO :=
  (gR w a0 4 2).bind fun r1 =>
  (aI w r1 ((a1 * (60 : Int32)) + a2)).bind fun x2 =>
  some (some (.int x2), w)
def U_X4_at (fu : Nat) : Orc := fun as w => match as with
  | [.ref a0, .int a1, .int a2] => if isO w a0 4 = true then M_X4_at fu a0 a1 a2 w else none
  | _ => none
def K_X4_at (fu : Nat) (n : Nat) : Kont := fun pc ls st w => none
set_option maxRecDepth 100000 in
set_option maxHeartbeats 4000000 in
theorem E_X4_at (fu : Nat) (a0 : Nat) (a1 : Int32) (a2 : Int32) (w : XW) : M_X4_at fu a0 a1 a2 w = ev T_X4_at (op_X4_at fu) [] (K_X4_at fu fu) 11 0 (lv_args 0 [.ref a0, .int a1, .int a2]) [] w := by
  rfl
theorem D_X4_at (fu : Nat) : DS T_X4_at (op_X4_at fu) [] 11 (K_X4_at fu) := by
  refine ⟨fun pc ls st w => rfl, fun n pc ls st w o h => ?_⟩
  cases h
theorem H_X4_at (fu : Nat) : ∀ as w o, U_X4_at fu as w = some o → ∃ a r, as = .ref a :: r ∧ r.length = 2 ∧ isO w a 4 = true := by
  intro as w o h
  unfold U_X4_at at h
  split at h
  next =>
    split at h
    next hh => exact ⟨_, _, rfl, rfl, hh⟩
    next => cases h
  next => cases h
set_option maxRecDepth 100000 in
set_option maxHeartbeats 4000000 in
theorem S_X4_at (fu : Nat) {l : Launch} {D : va_G} {cA : Nat → ClassId} {base b : Nat} : CS l D cA base b 1 y_X4_at prog_6_method_7_code 3 (some .int) (U_X4_at fu) ∧ OM (U_X4_at fu) := by
  refine CS_of (d := 0) (y := y_X4_at) (cc := prog_6_method_7_code) (nL := 3) (ret := (some .int)) (F := U_X4_at fu) (fl := fl_BrookStones_Sheets) (nl := []) (kl := []) (k2 := []) (mv := []) (ms := []) (mi := []) (ini := false) hI_w hZ_w fl_BrookStones_Sheets_ok nil_all nil_all nil_all
    (nil_all)
    (nil_all)
    (nil_all)
    (T := T_X4_at) (by decide +kernel) (cut := []) (N := 11) (D_X4_at fu) (by decide +kernel) (fun h => absurd h (by decide)) (fun as w o h => ?_)
  unfold U_X4_at at h
  split at h
  next =>
    split at h
    next => exact ⟨Nat.le_of_ble_eq_true rfl, fu, (E_X4_at fu _ _ _ w).symm.trans h⟩
    next => cases h
  next => cases h
def T_X5_isDigit : List (Nat × Instr) := [(0, .iload_n 0), (1, .bipush 48), (3, .bipush 57), (5, .invokestatic 57), (8, .ireturn)]
def op_X5_isDigit (fu : Nat) : Nat → Kont → XL → List Value → XW → Instr → Option XO := opK 1 (rzOf (some .boolean)) fl_BrookStones_Text [] [] [] [] [(57, 3, 1, (U_X7_isWithin fu))] []
def M_X5_isDigit (fu : Nat) (a0 : Int32) (w : XW) : Option XO :=
  cI (U_X7_isWithin fu [.int a0, .int (48 : Int32), .int (57 : Int32)] w) fun x2 w1 =>
  retZ x2 w1
def U_X5_isDigit (fu : Nat) : Orc := fun as w => match as with
  | [.int a0] => M_X5_isDigit fu a0 w
  | _ => none
def K_X5_isDigit (fu : Nat) (n : Nat) : Kont := fun pc ls st w => none
set_option maxRecDepth 100000 in
set_option maxHeartbeats 4000000 in
theorem E_X5_isDigit (fu : Nat) (a0 : Int32) (w : XW) : M_X5_isDigit fu a0 w = ev T_X5_isDigit (op_X5_isDigit fu) [] (K_X5_isDigit fu fu) 7 0 (lv_args 0 [.int a0]) [] w := by
  rfl
theorem D_X5_isDigit (fu : Nat) : DS T_X5_isDigit (op_X5_isDigit fu) [] 7 (K_X5_isDigit fu) := by
  refine ⟨fun pc ls st w => rfl, fun n pc ls st w o h => ?_⟩
  cases h
set_option maxRecDepth 100000 in
set_option maxHeartbeats 4000000 in
theorem S_X5_isDigit (fu : Nat) {l : Launch} {D : va_G} {cA : Nat → ClassId} {base b : Nat} : CS l D cA base b 2 y_X5_isDigit prog_7_method_7_code 1 (some .boolean) (U_X5_isDigit fu) ∧ OM (U_X5_isDigit fu) := by
  refine CS_of (d := 1) (y := y_X5_isDigit) (cc := prog_7_method_7_code) (nL := 1) (ret := (some .boolean)) (F := U_X5_isDigit fu) (fl := fl_BrookStones_Text) (nl := []) (kl := []) (k2 := []) (mv := []) (ms := [(57, 3, 1, (U_X7_isWithin fu))]) (mi := []) (ini := false) hI_w hZ_w fl_BrookStones_Text_ok nil_all nil_all nil_all
    (nil_all)
    (cons_all (⟨Or.inl ⟨show (1 : Nat) ≠ 3 by decide, y_X7_isWithin, prog_1_method_46_code, 3, (some .boolean), 1, "BrookStones", (S_X7_isWithin fu (l := l) (D := D) (cA := cA) (base := base) (b := b)).1, by decide, by decide, mi_X7_isWithin.1, mi_X7_isWithin.2.1, mi_X7_isWithin.2.2.1, mi_X7_isWithin.2.2.2, Or.inr (tblN_of (i := 290) rfl rfl)⟩, (S_X7_isWithin fu (l := l) (D := D) (cA := cA) (base := base) (b := b)).2⟩) (nil_all))
    (nil_all)
    (T := T_X5_isDigit) (by decide +kernel) (cut := []) (N := 7) (D_X5_isDigit fu) (by decide +kernel) (fun h => absurd h (by decide)) (fun as w o h => ?_)
  unfold U_X5_isDigit at h
  split at h
  next =>
    exact ⟨Nat.le_of_ble_eq_true rfl, fu, (E_X5_isDigit fu _ w).symm.trans h⟩
  next => cases h
def T_X5_cellsTold : List (Nat × Instr) := [(0, .iconst 0), (1, .istore 4), (3, .iload 4), (5, .bipush 7), (7, .if_icmp .ge 34), (10, .iload 4), (12, .iconst 1), (13, .iadd), (14, .iload_n 3), (15, .if_icmp .ge 26), (18, .aload_n 0), (19, .iload_n 1), (20, .iload_n 2), (21, .iconst 1), (22, .iadd), (23, .iload 4), (25, .iadd), (26, .invokevirtual 19), (29, .invokestatic 50), (32, .ifCond .eq 9), (35, .iinc 4 1), (38, .goto (-35)), (41, .iload 4), (43, .iconst 3), (44, .invokestatic 54), (47, .ireturn)]
def op_X5_cellsTold (fu : Nat) : Nat → Kont → XL → List Value → XW → Instr → Option XO := opK 5 (rzOf (some .int)) fl_BrookStones_Text [] [] [] [(19, 3, 1, (U_X4_at fu))] [(50, 1, 1, (U_X5_isDigit fu)), (54, 2, 3, oMax)] []
def F_X5_cellsTold (fu : Nat) : Nat → (Nat → Int32 → Int32 → Int32 → Int32 → XW → Option XO)
  | 0 => fun _ _ _ _ _ _ => none
  | n + 1 => (fun a0 a1 a2 a3 a4 w =>
    (if a4 < (7 : Int32) then
      (if (a4 + (1 : Int32)) < a3 then
        cI (U_X4_at fu [.ref a0, .int a1, .int ((a2 + (1 : Int32)) + a4)] w) fun x6 w5 =>
        cI (U_X5_isDigit fu [.int x6] w5) fun x8 w7 =>
        (if x8 = 0 then
          cI (oMax [.int a4, .int (3 : Int32)] w7) fun x10 w9 =>
          some (some (.int x10), w9)
        else
          (F_X5_cellsTold fu n) a0 a1 a2 a3 (a4 + (1 : Int32)) w7)
      else
        cI (oMax [.int a4, .int (3 : Int32)] w) fun x4 w3 =>
        some (some (.int x4), w3))
    else
      cI (oMax [.int a4, .int (3 : Int32)] w) fun x2 w1 =>
      some (some (.int x2), w1)))
def M_X5_cellsTold (fu : Nat) (a0 : Nat) (a1 : Int32) (a2 : Int32) (a3 : Int32) (w : XW) : Option XO :=
  (F_X5_cellsTold fu fu) a0 a1 a2 a3 (0 : Int32) w
def U_X5_cellsTold (fu : Nat) : Orc := fun as w => match as with
  | [.ref a0, .int a1, .int a2, .int a3] => M_X5_cellsTold fu a0 a1 a2 a3 w
  | _ => none
def K_X5_cellsTold (fu : Nat) (n : Nat) : Kont := fun pc ls st w => bif pc == 3 then ((xr ls 0).bind fun a0 => (xi ls 1).bind fun a1 => (xi ls 2).bind fun a2 => (xi ls 3).bind fun a3 => (xi ls 4).bind fun a4 => skN st ((F_X5_cellsTold fu n) a0 a1 a2 a3 a4 w)) else none
set_option maxRecDepth 100000 in
set_option maxHeartbeats 4000000 in
theorem E_X5_cellsTold_3 (fu : Nat) (n : Nat) (a0 : Nat) (a1 : Int32) (a2 : Int32) (a3 : Int32) (a4 : Int32) (w : XW) : (F_X5_cellsTold fu (n + 1)) a0 a1 a2 a3 a4 w = ev T_X5_cellsTold (op_X5_cellsTold fu) [3] (K_X5_cellsTold fu n) 28 3 [(0, .ref a0), (1, .int a1), (2, .int a2), (3, .int a3), (4, .int a4)] [] w := by
  rfl
set_option maxRecDepth 100000 in
set_option maxHeartbeats 4000000 in
theorem E_X5_cellsTold (fu : Nat) (a0 : Nat) (a1 : Int32) (a2 : Int32) (a3 : Int32) (w : XW) : M_X5_cellsTold fu a0 a1 a2 a3 w = ev T_X5_cellsTold (op_X5_cellsTold fu) [3] (K_X5_cellsTold fu fu) 28 0 (lv_args 0 [.ref a0, .int a1, .int a2, .int a3]) [] w := by
  rfl
theorem D_X5_cellsTold (fu : Nat) : DS T_X5_cellsTold (op_X5_cellsTold fu) [3] 28 (K_X5_cellsTold fu) := by
  refine ⟨fun pc ls st w => c_none (b_none fun _ => b_none fun _ => b_none fun _ => b_none fun _ => b_none fun _ => skN_none rfl) (rfl), fun n pc ls st w o h => ?_⟩
  rcases c_some h with ⟨rfl, h⟩ | h
  · obtain ⟨a0, h0, h⟩ := some_of h; obtain ⟨a1, h1, h⟩ := some_of h; obtain ⟨a2, h2, h⟩ := some_of h; obtain ⟨a3, h3, h⟩ := some_of h; obtain ⟨a4, h4, h⟩ := some_of h;
    obtain ⟨e, g⟩ := skN_of h
    subst e
    exact ⟨[(0, .ref a0), (1, .int a1), (2, .int a2), (3, .int a3), (4, .int a4)], cons_all (xr_of h0) (cons_all (xi_of h1) (cons_all (xi_of h2) (cons_all (xi_of h3) (cons_all (xi_of h4) (nil_all))))), (E_X5_cellsTold_3 fu n a0 a1 a2 a3 a4 w).symm.trans g⟩
  · cases h
set_option maxRecDepth 100000 in
set_option maxHeartbeats 4000000 in
theorem S_X5_cellsTold (fu : Nat) {l : Launch} {D : va_G} {cA : Nat → ClassId} {base b : Nat} : CS l D cA base b 3 y_X5_cellsTold prog_7_method_5_code 5 (some .int) (U_X5_cellsTold fu) ∧ OM (U_X5_cellsTold fu) := by
  refine CS_of (d := 2) (y := y_X5_cellsTold) (cc := prog_7_method_5_code) (nL := 5) (ret := (some .int)) (F := U_X5_cellsTold fu) (fl := fl_BrookStones_Text) (nl := []) (kl := []) (k2 := []) (mv := [(19, 3, 1, (U_X4_at fu))]) (ms := [(50, 1, 1, (U_X5_isDigit fu)), (54, 2, 3, oMax)]) (mi := []) (ini := false) hI_w hZ_w fl_BrookStones_Text_ok nil_all nil_all nil_all
    (cons_all (⟨⟨show (1 : Nat) ≠ 3 by decide, y_X4_at, prog_6_method_7_code, 3, (some .int), 1, "BrookStones", 4, TX4, 3, 2, (S_X4_at fu (l := l) (D := D) (cA := cA) (base := base) (b := b)).1, by decide, by decide, rfl, H_X4_at fu, rfl, mi_X4_at.1, mi_X4_at.2.1, mi_X4_at.2.2.1, mi_X4_at.2.2.2.1, mi_X4_at.2.2.2.2, Or.inr (tblN_of (i := 283) rfl rfl)⟩, (S_X4_at fu (l := l) (D := D) (cA := cA) (base := base) (b := b)).2⟩) (nil_all))
    (cons_all (⟨Or.inl ⟨show (1 : Nat) ≠ 3 by decide, y_X5_isDigit, prog_7_method_7_code, 1, (some .boolean), 2, "BrookStones", (S_X5_isDigit fu (l := l) (D := D) (cA := cA) (base := base) (b := b)).1, by decide, by decide, mi_X5_isDigit.1, mi_X5_isDigit.2.1, mi_X5_isDigit.2.2.1, mi_X5_isDigit.2.2.2, Or.inl (tblG_of (i := 287) rfl rfl)⟩, (S_X5_isDigit fu (l := l) (D := D) (cA := cA) (base := base) (b := b)).2⟩) (cons_all (⟨Or.inr (Or.inr (Or.inl ⟨rfl, rfl, rfl, tblG_of (i := 291) rfl rfl, tblG_of (i := 292) rfl rfl, tblG_of (i := 11) rfl rfl, tblG_of (i := 293) rfl rfl⟩)), om_max⟩) (nil_all)))
    (nil_all)
    (T := T_X5_cellsTold) (by decide +kernel) (cut := [3]) (N := 28) (D_X5_cellsTold fu) (by decide +kernel) (fun h => absurd h (by decide)) (fun as w o h => ?_)
  unfold U_X5_cellsTold at h
  split at h
  next =>
    exact ⟨Nat.le_of_ble_eq_true rfl, fu, (E_X5_cellsTold fu _ _ _ _ w).symm.trans h⟩
  next => cases h
def T_X5_length : List (Nat × Instr) := [(0, .iconst 2), (1, .iload_n 0), (2, .imul), (3, .bipush 6), (5, .iadd), (6, .ireturn)]
def op_X5_length (fu : Nat) : Nat → Kont → XL → List Value → XW → Instr → Option XO := opK 1 (rzOf (some .int)) fl_BrookStones_Text [] [] [] [] [] []
def M_X5_length (fu : Nat) (a0 : Int32) (w : XW) : Option XO :=
  some (some (.int (((2 : Int32) * a0) + (6 : Int32))), w)
def U_X5_length (fu : Nat) : Orc := fun as w => match as with
  | [.int a0] => M_X5_length fu a0 w
  | _ => none
def K_X5_length (fu : Nat) (n : Nat) : Kont := fun pc ls st w => none
set_option maxRecDepth 100000 in
set_option maxHeartbeats 4000000 in
theorem E_X5_length (fu : Nat) (a0 : Int32) (w : XW) : M_X5_length fu a0 w = ev T_X5_length (op_X5_length fu) [] (K_X5_length fu fu) 8 0 (lv_args 0 [.int a0]) [] w := by
  rfl
theorem D_X5_length (fu : Nat) : DS T_X5_length (op_X5_length fu) [] 8 (K_X5_length fu) := by
  refine ⟨fun pc ls st w => rfl, fun n pc ls st w o h => ?_⟩
  cases h
set_option maxRecDepth 100000 in
set_option maxHeartbeats 4000000 in
theorem S_X5_length (fu : Nat) {l : Launch} {D : va_G} {cA : Nat → ClassId} {base b : Nat} : CS l D cA base b 1 y_X5_length prog_7_method_4_code 1 (some .int) (U_X5_length fu) ∧ OM (U_X5_length fu) := by
  refine CS_of (d := 0) (y := y_X5_length) (cc := prog_7_method_4_code) (nL := 1) (ret := (some .int)) (F := U_X5_length fu) (fl := fl_BrookStones_Text) (nl := []) (kl := []) (k2 := []) (mv := []) (ms := []) (mi := []) (ini := false) hI_w hZ_w fl_BrookStones_Text_ok nil_all nil_all nil_all
    (nil_all)
    (nil_all)
    (nil_all)
    (T := T_X5_length) (by decide +kernel) (cut := []) (N := 8) (D_X5_length fu) (by decide +kernel) (fun h => absurd h (by decide)) (fun as w o h => ?_)
  unfold U_X5_length at h
  split at h
  next =>
    exact ⟨Nat.le_of_ble_eq_true rfl, fu, (E_X5_length fu _ w).symm.trans h⟩
  next => cases h
def T_X5_goesOn : List (Nat × Instr) := [(0, .iload_n 1), (1, .ifCond .ne 15), (4, .iload_n 0), (5, .bipush 100), (7, .if_icmp .ne 7), (10, .iconst 1), (11, .goto 4), (14, .iconst 0), (15, .ireturn), (16, .iload_n 1), (17, .iload_n 2), (18, .iconst 1), (19, .iadd), (20, .if_icmp .eq 12), (23, .iload_n 1), (24, .iconst 2), (25, .iload_n 2), (26, .imul), (27, .iconst 3), (28, .iadd), (29, .if_icmp .ne 15), (32, .iload_n 0), (33, .bipush 59), (35, .if_icmp .ne 7), (38, .iconst 1), (39, .goto 4), (42, .iconst 0), (43, .ireturn), (44, .iload_n 1), (45, .iload_n 2), (46, .iconst 2), (47, .iadd), (48, .if_icmp .ne 15), (51, .iload_n 0), (52, .bipush 98), (54, .if_icmp .ne 7), (57, .iconst 1), (58, .goto 4), (61, .iconst 0), (62, .ireturn), (63, .iload_n 1), (64, .iconst 2), (65, .iload_n 2), (66, .imul), (67, .iconst 4), (68, .iadd), (69, .if_icmp .ne 17), (72, .iload_n 0), (73, .bipush 112), (75, .if_icmp .ne 7), (78, .iconst 1), (79, .goto 11), (82, .iconst 0), (83, .goto 7), (86, .iload_n 0), (87, .invokestatic 50), (90, .ireturn)]
def op_X5_goesOn (fu : Nat) : Nat → Kont → XL → List Value → XW → Instr → Option XO := opK 3 (rzOf (some .boolean)) fl_BrookStones_Text [] [] [] [] [(50, 1, 1, (U_X5_isDigit fu))] []
def M_X5_goesOn (fu : Nat) (a0 : Int32) (a1 : Int32) (a2 : Int32) (w : XW) : Option XO :=
  (if a1 = 0 then
    (if a0 = (100 : Int32) then
      retZ (1 : Int32) w
    else
      retZ (0 : Int32) w)
  else
    (if a1 = (a2 + (1 : Int32)) then
      (if a0 = (59 : Int32) then
        retZ (1 : Int32) w
      else
        retZ (0 : Int32) w)
    else
      (if a1 = (((2 : Int32) * a2) + (3 : Int32)) then
        (if a0 = (59 : Int32) then
          retZ (1 : Int32) w
        else
          retZ (0 : Int32) w)
      else
        (if a1 = (a2 + (2 : Int32)) then
          (if a0 = (98 : Int32) then
            retZ (1 : Int32) w
          else
            retZ (0 : Int32) w)
        else
          (if a1 = (((2 : Int32) * a2) + (4 : Int32)) then
            (if a0 = (112 : Int32) then
              retZ (1 : Int32) w
            else
              retZ (0 : Int32) w)
          else
            cI (U_X5_isDigit fu [.int a0] w) fun x2 w1 =>
            retZ x2 w1)))))
def U_X5_goesOn (fu : Nat) : Orc := fun as w => match as with
  | [.int a0, .int a1, .int a2] => M_X5_goesOn fu a0 a1 a2 w
  | _ => none
def K_X5_goesOn (fu : Nat) (n : Nat) : Kont := fun pc ls st w => none
set_option maxRecDepth 100000 in
set_option maxHeartbeats 4000000 in
theorem E_X5_goesOn (fu : Nat) (a0 : Int32) (a1 : Int32) (a2 : Int32) (w : XW) : M_X5_goesOn fu a0 a1 a2 w = ev T_X5_goesOn (op_X5_goesOn fu) [] (K_X5_goesOn fu fu) 59 0 (lv_args 0 [.int a0, .int a1, .int a2]) [] w := by
  rfl
theorem D_X5_goesOn (fu : Nat) : DS T_X5_goesOn (op_X5_goesOn fu) [] 59 (K_X5_goesOn fu) := by
  refine ⟨fun pc ls st w => rfl, fun n pc ls st w o h => ?_⟩
  cases h
set_option maxRecDepth 100000 in
set_option maxHeartbeats 4000000 in
theorem S_X5_goesOn (fu : Nat) {l : Launch} {D : va_G} {cA : Nat → ClassId} {base b : Nat} : CS l D cA base b 3 y_X5_goesOn prog_7_method_6_code 3 (some .boolean) (U_X5_goesOn fu) ∧ OM (U_X5_goesOn fu) := by
  refine CS_of (d := 2) (y := y_X5_goesOn) (cc := prog_7_method_6_code) (nL := 3) (ret := (some .boolean)) (F := U_X5_goesOn fu) (fl := fl_BrookStones_Text) (nl := []) (kl := []) (k2 := []) (mv := []) (ms := [(50, 1, 1, (U_X5_isDigit fu))]) (mi := []) (ini := false) hI_w hZ_w fl_BrookStones_Text_ok nil_all nil_all nil_all
    (nil_all)
    (cons_all (⟨Or.inl ⟨show (1 : Nat) ≠ 3 by decide, y_X5_isDigit, prog_7_method_7_code, 1, (some .boolean), 2, "BrookStones", (S_X5_isDigit fu (l := l) (D := D) (cA := cA) (base := base) (b := b)).1, by decide, by decide, mi_X5_isDigit.1, mi_X5_isDigit.2.1, mi_X5_isDigit.2.2.1, mi_X5_isDigit.2.2.2, Or.inl (tblG_of (i := 287) rfl rfl)⟩, (S_X5_isDigit fu (l := l) (D := D) (cA := cA) (base := base) (b := b)).2⟩) (nil_all))
    (nil_all)
    (T := T_X5_goesOn) (by decide +kernel) (cut := []) (N := 59) (D_X5_goesOn fu) (by decide +kernel) (fun h => absurd h (by decide)) (fun as w o h => ?_)
  unfold U_X5_goesOn at h
  split at h
  next =>
    exact ⟨Nat.le_of_ble_eq_true rfl, fu, (E_X5_goesOn fu _ _ _ w).symm.trans h⟩
  next => cases h
def T_X5_firstFault : List (Nat × Instr) := [(0, .aload_n 0), (1, .iload_n 1), (2, .iload_n 2), (3, .iload_n 3), (4, .invokestatic 9), (7, .istore 4), (9, .iload 4), (11, .invokestatic 15), (14, .istore 5), (16, .iconst 0), (17, .istore 6), (19, .iload 6), (21, .iload_n 3), (22, .if_icmp .ge 38), (25, .iload 6), (27, .iload 5), (29, .if_icmp .ge 31), (32, .aload_n 0), (33, .iload_n 1), (34, .iload_n 2), (35, .iload 6), (37, .iadd), (38, .invokevirtual 19), (41, .iload 6), (43, .iload 4), (45, .invokestatic 25), (48, .ifCond .ne 6), (51, .iload 6), (53, .ireturn), (54, .iinc 6 1), (57, .goto (-38)), (60, .iload_n 3), (61, .iload 5), (63, .if_icmp .ne 7), (66, .iconst (-1)), (67, .goto 9), (70, .iload_n 3), (71, .iload 5), (73, .invokestatic 29), (76, .ireturn)]
def op_X5_firstFault (fu : Nat) : Nat → Kont → XL → List Value → XW → Instr → Option XO := opK 7 (rzOf (some .int)) fl_BrookStones_Text [] [] [] [(19, 3, 1, (U_X4_at fu))] [(9, 4, 1, (U_X5_cellsTold fu)), (15, 1, 1, (U_X5_length fu)), (25, 3, 1, (U_X5_goesOn fu)), (29, 2, 3, oMin)] []
def F_X5_firstFault (fu : Nat) : Nat → (Nat → Int32 → Int32 → Int32 → Int32 → Int32 → Int32 → XW → Option XO)
  | 0 => fun _ _ _ _ _ _ _ _ => none
  | n + 1 => (fun a0 a1 a2 a3 a4 a5 a6 w =>
    (if a6 < a3 then
      (if a6 < a5 then
        cI (U_X4_at fu [.ref a0, .int a1, .int (a2 + a6)] w) fun x6 w5 =>
        cI (U_X5_goesOn fu [.int x6, .int a6, .int a4] w5) fun x8 w7 =>
        (if x8 = 0 then
          some (some (.int a6), w7)
        else
          (F_X5_firstFault fu n) a0 a1 a2 a3 a4 a5 (a6 + (1 : Int32)) w7)
      else
        (if a3 = a5 then
          some (some (.int (-1 : Int32)), w)
        else
          cI (oMin [.int a3, .int a5] w) fun x4 w3 =>
          some (some (.int x4), w3)))
    else
      (if a3 = a5 then
        some (some (.int (-1 : Int32)), w)
      else
        cI (oMin [.int a3, .int a5] w) fun x2 w1 =>
        some (some (.int x2), w1))))
def M_X5_firstFault (fu : Nat) (a0 : Nat) (a1 : Int32) (a2 : Int32) (a3 : Int32) (w : XW) : Option XO :=
  cI (U_X5_cellsTold fu [.ref a0, .int a1, .int a2, .int a3] w) fun x10 w9 =>
  cI (U_X5_length fu [.int x10] w9) fun x12 w11 =>
  (F_X5_firstFault fu fu) a0 a1 a2 a3 x10 x12 (0 : Int32) w11
def U_X5_firstFault (fu : Nat) : Orc := fun as w => match as with
  | [.ref a0, .int a1, .int a2, .int a3] => M_X5_firstFault fu a0 a1 a2 a3 w
  | _ => none
def K_X5_firstFault (fu : Nat) (n : Nat) : Kont := fun pc ls st w => bif pc == 19 then ((xr ls 0).bind fun a0 => (xi ls 1).bind fun a1 => (xi ls 2).bind fun a2 => (xi ls 3).bind fun a3 => (xi ls 4).bind fun a4 => (xi ls 5).bind fun a5 => (xi ls 6).bind fun a6 => skN st ((F_X5_firstFault fu n) a0 a1 a2 a3 a4 a5 a6 w)) else none
set_option maxRecDepth 100000 in
set_option maxHeartbeats 4000000 in
theorem E_X5_firstFault_19 (fu : Nat) (n : Nat) (a0 : Nat) (a1 : Int32) (a2 : Int32) (a3 : Int32) (a4 : Int32) (a5 : Int32) (a6 : Int32) (w : XW) : (F_X5_firstFault fu (n + 1)) a0 a1 a2 a3 a4 a5 a6 w = ev T_X5_firstFault (op_X5_firstFault fu) [19] (K_X5_firstFault fu n) 42 19 [(0, .ref a0), (1, .int a1), (2, .int a2), (3, .int a3), (4, .int a4), (5, .int a5), (6, .int a6)] [] w := by
  rfl
set_option maxRecDepth 100000 in
set_option maxHeartbeats 4000000 in
theorem E_X5_firstFault (fu : Nat) (a0 : Nat) (a1 : Int32) (a2 : Int32) (a3 : Int32) (w : XW) : M_X5_firstFault fu a0 a1 a2 a3 w = ev T_X5_firstFault (op_X5_firstFault fu) [19] (K_X5_firstFault fu fu) 42 0 (lv_args 0 [.ref a0, .int a1, .int a2, .int a3]) [] w := by
  rfl
theorem D_X5_firstFault (fu : Nat) : DS T_X5_firstFault (op_X5_firstFault fu) [19] 42 (K_X5_firstFault fu) := by
  refine ⟨fun pc ls st w => c_none (b_none fun _ => b_none fun _ => b_none fun _ => b_none fun _ => b_none fun _ => b_none fun _ => b_none fun _ => skN_none rfl) (rfl), fun n pc ls st w o h => ?_⟩
  rcases c_some h with ⟨rfl, h⟩ | h
  · obtain ⟨a0, h0, h⟩ := some_of h; obtain ⟨a1, h1, h⟩ := some_of h; obtain ⟨a2, h2, h⟩ := some_of h; obtain ⟨a3, h3, h⟩ := some_of h; obtain ⟨a4, h4, h⟩ := some_of h; obtain ⟨a5, h5, h⟩ := some_of h; obtain ⟨a6, h6, h⟩ := some_of h;
    obtain ⟨e, g⟩ := skN_of h
    subst e
    exact ⟨[(0, .ref a0), (1, .int a1), (2, .int a2), (3, .int a3), (4, .int a4), (5, .int a5), (6, .int a6)], cons_all (xr_of h0) (cons_all (xi_of h1) (cons_all (xi_of h2) (cons_all (xi_of h3) (cons_all (xi_of h4) (cons_all (xi_of h5) (cons_all (xi_of h6) (nil_all))))))), (E_X5_firstFault_19 fu n a0 a1 a2 a3 a4 a5 a6 w).symm.trans g⟩
  · cases h
set_option maxRecDepth 100000 in
set_option maxHeartbeats 4000000 in
theorem S_X5_firstFault (fu : Nat) {l : Launch} {D : va_G} {cA : Nat → ClassId} {base b : Nat} : CS l D cA base b 4 y_X5_firstFault prog_7_method_2_code 7 (some .int) (U_X5_firstFault fu) ∧ OM (U_X5_firstFault fu) := by
  refine CS_of (d := 3) (y := y_X5_firstFault) (cc := prog_7_method_2_code) (nL := 7) (ret := (some .int)) (F := U_X5_firstFault fu) (fl := fl_BrookStones_Text) (nl := []) (kl := []) (k2 := []) (mv := [(19, 3, 1, (U_X4_at fu))]) (ms := [(9, 4, 1, (U_X5_cellsTold fu)), (15, 1, 1, (U_X5_length fu)), (25, 3, 1, (U_X5_goesOn fu)), (29, 2, 3, oMin)]) (mi := []) (ini := false) hI_w hZ_w fl_BrookStones_Text_ok nil_all nil_all nil_all
    (cons_all (⟨⟨show (1 : Nat) ≠ 3 by decide, y_X4_at, prog_6_method_7_code, 3, (some .int), 1, "BrookStones", 4, TX4, 3, 2, (S_X4_at fu (l := l) (D := D) (cA := cA) (base := base) (b := b)).1, by decide, by decide, rfl, H_X4_at fu, rfl, mi_X4_at.1, mi_X4_at.2.1, mi_X4_at.2.2.1, mi_X4_at.2.2.2.1, mi_X4_at.2.2.2.2, Or.inr (tblN_of (i := 283) rfl rfl)⟩, (S_X4_at fu (l := l) (D := D) (cA := cA) (base := base) (b := b)).2⟩) (nil_all))
    (cons_all (⟨Or.inl ⟨show (1 : Nat) ≠ 3 by decide, y_X5_cellsTold, prog_7_method_5_code, 5, (some .int), 3, "BrookStones", (S_X5_cellsTold fu (l := l) (D := D) (cA := cA) (base := base) (b := b)).1, by decide, by decide, mi_X5_cellsTold.1, mi_X5_cellsTold.2.1, mi_X5_cellsTold.2.2.1, mi_X5_cellsTold.2.2.2, Or.inl (tblG_of (i := 280) rfl rfl)⟩, (S_X5_cellsTold fu (l := l) (D := D) (cA := cA) (base := base) (b := b)).2⟩) (cons_all (⟨Or.inl ⟨show (1 : Nat) ≠ 3 by decide, y_X5_length, prog_7_method_4_code, 1, (some .int), 1, "BrookStones", (S_X5_length fu (l := l) (D := D) (cA := cA) (base := base) (b := b)).1, by decide, by decide, mi_X5_length.1, mi_X5_length.2.1, mi_X5_length.2.2.1, mi_X5_length.2.2.2, Or.inl (tblG_of (i := 294) rfl rfl)⟩, (S_X5_length fu (l := l) (D := D) (cA := cA) (base := base) (b := b)).2⟩) (cons_all (⟨Or.inl ⟨show (1 : Nat) ≠ 3 by decide, y_X5_goesOn, prog_7_method_6_code, 3, (some .boolean), 3, "BrookStones", (S_X5_goesOn fu (l := l) (D := D) (cA := cA) (base := base) (b := b)).1, by decide, by decide, mi_X5_goesOn.1, mi_X5_goesOn.2.1, mi_X5_goesOn.2.2.1, mi_X5_goesOn.2.2.2, Or.inl (tblG_of (i := 297) rfl rfl)⟩, (S_X5_goesOn fu (l := l) (D := D) (cA := cA) (base := base) (b := b)).2⟩) (cons_all (⟨Or.inr (Or.inr (Or.inr ⟨rfl, rfl, rfl, tblG_of (i := 300) rfl rfl, tblG_of (i := 301) rfl rfl, tblG_of (i := 11) rfl rfl, tblG_of (i := 302) rfl rfl⟩)), om_min⟩) (nil_all)))))
    (nil_all)
    (T := T_X5_firstFault) (by decide +kernel) (cut := [19]) (N := 42) (D_X5_firstFault fu) (by decide +kernel) (fun h => absurd h (by decide)) (fun as w o h => ?_)
  unfold U_X5_firstFault at h
  split at h
  next =>
    exact ⟨Nat.le_of_ble_eq_true rfl, fu, (E_X5_firstFault fu _ _ _ _ w).symm.trans h⟩
  next => cases h
def T_X0_makeAnew : List (Nat × Instr) := [(0, .aload_n 0), (1, .getfield 18), (4, .bipush (-9)), (6, .invokestatic 36), (9, .aload_n 0), (10, .iconst 0), (11, .putfield 42), (14, .aload_n 0), (15, .iconst 0), (16, .putfield 46), (19, .aload_n 0), (20, .iconst 0), (21, .putfield 49), (24, .aload_n 0), (25, .iconst 0), (26, .putfield 52), (29, .aload_n 0), (30, .iconst 0), (31, .putfield 55), (34, .return_)]
def op_X0_makeAnew (fu : Nat) : Nat → Kont → XL → List Value → XW → Instr → Option XO := opK 1 (rzOf (none)) fl_BrookStones_Brook [] [] [] [] [(36, 2, 0, (U_J7_fill_53178 fu))] []
def M_X0_makeAnew (fu : Nat) (a0 : Nat) (w : XW) : Option XO :=
  (gR w a0 0 2).bind fun r1 =>
  cV (U_J7_fill_53178 fu [.ref r1, .int (-9 : Int32)] w) fun w2 =>
  (pF w2 a0 0 10 (.int (0 : Int32))).bind fun w3 =>
  (pF w3 a0 0 11 (.int (0 : Int32))).bind fun w4 =>
  (pF w4 a0 0 12 (.int (0 : Int32))).bind fun w5 =>
  (pF w5 a0 0 13 (.int (0 : Int32))).bind fun w6 =>
  (pF w6 a0 0 14 (.int (0 : Int32))).bind fun w7 =>
  some (none, w7)
def U_X0_makeAnew (fu : Nat) : Orc := fun as w => match as with
  | [.ref a0] => if isO w a0 0 = true then M_X0_makeAnew fu a0 w else none
  | _ => none
def K_X0_makeAnew (fu : Nat) (n : Nat) : Kont := fun pc ls st w => none
set_option maxRecDepth 100000 in
set_option maxHeartbeats 4000000 in
theorem E_X0_makeAnew (fu : Nat) (a0 : Nat) (w : XW) : M_X0_makeAnew fu a0 w = ev T_X0_makeAnew (op_X0_makeAnew fu) [] (K_X0_makeAnew fu fu) 22 0 (lv_args 0 [.ref a0]) [] w := by
  rfl
theorem D_X0_makeAnew (fu : Nat) : DS T_X0_makeAnew (op_X0_makeAnew fu) [] 22 (K_X0_makeAnew fu) := by
  refine ⟨fun pc ls st w => rfl, fun n pc ls st w o h => ?_⟩
  cases h
theorem H_X0_makeAnew (fu : Nat) : ∀ as w o, U_X0_makeAnew fu as w = some o → ∃ a r, as = .ref a :: r ∧ r.length = 0 ∧ isO w a 0 = true := by
  intro as w o h
  unfold U_X0_makeAnew at h
  split at h
  next =>
    split at h
    next hh => exact ⟨_, _, rfl, rfl, hh⟩
    next => cases h
  next => cases h
set_option maxRecDepth 100000 in
set_option maxHeartbeats 4000000 in
theorem S_X0_makeAnew (fu : Nat) {l : Launch} {D : va_G} {cA : Nat → ClassId} {base b : Nat} : CS l D cA base b 2 y_X0_makeAnew prog_2_method_2_code 1 (none) (U_X0_makeAnew fu) ∧ OM (U_X0_makeAnew fu) := by
  refine CS_of (d := 1) (y := y_X0_makeAnew) (cc := prog_2_method_2_code) (nL := 1) (ret := (none)) (F := U_X0_makeAnew fu) (fl := fl_BrookStones_Brook) (nl := []) (kl := []) (k2 := []) (mv := []) (ms := [(36, 2, 0, (U_J7_fill_53178 fu))]) (mi := []) (ini := false) hI_w hZ_w fl_BrookStones_Brook_ok nil_all nil_all nil_all
    (nil_all)
    (cons_all (⟨Or.inl ⟨show (0 : Nat) ≠ 3 by decide, y_J7_fill_53178, prog_14_method_103_code, 4, (none), 1, "BrookStones", (S_J7_fill_53178 fu (l := l) (D := D) (cA := cA) (base := base) (b := b)).1, by decide, by decide, mi_J7_fill_53178.1, mi_J7_fill_53178.2.1, mi_J7_fill_53178.2.2.1, mi_J7_fill_53178.2.2.2, Or.inl (tblG_of (i := 28) rfl rfl)⟩, (S_J7_fill_53178 fu (l := l) (D := D) (cA := cA) (base := base) (b := b)).2⟩) (nil_all))
    (nil_all)
    (T := T_X0_makeAnew) (by decide +kernel) (cut := []) (N := 22) (D_X0_makeAnew fu) (by decide +kernel) (fun h => absurd h (by decide)) (fun as w o h => ?_)
  unfold U_X0_makeAnew at h
  split at h
  next =>
    split at h
    next => exact ⟨Nat.le_of_ble_eq_true rfl, fu, (E_X0_makeAnew fu _ w).symm.trans h⟩
    next => cases h
  next => cases h
def T_X5_readInto : List (Nat × Instr) := [(0, .aload_n 1), (1, .iload_n 2), (2, .iload_n 3), (3, .iload 4), (5, .invokestatic 9), (8, .istore 5), (10, .iconst 0), (11, .istore 6), (13, .iload 6), (15, .iload 5), (17, .if_icmp .ge 54), (20, .aload_n 0), (21, .getfield 34), (24, .iload 6), (26, .aload_n 1), (27, .iload_n 2), (28, .iload_n 3), (29, .iconst 1), (30, .iadd), (31, .iload 6), (33, .iadd), (34, .invokevirtual 19), (37, .bipush 48), (39, .isub), (40, .iastore), (41, .aload_n 0), (42, .getfield 40), (45, .iload 6), (47, .aload_n 1), (48, .iload_n 2), (49, .iload_n 3), (50, .iload 5), (52, .iadd), (53, .iconst 3), (54, .iadd), (55, .iload 6), (57, .iadd), (58, .invokevirtual 19), (61, .bipush 48), (63, .isub), (64, .iastore), (65, .iinc 6 1), (68, .goto (-55)), (71, .aload_n 0), (72, .aload_n 1), (73, .iload_n 2), (74, .iload_n 3), (75, .iconst 2), (76, .iload 5), (78, .imul), (79, .iadd), (80, .iconst 5), (81, .iadd), (82, .invokevirtual 19), (85, .bipush 48), (87, .isub), (88, .putfield 43), (91, .aload_n 0), (92, .iload 5), (94, .putfield 47), (97, .return_)]
def op_X5_readInto (fu : Nat) : Nat → Kont → XL → List Value → XW → Instr → Option XO := opK 7 (rzOf (none)) fl_BrookStones_Text [] [] [] [(19, 3, 1, (U_X4_at fu))] [(9, 4, 1, (U_X5_cellsTold fu))] []
def F_X5_readInto (fu : Nat) : Nat → (Nat → Nat → Int32 → Int32 → Int32 → Int32 → XW → Option XO)
  | 0 => fun _ _ _ _ _ _ _ => none
  | n + 1 => (fun a0 a1 a2 a3 a5 a6 w =>
    (if a6 < a5 then
      (gR w a0 0 0).bind fun r5 =>
      cI (U_X4_at fu [.ref a1, .int a2, .int ((a3 + (1 : Int32)) + a6)] w) fun x7 w6 =>
      (sI w6 r5 a6 (x7 - (48 : Int32))).bind fun w8 =>
      (gR w8 a0 0 1).bind fun r9 =>
      cI (U_X4_at fu [.ref a1, .int a2, .int (((a3 + a5) + (3 : Int32)) + a6)] w8) fun x11 w10 =>
      (sI w10 r9 a6 (x11 - (48 : Int32))).bind fun w12 =>
      (F_X5_readInto fu n) a0 a1 a2 a3 a5 (a6 + (1 : Int32)) w12
    else
      cI (U_X4_at fu [.ref a1, .int a2, .int ((a3 + ((2 : Int32) * a5)) + (5 : Int32))] w) fun x2 w1 =>
      (pF w1 a0 0 9 (.int (x2 - (48 : Int32)))).bind fun w3 =>
      (pF w3 a0 0 8 (.int a5)).bind fun w4 =>
      some (none, w4)))
def M_X5_readInto (fu : Nat) (a0 : Nat) (a1 : Nat) (a2 : Int32) (a3 : Int32) (a4 : Int32) (w : XW) : Option XO :=
  cI (U_X5_cellsTold fu [.ref a1, .int a2, .int a3, .int a4] w) fun x14 w13 =>
  (F_X5_readInto fu fu) a0 a1 a2 a3 x14 (0 : Int32) w13
def U_X5_readInto (fu : Nat) : Orc := fun as w => match as with
  | [.ref a0, .ref a1, .int a2, .int a3, .int a4] => M_X5_readInto fu a0 a1 a2 a3 a4 w
  | _ => none
def K_X5_readInto (fu : Nat) (n : Nat) : Kont := fun pc ls st w => bif pc == 13 then ((xr ls 0).bind fun a0 => (xr ls 1).bind fun a1 => (xi ls 2).bind fun a2 => (xi ls 3).bind fun a3 => (xi ls 5).bind fun a5 => (xi ls 6).bind fun a6 => skN st ((F_X5_readInto fu n) a0 a1 a2 a3 a5 a6 w)) else none
set_option maxRecDepth 100000 in
set_option maxHeartbeats 4000000 in
theorem E_X5_readInto_13 (fu : Nat) (n : Nat) (a0 : Nat) (a1 : Nat) (a2 : Int32) (a3 : Int32) (a5 : Int32) (a6 : Int32) (w : XW) : (F_X5_readInto fu (n + 1)) a0 a1 a2 a3 a5 a6 w = ev T_X5_readInto (op_X5_readInto fu) [13] (K_X5_readInto fu n) 63 13 [(0, .ref a0), (1, .ref a1), (2, .int a2), (3, .int a3), (5, .int a5), (6, .int a6)] [] w := by
  rfl
set_option maxRecDepth 100000 in
set_option maxHeartbeats 4000000 in
theorem E_X5_readInto (fu : Nat) (a0 : Nat) (a1 : Nat) (a2 : Int32) (a3 : Int32) (a4 : Int32) (w : XW) : M_X5_readInto fu a0 a1 a2 a3 a4 w = ev T_X5_readInto (op_X5_readInto fu) [13] (K_X5_readInto fu fu) 63 0 (lv_args 0 [.ref a0, .ref a1, .int a2, .int a3, .int a4]) [] w := by
  rfl
theorem D_X5_readInto (fu : Nat) : DS T_X5_readInto (op_X5_readInto fu) [13] 63 (K_X5_readInto fu) := by
  refine ⟨fun pc ls st w => c_none (b_none fun _ => b_none fun _ => b_none fun _ => b_none fun _ => b_none fun _ => b_none fun _ => skN_none rfl) (rfl), fun n pc ls st w o h => ?_⟩
  rcases c_some h with ⟨rfl, h⟩ | h
  · obtain ⟨a0, h0, h⟩ := some_of h; obtain ⟨a1, h1, h⟩ := some_of h; obtain ⟨a2, h2, h⟩ := some_of h; obtain ⟨a3, h3, h⟩ := some_of h; obtain ⟨a5, h5, h⟩ := some_of h; obtain ⟨a6, h6, h⟩ := some_of h;
    obtain ⟨e, g⟩ := skN_of h
    subst e
    exact ⟨[(0, .ref a0), (1, .ref a1), (2, .int a2), (3, .int a3), (5, .int a5), (6, .int a6)], cons_all (xr_of h0) (cons_all (xr_of h1) (cons_all (xi_of h2) (cons_all (xi_of h3) (cons_all (xi_of h5) (cons_all (xi_of h6) (nil_all)))))), (E_X5_readInto_13 fu n a0 a1 a2 a3 a5 a6 w).symm.trans g⟩
  · cases h
set_option maxRecDepth 100000 in
set_option maxHeartbeats 4000000 in
theorem S_X5_readInto (fu : Nat) {l : Launch} {D : va_G} {cA : Nat → ClassId} {base b : Nat} : CS l D cA base b 4 y_X5_readInto prog_7_method_3_code 7 (none) (U_X5_readInto fu) ∧ OM (U_X5_readInto fu) := by
  refine CS_of (d := 3) (y := y_X5_readInto) (cc := prog_7_method_3_code) (nL := 7) (ret := (none)) (F := U_X5_readInto fu) (fl := fl_BrookStones_Text) (nl := []) (kl := []) (k2 := []) (mv := [(19, 3, 1, (U_X4_at fu))]) (ms := [(9, 4, 1, (U_X5_cellsTold fu))]) (mi := []) (ini := false) hI_w hZ_w fl_BrookStones_Text_ok nil_all nil_all nil_all
    (cons_all (⟨⟨show (1 : Nat) ≠ 3 by decide, y_X4_at, prog_6_method_7_code, 3, (some .int), 1, "BrookStones", 4, TX4, 3, 2, (S_X4_at fu (l := l) (D := D) (cA := cA) (base := base) (b := b)).1, by decide, by decide, rfl, H_X4_at fu, rfl, mi_X4_at.1, mi_X4_at.2.1, mi_X4_at.2.2.1, mi_X4_at.2.2.2.1, mi_X4_at.2.2.2.2, Or.inr (tblN_of (i := 283) rfl rfl)⟩, (S_X4_at fu (l := l) (D := D) (cA := cA) (base := base) (b := b)).2⟩) (nil_all))
    (cons_all (⟨Or.inl ⟨show (1 : Nat) ≠ 3 by decide, y_X5_cellsTold, prog_7_method_5_code, 5, (some .int), 3, "BrookStones", (S_X5_cellsTold fu (l := l) (D := D) (cA := cA) (base := base) (b := b)).1, by decide, by decide, mi_X5_cellsTold.1, mi_X5_cellsTold.2.1, mi_X5_cellsTold.2.2.1, mi_X5_cellsTold.2.2.2, Or.inl (tblG_of (i := 280) rfl rfl)⟩, (S_X5_cellsTold fu (l := l) (D := D) (cA := cA) (base := base) (b := b)).2⟩) (nil_all))
    (nil_all)
    (T := T_X5_readInto) (by decide +kernel) (cut := [13]) (N := 63) (D_X5_readInto fu) (by decide +kernel) (fun h => absurd h (by decide)) (fun as w o h => ?_)
  unfold U_X5_readInto at h
  split at h
  next =>
    exact ⟨Nat.le_of_ble_eq_true rfl, fu, (E_X5_readInto fu _ _ _ _ _ w).symm.trans h⟩
  next => cases h
def T_X7_brook : List (Nat × Instr) := [(0, .aload_n 0), (1, .iconst 0), (2, .putfield 53), (5, .aload_n 0), (6, .iload_n 1), (7, .iload_n 2), (8, .iload_n 3), (9, .iload 4), (11, .invokevirtual 57), (14, .istore 5), (16, .iload 5), (18, .ifCond .eq 6), (21, .iload 5), (23, .ireturn), (24, .aload_n 0), (25, .getfield 21), (28, .iload_n 1), (29, .iload_n 3), (30, .iload 4), (32, .invokestatic 61), (35, .istore 6), (37, .iload 6), (39, .ifCond .lt 9), (42, .bipush (-100)), (44, .iload 6), (46, .isub), (47, .ireturn), (48, .aload_n 0), (49, .getfield 12), (52, .invokevirtual 67), (55, .aload_n 0), (56, .getfield 12), (59, .aload_n 0), (60, .getfield 21), (63, .iload_n 1), (64, .iload_n 3), (65, .iload 4), (67, .invokestatic 70), (70, .aload_n 0), (71, .getfield 12), (74, .getfield 74), (77, .ireturn)]
def op_X7_brook (fu : Nat) : Nat → Kont → XL → List Value → XW → Instr → Option XO := opK 7 (rzOf (some .int)) fl_BrookStones nl_BrookStones [] k2_BrookStones [(57, 5, 1, (U_X7_refusalOfCells fu)), (67, 1, 0, (U_X0_makeAnew fu))] [(61, 4, 1, (U_X5_firstFault fu)), (70, 5, 0, (U_X5_readInto fu))] []
def M_X7_brook (fu : Nat) (a0 : Nat) (a1 : Int32) (a2 : Int32) (a3 : Int32) (a4 : Int32) (w : XW) : Option XO :=
  (pF w a0 6 7 (.int (0 : Int32))).bind fun w1 =>
  cI (U_X7_refusalOfCells fu [.ref a0, .int a1, .int a2, .int a3, .int a4] w1) fun x3 w2 =>
  (if x3 = 0 then
    (gR w2 a0 6 1).bind fun r4 =>
    cI (U_X5_firstFault fu [.ref r4, .int a1, .int a3, .int a4] w2) fun x6 w5 =>
    (if x6 < 0 then
      (gR w5 a0 6 0).bind fun r7 =>
      cV (U_X0_makeAnew fu [.ref r7] w5) fun w8 =>
      (gR w8 a0 6 0).bind fun r9 =>
      (gR w8 a0 6 1).bind fun r10 =>
      cV (U_X5_readInto fu [.ref r9, .ref r10, .int a1, .int a3, .int a4] w8) fun w11 =>
      (gR w11 a0 6 0).bind fun r12 =>
      (gI w11 r12 0 8).bind fun x13 =>
      some (some (.int x13), w11)
    else
      some (some (.int ((-100 : Int32) - x6)), w5))
  else
    some (some (.int x3), w2))
def U_X7_brook (fu : Nat) : Orc := fun as w => match as with
  | [.ref a0, .int a1, .int a2, .int a3, .int a4] => if isO w a0 6 = true then M_X7_brook fu a0 a1 a2 a3 a4 w else none
  | _ => none
def K_X7_brook (fu : Nat) (n : Nat) : Kont := fun pc ls st w => none
set_option maxRecDepth 100000 in
set_option maxHeartbeats 4000000 in
theorem E_X7_brook (fu : Nat) (a0 : Nat) (a1 : Int32) (a2 : Int32) (a3 : Int32) (a4 : Int32) (w : XW) : M_X7_brook fu a0 a1 a2 a3 a4 w = ev T_X7_brook (op_X7_brook fu) [] (K_X7_brook fu fu) 44 0 (lv_args 0 [.ref a0, .int a1, .int a2, .int a3, .int a4]) [] w := by
  rfl
theorem D_X7_brook (fu : Nat) : DS T_X7_brook (op_X7_brook fu) [] 44 (K_X7_brook fu) := by
  refine ⟨fun pc ls st w => rfl, fun n pc ls st w o h => ?_⟩
  cases h
theorem H_X7_brook (fu : Nat) : ∀ as w o, U_X7_brook fu as w = some o → ∃ a r, as = .ref a :: r ∧ r.length = 4 ∧ isO w a 6 = true := by
  intro as w o h
  unfold U_X7_brook at h
  split at h
  next =>
    split at h
    next hh => exact ⟨_, _, rfl, rfl, hh⟩
    next => cases h
  next => cases h
set_option maxRecDepth 100000 in
set_option maxHeartbeats 4000000 in
theorem S_X7_brook (fu : Nat) {l : Launch} {D : va_G} {cA : Nat → ClassId} {base b : Nat} : CS l D cA base b 5 y_X7_brook prog_1_method_2_code 7 (some .int) (U_X7_brook fu) ∧ OM (U_X7_brook fu) := by
  refine CS_of (d := 4) (y := y_X7_brook) (cc := prog_1_method_2_code) (nL := 7) (ret := (some .int)) (F := U_X7_brook fu) (fl := fl_BrookStones) (nl := nl_BrookStones) (kl := []) (k2 := k2_BrookStones) (mv := [(57, 5, 1, (U_X7_refusalOfCells fu)), (67, 1, 0, (U_X0_makeAnew fu))]) (ms := [(61, 4, 1, (U_X5_firstFault fu)), (70, 5, 0, (U_X5_readInto fu))]) (mi := []) (ini := false) hI_w hZ_w fl_BrookStones_ok nl_BrookStones_ok nil_all k2_BrookStones_ok
    (cons_all (⟨⟨show (1 : Nat) ≠ 3 by decide, y_X7_refusalOfCells, prog_1_method_39_code, 6, (some .int), 3, "BrookStones", 6, TX7, 8, 4, (S_X7_refusalOfCells fu (l := l) (D := D) (cA := cA) (base := base) (b := b)).1, by decide, by decide, rfl, H_X7_refusalOfCells fu, rfl, mi_X7_refusalOfCells.1, mi_X7_refusalOfCells.2.1, mi_X7_refusalOfCells.2.2.1, mi_X7_refusalOfCells.2.2.2.1, mi_X7_refusalOfCells.2.2.2.2, Or.inl (tblG_of (i := 248) rfl rfl)⟩, (S_X7_refusalOfCells fu (l := l) (D := D) (cA := cA) (base := base) (b := b)).2⟩) (cons_all (⟨⟨show (0 : Nat) ≠ 3 by decide, y_X0_makeAnew, prog_2_method_2_code, 1, (none), 2, "BrookStones", 0, TX0, 15, 0, (S_X0_makeAnew fu (l := l) (D := D) (cA := cA) (base := base) (b := b)).1, by decide, by decide, rfl, H_X0_makeAnew fu, rfl, mi_X0_makeAnew.1, mi_X0_makeAnew.2.1, mi_X0_makeAnew.2.2.1, mi_X0_makeAnew.2.2.2.1, mi_X0_makeAnew.2.2.2.2, Or.inr (tblN_of (i := 303) rfl rfl)⟩, (S_X0_makeAnew fu (l := l) (D := D) (cA := cA) (base := base) (b := b)).2⟩) (nil_all)))
    (cons_all (⟨Or.inl ⟨show (1 : Nat) ≠ 3 by decide, y_X5_firstFault, prog_7_method_2_code, 7, (some .int), 4, "BrookStones", (S_X5_firstFault fu (l := l) (D := D) (cA := cA) (base := base) (b := b)).1, by decide, by decide, mi_X5_firstFault.1, mi_X5_firstFault.2.1, mi_X5_firstFault.2.2.1, mi_X5_firstFault.2.2.2, Or.inr (tblN_of (i := 277) rfl rfl)⟩, (S_X5_firstFault fu (l := l) (D := D) (cA := cA) (base := base) (b := b)).2⟩) (cons_all (⟨Or.inl ⟨show (0 : Nat) ≠ 3 by decide, y_X5_readInto, prog_7_method_3_code, 7, (none), 4, "BrookStones", (S_X5_readInto fu (l := l) (D := D) (cA := cA) (base := base) (b := b)).1, by decide, by decide, mi_X5_readInto.1, mi_X5_readInto.2.1, mi_X5_readInto.2.2.1, mi_X5_readInto.2.2.2, Or.inr (tblN_of (i := 307) rfl rfl)⟩, (S_X5_readInto fu (l := l) (D := D) (cA := cA) (base := base) (b := b)).2⟩) (nil_all)))
    (nil_all)
    (T := T_X7_brook) (by decide +kernel) (cut := []) (N := 44) (D_X7_brook fu) (by decide +kernel) (fun h => absurd h (by decide)) (fun as w o h => ?_)
  unfold U_X7_brook at h
  split at h
  next =>
    split at h
    next => exact ⟨Nat.le_of_ble_eq_true rfl, fu, (E_X7_brook fu _ _ _ _ _ w).symm.trans h⟩
    next => cases h
  next => cases h
def T_X8_within : List (Nat × Instr) := [(0, .iload_n 0), (1, .iload_n 1), (2, .if_icmp .lt 12), (5, .iload_n 0), (6, .iload_n 2), (7, .if_icmp .gt 7), (10, .iconst 1), (11, .goto 4), (14, .iconst 0), (15, .ireturn)]
def op_X8_within (fu : Nat) : Nat → Kont → XL → List Value → XW → Instr → Option XO := opK 3 (rzOf (some .boolean)) fl_BrookStonesModel [] kl_BrookStonesModel k2_BrookStonesModel [] [] []
def M_X8_within (fu : Nat) (a0 : Int32) (a1 : Int32) (a2 : Int32) (w : XW) : Option XO :=
  (if a0 < a1 then
    retZ (0 : Int32) w
  else
    (if a2 < a0 then
      retZ (0 : Int32) w
    else
      retZ (1 : Int32) w))
def U_X8_within (fu : Nat) : Orc := fun as w => match as with
  | [.int a0, .int a1, .int a2] => M_X8_within fu a0 a1 a2 w
  | _ => none
def K_X8_within (fu : Nat) (n : Nat) : Kont := fun pc ls st w => none
set_option maxRecDepth 100000 in
set_option maxHeartbeats 4000000 in
theorem E_X8_within (fu : Nat) (a0 : Int32) (a1 : Int32) (a2 : Int32) (w : XW) : M_X8_within fu a0 a1 a2 w = ev T_X8_within (op_X8_within fu) [] (K_X8_within fu fu) 12 0 (lv_args 0 [.int a0, .int a1, .int a2]) [] w := by
  rfl
theorem D_X8_within (fu : Nat) : DS T_X8_within (op_X8_within fu) [] 12 (K_X8_within fu) := by
  refine ⟨fun pc ls st w => rfl, fun n pc ls st w o h => ?_⟩
  cases h
set_option maxRecDepth 100000 in
set_option maxHeartbeats 4000000 in
theorem S_X8_within (fu : Nat) {l : Launch} {D : va_G} {cA : Nat → ClassId} {base b : Nat} : CS l D cA base b 1 y_X8_within prog_10_method_5_code 3 (some .boolean) (U_X8_within fu) ∧ OM (U_X8_within fu) := by
  refine CS_of (d := 0) (y := y_X8_within) (cc := prog_10_method_5_code) (nL := 3) (ret := (some .boolean)) (F := U_X8_within fu) (fl := fl_BrookStonesModel) (nl := []) (kl := kl_BrookStonesModel) (k2 := k2_BrookStonesModel) (mv := []) (ms := []) (mi := []) (ini := false) hI_w hZ_w fl_BrookStonesModel_ok nil_all kl_BrookStonesModel_ok k2_BrookStonesModel_ok
    (nil_all)
    (nil_all)
    (nil_all)
    (T := T_X8_within) (by decide +kernel) (cut := []) (N := 12) (D_X8_within fu) (by decide +kernel) (fun h => absurd h (by decide)) (fun as w o h => ?_)
  unfold U_X8_within at h
  split at h
  next =>
    exact ⟨Nat.le_of_ble_eq_true rfl, fu, (E_X8_within fu _ _ _ w).symm.trans h⟩
  next => cases h
def T_X8_isSheet : List (Nat × Instr) := [(0, .iload_n 0), (1, .iconst 0), (2, .iconst 3), (3, .invokestatic 89), (6, .ireturn)]
def op_X8_isSheet (fu : Nat) : Nat → Kont → XL → List Value → XW → Instr → Option XO := opK 1 (rzOf (some .boolean)) fl_BrookStonesModel [] kl_BrookStonesModel k2_BrookStonesModel [] [(89, 3, 1, (U_X8_within fu))] []
def M_X8_isSheet (fu : Nat) (a0 : Int32) (w : XW) : Option XO :=
  cI (U_X8_within fu [.int a0, .int (0 : Int32), .int (3 : Int32)] w) fun x2 w1 =>
  retZ x2 w1
def U_X8_isSheet (fu : Nat) : Orc := fun as w => match as with
  | [.int a0] => M_X8_isSheet fu a0 w
  | _ => none
def K_X8_isSheet (fu : Nat) (n : Nat) : Kont := fun pc ls st w => none
set_option maxRecDepth 100000 in
set_option maxHeartbeats 4000000 in
theorem E_X8_isSheet (fu : Nat) (a0 : Int32) (w : XW) : M_X8_isSheet fu a0 w = ev T_X8_isSheet (op_X8_isSheet fu) [] (K_X8_isSheet fu fu) 7 0 (lv_args 0 [.int a0]) [] w := by
  rfl
theorem D_X8_isSheet (fu : Nat) : DS T_X8_isSheet (op_X8_isSheet fu) [] 7 (K_X8_isSheet fu) := by
  refine ⟨fun pc ls st w => rfl, fun n pc ls st w o h => ?_⟩
  cases h
set_option maxRecDepth 100000 in
set_option maxHeartbeats 4000000 in
theorem S_X8_isSheet (fu : Nat) {l : Launch} {D : va_G} {cA : Nat → ClassId} {base b : Nat} : CS l D cA base b 2 y_X8_isSheet prog_10_method_7_code 1 (some .boolean) (U_X8_isSheet fu) ∧ OM (U_X8_isSheet fu) := by
  refine CS_of (d := 1) (y := y_X8_isSheet) (cc := prog_10_method_7_code) (nL := 1) (ret := (some .boolean)) (F := U_X8_isSheet fu) (fl := fl_BrookStonesModel) (nl := []) (kl := kl_BrookStonesModel) (k2 := k2_BrookStonesModel) (mv := []) (ms := [(89, 3, 1, (U_X8_within fu))]) (mi := []) (ini := false) hI_w hZ_w fl_BrookStonesModel_ok nil_all kl_BrookStonesModel_ok k2_BrookStonesModel_ok
    (nil_all)
    (cons_all (⟨Or.inl ⟨show (1 : Nat) ≠ 3 by decide, y_X8_within, prog_10_method_5_code, 3, (some .boolean), 1, "BrookStones", (S_X8_within fu (l := l) (D := D) (cA := cA) (base := base) (b := b)).1, by decide, by decide, mi_X8_within.1, mi_X8_within.2.1, mi_X8_within.2.2.1, mi_X8_within.2.2.2, Or.inl (tblG_of (i := 861) rfl rfl)⟩, (S_X8_within fu (l := l) (D := D) (cA := cA) (base := base) (b := b)).2⟩) (nil_all))
    (nil_all)
    (T := T_X8_isSheet) (by decide +kernel) (cut := []) (N := 7) (D_X8_isSheet fu) (by decide +kernel) (fun h => absurd h (by decide)) (fun as w o h => ?_)
  unfold U_X8_isSheet at h
  split at h
  next =>
    exact ⟨Nat.le_of_ble_eq_true rfl, fu, (E_X8_isSheet fu _ w).symm.trans h⟩
  next => cases h
def T_X8_isSort : List (Nat × Instr) := [(0, .iload_n 0), (1, .iconst 0), (2, .iconst 2), (3, .invokestatic 89), (6, .ireturn)]
def op_X8_isSort (fu : Nat) : Nat → Kont → XL → List Value → XW → Instr → Option XO := opK 1 (rzOf (some .boolean)) fl_BrookStonesModel [] kl_BrookStonesModel k2_BrookStonesModel [] [(89, 3, 1, (U_X8_within fu))] []
def M_X8_isSort (fu : Nat) (a0 : Int32) (w : XW) : Option XO :=
  cI (U_X8_within fu [.int a0, .int (0 : Int32), .int (2 : Int32)] w) fun x2 w1 =>
  retZ x2 w1
def U_X8_isSort (fu : Nat) : Orc := fun as w => match as with
  | [.int a0] => M_X8_isSort fu a0 w
  | _ => none
def K_X8_isSort (fu : Nat) (n : Nat) : Kont := fun pc ls st w => none
set_option maxRecDepth 100000 in
set_option maxHeartbeats 4000000 in
theorem E_X8_isSort (fu : Nat) (a0 : Int32) (w : XW) : M_X8_isSort fu a0 w = ev T_X8_isSort (op_X8_isSort fu) [] (K_X8_isSort fu fu) 7 0 (lv_args 0 [.int a0]) [] w := by
  rfl
theorem D_X8_isSort (fu : Nat) : DS T_X8_isSort (op_X8_isSort fu) [] 7 (K_X8_isSort fu) := by
  refine ⟨fun pc ls st w => rfl, fun n pc ls st w o h => ?_⟩
  cases h
set_option maxRecDepth 100000 in
set_option maxHeartbeats 4000000 in
theorem S_X8_isSort (fu : Nat) {l : Launch} {D : va_G} {cA : Nat → ClassId} {base b : Nat} : CS l D cA base b 2 y_X8_isSort prog_10_method_8_code 1 (some .boolean) (U_X8_isSort fu) ∧ OM (U_X8_isSort fu) := by
  refine CS_of (d := 1) (y := y_X8_isSort) (cc := prog_10_method_8_code) (nL := 1) (ret := (some .boolean)) (F := U_X8_isSort fu) (fl := fl_BrookStonesModel) (nl := []) (kl := kl_BrookStonesModel) (k2 := k2_BrookStonesModel) (mv := []) (ms := [(89, 3, 1, (U_X8_within fu))]) (mi := []) (ini := false) hI_w hZ_w fl_BrookStonesModel_ok nil_all kl_BrookStonesModel_ok k2_BrookStonesModel_ok
    (nil_all)
    (cons_all (⟨Or.inl ⟨show (1 : Nat) ≠ 3 by decide, y_X8_within, prog_10_method_5_code, 3, (some .boolean), 1, "BrookStones", (S_X8_within fu (l := l) (D := D) (cA := cA) (base := base) (b := b)).1, by decide, by decide, mi_X8_within.1, mi_X8_within.2.1, mi_X8_within.2.2.1, mi_X8_within.2.2.2, Or.inl (tblG_of (i := 861) rfl rfl)⟩, (S_X8_within fu (l := l) (D := D) (cA := cA) (base := base) (b := b)).2⟩) (nil_all))
    (nil_all)
    (T := T_X8_isSort) (by decide +kernel) (cut := []) (N := 7) (D_X8_isSort fu) (by decide +kernel) (fun h => absurd h (by decide)) (fun as w o h => ?_)
  unfold U_X8_isSort at h
  split at h
  next =>
    exact ⟨Nat.le_of_ble_eq_true rfl, fu, (E_X8_isSort fu _ w).symm.trans h⟩
  next => cases h
def T_X8_against : List (Nat × Instr) := [(0, .aload_n 0), (1, .getfield 9), (4, .iload_n 1), (5, .iaload), (6, .bipush (-9)), (8, .if_icmp .eq 15), (11, .aload_n 0), (12, .getfield 9), (15, .iload_n 1), (16, .iaload), (17, .iload_n 2), (18, .if_icmp .eq 5), (21, .iconst 2), (22, .ireturn), (23, .aload_n 0), (24, .getfield 9), (27, .iload_n 1), (28, .iaload), (29, .bipush (-9)), (31, .if_icmp .ne 5), (34, .iconst 1), (35, .ireturn), (36, .iload 4), (38, .ifCond .ge 5), (41, .iconst 4), (42, .ireturn), (43, .iload_n 3), (44, .ifCond .lt 26), (47, .iload_n 3), (48, .aload_n 0), (49, .getfield 13), (52, .iload_n 1), (53, .iaload), (54, .if_icmp .gt 16), (57, .iload 4), (59, .aload_n 0), (60, .getfield 13), (63, .iload_n 1), (64, .iaload), (65, .iload_n 3), (66, .isub), (67, .if_icmp .le 7), (70, .iconst 3), (71, .goto 4), (74, .iconst 0), (75, .ireturn)]
def op_X8_against (fu : Nat) : Nat → Kont → XL → List Value → XW → Instr → Option XO := opK 5 (rzOf (some .int)) fl_BrookStonesModel [] kl_BrookStonesModel k2_BrookStonesModel [] [] []
def F_X8_against (fu : Nat) : Nat → (Nat → Int32 → Int32 → Int32 → XW → Option XO)
  | 0 => fun _ _ _ _ _ => none
  | n + 1 => (fun a0 a1 a3 a4 w =>
    (gR w a0 7 2).bind fun r1 =>
    (aI w r1 a1).bind fun x2 =>
    (if x2 = (-9 : Int32) then
      some (some (.int (1 : Int32)), w)
    else
      (if a4 < 0 then
        some (some (.int (4 : Int32)), w)
      else
        (if a3 < 0 then
          some (some (.int (3 : Int32)), w)
        else
          (gR w a0 7 3).bind fun r3 =>
          (aI w r3 a1).bind fun x4 =>
          (if x4 < a3 then
            some (some (.int (3 : Int32)), w)
          else
            (gR w a0 7 3).bind fun r5 =>
            (aI w r5 a1).bind fun x6 =>
            (if (x6 - a3) < a4 then
              some (some (.int (3 : Int32)), w)
            else
              some (some (.int (0 : Int32)), w)))))))
def M_X8_against (fu : Nat) (a0 : Nat) (a1 : Int32) (a2 : Int32) (a3 : Int32) (a4 : Int32) (w : XW) : Option XO :=
  (gR w a0 7 2).bind fun r7 =>
  (aI w r7 a1).bind fun x8 =>
  (if x8 = (-9 : Int32) then
    (F_X8_against fu fu) a0 a1 a3 a4 w
  else
    (gR w a0 7 2).bind fun r9 =>
    (aI w r9 a1).bind fun x10 =>
    (if x10 = a2 then
      (F_X8_against fu fu) a0 a1 a3 a4 w
    else
      some (some (.int (2 : Int32)), w)))
def U_X8_against (fu : Nat) : Orc := fun as w => match as with
  | [.ref a0, .int a1, .int a2, .int a3, .int a4] => if isO w a0 7 = true then M_X8_against fu a0 a1 a2 a3 a4 w else none
  | _ => none
def K_X8_against (fu : Nat) (n : Nat) : Kont := fun pc ls st w => bif pc == 23 then ((xr ls 0).bind fun a0 => (xi ls 1).bind fun a1 => (xi ls 3).bind fun a3 => (xi ls 4).bind fun a4 => skN st ((F_X8_against fu n) a0 a1 a3 a4 w)) else none
set_option maxRecDepth 100000 in
set_option maxHeartbeats 4000000 in
theorem E_X8_against_23 (fu : Nat) (n : Nat) (a0 : Nat) (a1 : Int32) (a3 : Int32) (a4 : Int32) (w : XW) : (F_X8_against fu (n + 1)) a0 a1 a3 a4 w = ev T_X8_against (op_X8_against fu) [23] (K_X8_against fu n) 48 23 [(0, .ref a0), (1, .int a1), (3, .int a3), (4, .int a4)] [] w := by
  rfl
set_option maxRecDepth 100000 in
set_option maxHeartbeats 4000000 in
theorem E_X8_against (fu : Nat) (a0 : Nat) (a1 : Int32) (a2 : Int32) (a3 : Int32) (a4 : Int32) (w : XW) : M_X8_against fu a0 a1 a2 a3 a4 w = ev T_X8_against (op_X8_against fu) [23] (K_X8_against fu fu) 48 0 (lv_args 0 [.ref a0, .int a1, .int a2, .int a3, .int a4]) [] w := by
  rfl
theorem D_X8_against (fu : Nat) : DS T_X8_against (op_X8_against fu) [23] 48 (K_X8_against fu) := by
  refine ⟨fun pc ls st w => c_none (b_none fun _ => b_none fun _ => b_none fun _ => b_none fun _ => skN_none rfl) (rfl), fun n pc ls st w o h => ?_⟩
  rcases c_some h with ⟨rfl, h⟩ | h
  · obtain ⟨a0, h0, h⟩ := some_of h; obtain ⟨a1, h1, h⟩ := some_of h; obtain ⟨a3, h3, h⟩ := some_of h; obtain ⟨a4, h4, h⟩ := some_of h;
    obtain ⟨e, g⟩ := skN_of h
    subst e
    exact ⟨[(0, .ref a0), (1, .int a1), (3, .int a3), (4, .int a4)], cons_all (xr_of h0) (cons_all (xi_of h1) (cons_all (xi_of h3) (cons_all (xi_of h4) (nil_all)))), (E_X8_against_23 fu n a0 a1 a3 a4 w).symm.trans g⟩
  · cases h
theorem H_X8_against (fu : Nat) : ∀ as w o, U_X8_against fu as w = some o → ∃ a r, as = .ref a :: r ∧ r.length = 4 ∧ isO w a 7 = true := by
  intro as w o h
  unfold U_X8_against at h
  split at h
  next =>
    split at h
    next hh => exact ⟨_, _, rfl, rfl, hh⟩
    next => cases h
  next => cases h
set_option maxRecDepth 100000 in
set_option maxHeartbeats 4000000 in
theorem S_X8_against (fu : Nat) {l : Launch} {D : va_G} {cA : Nat → ClassId} {base b : Nat} : CS l D cA base b 1 y_X8_against prog_10_method_9_code 5 (some .int) (U_X8_against fu) ∧ OM (U_X8_against fu) := by
  refine CS_of (d := 0) (y := y_X8_against) (cc := prog_10_method_9_code) (nL := 5) (ret := (some .int)) (F := U_X8_against fu) (fl := fl_BrookStonesModel) (nl := []) (kl := kl_BrookStonesModel) (k2 := k2_BrookStonesModel) (mv := []) (ms := []) (mi := []) (ini := false) hI_w hZ_w fl_BrookStonesModel_ok nil_all kl_BrookStonesModel_ok k2_BrookStonesModel_ok
    (nil_all)
    (nil_all)
    (nil_all)
    (T := T_X8_against) (by decide +kernel) (cut := [23]) (N := 48) (D_X8_against fu) (by decide +kernel) (fun h => absurd h (by decide)) (fun as w o h => ?_)
  unfold U_X8_against at h
  split at h
  next =>
    split at h
    next => exact ⟨Nat.le_of_ble_eq_true rfl, fu, (E_X8_against fu _ _ _ _ _ w).symm.trans h⟩
    next => cases h
  next => cases h
def T_X8_fails : List (Nat × Instr) := [(0, .aload_n 0), (1, .iload_n 1), (2, .putfield 84), (5, .bipush (-10)), (7, .iload_n 1), (8, .isub), (9, .ireturn)]
def op_X8_fails (fu : Nat) : Nat → Kont → XL → List Value → XW → Instr → Option XO := opK 2 (rzOf (some .int)) fl_BrookStonesModel [] kl_BrookStonesModel k2_BrookStonesModel [] [] []
def M_X8_fails (fu : Nat) (a0 : Nat) (a1 : Int32) (w : XW) : Option XO :=
  (pF w a0 7 0 (.int a1)).bind fun w1 =>
  some (some (.int ((-10 : Int32) - a1)), w1)
def U_X8_fails (fu : Nat) : Orc := fun as w => match as with
  | [.ref a0, .int a1] => if isO w a0 7 = true then M_X8_fails fu a0 a1 w else none
  | _ => none
def K_X8_fails (fu : Nat) (n : Nat) : Kont := fun pc ls st w => none
set_option maxRecDepth 100000 in
set_option maxHeartbeats 4000000 in
theorem E_X8_fails (fu : Nat) (a0 : Nat) (a1 : Int32) (w : XW) : M_X8_fails fu a0 a1 w = ev T_X8_fails (op_X8_fails fu) [] (K_X8_fails fu fu) 9 0 (lv_args 0 [.ref a0, .int a1]) [] w := by
  rfl
theorem D_X8_fails (fu : Nat) : DS T_X8_fails (op_X8_fails fu) [] 9 (K_X8_fails fu) := by
  refine ⟨fun pc ls st w => rfl, fun n pc ls st w o h => ?_⟩
  cases h
theorem H_X8_fails (fu : Nat) : ∀ as w o, U_X8_fails fu as w = some o → ∃ a r, as = .ref a :: r ∧ r.length = 1 ∧ isO w a 7 = true := by
  intro as w o h
  unfold U_X8_fails at h
  split at h
  next =>
    split at h
    next hh => exact ⟨_, _, rfl, rfl, hh⟩
    next => cases h
  next => cases h
set_option maxRecDepth 100000 in
set_option maxHeartbeats 4000000 in
theorem S_X8_fails (fu : Nat) {l : Launch} {D : va_G} {cA : Nat → ClassId} {base b : Nat} : CS l D cA base b 1 y_X8_fails prog_10_method_3_code 2 (some .int) (U_X8_fails fu) ∧ OM (U_X8_fails fu) := by
  refine CS_of (d := 0) (y := y_X8_fails) (cc := prog_10_method_3_code) (nL := 2) (ret := (some .int)) (F := U_X8_fails fu) (fl := fl_BrookStonesModel) (nl := []) (kl := kl_BrookStonesModel) (k2 := k2_BrookStonesModel) (mv := []) (ms := []) (mi := []) (ini := false) hI_w hZ_w fl_BrookStonesModel_ok nil_all kl_BrookStonesModel_ok k2_BrookStonesModel_ok
    (nil_all)
    (nil_all)
    (nil_all)
    (T := T_X8_fails) (by decide +kernel) (cut := []) (N := 9) (D_X8_fails fu) (by decide +kernel) (fun h => absurd h (by decide)) (fun as w o h => ?_)
  unfold U_X8_fails at h
  split at h
  next =>
    split at h
    next => exact ⟨Nat.le_of_ble_eq_true rfl, fu, (E_X8_fails fu _ _ w).symm.trans h⟩
    next => cases h
  next => cases h
def T_X8_isCode : List (Nat × Instr) := [(0, .aload_n 0), (1, .getfield 96), (4, .iload_n 2), (5, .if_icmp .ge 20), (8, .aload_n 0), (9, .getfield 16), (12, .aload_n 0), (13, .getfield 96), (16, .iaload), (17, .iload_n 1), (18, .if_icmp .ne 7), (21, .iconst 1), (22, .goto 4), (25, .iconst 0), (26, .ireturn)]
def op_X8_isCode (fu : Nat) : Nat → Kont → XL → List Value → XW → Instr → Option XO := opK 3 (rzOf (some .boolean)) fl_BrookStonesModel [] kl_BrookStonesModel k2_BrookStonesModel [] [] []
def M_X8_isCode (fu : Nat) (a0 : Nat) (a1 : Int32) (a2 : Int32) (w : XW) : Option XO :=
  (gI w a0 7 12).bind fun x1 =>
  (if x1 < a2 then
    (gR w a0 7 4).bind fun r2 =>
    (gI w a0 7 12).bind fun x3 =>
    (aI w r2 x3).bind fun x4 =>
    (if x4 = a1 then
      retZ (1 : Int32) w
    else
      retZ (0 : Int32) w)
  else
    retZ (0 : Int32) w)
def U_X8_isCode (fu : Nat) : Orc := fun as w => match as with
  | [.ref a0, .int a1, .int a2] => if isO w a0 7 = true then M_X8_isCode fu a0 a1 a2 w else none
  | _ => none
def K_X8_isCode (fu : Nat) (n : Nat) : Kont := fun pc ls st w => none
set_option maxRecDepth 100000 in
set_option maxHeartbeats 4000000 in
theorem E_X8_isCode (fu : Nat) (a0 : Nat) (a1 : Int32) (a2 : Int32) (w : XW) : M_X8_isCode fu a0 a1 a2 w = ev T_X8_isCode (op_X8_isCode fu) [] (K_X8_isCode fu fu) 17 0 (lv_args 0 [.ref a0, .int a1, .int a2]) [] w := by
  rfl
theorem D_X8_isCode (fu : Nat) : DS T_X8_isCode (op_X8_isCode fu) [] 17 (K_X8_isCode fu) := by
  refine ⟨fun pc ls st w => rfl, fun n pc ls st w o h => ?_⟩
  cases h
theorem H_X8_isCode (fu : Nat) : ∀ as w o, U_X8_isCode fu as w = some o → ∃ a r, as = .ref a :: r ∧ r.length = 2 ∧ isO w a 7 = true := by
  intro as w o h
  unfold U_X8_isCode at h
  split at h
  next =>
    split at h
    next hh => exact ⟨_, _, rfl, rfl, hh⟩
    next => cases h
  next => cases h
set_option maxRecDepth 100000 in
set_option maxHeartbeats 4000000 in
theorem S_X8_isCode (fu : Nat) {l : Launch} {D : va_G} {cA : Nat → ClassId} {base b : Nat} : CS l D cA base b 1 y_X8_isCode prog_10_method_11_code 3 (some .boolean) (U_X8_isCode fu) ∧ OM (U_X8_isCode fu) := by
  refine CS_of (d := 0) (y := y_X8_isCode) (cc := prog_10_method_11_code) (nL := 3) (ret := (some .boolean)) (F := U_X8_isCode fu) (fl := fl_BrookStonesModel) (nl := []) (kl := kl_BrookStonesModel) (k2 := k2_BrookStonesModel) (mv := []) (ms := []) (mi := []) (ini := false) hI_w hZ_w fl_BrookStonesModel_ok nil_all kl_BrookStonesModel_ok k2_BrookStonesModel_ok
    (nil_all)
    (nil_all)
    (nil_all)
    (T := T_X8_isCode) (by decide +kernel) (cut := []) (N := 17) (D_X8_isCode fu) (by decide +kernel) (fun h => absurd h (by decide)) (fun as w o h => ?_)
  unfold U_X8_isCode at h
  split at h
  next =>
    split at h
    next => exact ⟨Nat.le_of_ble_eq_true rfl, fu, (E_X8_isCode fu _ _ _ w).symm.trans h⟩
    next => cases h
  next => cases h
def T_X8_isDigit : List (Nat × Instr) := [(0, .aload_n 0), (1, .getfield 96), (4, .iload_n 1), (5, .if_icmp .ge 26), (8, .aload_n 0), (9, .getfield 16), (12, .aload_n 0), (13, .getfield 96), (16, .iaload), (17, .bipush 48), (19, .bipush 57), (21, .invokestatic 89), (24, .ifCond .eq 7), (27, .iconst 1), (28, .goto 4), (31, .iconst 0), (32, .ireturn)]
def op_X8_isDigit (fu : Nat) : Nat → Kont → XL → List Value → XW → Instr → Option XO := opK 2 (rzOf (some .boolean)) fl_BrookStonesModel [] kl_BrookStonesModel k2_BrookStonesModel [] [(89, 3, 1, (U_X8_within fu))] []
def M_X8_isDigit (fu : Nat) (a0 : Nat) (a1 : Int32) (w : XW) : Option XO :=
  (gI w a0 7 12).bind fun x1 =>
  (if x1 < a1 then
    (gR w a0 7 4).bind fun r2 =>
    (gI w a0 7 12).bind fun x3 =>
    (aI w r2 x3).bind fun x4 =>
    cI (U_X8_within fu [.int x4, .int (48 : Int32), .int (57 : Int32)] w) fun x6 w5 =>
    (if x6 = 0 then
      retZ (0 : Int32) w5
    else
      retZ (1 : Int32) w5)
  else
    retZ (0 : Int32) w)
def U_X8_isDigit (fu : Nat) : Orc := fun as w => match as with
  | [.ref a0, .int a1] => if isO w a0 7 = true then M_X8_isDigit fu a0 a1 w else none
  | _ => none
def K_X8_isDigit (fu : Nat) (n : Nat) : Kont := fun pc ls st w => none
set_option maxRecDepth 100000 in
set_option maxHeartbeats 4000000 in
theorem E_X8_isDigit (fu : Nat) (a0 : Nat) (a1 : Int32) (w : XW) : M_X8_isDigit fu a0 a1 w = ev T_X8_isDigit (op_X8_isDigit fu) [] (K_X8_isDigit fu fu) 19 0 (lv_args 0 [.ref a0, .int a1]) [] w := by
  rfl
theorem D_X8_isDigit (fu : Nat) : DS T_X8_isDigit (op_X8_isDigit fu) [] 19 (K_X8_isDigit fu) := by
  refine ⟨fun pc ls st w => rfl, fun n pc ls st w o h => ?_⟩
  cases h
theorem H_X8_isDigit (fu : Nat) : ∀ as w o, U_X8_isDigit fu as w = some o → ∃ a r, as = .ref a :: r ∧ r.length = 1 ∧ isO w a 7 = true := by
  intro as w o h
  unfold U_X8_isDigit at h
  split at h
  next =>
    split at h
    next hh => exact ⟨_, _, rfl, rfl, hh⟩
    next => cases h
  next => cases h
set_option maxRecDepth 100000 in
set_option maxHeartbeats 4000000 in
theorem S_X8_isDigit (fu : Nat) {l : Launch} {D : va_G} {cA : Nat → ClassId} {base b : Nat} : CS l D cA base b 2 y_X8_isDigit prog_10_method_12_code 2 (some .boolean) (U_X8_isDigit fu) ∧ OM (U_X8_isDigit fu) := by
  refine CS_of (d := 1) (y := y_X8_isDigit) (cc := prog_10_method_12_code) (nL := 2) (ret := (some .boolean)) (F := U_X8_isDigit fu) (fl := fl_BrookStonesModel) (nl := []) (kl := kl_BrookStonesModel) (k2 := k2_BrookStonesModel) (mv := []) (ms := [(89, 3, 1, (U_X8_within fu))]) (mi := []) (ini := false) hI_w hZ_w fl_BrookStonesModel_ok nil_all kl_BrookStonesModel_ok k2_BrookStonesModel_ok
    (nil_all)
    (cons_all (⟨Or.inl ⟨show (1 : Nat) ≠ 3 by decide, y_X8_within, prog_10_method_5_code, 3, (some .boolean), 1, "BrookStones", (S_X8_within fu (l := l) (D := D) (cA := cA) (base := base) (b := b)).1, by decide, by decide, mi_X8_within.1, mi_X8_within.2.1, mi_X8_within.2.2.1, mi_X8_within.2.2.2, Or.inl (tblG_of (i := 861) rfl rfl)⟩, (S_X8_within fu (l := l) (D := D) (cA := cA) (base := base) (b := b)).2⟩) (nil_all))
    (nil_all)
    (T := T_X8_isDigit) (by decide +kernel) (cut := []) (N := 19) (D_X8_isDigit fu) (by decide +kernel) (fun h => absurd h (by decide)) (fun as w o h => ?_)
  unfold U_X8_isDigit at h
  split at h
  next =>
    split at h
    next => exact ⟨Nat.le_of_ble_eq_true rfl, fu, (E_X8_isDigit fu _ _ w).symm.trans h⟩
    next => cases h
  next => cases h
def T_X8_readBrook : List (Nat × Instr) := [(0, .aload_n 0), (1, .bipush 100), (3, .iload_n 1), (4, .invokevirtual 135), (7, .ifCond .ne 5), (10, .iconst 0), (11, .ireturn), (12, .aload_n 0), (13, .dup), (14, .getfield 96), (17, .iconst 1), (18, .iadd), (19, .putfield 96), (22, .aload_n 0), (23, .iconst 0), (24, .putfield 117), (27, .aload_n 0), (28, .getfield 117), (31, .bipush 7), (33, .if_icmp .ge 55), (36, .aload_n 0), (37, .iload_n 1), (38, .invokevirtual 139), (41, .ifCond .eq 47), (44, .aload_n 0), (45, .getfield 32), (48, .aload_n 0), (49, .getfield 117), (52, .aload_n 0), (53, .getfield 16), (56, .aload_n 0), (57, .getfield 96), (60, .iaload), (61, .bipush 48), (63, .isub), (64, .iastore), (65, .aload_n 0), (66, .dup), (67, .getfield 117), (70, .iconst 1), (71, .iadd), (72, .putfield 117), (75, .aload_n 0), (76, .dup), (77, .getfield 96), (80, .iconst 1), (81, .iadd), (82, .putfield 96), (85, .goto (-58)), (88, .aload_n 0), (89, .getfield 117), (92, .iconst 3), (93, .if_icmp .lt 13), (96, .aload_n 0), (97, .bipush 59), (99, .iload_n 1), (100, .invokevirtual 135), (103, .ifCond .ne 5), (106, .iconst 0), (107, .ireturn), (108, .aload_n 0), (109, .dup), (110, .getfield 96), (113, .iconst 1), (114, .iadd), (115, .putfield 96), (118, .aload_n 0), (119, .bipush 98), (121, .iload_n 1), (122, .invokevirtual 135), (125, .ifCond .ne 5), (128, .iconst 0), (129, .ireturn), (130, .aload_n 0), (131, .dup), (132, .getfield 96), (135, .iconst 1), (136, .iadd), (137, .putfield 96), (140, .iconst 0), (141, .istore_n 2), (142, .iload_n 2), (143, .aload_n 0), (144, .getfield 117), (147, .if_icmp .ge 47), (150, .aload_n 0), (151, .iload_n 1), (152, .invokevirtual 139), (155, .ifCond .ne 5), (158, .iconst 0), (159, .ireturn), (160, .aload_n 0), (161, .getfield 35), (164, .iload_n 2), (165, .aload_n 0), (166, .getfield 16), (169, .aload_n 0), (170, .getfield 96), (173, .iaload), (174, .bipush 48), (176, .isub), (177, .iastore), (178, .aload_n 0), (179, .dup), (180, .getfield 96), (183, .iconst 1), (184, .iadd), (185, .putfield 96), (188, .iinc 2 1), (191, .goto (-49)), (194, .aload_n 0), (195, .bipush 59), (197, .iload_n 1), (198, .invokevirtual 135), (201, .ifCond .ne 5), (204, .iconst 0), (205, .ireturn), (206, .aload_n 0), (207, .dup), (208, .getfield 96), (211, .iconst 1), (212, .iadd), (213, .putfield 96), (216, .aload_n 0), (217, .bipush 112), (219, .iload_n 1), (220, .invokevirtual 135), (223, .ifCond .ne 5), (226, .iconst 0), (227, .ireturn), (228, .aload_n 0), (229, .dup), (230, .getfield 96), (233, .iconst 1), (234, .iadd), (235, .putfield 96), (238, .aload_n 0), (239, .iload_n 1), (240, .invokevirtual 139), (243, .ifCond .ne 5), (246, .iconst 0), (247, .ireturn), (248, .aload_n 0), (249, .aload_n 0), (250, .getfield 16), (253, .aload_n 0), (254, .getfield 96), (257, .iaload), (258, .bipush 48), (260, .isub), (261, .putfield 120), (264, .aload_n 0), (265, .dup), (266, .getfield 96), (269, .iconst 1), (270, .iadd), (271, .putfield 96), (274, .aload_n 0), (275, .getfield 96), (278, .iload_n 1), (279, .if_icmp .ne 7), (282, .iconst 1), (283, .goto 4), (286, .iconst 0), (287, .ireturn)]
def op_X8_readBrook (fu : Nat) : Nat → Kont → XL → List Value → XW → Instr → Option XO := opK 3 (rzOf (some .boolean)) fl_BrookStonesModel [] kl_BrookStonesModel k2_BrookStonesModel [(135, 3, 1, (U_X8_isCode fu)), (139, 2, 1, (U_X8_isDigit fu))] [] []
def F_X8_readBrook (fu : Nat) : Nat → (Nat → Int32 → XW → Option XO) × (Nat → Int32 → XW → Option XO) × (Nat → Int32 → Int32 → XW → Option XO)
  | 0 => (fun _ _ _ => none, fun _ _ _ => none, fun _ _ _ _ => none)
  | n + 1 => ((fun a0 a1 w =>
    (gI w a0 7 13).bind fun x1 =>
    (if x1 < (7 : Int32) then
      cI (U_X8_isDigit fu [.ref a0, .int a1] w) fun x3 w2 =>
      (if x3 = 0 then
        (F_X8_readBrook fu n).2.1 a0 a1 w2
      else
        (gR w2 a0 7 15).bind fun r4 =>
        (gI w2 a0 7 13).bind fun x5 =>
        (gR w2 a0 7 4).bind fun r6 =>
        (gI w2 a0 7 12).bind fun x7 =>
        (aI w2 r6 x7).bind fun x8 =>
        (sI w2 r4 x5 (x8 - (48 : Int32))).bind fun w9 =>
        (gI w9 a0 7 13).bind fun x10 =>
        (pF w9 a0 7 13 (.int (x10 + (1 : Int32)))).bind fun w11 =>
        (gI w11 a0 7 12).bind fun x12 =>
        (pF w11 a0 7 12 (.int (x12 + (1 : Int32)))).bind fun w13 =>
        (F_X8_readBrook fu n).1 a0 a1 w13)
    else
      (F_X8_readBrook fu n).2.1 a0 a1 w)),
   (fun a0 a1 w =>
    (gI w a0 7 13).bind fun x14 =>
    (if x14 < (3 : Int32) then
      retZ (0 : Int32) w
    else
      cI (U_X8_isCode fu [.ref a0, .int (59 : Int32), .int a1] w) fun x16 w15 =>
      (if x16 = 0 then
        retZ (0 : Int32) w15
      else
        (gI w15 a0 7 12).bind fun x17 =>
        (pF w15 a0 7 12 (.int (x17 + (1 : Int32)))).bind fun w18 =>
        cI (U_X8_isCode fu [.ref a0, .int (98 : Int32), .int a1] w18) fun x20 w19 =>
        (if x20 = 0 then
          retZ (0 : Int32) w19
        else
          (gI w19 a0 7 12).bind fun x21 =>
          (pF w19 a0 7 12 (.int (x21 + (1 : Int32)))).bind fun w22 =>
          (F_X8_readBrook fu n).2.2 a0 a1 (0 : Int32) w22)))),
   (fun a0 a1 a2 w =>
    (gI w a0 7 13).bind fun x23 =>
    (if a2 < x23 then
      cI (U_X8_isDigit fu [.ref a0, .int a1] w) fun x42 w41 =>
      (if x42 = 0 then
        retZ (0 : Int32) w41
      else
        (gR w41 a0 7 16).bind fun r43 =>
        (gR w41 a0 7 4).bind fun r44 =>
        (gI w41 a0 7 12).bind fun x45 =>
        (aI w41 r44 x45).bind fun x46 =>
        (sI w41 r43 a2 (x46 - (48 : Int32))).bind fun w47 =>
        (gI w47 a0 7 12).bind fun x48 =>
        (pF w47 a0 7 12 (.int (x48 + (1 : Int32)))).bind fun w49 =>
        (F_X8_readBrook fu n).2.2 a0 a1 (a2 + (1 : Int32)) w49)
    else
      cI (U_X8_isCode fu [.ref a0, .int (59 : Int32), .int a1] w) fun x25 w24 =>
      (if x25 = 0 then
        retZ (0 : Int32) w24
      else
        (gI w24 a0 7 12).bind fun x26 =>
        (pF w24 a0 7 12 (.int (x26 + (1 : Int32)))).bind fun w27 =>
        cI (U_X8_isCode fu [.ref a0, .int (112 : Int32), .int a1] w27) fun x29 w28 =>
        (if x29 = 0 then
          retZ (0 : Int32) w28
        else
          (gI w28 a0 7 12).bind fun x30 =>
          (pF w28 a0 7 12 (.int (x30 + (1 : Int32)))).bind fun w31 =>
          cI (U_X8_isDigit fu [.ref a0, .int a1] w31) fun x33 w32 =>
          (if x33 = 0 then
            retZ (0 : Int32) w32
          else
            (gR w32 a0 7 4).bind fun r34 =>
            (gI w32 a0 7 12).bind fun x35 =>
            (aI w32 r34 x35).bind fun x36 =>
            (pF w32 a0 7 14 (.int (x36 - (48 : Int32)))).bind fun w37 =>
            (gI w37 a0 7 12).bind fun x38 =>
            (pF w37 a0 7 12 (.int (x38 + (1 : Int32)))).bind fun w39 =>
            (gI w39 a0 7 12).bind fun x40 =>
            (if x40 = a1 then
              retZ (1 : Int32) w39
            else
              retZ (0 : Int32) w39)))))))
def M_X8_readBrook (fu : Nat) (a0 : Nat) (a1 : Int32) (w : XW) : Option XO :=
  cI (U_X8_isCode fu [.ref a0, .int (100 : Int32), .int a1] w) fun x51 w50 =>
  (if x51 = 0 then
    retZ (0 : Int32) w50
  else
    (gI w50 a0 7 12).bind fun x52 =>
    (pF w50 a0 7 12 (.int (x52 + (1 : Int32)))).bind fun w53 =>
    (pF w53 a0 7 13 (.int (0 : Int32))).bind fun w54 =>
    (F_X8_readBrook fu fu).1 a0 a1 w54)
def U_X8_readBrook (fu : Nat) : Orc := fun as w => match as with
  | [.ref a0, .int a1] => if isO w a0 7 = true then M_X8_readBrook fu a0 a1 w else none
  | _ => none
def K_X8_readBrook (fu : Nat) (n : Nat) : Kont := fun pc ls st w => bif pc == 27 then ((xr ls 0).bind fun a0 => (xi ls 1).bind fun a1 => skN st ((F_X8_readBrook fu n).1 a0 a1 w)) else bif pc == 88 then ((xr ls 0).bind fun a0 => (xi ls 1).bind fun a1 => skN st ((F_X8_readBrook fu n).2.1 a0 a1 w)) else bif pc == 142 then ((xr ls 0).bind fun a0 => (xi ls 1).bind fun a1 => (xi ls 2).bind fun a2 => skN st ((F_X8_readBrook fu n).2.2 a0 a1 a2 w)) else none
set_option maxRecDepth 100000 in
set_option maxHeartbeats 4000000 in
theorem E_X8_readBrook_27 (fu : Nat) (n : Nat) (a0 : Nat) (a1 : Int32) (w : XW) : (F_X8_readBrook fu (n + 1)).1 a0 a1 w = ev T_X8_readBrook (op_X8_readBrook fu) [27, 88, 142] (K_X8_readBrook fu n) 167 27 [(0, .ref a0), (1, .int a1)] [] w := by
  rfl
set_option maxRecDepth 100000 in
set_option maxHeartbeats 4000000 in
theorem E_X8_readBrook_88 (fu : Nat) (n : Nat) (a0 : Nat) (a1 : Int32) (w : XW) : (F_X8_readBrook fu (n + 1)).2.1 a0 a1 w = ev T_X8_readBrook (op_X8_readBrook fu) [27, 88, 142] (K_X8_readBrook fu n) 167 88 [(0, .ref a0), (1, .int a1)] [] w := by
  rfl
set_option maxRecDepth 100000 in
set_option maxHeartbeats 4000000 in
theorem E_X8_readBrook_142 (fu : Nat) (n : Nat) (a0 : Nat) (a1 : Int32) (a2 : Int32) (w : XW) : (F_X8_readBrook fu (n + 1)).2.2 a0 a1 a2 w = ev T_X8_readBrook (op_X8_readBrook fu) [27, 88, 142] (K_X8_readBrook fu n) 167 142 [(0, .ref a0), (1, .int a1), (2, .int a2)] [] w := by
  rfl
set_option maxRecDepth 100000 in
set_option maxHeartbeats 4000000 in
theorem E_X8_readBrook (fu : Nat) (a0 : Nat) (a1 : Int32) (w : XW) : M_X8_readBrook fu a0 a1 w = ev T_X8_readBrook (op_X8_readBrook fu) [27, 88, 142] (K_X8_readBrook fu fu) 167 0 (lv_args 0 [.ref a0, .int a1]) [] w := by
  rfl
theorem D_X8_readBrook (fu : Nat) : DS T_X8_readBrook (op_X8_readBrook fu) [27, 88, 142] 167 (K_X8_readBrook fu) := by
  refine ⟨fun pc ls st w => c_none (b_none fun _ => b_none fun _ => skN_none rfl) (c_none (b_none fun _ => b_none fun _ => skN_none rfl) (c_none (b_none fun _ => b_none fun _ => b_none fun _ => skN_none rfl) (rfl))), fun n pc ls st w o h => ?_⟩
  rcases c_some h with ⟨rfl, h⟩ | h
  · obtain ⟨a0, h0, h⟩ := some_of h; obtain ⟨a1, h1, h⟩ := some_of h;
    obtain ⟨e, g⟩ := skN_of h
    subst e
    exact ⟨[(0, .ref a0), (1, .int a1)], cons_all (xr_of h0) (cons_all (xi_of h1) (nil_all)), (E_X8_readBrook_27 fu n a0 a1 w).symm.trans g⟩
  rcases c_some h with ⟨rfl, h⟩ | h
  · obtain ⟨a0, h0, h⟩ := some_of h; obtain ⟨a1, h1, h⟩ := some_of h;
    obtain ⟨e, g⟩ := skN_of h
    subst e
    exact ⟨[(0, .ref a0), (1, .int a1)], cons_all (xr_of h0) (cons_all (xi_of h1) (nil_all)), (E_X8_readBrook_88 fu n a0 a1 w).symm.trans g⟩
  rcases c_some h with ⟨rfl, h⟩ | h
  · obtain ⟨a0, h0, h⟩ := some_of h; obtain ⟨a1, h1, h⟩ := some_of h; obtain ⟨a2, h2, h⟩ := some_of h;
    obtain ⟨e, g⟩ := skN_of h
    subst e
    exact ⟨[(0, .ref a0), (1, .int a1), (2, .int a2)], cons_all (xr_of h0) (cons_all (xi_of h1) (cons_all (xi_of h2) (nil_all))), (E_X8_readBrook_142 fu n a0 a1 a2 w).symm.trans g⟩
  · cases h
theorem H_X8_readBrook (fu : Nat) : ∀ as w o, U_X8_readBrook fu as w = some o → ∃ a r, as = .ref a :: r ∧ r.length = 1 ∧ isO w a 7 = true := by
  intro as w o h
  unfold U_X8_readBrook at h
  split at h
  next =>
    split at h
    next hh => exact ⟨_, _, rfl, rfl, hh⟩
    next => cases h
  next => cases h
set_option maxRecDepth 100000 in
set_option maxHeartbeats 4000000 in
theorem S_X8_readBrook (fu : Nat) {l : Launch} {D : va_G} {cA : Nat → ClassId} {base b : Nat} : CS l D cA base b 3 y_X8_readBrook prog_10_method_14_code 3 (some .boolean) (U_X8_readBrook fu) ∧ OM (U_X8_readBrook fu) := by
  refine CS_of (d := 2) (y := y_X8_readBrook) (cc := prog_10_method_14_code) (nL := 3) (ret := (some .boolean)) (F := U_X8_readBrook fu) (fl := fl_BrookStonesModel) (nl := []) (kl := kl_BrookStonesModel) (k2 := k2_BrookStonesModel) (mv := [(135, 3, 1, (U_X8_isCode fu)), (139, 2, 1, (U_X8_isDigit fu))]) (ms := []) (mi := []) (ini := false) hI_w hZ_w fl_BrookStonesModel_ok nil_all kl_BrookStonesModel_ok k2_BrookStonesModel_ok
    (cons_all (⟨⟨show (1 : Nat) ≠ 3 by decide, y_X8_isCode, prog_10_method_11_code, 3, (some .boolean), 1, "BrookStones", 7, TX8, 37, 2, (S_X8_isCode fu (l := l) (D := D) (cA := cA) (base := base) (b := b)).1, by decide, by decide, rfl, H_X8_isCode fu, rfl, mi_X8_isCode.1, mi_X8_isCode.2.1, mi_X8_isCode.2.2.1, mi_X8_isCode.2.2.2.1, mi_X8_isCode.2.2.2.2, Or.inl (tblG_of (i := 879) rfl rfl)⟩, (S_X8_isCode fu (l := l) (D := D) (cA := cA) (base := base) (b := b)).2⟩) (cons_all (⟨⟨show (1 : Nat) ≠ 3 by decide, y_X8_isDigit, prog_10_method_12_code, 2, (some .boolean), 2, "BrookStones", 7, TX8, 37, 1, (S_X8_isDigit fu (l := l) (D := D) (cA := cA) (base := base) (b := b)).1, by decide, by decide, rfl, H_X8_isDigit fu, rfl, mi_X8_isDigit.1, mi_X8_isDigit.2.1, mi_X8_isDigit.2.2.1, mi_X8_isDigit.2.2.2.1, mi_X8_isDigit.2.2.2.2, Or.inl (tblG_of (i := 883) rfl rfl)⟩, (S_X8_isDigit fu (l := l) (D := D) (cA := cA) (base := base) (b := b)).2⟩) (nil_all)))
    (nil_all)
    (nil_all)
    (T := T_X8_readBrook) (by decide +kernel) (cut := [27, 88, 142]) (N := 167) (D_X8_readBrook fu) (by decide +kernel) (fun h => absurd h (by decide)) (fun as w o h => ?_)
  unfold U_X8_readBrook at h
  split at h
  next =>
    split at h
    next => exact ⟨Nat.le_of_ble_eq_true rfl, fu, (E_X8_readBrook fu _ _ w).symm.trans h⟩
    next => cases h
  next => cases h
def T_X8_brook : List (Nat × Instr) := [(0, .aload_n 0), (1, .iconst 0), (2, .putfield 84), (5, .iload_n 1), (6, .invokestatic 99), (9, .ifCond .ne 5), (12, .iconst (-1)), (13, .ireturn), (14, .iload_n 2), (15, .invokestatic 103), (18, .ifCond .ne 6), (21, .bipush (-2)), (23, .ireturn), (24, .aload_n 0), (25, .iload_n 1), (26, .iload_n 2), (27, .iload_n 3), (28, .iload 4), (30, .invokevirtual 106), (33, .istore 5), (35, .iload 5), (37, .ifCond .eq 10), (40, .aload_n 0), (41, .iload 5), (43, .invokevirtual 110), (46, .ireturn), (47, .bipush 60), (49, .iload_n 1), (50, .imul), (51, .iload_n 3), (52, .iadd), (53, .istore 6), (55, .aload_n 0), (56, .iload 6), (58, .putfield 96), (61, .aload_n 0), (62, .iload 6), (64, .iload 4), (66, .iadd), (67, .invokevirtual 114), (70, .ifCond .ne 14), (73, .bipush (-100)), (75, .aload_n 0), (76, .getfield 96), (79, .iload 6), (81, .isub), (82, .isub), (83, .ireturn), (84, .aload_n 0), (85, .aload_n 0), (86, .getfield 117), (89, .putfield 93), (92, .aload_n 0), (93, .aload_n 0), (94, .getfield 120), (97, .putfield 123), (100, .aload_n 0), (101, .iconst 0), (102, .putfield 126), (105, .aload_n 0), (106, .iconst 0), (107, .putfield 129), (110, .aload_n 0), (111, .iconst 0), (112, .putfield 132), (115, .iconst 0), (116, .istore 7), (118, .iload 7), (120, .aload_n 0), (121, .getfield 93), (124, .if_icmp .ge 54), (127, .aload_n 0), (128, .getfield 19), (131, .iload 7), (133, .aload_n 0), (134, .getfield 32), (137, .iload 7), (139, .iaload), (140, .iastore), (141, .aload_n 0), (142, .getfield 22), (145, .iload 7), (147, .aload_n 0), (148, .getfield 35), (151, .iload 7), (153, .iaload), (154, .iastore), (155, .aload_n 0), (156, .getfield 25), (159, .iload 7), (161, .iconst 0), (162, .bastore), (163, .aload_n 0), (164, .getfield 29), (167, .iload 7), (169, .bipush (-9)), (171, .iastore), (172, .iinc 7 1), (175, .goto (-57)), (178, .aload_n 0), (179, .getfield 93), (182, .ireturn)]
def op_X8_brook (fu : Nat) : Nat → Kont → XL → List Value → XW → Instr → Option XO := opK 8 (rzOf (some .int)) fl_BrookStonesModel [] kl_BrookStonesModel k2_BrookStonesModel [(106, 5, 1, (U_X8_against fu)), (110, 2, 1, (U_X8_fails fu)), (114, 2, 1, (U_X8_readBrook fu))] [(99, 1, 1, (U_X8_isSheet fu)), (103, 1, 1, (U_X8_isSort fu))] []
def F_X8_brook (fu : Nat) : Nat → (Nat → Int32 → XW → Option XO)
  | 0 => fun _ _ _ => none
  | n + 1 => (fun a0 a7 w =>
    (gI w a0 7 5).bind fun x1 =>
    (if a7 < x1 then
      (gR w a0 7 8).bind fun r3 =>
      (gR w a0 7 15).bind fun r4 =>
      (aI w r4 a7).bind fun x5 =>
      (sI w r3 a7 x5).bind fun w6 =>
      (gR w6 a0 7 9).bind fun r7 =>
      (gR w6 a0 7 16).bind fun r8 =>
      (aI w6 r8 a7).bind fun x9 =>
      (sI w6 r7 a7 x9).bind fun w10 =>
      (gR w10 a0 7 10).bind fun r11 =>
      (sZ w10 r11 a7 (0 : Int32)).bind fun w12 =>
      (gR w12 a0 7 11).bind fun r13 =>
      (sI w12 r13 a7 (-9 : Int32)).bind fun w14 =>
      (F_X8_brook fu n) a0 (a7 + (1 : Int32)) w14
    else
      (gI w a0 7 5).bind fun x2 =>
      some (some (.int x2), w)))
def M_X8_brook (fu : Nat) (a0 : Nat) (a1 : Int32) (a2 : Int32) (a3 : Int32) (a4 : Int32) (w : XW) : Option XO :=
  (pF w a0 7 0 (.int (0 : Int32))).bind fun w15 =>
  cI (U_X8_isSheet fu [.int a1] w15) fun x17 w16 =>
  (if x17 = 0 then
    some (some (.int (-1 : Int32)), w16)
  else
    cI (U_X8_isSort fu [.int a2] w16) fun x19 w18 =>
    (if x19 = 0 then
      some (some (.int (-2 : Int32)), w18)
    else
      cI (U_X8_against fu [.ref a0, .int a1, .int a2, .int a3, .int a4] w18) fun x21 w20 =>
      (if x21 = 0 then
        (pF w20 a0 7 12 (.int (((60 : Int32) * a1) + a3))).bind fun w22 =>
        cI (U_X8_readBrook fu [.ref a0, .int ((((60 : Int32) * a1) + a3) + a4)] w22) fun x24 w23 =>
        (if x24 = 0 then
          (gI w23 a0 7 12).bind fun x32 =>
          some (some (.int ((-100 : Int32) - (x32 - (((60 : Int32) * a1) + a3)))), w23)
        else
          (gI w23 a0 7 13).bind fun x25 =>
          (pF w23 a0 7 5 (.int x25)).bind fun w26 =>
          (gI w26 a0 7 14).bind fun x27 =>
          (pF w26 a0 7 6 (.int x27)).bind fun w28 =>
          (pF w28 a0 7 7 (.int (0 : Int32))).bind fun w29 =>
          (pF w29 a0 7 17 (.int (0 : Int32))).bind fun w30 =>
          (pF w30 a0 7 23 (.int (0 : Int32))).bind fun w31 =>
          (F_X8_brook fu fu) a0 (0 : Int32) w31)
      else
        cI (U_X8_fails fu [.ref a0, .int x21] w20) fun x34 w33 =>
        some (some (.int x34), w33))))
def U_X8_brook (fu : Nat) : Orc := fun as w => match as with
  | [.ref a0, .int a1, .int a2, .int a3, .int a4] => if isO w a0 7 = true then M_X8_brook fu a0 a1 a2 a3 a4 w else none
  | _ => none
def K_X8_brook (fu : Nat) (n : Nat) : Kont := fun pc ls st w => bif pc == 118 then ((xr ls 0).bind fun a0 => (xi ls 7).bind fun a7 => skN st ((F_X8_brook fu n) a0 a7 w)) else none
set_option maxRecDepth 100000 in
set_option maxHeartbeats 4000000 in
theorem E_X8_brook_118 (fu : Nat) (n : Nat) (a0 : Nat) (a7 : Int32) (w : XW) : (F_X8_brook fu (n + 1)) a0 a7 w = ev T_X8_brook (op_X8_brook fu) [118] (K_X8_brook fu n) 104 118 [(0, .ref a0), (7, .int a7)] [] w := by
  rfl
set_option maxRecDepth 100000 in
set_option maxHeartbeats 4000000 in
theorem E_X8_brook (fu : Nat) (a0 : Nat) (a1 : Int32) (a2 : Int32) (a3 : Int32) (a4 : Int32) (w : XW) : M_X8_brook fu a0 a1 a2 a3 a4 w = ev T_X8_brook (op_X8_brook fu) [118] (K_X8_brook fu fu) 104 0 (lv_args 0 [.ref a0, .int a1, .int a2, .int a3, .int a4]) [] w := by
  rfl
theorem D_X8_brook (fu : Nat) : DS T_X8_brook (op_X8_brook fu) [118] 104 (K_X8_brook fu) := by
  refine ⟨fun pc ls st w => c_none (b_none fun _ => b_none fun _ => skN_none rfl) (rfl), fun n pc ls st w o h => ?_⟩
  rcases c_some h with ⟨rfl, h⟩ | h
  · obtain ⟨a0, h0, h⟩ := some_of h; obtain ⟨a7, h7, h⟩ := some_of h;
    obtain ⟨e, g⟩ := skN_of h
    subst e
    exact ⟨[(0, .ref a0), (7, .int a7)], cons_all (xr_of h0) (cons_all (xi_of h7) (nil_all)), (E_X8_brook_118 fu n a0 a7 w).symm.trans g⟩
  · cases h
theorem H_X8_brook (fu : Nat) : ∀ as w o, U_X8_brook fu as w = some o → ∃ a r, as = .ref a :: r ∧ r.length = 4 ∧ isO w a 7 = true := by
  intro as w o h
  unfold U_X8_brook at h
  split at h
  next =>
    split at h
    next hh => exact ⟨_, _, rfl, rfl, hh⟩
    next => cases h
  next => cases h
set_option maxRecDepth 100000 in
set_option maxHeartbeats 4000000 in
theorem S_X8_brook (fu : Nat) {l : Launch} {D : va_G} {cA : Nat → ClassId} {base b : Nat} : CS l D cA base b 4 y_X8_brook prog_10_method_13_code 8 (some .int) (U_X8_brook fu) ∧ OM (U_X8_brook fu) := by
  refine CS_of (d := 3) (y := y_X8_brook) (cc := prog_10_method_13_code) (nL := 8) (ret := (some .int)) (F := U_X8_brook fu) (fl := fl_BrookStonesModel) (nl := []) (kl := kl_BrookStonesModel) (k2 := k2_BrookStonesModel) (mv := [(106, 5, 1, (U_X8_against fu)), (110, 2, 1, (U_X8_fails fu)), (114, 2, 1, (U_X8_readBrook fu))]) (ms := [(99, 1, 1, (U_X8_isSheet fu)), (103, 1, 1, (U_X8_isSort fu))]) (mi := []) (ini := false) hI_w hZ_w fl_BrookStonesModel_ok nil_all kl_BrookStonesModel_ok k2_BrookStonesModel_ok
    (cons_all (⟨⟨show (1 : Nat) ≠ 3 by decide, y_X8_against, prog_10_method_9_code, 5, (some .int), 1, "BrookStones", 7, TX8, 37, 4, (S_X8_against fu (l := l) (D := D) (cA := cA) (base := base) (b := b)).1, by decide, by decide, rfl, H_X8_against fu, rfl, mi_X8_against.1, mi_X8_against.2.1, mi_X8_against.2.2.1, mi_X8_against.2.2.2.1, mi_X8_against.2.2.2.2, Or.inl (tblG_of (i := 867) rfl rfl)⟩, (S_X8_against fu (l := l) (D := D) (cA := cA) (base := base) (b := b)).2⟩) (cons_all (⟨⟨show (1 : Nat) ≠ 3 by decide, y_X8_fails, prog_10_method_3_code, 2, (some .int), 1, "BrookStones", 7, TX8, 37, 1, (S_X8_fails fu (l := l) (D := D) (cA := cA) (base := base) (b := b)).1, by decide, by decide, rfl, H_X8_fails fu, rfl, mi_X8_fails.1, mi_X8_fails.2.1, mi_X8_fails.2.2.1, mi_X8_fails.2.2.2.1, mi_X8_fails.2.2.2.2, Or.inl (tblG_of (i := 871) rfl rfl)⟩, (S_X8_fails fu (l := l) (D := D) (cA := cA) (base := base) (b := b)).2⟩) (cons_all (⟨⟨show (1 : Nat) ≠ 3 by decide, y_X8_readBrook, prog_10_method_14_code, 3, (some .boolean), 3, "BrookStones", 7, TX8, 37, 1, (S_X8_readBrook fu (l := l) (D := D) (cA := cA) (base := base) (b := b)).1, by decide, by decide, rfl, H_X8_readBrook fu, rfl, mi_X8_readBrook.1, mi_X8_readBrook.2.1, mi_X8_readBrook.2.2.1, mi_X8_readBrook.2.2.2.1, mi_X8_readBrook.2.2.2.2, Or.inl (tblG_of (i := 875) rfl rfl)⟩, (S_X8_readBrook fu (l := l) (D := D) (cA := cA) (base := base) (b := b)).2⟩) (nil_all))))
    (cons_all (⟨Or.inl ⟨show (1 : Nat) ≠ 3 by decide, y_X8_isSheet, prog_10_method_7_code, 1, (some .boolean), 2, "BrookStones", (S_X8_isSheet fu (l := l) (D := D) (cA := cA) (base := base) (b := b)).1, by decide, by decide, mi_X8_isSheet.1, mi_X8_isSheet.2.1, mi_X8_isSheet.2.2.1, mi_X8_isSheet.2.2.2, Or.inl (tblG_of (i := 858) rfl rfl)⟩, (S_X8_isSheet fu (l := l) (D := D) (cA := cA) (base := base) (b := b)).2⟩) (cons_all (⟨Or.inl ⟨show (1 : Nat) ≠ 3 by decide, y_X8_isSort, prog_10_method_8_code, 1, (some .boolean), 2, "BrookStones", (S_X8_isSort fu (l := l) (D := D) (cA := cA) (base := base) (b := b)).1, by decide, by decide, mi_X8_isSort.1, mi_X8_isSort.2.1, mi_X8_isSort.2.2.1, mi_X8_isSort.2.2.2, Or.inl (tblG_of (i := 864) rfl rfl)⟩, (S_X8_isSort fu (l := l) (D := D) (cA := cA) (base := base) (b := b)).2⟩) (nil_all)))
    (nil_all)
    (T := T_X8_brook) (by decide +kernel) (cut := [118]) (N := 104) (D_X8_brook fu) (by decide +kernel) (fun h => absurd h (by decide)) (fun as w o h => ?_)
  unfold U_X8_brook at h
  split at h
  next =>
    split at h
    next => exact ⟨Nat.le_of_ble_eq_true rfl, fu, (E_X8_brook fu _ _ _ _ _ w).symm.trans h⟩
    next => cases h
  next => cases h
def T_X0_isCell : List (Nat × Instr) := [(0, .iload_n 1), (1, .ifCond .lt 15), (4, .iload_n 1), (5, .aload_n 0), (6, .getfield 58), (9, .if_icmp .ge 7), (12, .iconst 1), (13, .goto 4), (16, .iconst 0), (17, .ireturn)]
def op_X0_isCell (fu : Nat) : Nat → Kont → XL → List Value → XW → Instr → Option XO := opK 2 (rzOf (some .boolean)) fl_BrookStones_Brook [] [] [] [] [] []
def M_X0_isCell (fu : Nat) (a0 : Nat) (a1 : Int32) (w : XW) : Option XO :=
  (if a1 < 0 then
    retZ (0 : Int32) w
  else
    (gI w a0 0 8).bind fun x1 =>
    (if a1 < x1 then
      retZ (1 : Int32) w
    else
      retZ (0 : Int32) w))
def U_X0_isCell (fu : Nat) : Orc := fun as w => match as with
  | [.ref a0, .int a1] => if isO w a0 0 = true then M_X0_isCell fu a0 a1 w else none
  | _ => none
def K_X0_isCell (fu : Nat) (n : Nat) : Kont := fun pc ls st w => none
set_option maxRecDepth 100000 in
set_option maxHeartbeats 4000000 in
theorem E_X0_isCell (fu : Nat) (a0 : Nat) (a1 : Int32) (w : XW) : M_X0_isCell fu a0 a1 w = ev T_X0_isCell (op_X0_isCell fu) [] (K_X0_isCell fu fu) 12 0 (lv_args 0 [.ref a0, .int a1]) [] w := by
  rfl
theorem D_X0_isCell (fu : Nat) : DS T_X0_isCell (op_X0_isCell fu) [] 12 (K_X0_isCell fu) := by
  refine ⟨fun pc ls st w => rfl, fun n pc ls st w o h => ?_⟩
  cases h
theorem H_X0_isCell (fu : Nat) : ∀ as w o, U_X0_isCell fu as w = some o → ∃ a r, as = .ref a :: r ∧ r.length = 1 ∧ isO w a 0 = true := by
  intro as w o h
  unfold U_X0_isCell at h
  split at h
  next =>
    split at h
    next hh => exact ⟨_, _, rfl, rfl, hh⟩
    next => cases h
  next => cases h
set_option maxRecDepth 100000 in
set_option maxHeartbeats 4000000 in
theorem S_X0_isCell (fu : Nat) {l : Launch} {D : va_G} {cA : Nat → ClassId} {base b : Nat} : CS l D cA base b 1 y_X0_isCell prog_2_method_4_code 2 (some .boolean) (U_X0_isCell fu) ∧ OM (U_X0_isCell fu) := by
  refine CS_of (d := 0) (y := y_X0_isCell) (cc := prog_2_method_4_code) (nL := 2) (ret := (some .boolean)) (F := U_X0_isCell fu) (fl := fl_BrookStones_Brook) (nl := []) (kl := []) (k2 := []) (mv := []) (ms := []) (mi := []) (ini := false) hI_w hZ_w fl_BrookStones_Brook_ok nil_all nil_all nil_all
    (nil_all)
    (nil_all)
    (nil_all)
    (T := T_X0_isCell) (by decide +kernel) (cut := []) (N := 12) (D_X0_isCell fu) (by decide +kernel) (fun h => absurd h (by decide)) (fun as w o h => ?_)
  unfold U_X0_isCell at h
  split at h
  next =>
    split at h
    next => exact ⟨Nat.le_of_ble_eq_true rfl, fu, (E_X0_isCell fu _ _ w).symm.trans h⟩
    next => cases h
  next => cases h
def T_X7_has : List (Nat × Instr) := [(0, .iload_n 0), (1, .iload_n 1), (2, .ishr), (3, .iconst 1), (4, .iand), (5, .ifCond .eq 7), (8, .iconst 1), (9, .goto 4), (12, .iconst 0), (13, .ireturn)]
def op_X7_has (fu : Nat) : Nat → Kont → XL → List Value → XW → Instr → Option XO := opK 2 (rzOf (some .boolean)) fl_BrookStones nl_BrookStones [] k2_BrookStones [] [] []
def M_X7_has (fu : Nat) (a0 : Int32) (a1 : Int32) (w : XW) : Option XO :=
  (if ((a0 >>> (a1 &&& 31)) &&& (1 : Int32)) = 0 then
    retZ (0 : Int32) w
  else
    retZ (1 : Int32) w)
def U_X7_has (fu : Nat) : Orc := fun as w => match as with
  | [.int a0, .int a1] => M_X7_has fu a0 a1 w
  | _ => none
def K_X7_has (fu : Nat) (n : Nat) : Kont := fun pc ls st w => none
set_option maxRecDepth 100000 in
set_option maxHeartbeats 4000000 in
theorem E_X7_has (fu : Nat) (a0 : Int32) (a1 : Int32) (w : XW) : M_X7_has fu a0 a1 w = ev T_X7_has (op_X7_has fu) [] (K_X7_has fu fu) 12 0 (lv_args 0 [.int a0, .int a1]) [] w := by
  rfl
theorem D_X7_has (fu : Nat) : DS T_X7_has (op_X7_has fu) [] 12 (K_X7_has fu) := by
  refine ⟨fun pc ls st w => rfl, fun n pc ls st w o h => ?_⟩
  cases h
set_option maxRecDepth 100000 in
set_option maxHeartbeats 4000000 in
theorem S_X7_has (fu : Nat) {l : Launch} {D : va_G} {cA : Nat → ClassId} {base b : Nat} : CS l D cA base b 1 y_X7_has prog_1_method_47_code 2 (some .boolean) (U_X7_has fu) ∧ OM (U_X7_has fu) := by
  refine CS_of (d := 0) (y := y_X7_has) (cc := prog_1_method_47_code) (nL := 2) (ret := (some .boolean)) (F := U_X7_has fu) (fl := fl_BrookStones) (nl := nl_BrookStones) (kl := []) (k2 := k2_BrookStones) (mv := []) (ms := []) (mi := []) (ini := false) hI_w hZ_w fl_BrookStones_ok nl_BrookStones_ok nil_all k2_BrookStones_ok
    (nil_all)
    (nil_all)
    (nil_all)
    (T := T_X7_has) (by decide +kernel) (cut := []) (N := 12) (D_X7_has fu) (by decide +kernel) (fun h => absurd h (by decide)) (fun as w o h => ?_)
  unfold U_X7_has at h
  split at h
  next =>
    exact ⟨Nat.le_of_ble_eq_true rfl, fu, (E_X7_has fu _ _ w).symm.trans h⟩
  next => cases h
def T_X0_topOf : List (Nat × Instr) := [(0, .aload_n 0), (1, .getfield 24), (4, .iload_n 1), (5, .iaload), (6, .aload_n 0), (7, .getfield 9), (10, .iload_n 2), (11, .iaload), (12, .isub), (13, .iload_n 3), (14, .isub), (15, .ireturn)]
def op_X0_topOf (fu : Nat) : Nat → Kont → XL → List Value → XW → Instr → Option XO := opK 4 (rzOf (some .int)) fl_BrookStones_Brook [] [] [] [] [] []
def M_X0_topOf (fu : Nat) (a0 : Nat) (a1 : Int32) (a2 : Int32) (a3 : Int32) (w : XW) : Option XO :=
  (gR w a0 0 4).bind fun r1 =>
  (aI w r1 a1).bind fun x2 =>
  (gR w a0 0 0).bind fun r3 =>
  (aI w r3 a2).bind fun x4 =>
  some (some (.int ((x2 - x4) - a3)), w)
def U_X0_topOf (fu : Nat) : Orc := fun as w => match as with
  | [.ref a0, .int a1, .int a2, .int a3] => if isO w a0 0 = true then M_X0_topOf fu a0 a1 a2 a3 w else none
  | _ => none
def K_X0_topOf (fu : Nat) (n : Nat) : Kont := fun pc ls st w => none
set_option maxRecDepth 100000 in
set_option maxHeartbeats 4000000 in
theorem E_X0_topOf (fu : Nat) (a0 : Nat) (a1 : Int32) (a2 : Int32) (a3 : Int32) (w : XW) : M_X0_topOf fu a0 a1 a2 a3 w = ev T_X0_topOf (op_X0_topOf fu) [] (K_X0_topOf fu fu) 14 0 (lv_args 0 [.ref a0, .int a1, .int a2, .int a3]) [] w := by
  rfl
theorem D_X0_topOf (fu : Nat) : DS T_X0_topOf (op_X0_topOf fu) [] 14 (K_X0_topOf fu) := by
  refine ⟨fun pc ls st w => rfl, fun n pc ls st w o h => ?_⟩
  cases h
theorem H_X0_topOf (fu : Nat) : ∀ as w o, U_X0_topOf fu as w = some o → ∃ a r, as = .ref a :: r ∧ r.length = 3 ∧ isO w a 0 = true := by
  intro as w o h
  unfold U_X0_topOf at h
  split at h
  next =>
    split at h
    next hh => exact ⟨_, _, rfl, rfl, hh⟩
    next => cases h
  next => cases h
set_option maxRecDepth 100000 in
set_option maxHeartbeats 4000000 in
theorem S_X0_topOf (fu : Nat) {l : Launch} {D : va_G} {cA : Nat → ClassId} {base b : Nat} : CS l D cA base b 1 y_X0_topOf prog_2_method_13_code 4 (some .int) (U_X0_topOf fu) ∧ OM (U_X0_topOf fu) := by
  refine CS_of (d := 0) (y := y_X0_topOf) (cc := prog_2_method_13_code) (nL := 4) (ret := (some .int)) (F := U_X0_topOf fu) (fl := fl_BrookStones_Brook) (nl := []) (kl := []) (k2 := []) (mv := []) (ms := []) (mi := []) (ini := false) hI_w hZ_w fl_BrookStones_Brook_ok nil_all nil_all nil_all
    (nil_all)
    (nil_all)
    (nil_all)
    (T := T_X0_topOf) (by decide +kernel) (cut := []) (N := 14) (D_X0_topOf fu) (by decide +kernel) (fun h => absurd h (by decide)) (fun as w o h => ?_)
  unfold U_X0_topOf at h
  split at h
  next =>
    split at h
    next => exact ⟨Nat.le_of_ble_eq_true rfl, fu, (E_X0_topOf fu _ _ _ _ w).symm.trans h⟩
    next => cases h
  next => cases h
def T_X7_ofCell : List (Nat × Instr) := [(0, .aload_n 0), (1, .getfield 12), (4, .iload_n 1), (5, .invokevirtual 77), (8, .ifCond .ne 5), (11, .iconst (-1)), (12, .ireturn), (13, .aload_n 0), (14, .getfield 12), (17, .getfield 81), (20, .iload_n 1), (21, .iaload), (22, .istore_n 3), (23, .iload_n 2), (24, .tableswitch 106 0 4 #[36, 46, 56, 58, 78]), (60, .aload_n 0), (61, .getfield 12), (64, .getfield 85), (67, .iload_n 1), (68, .iaload), (69, .ireturn), (70, .aload_n 0), (71, .getfield 12), (74, .getfield 88), (77, .iload_n 1), (78, .iaload), (79, .ireturn), (80, .iload_n 3), (81, .ireturn), (82, .aload_n 0), (83, .getfield 12), (86, .getfield 91), (89, .iload_n 1), (90, .invokestatic 94), (93, .ifCond .eq 7), (96, .iconst 1), (97, .goto 4), (100, .iconst 0), (101, .ireturn), (102, .iload_n 3), (103, .bipush (-9)), (105, .if_icmp .ne 8), (108, .bipush (-99)), (110, .goto 19), (113, .aload_n 0), (114, .getfield 12), (117, .iload_n 3), (118, .iload_n 1), (119, .aload_n 0), (120, .getfield 12), (123, .getfield 98), (126, .invokevirtual 101), (129, .ireturn), (130, .bipush (-2)), (132, .ireturn)]
def op_X7_ofCell (fu : Nat) : Nat → Kont → XL → List Value → XW → Instr → Option XO := opK 4 (rzOf (some .int)) fl_BrookStones nl_BrookStones [] k2_BrookStones [(77, 2, 1, (U_X0_isCell fu)), (101, 4, 1, (U_X0_topOf fu))] [(94, 2, 1, (U_X7_has fu))] []
def M_X7_ofCell (fu : Nat) (a0 : Nat) (a1 : Int32) (a2 : Int32) (w : XW) : Option XO :=
  (gR w a0 6 0).bind fun r1 =>
  cI (U_X0_isCell fu [.ref r1, .int a1] w) fun x3 w2 =>
  (if x3 = 0 then
    some (some (.int (-1 : Int32)), w2)
  else
    (gR w2 a0 6 0).bind fun r4 =>
    (gR w2 r4 0 2).bind fun r5 =>
    (aI w2 r5 a1).bind fun x6 =>
    (if a2 = (0 : Int32) then
      (gR w2 a0 6 0).bind fun r7 =>
      (gR w2 r7 0 0).bind fun r8 =>
      (aI w2 r8 a1).bind fun x9 =>
      some (some (.int x9), w2)
    else
    (if a2 = (1 : Int32) then
      (gR w2 a0 6 0).bind fun r10 =>
      (gR w2 r10 0 1).bind fun r11 =>
      (aI w2 r11 a1).bind fun x12 =>
      some (some (.int x12), w2)
    else
    (if a2 = (2 : Int32) then
      some (some (.int x6), w2)
    else
    (if a2 = (3 : Int32) then
      (gR w2 a0 6 0).bind fun r13 =>
      (gI w2 r13 0 10).bind fun x14 =>
      cI (U_X7_has fu [.int x14, .int a1] w2) fun x16 w15 =>
      (if x16 = 0 then
        some (some (.int (0 : Int32)), w15)
      else
        some (some (.int (1 : Int32)), w15))
    else
    (if a2 = (4 : Int32) then
      (if x6 = (-9 : Int32) then
        some (some (.int (-99 : Int32)), w2)
      else
        (gR w2 a0 6 0).bind fun r17 =>
        (gR w2 a0 6 0).bind fun r18 =>
        (gI w2 r18 0 11).bind fun x19 =>
        cI (U_X0_topOf fu [.ref r17, .int x6, .int a1, .int x19] w2) fun x21 w20 =>
        some (some (.int x21), w20))
    else
    some (some (.int (-2 : Int32)), w2)))))))
def U_X7_ofCell (fu : Nat) : Orc := fun as w => match as with
  | [.ref a0, .int a1, .int a2] => if isO w a0 6 = true then M_X7_ofCell fu a0 a1 a2 w else none
  | _ => none
def K_X7_ofCell (fu : Nat) (n : Nat) : Kont := fun pc ls st w => none
set_option maxRecDepth 100000 in
set_option maxHeartbeats 4000000 in
theorem E_X7_ofCell (fu : Nat) (a0 : Nat) (a1 : Int32) (a2 : Int32) (w : XW) : M_X7_ofCell fu a0 a1 a2 w = ev T_X7_ofCell (op_X7_ofCell fu) [] (K_X7_ofCell fu fu) 57 0 (lv_args 0 [.ref a0, .int a1, .int a2]) [] w := by
  rfl
theorem D_X7_ofCell (fu : Nat) : DS T_X7_ofCell (op_X7_ofCell fu) [] 57 (K_X7_ofCell fu) := by
  refine ⟨fun pc ls st w => rfl, fun n pc ls st w o h => ?_⟩
  cases h
theorem H_X7_ofCell (fu : Nat) : ∀ as w o, U_X7_ofCell fu as w = some o → ∃ a r, as = .ref a :: r ∧ r.length = 2 ∧ isO w a 6 = true := by
  intro as w o h
  unfold U_X7_ofCell at h
  split at h
  next =>
    split at h
    next hh => exact ⟨_, _, rfl, rfl, hh⟩
    next => cases h
  next => cases h
set_option maxRecDepth 100000 in
set_option maxHeartbeats 4000000 in
theorem S_X7_ofCell (fu : Nat) {l : Launch} {D : va_G} {cA : Nat → ClassId} {base b : Nat} : CS l D cA base b 2 y_X7_ofCell prog_1_method_3_code 4 (some .int) (U_X7_ofCell fu) ∧ OM (U_X7_ofCell fu) := by
  refine CS_of (d := 1) (y := y_X7_ofCell) (cc := prog_1_method_3_code) (nL := 4) (ret := (some .int)) (F := U_X7_ofCell fu) (fl := fl_BrookStones) (nl := nl_BrookStones) (kl := []) (k2 := k2_BrookStones) (mv := [(77, 2, 1, (U_X0_isCell fu)), (101, 4, 1, (U_X0_topOf fu))]) (ms := [(94, 2, 1, (U_X7_has fu))]) (mi := []) (ini := false) hI_w hZ_w fl_BrookStones_ok nl_BrookStones_ok nil_all k2_BrookStones_ok
    (cons_all (⟨⟨show (1 : Nat) ≠ 3 by decide, y_X0_isCell, prog_2_method_4_code, 2, (some .boolean), 1, "BrookStones", 0, TX0, 15, 1, (S_X0_isCell fu (l := l) (D := D) (cA := cA) (base := base) (b := b)).1, by decide, by decide, rfl, H_X0_isCell fu, rfl, mi_X0_isCell.1, mi_X0_isCell.2.1, mi_X0_isCell.2.2.1, mi_X0_isCell.2.2.2.1, mi_X0_isCell.2.2.2.2, Or.inr (tblN_of (i := 314) rfl rfl)⟩, (S_X0_isCell fu (l := l) (D := D) (cA := cA) (base := base) (b := b)).2⟩) (cons_all (⟨⟨show (1 : Nat) ≠ 3 by decide, y_X0_topOf, prog_2_method_13_code, 4, (some .int), 1, "BrookStones", 0, TX0, 15, 3, (S_X0_topOf fu (l := l) (D := D) (cA := cA) (base := base) (b := b)).1, by decide, by decide, rfl, H_X0_topOf fu, rfl, mi_X0_topOf.1, mi_X0_topOf.2.1, mi_X0_topOf.2.2.1, mi_X0_topOf.2.2.2.1, mi_X0_topOf.2.2.2.2, Or.inr (tblN_of (i := 321) rfl rfl)⟩, (S_X0_topOf fu (l := l) (D := D) (cA := cA) (base := base) (b := b)).2⟩) (nil_all)))
    (cons_all (⟨Or.inl ⟨show (1 : Nat) ≠ 3 by decide, y_X7_has, prog_1_method_47_code, 2, (some .boolean), 1, "BrookStones", (S_X7_has fu (l := l) (D := D) (cA := cA) (base := base) (b := b)).1, by decide, by decide, mi_X7_has.1, mi_X7_has.2.1, mi_X7_has.2.2.1, mi_X7_has.2.2.2, Or.inl (tblG_of (i := 318) rfl rfl)⟩, (S_X7_has fu (l := l) (D := D) (cA := cA) (base := base) (b := b)).2⟩) (nil_all))
    (nil_all)
    (T := T_X7_ofCell) (by decide +kernel) (cut := []) (N := 57) (D_X7_ofCell fu) (by decide +kernel) (fun h => absurd h (by decide)) (fun as w o h => ?_)
  unfold U_X7_ofCell at h
  split at h
  next =>
    split at h
    next => exact ⟨Nat.le_of_ble_eq_true rfl, fu, (E_X7_ofCell fu _ _ _ w).symm.trans h⟩
    next => cases h
  next => cases h
def T_X8_isCell : List (Nat × Instr) := [(0, .iload_n 1), (1, .ifCond .lt 15), (4, .iload_n 1), (5, .aload_n 0), (6, .getfield 93), (9, .if_icmp .ge 7), (12, .iconst 1), (13, .goto 4), (16, .iconst 0), (17, .ireturn)]
def op_X8_isCell (fu : Nat) : Nat → Kont → XL → List Value → XW → Instr → Option XO := opK 2 (rzOf (some .boolean)) fl_BrookStonesModel [] kl_BrookStonesModel k2_BrookStonesModel [] [] []
def M_X8_isCell (fu : Nat) (a0 : Nat) (a1 : Int32) (w : XW) : Option XO :=
  (if a1 < 0 then
    retZ (0 : Int32) w
  else
    (gI w a0 7 5).bind fun x1 =>
    (if a1 < x1 then
      retZ (1 : Int32) w
    else
      retZ (0 : Int32) w))
def U_X8_isCell (fu : Nat) : Orc := fun as w => match as with
  | [.ref a0, .int a1] => if isO w a0 7 = true then M_X8_isCell fu a0 a1 w else none
  | _ => none
def K_X8_isCell (fu : Nat) (n : Nat) : Kont := fun pc ls st w => none
set_option maxRecDepth 100000 in
set_option maxHeartbeats 4000000 in
theorem E_X8_isCell (fu : Nat) (a0 : Nat) (a1 : Int32) (w : XW) : M_X8_isCell fu a0 a1 w = ev T_X8_isCell (op_X8_isCell fu) [] (K_X8_isCell fu fu) 12 0 (lv_args 0 [.ref a0, .int a1]) [] w := by
  rfl
theorem D_X8_isCell (fu : Nat) : DS T_X8_isCell (op_X8_isCell fu) [] 12 (K_X8_isCell fu) := by
  refine ⟨fun pc ls st w => rfl, fun n pc ls st w o h => ?_⟩
  cases h
theorem H_X8_isCell (fu : Nat) : ∀ as w o, U_X8_isCell fu as w = some o → ∃ a r, as = .ref a :: r ∧ r.length = 1 ∧ isO w a 7 = true := by
  intro as w o h
  unfold U_X8_isCell at h
  split at h
  next =>
    split at h
    next hh => exact ⟨_, _, rfl, rfl, hh⟩
    next => cases h
  next => cases h
set_option maxRecDepth 100000 in
set_option maxHeartbeats 4000000 in
theorem S_X8_isCell (fu : Nat) {l : Launch} {D : va_G} {cA : Nat → ClassId} {base b : Nat} : CS l D cA base b 1 y_X8_isCell prog_10_method_10_code 2 (some .boolean) (U_X8_isCell fu) ∧ OM (U_X8_isCell fu) := by
  refine CS_of (d := 0) (y := y_X8_isCell) (cc := prog_10_method_10_code) (nL := 2) (ret := (some .boolean)) (F := U_X8_isCell fu) (fl := fl_BrookStonesModel) (nl := []) (kl := kl_BrookStonesModel) (k2 := k2_BrookStonesModel) (mv := []) (ms := []) (mi := []) (ini := false) hI_w hZ_w fl_BrookStonesModel_ok nil_all kl_BrookStonesModel_ok k2_BrookStonesModel_ok
    (nil_all)
    (nil_all)
    (nil_all)
    (T := T_X8_isCell) (by decide +kernel) (cut := []) (N := 12) (D_X8_isCell fu) (by decide +kernel) (fun h => absurd h (by decide)) (fun as w o h => ?_)
  unfold U_X8_isCell at h
  split at h
  next =>
    split at h
    next => exact ⟨Nat.le_of_ble_eq_true rfl, fu, (E_X8_isCell fu _ _ w).symm.trans h⟩
    next => cases h
  next => cases h
def T_X8_topOf : List (Nat × Instr) := [(0, .aload_n 0), (1, .getfield 29), (4, .iload_n 1), (5, .iaload), (6, .bipush (-9)), (8, .if_icmp .ne 8), (11, .bipush (-99)), (13, .goto 23), (16, .aload_n 0), (17, .getfield 41), (20, .aload_n 0), (21, .getfield 29), (24, .iload_n 1), (25, .iaload), (26, .iaload), (27, .aload_n 0), (28, .getfield 19), (31, .iload_n 1), (32, .iaload), (33, .isub), (34, .iload_n 2), (35, .isub), (36, .ireturn)]
def op_X8_topOf (fu : Nat) : Nat → Kont → XL → List Value → XW → Instr → Option XO := opK 3 (rzOf (some .int)) fl_BrookStonesModel [] kl_BrookStonesModel k2_BrookStonesModel [] [] []
def M_X8_topOf (fu : Nat) (a0 : Nat) (a1 : Int32) (a2 : Int32) (w : XW) : Option XO :=
  (gR w a0 7 11).bind fun r1 =>
  (aI w r1 a1).bind fun x2 =>
  (if x2 = (-9 : Int32) then
    some (some (.int (-99 : Int32)), w)
  else
    (gR w a0 7 19).bind fun r3 =>
    (gR w a0 7 11).bind fun r4 =>
    (aI w r4 a1).bind fun x5 =>
    (aI w r3 x5).bind fun x6 =>
    (gR w a0 7 8).bind fun r7 =>
    (aI w r7 a1).bind fun x8 =>
    some (some (.int ((x6 - x8) - a2)), w))
def U_X8_topOf (fu : Nat) : Orc := fun as w => match as with
  | [.ref a0, .int a1, .int a2] => if isO w a0 7 = true then M_X8_topOf fu a0 a1 a2 w else none
  | _ => none
def K_X8_topOf (fu : Nat) (n : Nat) : Kont := fun pc ls st w => none
set_option maxRecDepth 100000 in
set_option maxHeartbeats 4000000 in
theorem E_X8_topOf (fu : Nat) (a0 : Nat) (a1 : Int32) (a2 : Int32) (w : XW) : M_X8_topOf fu a0 a1 a2 w = ev T_X8_topOf (op_X8_topOf fu) [] (K_X8_topOf fu fu) 25 0 (lv_args 0 [.ref a0, .int a1, .int a2]) [] w := by
  rfl
theorem D_X8_topOf (fu : Nat) : DS T_X8_topOf (op_X8_topOf fu) [] 25 (K_X8_topOf fu) := by
  refine ⟨fun pc ls st w => rfl, fun n pc ls st w o h => ?_⟩
  cases h
theorem H_X8_topOf (fu : Nat) : ∀ as w o, U_X8_topOf fu as w = some o → ∃ a r, as = .ref a :: r ∧ r.length = 2 ∧ isO w a 7 = true := by
  intro as w o h
  unfold U_X8_topOf at h
  split at h
  next =>
    split at h
    next hh => exact ⟨_, _, rfl, rfl, hh⟩
    next => cases h
  next => cases h
set_option maxRecDepth 100000 in
set_option maxHeartbeats 4000000 in
theorem S_X8_topOf (fu : Nat) {l : Launch} {D : va_G} {cA : Nat → ClassId} {base b : Nat} : CS l D cA base b 1 y_X8_topOf prog_10_method_15_code 3 (some .int) (U_X8_topOf fu) ∧ OM (U_X8_topOf fu) := by
  refine CS_of (d := 0) (y := y_X8_topOf) (cc := prog_10_method_15_code) (nL := 3) (ret := (some .int)) (F := U_X8_topOf fu) (fl := fl_BrookStonesModel) (nl := []) (kl := kl_BrookStonesModel) (k2 := k2_BrookStonesModel) (mv := []) (ms := []) (mi := []) (ini := false) hI_w hZ_w fl_BrookStonesModel_ok nil_all kl_BrookStonesModel_ok k2_BrookStonesModel_ok
    (nil_all)
    (nil_all)
    (nil_all)
    (T := T_X8_topOf) (by decide +kernel) (cut := []) (N := 25) (D_X8_topOf fu) (by decide +kernel) (fun h => absurd h (by decide)) (fun as w o h => ?_)
  unfold U_X8_topOf at h
  split at h
  next =>
    split at h
    next => exact ⟨Nat.le_of_ble_eq_true rfl, fu, (E_X8_topOf fu _ _ _ w).symm.trans h⟩
    next => cases h
  next => cases h
def T_X8_ofCell : List (Nat × Instr) := [(0, .aload_n 0), (1, .iload_n 1), (2, .invokevirtual 142), (5, .ifCond .ne 5), (8, .iconst (-1)), (9, .ireturn), (10, .iload_n 2), (11, .tableswitch 79 0 4 #[33, 40, 47, 54, 69]), (44, .aload_n 0), (45, .getfield 19), (48, .iload_n 1), (49, .iaload), (50, .ireturn), (51, .aload_n 0), (52, .getfield 22), (55, .iload_n 1), (56, .iaload), (57, .ireturn), (58, .aload_n 0), (59, .getfield 29), (62, .iload_n 1), (63, .iaload), (64, .ireturn), (65, .aload_n 0), (66, .getfield 25), (69, .iload_n 1), (70, .baload), (71, .ifCond .eq 7), (74, .iconst 1), (75, .goto 4), (78, .iconst 0), (79, .ireturn), (80, .aload_n 0), (81, .iload_n 1), (82, .aload_n 0), (83, .getfield 126), (86, .invokevirtual 145), (89, .ireturn), (90, .bipush (-2)), (92, .ireturn)]
def op_X8_ofCell (fu : Nat) : Nat → Kont → XL → List Value → XW → Instr → Option XO := opK 3 (rzOf (some .int)) fl_BrookStonesModel [] kl_BrookStonesModel k2_BrookStonesModel [(142, 2, 1, (U_X8_isCell fu)), (145, 3, 1, (U_X8_topOf fu))] [] []
def M_X8_ofCell (fu : Nat) (a0 : Nat) (a1 : Int32) (a2 : Int32) (w : XW) : Option XO :=
  cI (U_X8_isCell fu [.ref a0, .int a1] w) fun x2 w1 =>
  (if x2 = 0 then
    some (some (.int (-1 : Int32)), w1)
  else
    (if a2 = (0 : Int32) then
      (gR w1 a0 7 8).bind fun r3 =>
      (aI w1 r3 a1).bind fun x4 =>
      some (some (.int x4), w1)
    else
    (if a2 = (1 : Int32) then
      (gR w1 a0 7 9).bind fun r5 =>
      (aI w1 r5 a1).bind fun x6 =>
      some (some (.int x6), w1)
    else
    (if a2 = (2 : Int32) then
      (gR w1 a0 7 11).bind fun r7 =>
      (aI w1 r7 a1).bind fun x8 =>
      some (some (.int x8), w1)
    else
    (if a2 = (3 : Int32) then
      (gR w1 a0 7 10).bind fun r9 =>
      (aZ w1 r9 a1).bind fun x10 =>
      (if x10 = 0 then
        some (some (.int (0 : Int32)), w1)
      else
        some (some (.int (1 : Int32)), w1))
    else
    (if a2 = (4 : Int32) then
      (gI w1 a0 7 7).bind fun x11 =>
      cI (U_X8_topOf fu [.ref a0, .int a1, .int x11] w1) fun x13 w12 =>
      some (some (.int x13), w12)
    else
    some (some (.int (-2 : Int32)), w1)))))))
def U_X8_ofCell (fu : Nat) : Orc := fun as w => match as with
  | [.ref a0, .int a1, .int a2] => if isO w a0 7 = true then M_X8_ofCell fu a0 a1 a2 w else none
  | _ => none
def K_X8_ofCell (fu : Nat) (n : Nat) : Kont := fun pc ls st w => none
set_option maxRecDepth 100000 in
set_option maxHeartbeats 4000000 in
theorem E_X8_ofCell (fu : Nat) (a0 : Nat) (a1 : Int32) (a2 : Int32) (w : XW) : M_X8_ofCell fu a0 a1 a2 w = ev T_X8_ofCell (op_X8_ofCell fu) [] (K_X8_ofCell fu fu) 42 0 (lv_args 0 [.ref a0, .int a1, .int a2]) [] w := by
  rfl
theorem D_X8_ofCell (fu : Nat) : DS T_X8_ofCell (op_X8_ofCell fu) [] 42 (K_X8_ofCell fu) := by
  refine ⟨fun pc ls st w => rfl, fun n pc ls st w o h => ?_⟩
  cases h
theorem H_X8_ofCell (fu : Nat) : ∀ as w o, U_X8_ofCell fu as w = some o → ∃ a r, as = .ref a :: r ∧ r.length = 2 ∧ isO w a 7 = true := by
  intro as w o h
  unfold U_X8_ofCell at h
  split at h
  next =>
    split at h
    next hh => exact ⟨_, _, rfl, rfl, hh⟩
    next => cases h
  next => cases h
set_option maxRecDepth 100000 in
set_option maxHeartbeats 4000000 in
theorem S_X8_ofCell (fu : Nat) {l : Launch} {D : va_G} {cA : Nat → ClassId} {base b : Nat} : CS l D cA base b 2 y_X8_ofCell prog_10_method_16_code 3 (some .int) (U_X8_ofCell fu) ∧ OM (U_X8_ofCell fu) := by
  refine CS_of (d := 1) (y := y_X8_ofCell) (cc := prog_10_method_16_code) (nL := 3) (ret := (some .int)) (F := U_X8_ofCell fu) (fl := fl_BrookStonesModel) (nl := []) (kl := kl_BrookStonesModel) (k2 := k2_BrookStonesModel) (mv := [(142, 2, 1, (U_X8_isCell fu)), (145, 3, 1, (U_X8_topOf fu))]) (ms := []) (mi := []) (ini := false) hI_w hZ_w fl_BrookStonesModel_ok nil_all kl_BrookStonesModel_ok k2_BrookStonesModel_ok
    (cons_all (⟨⟨show (1 : Nat) ≠ 3 by decide, y_X8_isCell, prog_10_method_10_code, 2, (some .boolean), 1, "BrookStones", 7, TX8, 37, 1, (S_X8_isCell fu (l := l) (D := D) (cA := cA) (base := base) (b := b)).1, by decide, by decide, rfl, H_X8_isCell fu, rfl, mi_X8_isCell.1, mi_X8_isCell.2.1, mi_X8_isCell.2.2.1, mi_X8_isCell.2.2.2.1, mi_X8_isCell.2.2.2.2, Or.inl (tblG_of (i := 891) rfl rfl)⟩, (S_X8_isCell fu (l := l) (D := D) (cA := cA) (base := base) (b := b)).2⟩) (cons_all (⟨⟨show (1 : Nat) ≠ 3 by decide, y_X8_topOf, prog_10_method_15_code, 3, (some .int), 1, "BrookStones", 7, TX8, 37, 2, (S_X8_topOf fu (l := l) (D := D) (cA := cA) (base := base) (b := b)).1, by decide, by decide, rfl, H_X8_topOf fu, rfl, mi_X8_topOf.1, mi_X8_topOf.2.1, mi_X8_topOf.2.2.1, mi_X8_topOf.2.2.2.1, mi_X8_topOf.2.2.2.2, Or.inl (tblG_of (i := 895) rfl rfl)⟩, (S_X8_topOf fu (l := l) (D := D) (cA := cA) (base := base) (b := b)).2⟩) (nil_all)))
    (nil_all)
    (nil_all)
    (T := T_X8_ofCell) (by decide +kernel) (cut := []) (N := 42) (D_X8_ofCell fu) (by decide +kernel) (fun h => absurd h (by decide)) (fun as w o h => ?_)
  unfold U_X8_ofCell at h
  split at h
  next =>
    split at h
    next => exact ⟨Nat.le_of_ble_eq_true rfl, fu, (E_X8_ofCell fu _ _ _ w).symm.trans h⟩
    next => cases h
  next => cases h
def T_X7_guard : List (Nat × Instr) := [(0, .aload_n 0), (1, .getfield 12), (4, .iload_n 1), (5, .invokevirtual 77), (8, .ifCond .ne 5), (11, .iconst (-1)), (12, .ireturn), (13, .aload_n 0), (14, .getfield 12), (17, .getfield 91), (20, .iload_n 1), (21, .invokestatic 94), (24, .iload_n 2), (25, .if_icmp .ne 5), (28, .iconst 0), (29, .ireturn), (30, .aload_n 0), (31, .getfield 12), (34, .dup), (35, .getfield 91), (38, .iconst 1), (39, .iload_n 1), (40, .ishl), (41, .ixor), (42, .putfield 91), (45, .iconst 1), (46, .ireturn)]
def op_X7_guard (fu : Nat) : Nat → Kont → XL → List Value → XW → Instr → Option XO := opK 3 (rzOf (some .int)) fl_BrookStones nl_BrookStones [] k2_BrookStones [(77, 2, 1, (U_X0_isCell fu))] [(94, 2, 1, (U_X7_has fu))] []
def M_X7_guard (fu : Nat) (a0 : Nat) (a1 : Int32) (a2 : Int32) (w : XW) : Option XO :=
  (gR w a0 6 0).bind fun r1 =>
  cI (U_X0_isCell fu [.ref r1, .int a1] w) fun x3 w2 =>
  (if x3 = 0 then
    some (some (.int (-1 : Int32)), w2)
  else
    (gR w2 a0 6 0).bind fun r4 =>
    (gI w2 r4 0 10).bind fun x5 =>
    cI (U_X7_has fu [.int x5, .int a1] w2) fun x7 w6 =>
    (if x7 = a2 then
      some (some (.int (0 : Int32)), w6)
    else
      (gR w6 a0 6 0).bind fun r8 =>
      (gI w6 r8 0 10).bind fun x9 =>
      (pF w6 r8 0 10 (.int (x9 ^^^ ((1 : Int32) <<< (a1 &&& 31))))).bind fun w10 =>
      some (some (.int (1 : Int32)), w10)))
def U_X7_guard (fu : Nat) : Orc := fun as w => match as with
  | [.ref a0, .int a1, .int a2] => if isO w a0 6 = true then M_X7_guard fu a0 a1 a2 w else none
  | _ => none
def K_X7_guard (fu : Nat) (n : Nat) : Kont := fun pc ls st w => none
set_option maxRecDepth 100000 in
set_option maxHeartbeats 4000000 in
theorem E_X7_guard (fu : Nat) (a0 : Nat) (a1 : Int32) (a2 : Int32) (w : XW) : M_X7_guard fu a0 a1 a2 w = ev T_X7_guard (op_X7_guard fu) [] (K_X7_guard fu fu) 29 0 (lv_args 0 [.ref a0, .int a1, .int a2]) [] w := by
  rfl
theorem D_X7_guard (fu : Nat) : DS T_X7_guard (op_X7_guard fu) [] 29 (K_X7_guard fu) := by
  refine ⟨fun pc ls st w => rfl, fun n pc ls st w o h => ?_⟩
  cases h
theorem H_X7_guard (fu : Nat) : ∀ as w o, U_X7_guard fu as w = some o → ∃ a r, as = .ref a :: r ∧ r.length = 2 ∧ isO w a 6 = true := by
  intro as w o h
  unfold U_X7_guard at h
  split at h
  next =>
    split at h
    next hh => exact ⟨_, _, rfl, rfl, hh⟩
    next => cases h
  next => cases h
set_option maxRecDepth 100000 in
set_option maxHeartbeats 4000000 in
theorem S_X7_guard (fu : Nat) {l : Launch} {D : va_G} {cA : Nat → ClassId} {base b : Nat} : CS l D cA base b 2 y_X7_guard prog_1_method_4_code 3 (some .int) (U_X7_guard fu) ∧ OM (U_X7_guard fu) := by
  refine CS_of (d := 1) (y := y_X7_guard) (cc := prog_1_method_4_code) (nL := 3) (ret := (some .int)) (F := U_X7_guard fu) (fl := fl_BrookStones) (nl := nl_BrookStones) (kl := []) (k2 := k2_BrookStones) (mv := [(77, 2, 1, (U_X0_isCell fu))]) (ms := [(94, 2, 1, (U_X7_has fu))]) (mi := []) (ini := false) hI_w hZ_w fl_BrookStones_ok nl_BrookStones_ok nil_all k2_BrookStones_ok
    (cons_all (⟨⟨show (1 : Nat) ≠ 3 by decide, y_X0_isCell, prog_2_method_4_code, 2, (some .boolean), 1, "BrookStones", 0, TX0, 15, 1, (S_X0_isCell fu (l := l) (D := D) (cA := cA) (base := base) (b := b)).1, by decide, by decide, rfl, H_X0_isCell fu, rfl, mi_X0_isCell.1, mi_X0_isCell.2.1, mi_X0_isCell.2.2.1, mi_X0_isCell.2.2.2.1, mi_X0_isCell.2.2.2.2, Or.inr (tblN_of (i := 314) rfl rfl)⟩, (S_X0_isCell fu (l := l) (D := D) (cA := cA) (base := base) (b := b)).2⟩) (nil_all))
    (cons_all (⟨Or.inl ⟨show (1 : Nat) ≠ 3 by decide, y_X7_has, prog_1_method_47_code, 2, (some .boolean), 1, "BrookStones", (S_X7_has fu (l := l) (D := D) (cA := cA) (base := base) (b := b)).1, by decide, by decide, mi_X7_has.1, mi_X7_has.2.1, mi_X7_has.2.2.1, mi_X7_has.2.2.2, Or.inl (tblG_of (i := 318) rfl rfl)⟩, (S_X7_has fu (l := l) (D := D) (cA := cA) (base := base) (b := b)).2⟩) (nil_all))
    (nil_all)
    (T := T_X7_guard) (by decide +kernel) (cut := []) (N := 29) (D_X7_guard fu) (by decide +kernel) (fun h => absurd h (by decide)) (fun as w o h => ?_)
  unfold U_X7_guard at h
  split at h
  next =>
    split at h
    next => exact ⟨Nat.le_of_ble_eq_true rfl, fu, (E_X7_guard fu _ _ _ w).symm.trans h⟩
    next => cases h
  next => cases h
def T_X8_guard : List (Nat × Instr) := [(0, .aload_n 0), (1, .iload_n 1), (2, .invokevirtual 142), (5, .ifCond .ne 5), (8, .iconst (-1)), (9, .ireturn), (10, .aload_n 0), (11, .getfield 25), (14, .iload_n 1), (15, .baload), (16, .iload_n 2), (17, .if_icmp .ne 5), (20, .iconst 0), (21, .ireturn), (22, .aload_n 0), (23, .getfield 25), (26, .iload_n 1), (27, .iload_n 2), (28, .bastore), (29, .iconst 1), (30, .ireturn)]
def op_X8_guard (fu : Nat) : Nat → Kont → XL → List Value → XW → Instr → Option XO := opK 3 (rzOf (some .int)) fl_BrookStonesModel [] kl_BrookStonesModel k2_BrookStonesModel [(142, 2, 1, (U_X8_isCell fu))] [] []
def M_X8_guard (fu : Nat) (a0 : Nat) (a1 : Int32) (a2 : Int32) (w : XW) : Option XO :=
  cI (U_X8_isCell fu [.ref a0, .int a1] w) fun x2 w1 =>
  (if x2 = 0 then
    some (some (.int (-1 : Int32)), w1)
  else
    (gR w1 a0 7 10).bind fun r3 =>
    (aZ w1 r3 a1).bind fun x4 =>
    (if x4 = a2 then
      some (some (.int (0 : Int32)), w1)
    else
      (gR w1 a0 7 10).bind fun r5 =>
      (sZ w1 r5 a1 a2).bind fun w6 =>
      some (some (.int (1 : Int32)), w6)))
def U_X8_guard (fu : Nat) : Orc := fun as w => match as with
  | [.ref a0, .int a1, .int a2] => if isO w a0 7 = true then M_X8_guard fu a0 a1 a2 w else none
  | _ => none
def K_X8_guard (fu : Nat) (n : Nat) : Kont := fun pc ls st w => none
set_option maxRecDepth 100000 in
set_option maxHeartbeats 4000000 in
theorem E_X8_guard (fu : Nat) (a0 : Nat) (a1 : Int32) (a2 : Int32) (w : XW) : M_X8_guard fu a0 a1 a2 w = ev T_X8_guard (op_X8_guard fu) [] (K_X8_guard fu fu) 23 0 (lv_args 0 [.ref a0, .int a1, .int a2]) [] w := by
  rfl
theorem D_X8_guard (fu : Nat) : DS T_X8_guard (op_X8_guard fu) [] 23 (K_X8_guard fu) := by
  refine ⟨fun pc ls st w => rfl, fun n pc ls st w o h => ?_⟩
  cases h
theorem H_X8_guard (fu : Nat) : ∀ as w o, U_X8_guard fu as w = some o → ∃ a r, as = .ref a :: r ∧ r.length = 2 ∧ isO w a 7 = true := by
  intro as w o h
  unfold U_X8_guard at h
  split at h
  next =>
    split at h
    next hh => exact ⟨_, _, rfl, rfl, hh⟩
    next => cases h
  next => cases h
set_option maxRecDepth 100000 in
set_option maxHeartbeats 4000000 in
theorem S_X8_guard (fu : Nat) {l : Launch} {D : va_G} {cA : Nat → ClassId} {base b : Nat} : CS l D cA base b 2 y_X8_guard prog_10_method_17_code 3 (some .int) (U_X8_guard fu) ∧ OM (U_X8_guard fu) := by
  refine CS_of (d := 1) (y := y_X8_guard) (cc := prog_10_method_17_code) (nL := 3) (ret := (some .int)) (F := U_X8_guard fu) (fl := fl_BrookStonesModel) (nl := []) (kl := kl_BrookStonesModel) (k2 := k2_BrookStonesModel) (mv := [(142, 2, 1, (U_X8_isCell fu))]) (ms := []) (mi := []) (ini := false) hI_w hZ_w fl_BrookStonesModel_ok nil_all kl_BrookStonesModel_ok k2_BrookStonesModel_ok
    (cons_all (⟨⟨show (1 : Nat) ≠ 3 by decide, y_X8_isCell, prog_10_method_10_code, 2, (some .boolean), 1, "BrookStones", 7, TX8, 37, 1, (S_X8_isCell fu (l := l) (D := D) (cA := cA) (base := base) (b := b)).1, by decide, by decide, rfl, H_X8_isCell fu, rfl, mi_X8_isCell.1, mi_X8_isCell.2.1, mi_X8_isCell.2.2.1, mi_X8_isCell.2.2.2.1, mi_X8_isCell.2.2.2.2, Or.inl (tblG_of (i := 891) rfl rfl)⟩, (S_X8_isCell fu (l := l) (D := D) (cA := cA) (base := base) (b := b)).2⟩) (nil_all))
    (nil_all)
    (nil_all)
    (T := T_X8_guard) (by decide +kernel) (cut := []) (N := 23) (D_X8_guard fu) (by decide +kernel) (fun h => absurd h (by decide)) (fun as w o h => ?_)
  unfold U_X8_guard at h
  split at h
  next =>
    split at h
    next => exact ⟨Nat.le_of_ble_eq_true rfl, fu, (E_X8_guard fu _ _ _ w).symm.trans h⟩
    next => cases h
  next => cases h
def T_X0_isThere : List (Nat × Instr) := [(0, .aload_n 0), (1, .getfield 58), (4, .ifCond .le 7), (7, .iconst 1), (8, .goto 4), (11, .iconst 0), (12, .ireturn)]
def op_X0_isThere (fu : Nat) : Nat → Kont → XL → List Value → XW → Instr → Option XO := opK 1 (rzOf (some .boolean)) fl_BrookStones_Brook [] [] [] [] [] []
def M_X0_isThere (fu : Nat) (a0 : Nat) (w : XW) : Option XO :=
  (gI w a0 0 8).bind fun x1 =>
  (if 0 < x1 then
    retZ (1 : Int32) w
  else
    retZ (0 : Int32) w)
def U_X0_isThere (fu : Nat) : Orc := fun as w => match as with
  | [.ref a0] => if isO w a0 0 = true then M_X0_isThere fu a0 w else none
  | _ => none
def K_X0_isThere (fu : Nat) (n : Nat) : Kont := fun pc ls st w => none
set_option maxRecDepth 100000 in
set_option maxHeartbeats 4000000 in
theorem E_X0_isThere (fu : Nat) (a0 : Nat) (w : XW) : M_X0_isThere fu a0 w = ev T_X0_isThere (op_X0_isThere fu) [] (K_X0_isThere fu fu) 9 0 (lv_args 0 [.ref a0]) [] w := by
  rfl
theorem D_X0_isThere (fu : Nat) : DS T_X0_isThere (op_X0_isThere fu) [] 9 (K_X0_isThere fu) := by
  refine ⟨fun pc ls st w => rfl, fun n pc ls st w o h => ?_⟩
  cases h
theorem H_X0_isThere (fu : Nat) : ∀ as w o, U_X0_isThere fu as w = some o → ∃ a r, as = .ref a :: r ∧ r.length = 0 ∧ isO w a 0 = true := by
  intro as w o h
  unfold U_X0_isThere at h
  split at h
  next =>
    split at h
    next hh => exact ⟨_, _, rfl, rfl, hh⟩
    next => cases h
  next => cases h
set_option maxRecDepth 100000 in
set_option maxHeartbeats 4000000 in
theorem S_X0_isThere (fu : Nat) {l : Launch} {D : va_G} {cA : Nat → ClassId} {base b : Nat} : CS l D cA base b 1 y_X0_isThere prog_2_method_3_code 1 (some .boolean) (U_X0_isThere fu) ∧ OM (U_X0_isThere fu) := by
  refine CS_of (d := 0) (y := y_X0_isThere) (cc := prog_2_method_3_code) (nL := 1) (ret := (some .boolean)) (F := U_X0_isThere fu) (fl := fl_BrookStones_Brook) (nl := []) (kl := []) (k2 := []) (mv := []) (ms := []) (mi := []) (ini := false) hI_w hZ_w fl_BrookStones_Brook_ok nil_all nil_all nil_all
    (nil_all)
    (nil_all)
    (nil_all)
    (T := T_X0_isThere) (by decide +kernel) (cut := []) (N := 9) (D_X0_isThere fu) (by decide +kernel) (fun h => absurd h (by decide)) (fun as w o h => ?_)
  unfold U_X0_isThere at h
  split at h
  next =>
    split at h
    next => exact ⟨Nat.le_of_ble_eq_true rfl, fu, (E_X0_isThere fu _ w).symm.trans h⟩
    next => cases h
  next => cases h
def T_X7_water : List (Nat × Instr) := [(0, .iload_n 1), (1, .iconst 0), (2, .bipush 9), (4, .invokestatic 105), (7, .ifCond .ne 6), (10, .bipush (-2)), (12, .ireturn), (13, .aload_n 0), (14, .getfield 12), (17, .invokevirtual 109), (20, .ifCond .ne 6), (23, .bipush (-3)), (25, .ireturn), (26, .aload_n 0), (27, .getfield 12), (30, .getfield 98), (33, .istore_n 2), (34, .aload_n 0), (35, .getfield 12), (38, .iload_n 1), (39, .putfield 98), (42, .iload_n 2), (43, .ireturn)]
def op_X7_water (fu : Nat) : Nat → Kont → XL → List Value → XW → Instr → Option XO := opK 3 (rzOf (some .int)) fl_BrookStones nl_BrookStones [] k2_BrookStones [(109, 1, 1, (U_X0_isThere fu))] [(105, 3, 1, (U_X7_isWithin fu))] []
def M_X7_water (fu : Nat) (a0 : Nat) (a1 : Int32) (w : XW) : Option XO :=
  cI (U_X7_isWithin fu [.int a1, .int (0 : Int32), .int (9 : Int32)] w) fun x2 w1 =>
  (if x2 = 0 then
    some (some (.int (-2 : Int32)), w1)
  else
    (gR w1 a0 6 0).bind fun r3 =>
    cI (U_X0_isThere fu [.ref r3] w1) fun x5 w4 =>
    (if x5 = 0 then
      some (some (.int (-3 : Int32)), w4)
    else
      (gR w4 a0 6 0).bind fun r6 =>
      (gI w4 r6 0 11).bind fun x7 =>
      (gR w4 a0 6 0).bind fun r8 =>
      (pF w4 r8 0 11 (.int a1)).bind fun w9 =>
      some (some (.int x7), w9)))
def U_X7_water (fu : Nat) : Orc := fun as w => match as with
  | [.ref a0, .int a1] => if isO w a0 6 = true then M_X7_water fu a0 a1 w else none
  | _ => none
def K_X7_water (fu : Nat) (n : Nat) : Kont := fun pc ls st w => none
set_option maxRecDepth 100000 in
set_option maxHeartbeats 4000000 in
theorem E_X7_water (fu : Nat) (a0 : Nat) (a1 : Int32) (w : XW) : M_X7_water fu a0 a1 w = ev T_X7_water (op_X7_water fu) [] (K_X7_water fu fu) 25 0 (lv_args 0 [.ref a0, .int a1]) [] w := by
  rfl
theorem D_X7_water (fu : Nat) : DS T_X7_water (op_X7_water fu) [] 25 (K_X7_water fu) := by
  refine ⟨fun pc ls st w => rfl, fun n pc ls st w o h => ?_⟩
  cases h
theorem H_X7_water (fu : Nat) : ∀ as w o, U_X7_water fu as w = some o → ∃ a r, as = .ref a :: r ∧ r.length = 1 ∧ isO w a 6 = true := by
  intro as w o h
  unfold U_X7_water at h
  split at h
  next =>
    split at h
    next hh => exact ⟨_, _, rfl, rfl, hh⟩
    next => cases h
  next => cases h
set_option maxRecDepth 100000 in
set_option maxHeartbeats 4000000 in
theorem S_X7_water (fu : Nat) {l : Launch} {D : va_G} {cA : Nat → ClassId} {base b : Nat} : CS l D cA base b 2 y_X7_water prog_1_method_5_code 3 (some .int) (U_X7_water fu) ∧ OM (U_X7_water fu) := by
  refine CS_of (d := 1) (y := y_X7_water) (cc := prog_1_method_5_code) (nL := 3) (ret := (some .int)) (F := U_X7_water fu) (fl := fl_BrookStones) (nl := nl_BrookStones) (kl := []) (k2 := k2_BrookStones) (mv := [(109, 1, 1, (U_X0_isThere fu))]) (ms := [(105, 3, 1, (U_X7_isWithin fu))]) (mi := []) (ini := false) hI_w hZ_w fl_BrookStones_ok nl_BrookStones_ok nil_all k2_BrookStones_ok
    (cons_all (⟨⟨show (1 : Nat) ≠ 3 by decide, y_X0_isThere, prog_2_method_3_code, 1, (some .boolean), 1, "BrookStones", 0, TX0, 15, 0, (S_X0_isThere fu (l := l) (D := D) (cA := cA) (base := base) (b := b)).1, by decide, by decide, rfl, H_X0_isThere fu, rfl, mi_X0_isThere.1, mi_X0_isThere.2.1, mi_X0_isThere.2.2.1, mi_X0_isThere.2.2.2.1, mi_X0_isThere.2.2.2.2, Or.inr (tblN_of (i := 334) rfl rfl)⟩, (S_X0_isThere fu (l := l) (D := D) (cA := cA) (base := base) (b := b)).2⟩) (nil_all))
    (cons_all (⟨Or.inl ⟨show (1 : Nat) ≠ 3 by decide, y_X7_isWithin, prog_1_method_46_code, 3, (some .boolean), 1, "BrookStones", (S_X7_isWithin fu (l := l) (D := D) (cA := cA) (base := base) (b := b)).1, by decide, by decide, mi_X7_isWithin.1, mi_X7_isWithin.2.1, mi_X7_isWithin.2.2.1, mi_X7_isWithin.2.2.2, Or.inl (tblG_of (i := 333) rfl rfl)⟩, (S_X7_isWithin fu (l := l) (D := D) (cA := cA) (base := base) (b := b)).2⟩) (nil_all))
    (nil_all)
    (T := T_X7_water) (by decide +kernel) (cut := []) (N := 25) (D_X7_water fu) (by decide +kernel) (fun h => absurd h (by decide)) (fun as w o h => ?_)
  unfold U_X7_water at h
  split at h
  next =>
    split at h
    next => exact ⟨Nat.le_of_ble_eq_true rfl, fu, (E_X7_water fu _ _ w).symm.trans h⟩
    next => cases h
  next => cases h
def T_X8_water : List (Nat × Instr) := [(0, .iload_n 1), (1, .iconst 0), (2, .bipush 9), (4, .invokestatic 89), (7, .ifCond .ne 6), (10, .bipush (-2)), (12, .ireturn), (13, .aload_n 0), (14, .getfield 93), (17, .ifCond .ne 6), (20, .bipush (-3)), (22, .ireturn), (23, .aload_n 0), (24, .getfield 126), (27, .istore_n 2), (28, .aload_n 0), (29, .iload_n 1), (30, .putfield 126), (33, .iload_n 2), (34, .ireturn)]
def op_X8_water (fu : Nat) : Nat → Kont → XL → List Value → XW → Instr → Option XO := opK 3 (rzOf (some .int)) fl_BrookStonesModel [] kl_BrookStonesModel k2_BrookStonesModel [] [(89, 3, 1, (U_X8_within fu))] []
def M_X8_water (fu : Nat) (a0 : Nat) (a1 : Int32) (w : XW) : Option XO :=
  cI (U_X8_within fu [.int a1, .int (0 : Int32), .int (9 : Int32)] w) fun x2 w1 =>
  (if x2 = 0 then
    some (some (.int (-2 : Int32)), w1)
  else
    (gI w1 a0 7 5).bind fun x3 =>
    (if x3 = 0 then
      some (some (.int (-3 : Int32)), w1)
    else
      (gI w1 a0 7 7).bind fun x4 =>
      (pF w1 a0 7 7 (.int a1)).bind fun w5 =>
      some (some (.int x4), w5)))
def U_X8_water (fu : Nat) : Orc := fun as w => match as with
  | [.ref a0, .int a1] => if isO w a0 7 = true then M_X8_water fu a0 a1 w else none
  | _ => none
def K_X8_water (fu : Nat) (n : Nat) : Kont := fun pc ls st w => none
set_option maxRecDepth 100000 in
set_option maxHeartbeats 4000000 in
theorem E_X8_water (fu : Nat) (a0 : Nat) (a1 : Int32) (w : XW) : M_X8_water fu a0 a1 w = ev T_X8_water (op_X8_water fu) [] (K_X8_water fu fu) 22 0 (lv_args 0 [.ref a0, .int a1]) [] w := by
  rfl
theorem D_X8_water (fu : Nat) : DS T_X8_water (op_X8_water fu) [] 22 (K_X8_water fu) := by
  refine ⟨fun pc ls st w => rfl, fun n pc ls st w o h => ?_⟩
  cases h
theorem H_X8_water (fu : Nat) : ∀ as w o, U_X8_water fu as w = some o → ∃ a r, as = .ref a :: r ∧ r.length = 1 ∧ isO w a 7 = true := by
  intro as w o h
  unfold U_X8_water at h
  split at h
  next =>
    split at h
    next hh => exact ⟨_, _, rfl, rfl, hh⟩
    next => cases h
  next => cases h
set_option maxRecDepth 100000 in
set_option maxHeartbeats 4000000 in
theorem S_X8_water (fu : Nat) {l : Launch} {D : va_G} {cA : Nat → ClassId} {base b : Nat} : CS l D cA base b 2 y_X8_water prog_10_method_18_code 3 (some .int) (U_X8_water fu) ∧ OM (U_X8_water fu) := by
  refine CS_of (d := 1) (y := y_X8_water) (cc := prog_10_method_18_code) (nL := 3) (ret := (some .int)) (F := U_X8_water fu) (fl := fl_BrookStonesModel) (nl := []) (kl := kl_BrookStonesModel) (k2 := k2_BrookStonesModel) (mv := []) (ms := [(89, 3, 1, (U_X8_within fu))]) (mi := []) (ini := false) hI_w hZ_w fl_BrookStonesModel_ok nil_all kl_BrookStonesModel_ok k2_BrookStonesModel_ok
    (nil_all)
    (cons_all (⟨Or.inl ⟨show (1 : Nat) ≠ 3 by decide, y_X8_within, prog_10_method_5_code, 3, (some .boolean), 1, "BrookStones", (S_X8_within fu (l := l) (D := D) (cA := cA) (base := base) (b := b)).1, by decide, by decide, mi_X8_within.1, mi_X8_within.2.1, mi_X8_within.2.2.1, mi_X8_within.2.2.2, Or.inl (tblG_of (i := 861) rfl rfl)⟩, (S_X8_within fu (l := l) (D := D) (cA := cA) (base := base) (b := b)).2⟩) (nil_all))
    (nil_all)
    (T := T_X8_water) (by decide +kernel) (cut := []) (N := 22) (D_X8_water fu) (by decide +kernel) (fun h => absurd h (by decide)) (fun as w o h => ?_)
  unfold U_X8_water at h
  split at h
  next =>
    split at h
    next => exact ⟨Nat.le_of_ble_eq_true rfl, fu, (E_X8_water fu _ _ w).symm.trans h⟩
    next => cases h
  next => cases h
def T_X0_addStone : List (Nat × Instr) := [(0, .aload_n 0), (1, .getfield 21), (4, .aload_n 0), (5, .getfield 49), (8, .iload_n 1), (9, .iastore), (10, .aload_n 0), (11, .getfield 24), (14, .aload_n 0), (15, .getfield 49), (18, .iload_n 2), (19, .iastore), (20, .aload_n 0), (21, .getfield 27), (24, .aload_n 0), (25, .getfield 49), (28, .iload_n 3), (29, .iastore), (30, .aload_n 0), (31, .getfield 30), (34, .aload_n 0), (35, .getfield 49), (38, .iload 4), (40, .iastore), (41, .aload_n 0), (42, .dup), (43, .getfield 49), (46, .iconst 1), (47, .iadd), (48, .putfield 49), (51, .aload_n 0), (52, .getfield 49), (55, .iconst 1), (56, .isub), (57, .ireturn)]
def op_X0_addStone (fu : Nat) : Nat → Kont → XL → List Value → XW → Instr → Option XO := opK 5 (rzOf (some .int)) fl_BrookStones_Brook [] [] [] [] [] []
def M_X0_addStone (fu : Nat) (a0 : Nat) (a1 : Int32) (a2 : Int32) (a3 : Int32) (a4 : Int32) (w : XW) : Option XO :=
  (gR w a0 0 3).bind fun r1 =>
  (gI w a0 0 12).bind fun x2 =>
  (sI w r1 x2 a1).bind fun w3 =>
  (gR w3 a0 0 4).bind fun r4 =>
  (gI w3 a0 0 12).bind fun x5 =>
  (sI w3 r4 x5 a2).bind fun w6 =>
  (gR w6 a0 0 5).bind fun r7 =>
  (gI w6 a0 0 12).bind fun x8 =>
  (sI w6 r7 x8 a3).bind fun w9 =>
  (gR w9 a0 0 6).bind fun r10 =>
  (gI w9 a0 0 12).bind fun x11 =>
  (sI w9 r10 x11 a4).bind fun w12 =>
  (gI w12 a0 0 12).bind fun x13 =>
  (pF w12 a0 0 12 (.int (x13 + (1 : Int32)))).bind fun w14 =>
  (gI w14 a0 0 12).bind fun x15 =>
  some (some (.int (x15 - (1 : Int32))), w14)
def U_X0_addStone (fu : Nat) : Orc := fun as w => match as with
  | [.ref a0, .int a1, .int a2, .int a3, .int a4] => if isO w a0 0 = true then M_X0_addStone fu a0 a1 a2 a3 a4 w else none
  | _ => none
def K_X0_addStone (fu : Nat) (n : Nat) : Kont := fun pc ls st w => none
set_option maxRecDepth 100000 in
set_option maxHeartbeats 4000000 in
theorem E_X0_addStone (fu : Nat) (a0 : Nat) (a1 : Int32) (a2 : Int32) (a3 : Int32) (a4 : Int32) (w : XW) : M_X0_addStone fu a0 a1 a2 a3 a4 w = ev T_X0_addStone (op_X0_addStone fu) [] (K_X0_addStone fu fu) 37 0 (lv_args 0 [.ref a0, .int a1, .int a2, .int a3, .int a4]) [] w := by
  rfl
theorem D_X0_addStone (fu : Nat) : DS T_X0_addStone (op_X0_addStone fu) [] 37 (K_X0_addStone fu) := by
  refine ⟨fun pc ls st w => rfl, fun n pc ls st w o h => ?_⟩
  cases h
theorem H_X0_addStone (fu : Nat) : ∀ as w o, U_X0_addStone fu as w = some o → ∃ a r, as = .ref a :: r ∧ r.length = 4 ∧ isO w a 0 = true := by
  intro as w o h
  unfold U_X0_addStone at h
  split at h
  next =>
    split at h
    next hh => exact ⟨_, _, rfl, rfl, hh⟩
    next => cases h
  next => cases h
set_option maxRecDepth 100000 in
set_option maxHeartbeats 4000000 in
theorem S_X0_addStone (fu : Nat) {l : Launch} {D : va_G} {cA : Nat → ClassId} {base b : Nat} : CS l D cA base b 1 y_X0_addStone prog_2_method_7_code 5 (some .int) (U_X0_addStone fu) ∧ OM (U_X0_addStone fu) := by
  refine CS_of (d := 0) (y := y_X0_addStone) (cc := prog_2_method_7_code) (nL := 5) (ret := (some .int)) (F := U_X0_addStone fu) (fl := fl_BrookStones_Brook) (nl := []) (kl := []) (k2 := []) (mv := []) (ms := []) (mi := []) (ini := false) hI_w hZ_w fl_BrookStones_Brook_ok nil_all nil_all nil_all
    (nil_all)
    (nil_all)
    (nil_all)
    (T := T_X0_addStone) (by decide +kernel) (cut := []) (N := 37) (D_X0_addStone fu) (by decide +kernel) (fun h => absurd h (by decide)) (fun as w o h => ?_)
  unfold U_X0_addStone at h
  split at h
  next =>
    split at h
    next => exact ⟨Nat.le_of_ble_eq_true rfl, fu, (E_X0_addStone fu _ _ _ _ _ w).symm.trans h⟩
    next => cases h
  next => cases h
