section LW
variable (fu n : Nat)
theorem L_0 (a0 : Nat) (a1 : Nat) (a2 : Nat) (a3 : Int32) (w : XW) : (F_L_law fu (n + 1)).1 a0 a1 a2 a3 w =
    (aL w a0).bind fun x1 =>
    (if (x1 - (7 : Int32)) < a3 then
      retZ (1 : Int32) w
    else
      (aI w a0 a3).bind fun x2 =>
      (if (x2 &&& (63 : Int32)) = (0 : Int32) then
        (F_L_law fu n).2.1 a0 a1 a2 a3 w
      else
      (if (x2 &&& (63 : Int32)) = (1 : Int32) then
        (F_L_law fu n).2.2.1 a0 a1 a2 a3 w
      else
      (if (x2 &&& (63 : Int32)) = (2 : Int32) then
        (F_L_law fu n).2.2.2.1 a0 a1 a2 a3 w
      else
      (if (x2 &&& (63 : Int32)) = (3 : Int32) then
        (F_L_law fu n).2.2.2.2.2.1 a0 a1 a2 a3 w
      else
      (if (x2 &&& (63 : Int32)) = (4 : Int32) then
        (F_L_law fu n).2.2.2.2.2.2.1 a0 a1 a2 a3 w
      else
      (if (x2 &&& (63 : Int32)) = (5 : Int32) then
        (F_L_law fu n).2.2.2.2.2.2.2.1 a0 a1 a2 a3 w
      else
      (if (x2 &&& (63 : Int32)) = (6 : Int32) then
        (F_L_law fu n).2.2.2.2.2.2.2.2.1 a0 a1 a2 a3 w
      else
      (if (x2 &&& (63 : Int32)) = (7 : Int32) then
        (F_L_law fu n).2.2.2.2.2.2.2.2.2.1 a0 a1 a2 a3 w
      else
      (if (x2 &&& (63 : Int32)) = (8 : Int32) then
        (F_L_law fu n).2.2.2.2.2.2.2.2.2.2.1 a0 a1 a2 a3 w
      else
      (if (x2 &&& (63 : Int32)) = (9 : Int32) then
        (F_L_law fu n).2.2.2.2.2.2.2.2.2.2.2.1 a0 a1 a2 a3 w
      else
      (if (x2 &&& (63 : Int32)) = (10 : Int32) then
        (F_L_law fu n).2.2.2.2.2.2.2.2.2.2.2.2.1 a0 a1 a2 a3 w
      else
      (if (x2 &&& (63 : Int32)) = (11 : Int32) then
        (F_L_law fu n).2.2.2.2.2.2.2.2.2.2.2.2.2.2.1 a0 a1 a2 a3 w
      else
      (if (x2 &&& (63 : Int32)) = (12 : Int32) then
        (F_L_law fu n).2.2.2.2.2.2.2.2.2.2.2.2.2.2.2.1 a0 a1 a2 a3 w
      else
      (if (x2 &&& (63 : Int32)) = (13 : Int32) then
        (F_L_law fu n).2.2.2.2.2.2.2.2.2.2.2.2.2.2.2.2.2.1 a0 a1 a2 a3 w
      else
      (if (x2 &&& (63 : Int32)) = (14 : Int32) then
        (F_L_law fu n).2.2.2.2.2.2.2.2.2.2.2.2.2.2.2.2.2.2.1 a0 a1 a2 a3 w
      else
      (if (x2 &&& (63 : Int32)) = (15 : Int32) then
        (F_L_law fu n).2.2.2.2.2.2.2.2.2.2.2.2.2.2.2.2.2.2.2.1 a0 a1 a2 a3 w
      else
      (if (x2 &&& (63 : Int32)) = (16 : Int32) then
        (F_L_law fu n).2.2.2.2.2.2.2.2.2.2.2.2.2.2.2.2.2.2.2.2.1 a0 a1 a2 a3 w
      else
      (if (x2 &&& (63 : Int32)) = (17 : Int32) then
        (F_L_law fu n).2.2.2.2.2.2.2.2.2.2.2.2.2.2.2.2.2.2.2.2.2.1 a0 a1 a2 a3 w
      else
      (if (x2 &&& (63 : Int32)) = (18 : Int32) then
        (F_L_law fu n).2.2.2.2.2.2.2.2.2.2.2.2.2.2.2.2.2.2.2.2.2.2.1 a0 a1 a2 a3 w
      else
      (if (x2 &&& (63 : Int32)) = (19 : Int32) then
        (F_L_law fu n).2.2.2.2.2.2.2.2.2.2.2.2.2.2.2.2.2.2.2.2.2.2.2.1 a0 a1 a2 a3 w
      else
      (if (x2 &&& (63 : Int32)) = (20 : Int32) then
        (F_L_law fu n).2.2.2.2.2.2.2.2.2.2.2.2.2.2.2.2.2.2.2.2.2.2.2.2.1 a0 a1 a2 a3 w
      else
      (if (x2 &&& (63 : Int32)) = (21 : Int32) then
        (F_L_law fu n).2.2.2.2.2.2.2.2.2.2.2.2.2.2.2.2.2.2.2.2.2.2.2.2.2.1 a0 a1 a2 a3 w
      else
      (if (x2 &&& (63 : Int32)) = (22 : Int32) then
        (F_L_law fu n).2.2.2.2.2.2.2.2.2.2.2.2.2.2.2.2.2.2.2.2.2.2.2.2.2.2.1 a0 a1 a2 a3 w
      else
      (if (x2 &&& (63 : Int32)) = (23 : Int32) then
        (F_L_law fu n).2.2.2.2.2.2.2.2.2.2.2.2.2.2.2.2.2.2.2.2.2.2.2.2.2.2.2.1 a0 a1 a2 a3 w
      else
      (if (x2 &&& (63 : Int32)) = (24 : Int32) then
        (F_L_law fu n).2.2.2.2.2.2.2.2.2.2.2.2.2.2.2.2.2.2.2.2.2.2.2.2.2.2.2.2.1 a0 a1 a2 a3 w
      else
      (if (x2 &&& (63 : Int32)) = (25 : Int32) then
        (F_L_law fu n).2.2.2.2.2.2.2.2.2.2.2.2.2.2.2.2.2.2.2.2.2.2.2.2.2.2.2.2.2.1 a0 a1 a2 a3 w
      else
      (if (x2 &&& (63 : Int32)) = (26 : Int32) then
        (F_L_law fu n).2.2.2.2.2.2.2.2.2.2.2.2.2.2.2.2.2.2.2.2.2.2.2.2.2.2.2.2.2.2.1 a0 a1 a2 a3 w
      else
      (if (x2 &&& (63 : Int32)) = (27 : Int32) then
        (F_L_law fu n).2.2.2.2.2.2.2.2.2.2.2.2.2.2.2.2.2.2.2.2.2.2.2.2.2.2.2.2.2.2.2.1 a0 a1 a2 a3 w
      else
      (if (x2 &&& (63 : Int32)) = (28 : Int32) then
        (F_L_law fu n).2.2.2.2.2.2.2.2.2.2.2.2.2.2.2.2.2.2.2.2.2.2.2.2.2.2.2.2.2.2.2.2.1 a0 a1 a2 a3 w
      else
      (if (x2 &&& (63 : Int32)) = (29 : Int32) then
        (F_L_law fu n).2.2.2.2.2.2.2.2.2.2.2.2.2.2.2.2.2.2.2.2.2.2.2.2.2.2.2.2.2.2.2.2.2.1 a0 a1 a2 a3 w
      else
      (if (x2 &&& (63 : Int32)) = (30 : Int32) then
        (F_L_law fu n).2.2.2.2.2.2.2.2.2.2.2.2.2.2.2.2.2.2.2.2.2.2.2.2.2.2.2.2.2.2.2.2.2.2.1 a0 a1 a2 a3 w
      else
      (if (x2 &&& (63 : Int32)) = (31 : Int32) then
        (F_L_law fu n).2.2.2.2.2.2.2.2.2.2.2.2.2.2.2.2.2.2.2.2.2.2.2.2.2.2.2.2.2.2.2.2.2.2.2.1 a0 a1 a2 a3 w
      else
      (if (x2 &&& (63 : Int32)) = (32 : Int32) then
        (F_L_law fu n).2.2.2.2.2.2.2.2.2.2.2.2.2.2.2.2.2.2.2.2.2.2.2.2.2.2.2.2.2.2.2.2.2.2.2.2.1 a0 a1 a2 a3 w
      else
      (if (x2 &&& (63 : Int32)) = (33 : Int32) then
        (F_L_law fu n).2.2.2.2.2.2.2.2.2.2.2.2.2.2.2.2.2.2.2.2.2.2.2.2.2.2.2.2.2.2.2.2.2.2.2.2.2.1 a0 a1 a2 a3 w
      else
      (if (x2 &&& (63 : Int32)) = (34 : Int32) then
        (F_L_law fu n).2.2.2.2.2.2.2.2.2.2.2.2.2.2.2.2.2.2.2.2.2.2.2.2.2.2.2.2.2.2.2.2.2.2.2.2.2.2.1 a0 a1 a2 a3 w
      else
      (if (x2 &&& (63 : Int32)) = (35 : Int32) then
        (F_L_law fu n).2.2.2.2.2.2.2.2.2.2.2.2.2.2.2.2.2.2.2.2.2.2.2.2.2.2.2.2.2.2.2.2.2.2.2.2.2.2.2.1 a0 a1 a2 a3 w
      else
      (F_L_law fu n).2.2.2.2.2.2.2.2.2.2.2.2.2.2.2.2.2.2.2.2.2.2.2.2.2.2.2.2.2.2.2.2.2.2.2.2.2.2.2.2 a0 a1 a2 a3 w))))))))))))))))))))))))))))))))))))) := by
  rw [F_L_law]
theorem L_1 (a0 : Nat) (a1 : Nat) (a2 : Nat) (a3 : Int32) (w : XW) : (F_L_law fu (n + 1)).2.1 a0 a1 a2 a3 w =
    (aI w a0 (a3 + (1 : Int32))).bind fun x3 =>
    (aI w a0 (a3 + (2 : Int32))).bind fun x4 =>
    (aI w a0 (a3 + (3 : Int32))).bind fun x5 =>
    (aI w a0 (a3 + (4 : Int32))).bind fun x6 =>
    cI (U_X7_brook fu [.ref a1, .int x3, .int x4, .int x5, .int x6] w) fun x8 w7 =>
    (aI w7 a0 (a3 + (1 : Int32))).bind fun x9 =>
    (aI w7 a0 (a3 + (2 : Int32))).bind fun x10 =>
    (aI w7 a0 (a3 + (3 : Int32))).bind fun x11 =>
    (aI w7 a0 (a3 + (4 : Int32))).bind fun x12 =>
    cI (U_X8_brook fu [.ref a2, .int x9, .int x10, .int x11, .int x12] w7) fun x14 w13 =>
    (if x8 = x14 then
      (F_L_law fu n).2.2.2.2.2.2.2.2.2.2.2.2.2.2.2.2.2.2.2.2.2.2.2.2.2.2.2.2.2.2.2.2.2.2.2.2.2.2.2.2 a0 a1 a2 a3 w13
    else
      retZ (0 : Int32) w13) := by
  rw [F_L_law]
theorem L_2 (a0 : Nat) (a1 : Nat) (a2 : Nat) (a3 : Int32) (w : XW) : (F_L_law fu (n + 1)).2.2.1 a0 a1 a2 a3 w =
    (aI w a0 (a3 + (1 : Int32))).bind fun x15 =>
    (aI w a0 (a3 + (2 : Int32))).bind fun x16 =>
    cI (U_X7_ofCell fu [.ref a1, .int x15, .int x16] w) fun x18 w17 =>
    (aI w17 a0 (a3 + (1 : Int32))).bind fun x19 =>
    (aI w17 a0 (a3 + (2 : Int32))).bind fun x20 =>
    cI (U_X8_ofCell fu [.ref a2, .int x19, .int x20] w17) fun x22 w21 =>
    (if x18 = x22 then
      (F_L_law fu n).2.2.2.2.2.2.2.2.2.2.2.2.2.2.2.2.2.2.2.2.2.2.2.2.2.2.2.2.2.2.2.2.2.2.2.2.2.2.2.2 a0 a1 a2 a3 w21
    else
      retZ (0 : Int32) w21) := by
  rw [F_L_law]
theorem L_3 (a0 : Nat) (a1 : Nat) (a2 : Nat) (a3 : Int32) (w : XW) : (F_L_law fu (n + 1)).2.2.2.1 a0 a1 a2 a3 w =
    (aI w a0 (a3 + (1 : Int32))).bind fun x23 =>
    (aI w a0 (a3 + (2 : Int32))).bind fun x24 =>
    (if x24 = 0 then
      (F_L_law fu n).2.2.2.2.1 a0 a1 a2 a3 (0 : Int32) x23 a1 w
    else
      (F_L_law fu n).2.2.2.2.1 a0 a1 a2 a3 (1 : Int32) x23 a1 w) := by
  rw [F_L_law]
theorem L_4 (a0 : Nat) (a1 : Nat) (a2 : Nat) (a3 : Int32) (s0 : Int32) (s1 : Int32) (s2 : Nat) (w : XW) : (F_L_law fu (n + 1)).2.2.2.2.1 a0 a1 a2 a3 s0 s1 s2 w =
    cI (U_X7_guard fu [.ref s2, .int s1, .int s0] w) fun x26 w25 =>
    (aI w25 a0 (a3 + (1 : Int32))).bind fun x27 =>
    (aI w25 a0 (a3 + (2 : Int32))).bind fun x28 =>
    (if x28 = 0 then
      cI (U_X8_guard fu [.ref a2, .int x27, .int (0 : Int32)] w25) fun x30 w29 =>
      (if x26 = x30 then
        (F_L_law fu n).2.2.2.2.2.2.2.2.2.2.2.2.2.2.2.2.2.2.2.2.2.2.2.2.2.2.2.2.2.2.2.2.2.2.2.2.2.2.2.2 a0 a1 a2 a3 w29
      else
        retZ (0 : Int32) w29)
    else
      cI (U_X8_guard fu [.ref a2, .int x27, .int (1 : Int32)] w25) fun x32 w31 =>
      (if x26 = x32 then
        (F_L_law fu n).2.2.2.2.2.2.2.2.2.2.2.2.2.2.2.2.2.2.2.2.2.2.2.2.2.2.2.2.2.2.2.2.2.2.2.2.2.2.2.2 a0 a1 a2 a3 w31
      else
        retZ (0 : Int32) w31)) := by
  rw [F_L_law]
theorem L_5 (a0 : Nat) (a1 : Nat) (a2 : Nat) (a3 : Int32) (w : XW) : (F_L_law fu (n + 1)).2.2.2.2.2.1 a0 a1 a2 a3 w =
    (aI w a0 (a3 + (1 : Int32))).bind fun x33 =>
    cI (U_X7_water fu [.ref a1, .int x33] w) fun x35 w34 =>
    (aI w34 a0 (a3 + (1 : Int32))).bind fun x36 =>
    cI (U_X8_water fu [.ref a2, .int x36] w34) fun x38 w37 =>
    (if x35 = x38 then
      (F_L_law fu n).2.2.2.2.2.2.2.2.2.2.2.2.2.2.2.2.2.2.2.2.2.2.2.2.2.2.2.2.2.2.2.2.2.2.2.2.2.2.2.2 a0 a1 a2 a3 w37
    else
      retZ (0 : Int32) w37) := by
  rw [F_L_law]
theorem L_6 (a0 : Nat) (a1 : Nat) (a2 : Nat) (a3 : Int32) (w : XW) : (F_L_law fu (n + 1)).2.2.2.2.2.2.1 a0 a1 a2 a3 w =
    (aI w a0 (a3 + (1 : Int32))).bind fun x39 =>
    (aI w a0 (a3 + (2 : Int32))).bind fun x40 =>
    (aI w a0 (a3 + (3 : Int32))).bind fun x41 =>
    (aI w a0 (a3 + (4 : Int32))).bind fun x42 =>
    cI (U_X7_stone fu [.ref a1, .int x39, .int x40, .int x41, .int x42] w) fun x44 w43 =>
    (aI w43 a0 (a3 + (1 : Int32))).bind fun x45 =>
    (aI w43 a0 (a3 + (2 : Int32))).bind fun x46 =>
    (aI w43 a0 (a3 + (3 : Int32))).bind fun x47 =>
    (aI w43 a0 (a3 + (4 : Int32))).bind fun x48 =>
    cI (U_X8_stone fu [.ref a2, .int x45, .int x46, .int x47, .int x48] w43) fun x50 w49 =>
    (if x44 = x50 then
      (F_L_law fu n).2.2.2.2.2.2.2.2.2.2.2.2.2.2.2.2.2.2.2.2.2.2.2.2.2.2.2.2.2.2.2.2.2.2.2.2.2.2.2.2 a0 a1 a2 a3 w49
    else
      retZ (0 : Int32) w49) := by
  rw [F_L_law]
theorem L_7 (a0 : Nat) (a1 : Nat) (a2 : Nat) (a3 : Int32) (w : XW) : (F_L_law fu (n + 1)).2.2.2.2.2.2.2.1 a0 a1 a2 a3 w =
    (aI w a0 (a3 + (1 : Int32))).bind fun x51 =>
    (aI w a0 (a3 + (2 : Int32))).bind fun x52 =>
    cI (U_X7_ofStone fu [.ref a1, .int x51, .int x52] w) fun x54 w53 =>
    (aI w53 a0 (a3 + (1 : Int32))).bind fun x55 =>
    (aI w53 a0 (a3 + (2 : Int32))).bind fun x56 =>
    cI (U_X8_ofStone fu [.ref a2, .int x55, .int x56] w53) fun x58 w57 =>
    (if x54 = x58 then
      (F_L_law fu n).2.2.2.2.2.2.2.2.2.2.2.2.2.2.2.2.2.2.2.2.2.2.2.2.2.2.2.2.2.2.2.2.2.2.2.2.2.2.2.2 a0 a1 a2 a3 w57
    else
      retZ (0 : Int32) w57) := by
  rw [F_L_law]
theorem L_8 (a0 : Nat) (a1 : Nat) (a2 : Nat) (a3 : Int32) (w : XW) : (F_L_law fu (n + 1)).2.2.2.2.2.2.2.2.1 a0 a1 a2 a3 w =
    (aI w a0 (a3 + (1 : Int32))).bind fun x59 =>
    (aI w a0 (a3 + (2 : Int32))).bind fun x60 =>
    cI (U_X7_set fu [.ref a1, .int x59, .int x60] w) fun x62 w61 =>
    (aI w61 a0 (a3 + (1 : Int32))).bind fun x63 =>
    (aI w61 a0 (a3 + (2 : Int32))).bind fun x64 =>
    cI (U_X8_set fu [.ref a2, .int x63, .int x64] w61) fun x66 w65 =>
    (if x62 = x66 then
      (F_L_law fu n).2.2.2.2.2.2.2.2.2.2.2.2.2.2.2.2.2.2.2.2.2.2.2.2.2.2.2.2.2.2.2.2.2.2.2.2.2.2.2.2 a0 a1 a2 a3 w65
    else
      retZ (0 : Int32) w65) := by
  rw [F_L_law]
theorem L_9 (a0 : Nat) (a1 : Nat) (a2 : Nat) (a3 : Int32) (w : XW) : (F_L_law fu (n + 1)).2.2.2.2.2.2.2.2.2.1 a0 a1 a2 a3 w =
    (aI w a0 (a3 + (1 : Int32))).bind fun x67 =>
    (aI w a0 (a3 + (2 : Int32))).bind fun x68 =>
    cI (U_X7_work fu [.ref a1, .int x67, .int x68] w) fun x70 w69 =>
    (aI w69 a0 (a3 + (1 : Int32))).bind fun x71 =>
    (aI w69 a0 (a3 + (2 : Int32))).bind fun x72 =>
    cI (U_X8_work fu [.ref a2, .int x71, .int x72] w69) fun x74 w73 =>
    (if x70 = x74 then
      (F_L_law fu n).2.2.2.2.2.2.2.2.2.2.2.2.2.2.2.2.2.2.2.2.2.2.2.2.2.2.2.2.2.2.2.2.2.2.2.2.2.2.2.2 a0 a1 a2 a3 w73
    else
      retZ (0 : Int32) w73) := by
  rw [F_L_law]
theorem L_10 (a0 : Nat) (a1 : Nat) (a2 : Nat) (a3 : Int32) (w : XW) : (F_L_law fu (n + 1)).2.2.2.2.2.2.2.2.2.2.1 a0 a1 a2 a3 w =
    (aI w a0 (a3 + (1 : Int32))).bind fun x75 =>
    cI (U_X7_walker fu [.ref a1, .int x75] w) fun x77 w76 =>
    (aI w76 a0 (a3 + (1 : Int32))).bind fun x78 =>
    cI (U_X8_walker fu [.ref a2, .int x78] w76) fun x80 w79 =>
    (if x77 = x80 then
      (F_L_law fu n).2.2.2.2.2.2.2.2.2.2.2.2.2.2.2.2.2.2.2.2.2.2.2.2.2.2.2.2.2.2.2.2.2.2.2.2.2.2.2.2 a0 a1 a2 a3 w79
    else
      retZ (0 : Int32) w79) := by
  rw [F_L_law]
theorem L_11 (a0 : Nat) (a1 : Nat) (a2 : Nat) (a3 : Int32) (w : XW) : (F_L_law fu (n + 1)).2.2.2.2.2.2.2.2.2.2.2.1 a0 a1 a2 a3 w =
    (aI w a0 (a3 + (1 : Int32))).bind fun x81 =>
    cI (U_X7_stride fu [.ref a1, .int x81] w) fun x83 w82 =>
    (aI w82 a0 (a3 + (1 : Int32))).bind fun x84 =>
    cI (U_X8_stride fu [.ref a2, .int x84] w82) fun x86 w85 =>
    (if x83 = x86 then
      (F_L_law fu n).2.2.2.2.2.2.2.2.2.2.2.2.2.2.2.2.2.2.2.2.2.2.2.2.2.2.2.2.2.2.2.2.2.2.2.2.2.2.2.2 a0 a1 a2 a3 w85
    else
      retZ (0 : Int32) w85) := by
  rw [F_L_law]
theorem L_12 (a0 : Nat) (a1 : Nat) (a2 : Nat) (a3 : Int32) (w : XW) : (F_L_law fu (n + 1)).2.2.2.2.2.2.2.2.2.2.2.2.1 a0 a1 a2 a3 w =
    (aI w a0 (a3 + (1 : Int32))).bind fun x87 =>
    (aI w a0 (a3 + (2 : Int32))).bind fun x88 =>
    (if x88 = 0 then
      (F_L_law fu n).2.2.2.2.2.2.2.2.2.2.2.2.2.1 a0 a1 a2 a3 (0 : Int32) x87 a1 w
    else
      (F_L_law fu n).2.2.2.2.2.2.2.2.2.2.2.2.2.1 a0 a1 a2 a3 (1 : Int32) x87 a1 w) := by
  rw [F_L_law]
theorem L_13 (a0 : Nat) (a1 : Nat) (a2 : Nat) (a3 : Int32) (s0 : Int32) (s1 : Int32) (s2 : Nat) (w : XW) : (F_L_law fu (n + 1)).2.2.2.2.2.2.2.2.2.2.2.2.2.1 a0 a1 a2 a3 s0 s1 s2 w =
    cI (U_X7_can fu [.ref s2, .int s1, .int s0] w) fun x90 w89 =>
    (aI w89 a0 (a3 + (1 : Int32))).bind fun x91 =>
    (aI w89 a0 (a3 + (2 : Int32))).bind fun x92 =>
    (if x92 = 0 then
      cI (U_X8_can fu [.ref a2, .int x91, .int (0 : Int32)] w89) fun x94 w93 =>
      (if x90 = x94 then
        (F_L_law fu n).2.2.2.2.2.2.2.2.2.2.2.2.2.2.2.2.2.2.2.2.2.2.2.2.2.2.2.2.2.2.2.2.2.2.2.2.2.2.2.2 a0 a1 a2 a3 w93
      else
        retZ (0 : Int32) w93)
    else
      cI (U_X8_can fu [.ref a2, .int x91, .int (1 : Int32)] w89) fun x96 w95 =>
      (if x90 = x96 then
        (F_L_law fu n).2.2.2.2.2.2.2.2.2.2.2.2.2.2.2.2.2.2.2.2.2.2.2.2.2.2.2.2.2.2.2.2.2.2.2.2.2.2.2.2 a0 a1 a2 a3 w95
      else
        retZ (0 : Int32) w95)) := by
  rw [F_L_law]
theorem L_14 (a0 : Nat) (a1 : Nat) (a2 : Nat) (a3 : Int32) (w : XW) : (F_L_law fu (n + 1)).2.2.2.2.2.2.2.2.2.2.2.2.2.2.1 a0 a1 a2 a3 w =
    (aI w a0 (a3 + (1 : Int32))).bind fun x97 =>
    (aI w a0 (a3 + (2 : Int32))).bind fun x98 =>
    cI (U_X7_way fu [.ref a1, .int x97, .int x98] w) fun x100 w99 =>
    (aI w99 a0 (a3 + (1 : Int32))).bind fun x101 =>
    (aI w99 a0 (a3 + (2 : Int32))).bind fun x102 =>
    cI (U_X8_way fu [.ref a2, .int x101, .int x102] w99) fun x104 w103 =>
    (if x100 = x104 then
      (F_L_law fu n).2.2.2.2.2.2.2.2.2.2.2.2.2.2.2.2.2.2.2.2.2.2.2.2.2.2.2.2.2.2.2.2.2.2.2.2.2.2.2.2 a0 a1 a2 a3 w103
    else
      retZ (0 : Int32) w103) := by
  rw [F_L_law]
theorem L_15 (a0 : Nat) (a1 : Nat) (a2 : Nat) (a3 : Int32) (w : XW) : (F_L_law fu (n + 1)).2.2.2.2.2.2.2.2.2.2.2.2.2.2.2.1 a0 a1 a2 a3 w =
    (aI w a0 (a3 + (1 : Int32))).bind fun x105 =>
    (aI w a0 (a3 + (2 : Int32))).bind fun x106 =>
    (if x106 = 0 then
      (F_L_law fu n).2.2.2.2.2.2.2.2.2.2.2.2.2.2.2.2.1 a0 a1 a2 a3 (0 : Int32) x105 a1 w
    else
      (F_L_law fu n).2.2.2.2.2.2.2.2.2.2.2.2.2.2.2.2.1 a0 a1 a2 a3 (1 : Int32) x105 a1 w) := by
  rw [F_L_law]
theorem L_16 (a0 : Nat) (a1 : Nat) (a2 : Nat) (a3 : Int32) (s0 : Int32) (s1 : Int32) (s2 : Nat) (w : XW) : (F_L_law fu (n + 1)).2.2.2.2.2.2.2.2.2.2.2.2.2.2.2.2.1 a0 a1 a2 a3 s0 s1 s2 w =
    cI (U_X7_highest fu [.ref s2, .int s1, .int s0] w) fun x108 w107 =>
    (aI w107 a0 (a3 + (1 : Int32))).bind fun x109 =>
    (aI w107 a0 (a3 + (2 : Int32))).bind fun x110 =>
    (if x110 = 0 then
      cI (U_X8_highest fu [.ref a2, .int x109, .int (0 : Int32)] w107) fun x112 w111 =>
      (if x108 = x112 then
        (F_L_law fu n).2.2.2.2.2.2.2.2.2.2.2.2.2.2.2.2.2.2.2.2.2.2.2.2.2.2.2.2.2.2.2.2.2.2.2.2.2.2.2.2 a0 a1 a2 a3 w111
      else
        retZ (0 : Int32) w111)
    else
      cI (U_X8_highest fu [.ref a2, .int x109, .int (1 : Int32)] w107) fun x114 w113 =>
      (if x108 = x114 then
        (F_L_law fu n).2.2.2.2.2.2.2.2.2.2.2.2.2.2.2.2.2.2.2.2.2.2.2.2.2.2.2.2.2.2.2.2.2.2.2.2.2.2.2.2 a0 a1 a2 a3 w113
      else
        retZ (0 : Int32) w113)) := by
  rw [F_L_law]
theorem L_17 (a0 : Nat) (a1 : Nat) (a2 : Nat) (a3 : Int32) (w : XW) : (F_L_law fu (n + 1)).2.2.2.2.2.2.2.2.2.2.2.2.2.2.2.2.2.1 a0 a1 a2 a3 w =
    (aI w a0 (a3 + (1 : Int32))).bind fun x115 =>
    (aI w a0 (a3 + (2 : Int32))).bind fun x116 =>
    cI (U_X7_pass fu [.ref a1, .int x115, .int x116] w) fun x118 w117 =>
    (aI w117 a0 (a3 + (1 : Int32))).bind fun x119 =>
    (aI w117 a0 (a3 + (2 : Int32))).bind fun x120 =>
    cI (U_X8_pass fu [.ref a2, .int x119, .int x120] w117) fun x122 w121 =>
    (if x118 = x122 then
      (F_L_law fu n).2.2.2.2.2.2.2.2.2.2.2.2.2.2.2.2.2.2.2.2.2.2.2.2.2.2.2.2.2.2.2.2.2.2.2.2.2.2.2.2 a0 a1 a2 a3 w121
    else
      retZ (0 : Int32) w121) := by
  rw [F_L_law]
theorem L_18 (a0 : Nat) (a1 : Nat) (a2 : Nat) (a3 : Int32) (w : XW) : (F_L_law fu (n + 1)).2.2.2.2.2.2.2.2.2.2.2.2.2.2.2.2.2.2.1 a0 a1 a2 a3 w =
    (aI w a0 (a3 + (1 : Int32))).bind fun x123 =>
    (aI w a0 (a3 + (2 : Int32))).bind fun x124 =>
    (aI w a0 (a3 + (3 : Int32))).bind fun x125 =>
    (aI w a0 (a3 + (4 : Int32))).bind fun x126 =>
    (aI w a0 (a3 + (5 : Int32))).bind fun x127 =>
    cI (U_X7_days fu [.ref a1, .int x123, .int x124, .int x125, .int x126, .int x127] w) fun x129 w128 =>
    (aI w128 a0 (a3 + (1 : Int32))).bind fun x130 =>
    (aI w128 a0 (a3 + (2 : Int32))).bind fun x131 =>
    (aI w128 a0 (a3 + (3 : Int32))).bind fun x132 =>
    (aI w128 a0 (a3 + (4 : Int32))).bind fun x133 =>
    (aI w128 a0 (a3 + (5 : Int32))).bind fun x134 =>
    cI (U_X8_days fu [.ref a2, .int x130, .int x131, .int x132, .int x133, .int x134] w128) fun x136 w135 =>
    (if x129 = x136 then
      (F_L_law fu n).2.2.2.2.2.2.2.2.2.2.2.2.2.2.2.2.2.2.2.2.2.2.2.2.2.2.2.2.2.2.2.2.2.2.2.2.2.2.2.2 a0 a1 a2 a3 w135
    else
      retZ (0 : Int32) w135) := by
  rw [F_L_law]
theorem L_19 (a0 : Nat) (a1 : Nat) (a2 : Nat) (a3 : Int32) (w : XW) : (F_L_law fu (n + 1)).2.2.2.2.2.2.2.2.2.2.2.2.2.2.2.2.2.2.2.1 a0 a1 a2 a3 w =
    (aI w a0 (a3 + (1 : Int32))).bind fun x137 =>
    (aI w a0 (a3 + (2 : Int32))).bind fun x138 =>
    cI (U_X7_stands fu [.ref a1, .int x137, .int x138] w) fun x140 w139 =>
    (aI w139 a0 (a3 + (1 : Int32))).bind fun x141 =>
    (aI w139 a0 (a3 + (2 : Int32))).bind fun x142 =>
    cI (U_X8_stands fu [.ref a2, .int x141, .int x142] w139) fun x144 w143 =>
    (if x140 = x144 then
      (F_L_law fu n).2.2.2.2.2.2.2.2.2.2.2.2.2.2.2.2.2.2.2.2.2.2.2.2.2.2.2.2.2.2.2.2.2.2.2.2.2.2.2.2 a0 a1 a2 a3 w143
    else
      retZ (0 : Int32) w143) := by
  rw [F_L_law]
theorem L_20 (a0 : Nat) (a1 : Nat) (a2 : Nat) (a3 : Int32) (w : XW) : (F_L_law fu (n + 1)).2.2.2.2.2.2.2.2.2.2.2.2.2.2.2.2.2.2.2.2.1 a0 a1 a2 a3 w =
    (aI w a0 (a3 + (1 : Int32))).bind fun x145 =>
    (aI w a0 (a3 + (2 : Int32))).bind fun x146 =>
    cI (U_X7_goes fu [.ref a1, .int x145, .int x146] w) fun x148 w147 =>
    (aI w147 a0 (a3 + (1 : Int32))).bind fun x149 =>
    (aI w147 a0 (a3 + (2 : Int32))).bind fun x150 =>
    cI (U_X8_goes fu [.ref a2, .int x149, .int x150] w147) fun x152 w151 =>
    (if x148 = x152 then
      (F_L_law fu n).2.2.2.2.2.2.2.2.2.2.2.2.2.2.2.2.2.2.2.2.2.2.2.2.2.2.2.2.2.2.2.2.2.2.2.2.2.2.2.2 a0 a1 a2 a3 w151
    else
      retZ (0 : Int32) w151) := by
  rw [F_L_law]
theorem L_21 (a0 : Nat) (a1 : Nat) (a2 : Nat) (a3 : Int32) (w : XW) : (F_L_law fu (n + 1)).2.2.2.2.2.2.2.2.2.2.2.2.2.2.2.2.2.2.2.2.2.1 a0 a1 a2 a3 w =
    (aI w a0 (a3 + (1 : Int32))).bind fun x153 =>
    (aI w a0 (a3 + (2 : Int32))).bind fun x154 =>
    (aI w a0 (a3 + (3 : Int32))).bind fun x155 =>
    cI (U_X7_dug fu [.ref a1, .int x153, .int x154, .int x155] w) fun x157 w156 =>
    (aI w156 a0 (a3 + (1 : Int32))).bind fun x158 =>
    (aI w156 a0 (a3 + (2 : Int32))).bind fun x159 =>
    (aI w156 a0 (a3 + (3 : Int32))).bind fun x160 =>
    cI (U_X8_dug fu [.ref a2, .int x158, .int x159, .int x160] w156) fun x162 w161 =>
    (if x157 = x162 then
      (F_L_law fu n).2.2.2.2.2.2.2.2.2.2.2.2.2.2.2.2.2.2.2.2.2.2.2.2.2.2.2.2.2.2.2.2.2.2.2.2.2.2.2.2 a0 a1 a2 a3 w161
    else
      retZ (0 : Int32) w161) := by
  rw [F_L_law]
theorem L_22 (a0 : Nat) (a1 : Nat) (a2 : Nat) (a3 : Int32) (w : XW) : (F_L_law fu (n + 1)).2.2.2.2.2.2.2.2.2.2.2.2.2.2.2.2.2.2.2.2.2.2.1 a0 a1 a2 a3 w =
    (aI w a0 (a3 + (1 : Int32))).bind fun x163 =>
    (aI w a0 (a3 + (2 : Int32))).bind fun x164 =>
    cI (U_X7_flood fu [.ref a1, .int x163, .int x164] w) fun x166 w165 =>
    (aI w165 a0 (a3 + (1 : Int32))).bind fun x167 =>
    (aI w165 a0 (a3 + (2 : Int32))).bind fun x168 =>
    cI (U_X8_flood fu [.ref a2, .int x167, .int x168] w165) fun x170 w169 =>
    (if x166 = x170 then
      (F_L_law fu n).2.2.2.2.2.2.2.2.2.2.2.2.2.2.2.2.2.2.2.2.2.2.2.2.2.2.2.2.2.2.2.2.2.2.2.2.2.2.2.2 a0 a1 a2 a3 w169
    else
      retZ (0 : Int32) w169) := by
  rw [F_L_law]
theorem L_23 (a0 : Nat) (a1 : Nat) (a2 : Nat) (a3 : Int32) (w : XW) : (F_L_law fu (n + 1)).2.2.2.2.2.2.2.2.2.2.2.2.2.2.2.2.2.2.2.2.2.2.2.1 a0 a1 a2 a3 w =
    (aI w a0 (a3 + (1 : Int32))).bind fun x171 =>
    (aI w a0 (a3 + (2 : Int32))).bind fun x172 =>
    (aI w a0 (a3 + (3 : Int32))).bind fun x173 =>
    cI (U_X7_save fu [.ref a1, .int x171, .int x172, .int x173] w) fun x175 w174 =>
    (aI w174 a0 (a3 + (1 : Int32))).bind fun x176 =>
    (aI w174 a0 (a3 + (2 : Int32))).bind fun x177 =>
    (aI w174 a0 (a3 + (3 : Int32))).bind fun x178 =>
    cI (U_X8_save fu [.ref a2, .int x176, .int x177, .int x178] w174) fun x180 w179 =>
    (if x175 = x180 then
      (F_L_law fu n).2.2.2.2.2.2.2.2.2.2.2.2.2.2.2.2.2.2.2.2.2.2.2.2.2.2.2.2.2.2.2.2.2.2.2.2.2.2.2.2 a0 a1 a2 a3 w179
    else
      retZ (0 : Int32) w179) := by
  rw [F_L_law]
theorem L_24 (a0 : Nat) (a1 : Nat) (a2 : Nat) (a3 : Int32) (w : XW) : (F_L_law fu (n + 1)).2.2.2.2.2.2.2.2.2.2.2.2.2.2.2.2.2.2.2.2.2.2.2.2.1 a0 a1 a2 a3 w =
    (aI w a0 (a3 + (1 : Int32))).bind fun x181 =>
    (aI w a0 (a3 + (2 : Int32))).bind fun x182 =>
    (aI w a0 (a3 + (3 : Int32))).bind fun x183 =>
    (aI w a0 (a3 + (4 : Int32))).bind fun x184 =>
    cI (U_X7_plan fu [.ref a1, .int x181, .int x182, .int x183, .int x184] w) fun x186 w185 =>
    (aI w185 a0 (a3 + (1 : Int32))).bind fun x187 =>
    (aI w185 a0 (a3 + (2 : Int32))).bind fun x188 =>
    (aI w185 a0 (a3 + (3 : Int32))).bind fun x189 =>
    (aI w185 a0 (a3 + (4 : Int32))).bind fun x190 =>
    cI (U_X8_plan fu [.ref a2, .int x187, .int x188, .int x189, .int x190] w185) fun x192 w191 =>
    (if x186 = x192 then
      (F_L_law fu n).2.2.2.2.2.2.2.2.2.2.2.2.2.2.2.2.2.2.2.2.2.2.2.2.2.2.2.2.2.2.2.2.2.2.2.2.2.2.2.2 a0 a1 a2 a3 w191
    else
      retZ (0 : Int32) w191) := by
  rw [F_L_law]
theorem L_25 (a0 : Nat) (a1 : Nat) (a2 : Nat) (a3 : Int32) (w : XW) : (F_L_law fu (n + 1)).2.2.2.2.2.2.2.2.2.2.2.2.2.2.2.2.2.2.2.2.2.2.2.2.2.1 a0 a1 a2 a3 w =
    (aI w a0 (a3 + (1 : Int32))).bind fun x193 =>
    cI (U_X7_orders fu [.ref a1, .int x193] w) fun x195 w194 =>
    (aI w194 a0 (a3 + (1 : Int32))).bind fun x196 =>
    cI (U_X8_orders fu [.ref a2, .int x196] w194) fun x198 w197 =>
    (if x195 = x198 then
      (F_L_law fu n).2.2.2.2.2.2.2.2.2.2.2.2.2.2.2.2.2.2.2.2.2.2.2.2.2.2.2.2.2.2.2.2.2.2.2.2.2.2.2.2 a0 a1 a2 a3 w197
    else
      retZ (0 : Int32) w197) := by
  rw [F_L_law]
theorem L_26 (a0 : Nat) (a1 : Nat) (a2 : Nat) (a3 : Int32) (w : XW) : (F_L_law fu (n + 1)).2.2.2.2.2.2.2.2.2.2.2.2.2.2.2.2.2.2.2.2.2.2.2.2.2.2.1 a0 a1 a2 a3 w =
    (aI w a0 (a3 + (1 : Int32))).bind fun x199 =>
    (aI w a0 (a3 + (2 : Int32))).bind fun x200 =>
    cI (U_X7_order fu [.ref a1, .int x199, .int x200] w) fun x202 w201 =>
    (aI w201 a0 (a3 + (1 : Int32))).bind fun x203 =>
    (aI w201 a0 (a3 + (2 : Int32))).bind fun x204 =>
    cI (U_X8_order fu [.ref a2, .int x203, .int x204] w201) fun x206 w205 =>
    (if x202 = x206 then
      (F_L_law fu n).2.2.2.2.2.2.2.2.2.2.2.2.2.2.2.2.2.2.2.2.2.2.2.2.2.2.2.2.2.2.2.2.2.2.2.2.2.2.2.2 a0 a1 a2 a3 w205
    else
      retZ (0 : Int32) w205) := by
  rw [F_L_law]
theorem L_27 (a0 : Nat) (a1 : Nat) (a2 : Nat) (a3 : Int32) (w : XW) : (F_L_law fu (n + 1)).2.2.2.2.2.2.2.2.2.2.2.2.2.2.2.2.2.2.2.2.2.2.2.2.2.2.2.1 a0 a1 a2 a3 w =
    (aI w a0 (a3 + (1 : Int32))).bind fun x207 =>
    (aI w a0 (a3 + (2 : Int32))).bind fun x208 =>
    cI (U_X7_fits fu [.ref a1, .int x207, .int x208] w) fun x210 w209 =>
    (aI w209 a0 (a3 + (1 : Int32))).bind fun x211 =>
    (aI w209 a0 (a3 + (2 : Int32))).bind fun x212 =>
    cI (U_X8_fits fu [.ref a2, .int x211, .int x212] w209) fun x214 w213 =>
    (if x210 = x214 then
      (F_L_law fu n).2.2.2.2.2.2.2.2.2.2.2.2.2.2.2.2.2.2.2.2.2.2.2.2.2.2.2.2.2.2.2.2.2.2.2.2.2.2.2.2 a0 a1 a2 a3 w213
    else
      retZ (0 : Int32) w213) := by
  rw [F_L_law]
theorem L_28 (a0 : Nat) (a1 : Nat) (a2 : Nat) (a3 : Int32) (w : XW) : (F_L_law fu (n + 1)).2.2.2.2.2.2.2.2.2.2.2.2.2.2.2.2.2.2.2.2.2.2.2.2.2.2.2.2.1 a0 a1 a2 a3 w =
    (aI w a0 (a3 + (1 : Int32))).bind fun x215 =>
    (aI w a0 (a3 + (2 : Int32))).bind fun x216 =>
    (aI w a0 (a3 + (3 : Int32))).bind fun x217 =>
    (aI w a0 (a3 + (4 : Int32))).bind fun x218 =>
    (aI w a0 (a3 + (5 : Int32))).bind fun x219 =>
    (aI w a0 (a3 + (6 : Int32))).bind fun x220 =>
    cL (U_X7_odds fu [.ref a1, .int x215, .int x216, .int x217, .int x218, .int x219, .int x220] w) fun x222 w221 =>
    (aI w221 a0 (a3 + (1 : Int32))).bind fun x223 =>
    (aI w221 a0 (a3 + (2 : Int32))).bind fun x224 =>
    (aI w221 a0 (a3 + (3 : Int32))).bind fun x225 =>
    (aI w221 a0 (a3 + (4 : Int32))).bind fun x226 =>
    (aI w221 a0 (a3 + (5 : Int32))).bind fun x227 =>
    (aI w221 a0 (a3 + (6 : Int32))).bind fun x228 =>
    cL (U_X8_odds fu [.ref a2, .int x223, .int x224, .int x225, .int x226, .int x227, .int x228] w221) fun x230 w229 =>
    (if (lg_cmp x222 x230) = 0 then
      (F_L_law fu n).2.2.2.2.2.2.2.2.2.2.2.2.2.2.2.2.2.2.2.2.2.2.2.2.2.2.2.2.2.2.2.2.2.2.2.2.2.2.2.2 a0 a1 a2 a3 w229
    else
      retZ (0 : Int32) w229) := by
  rw [F_L_law]
theorem L_29 (a0 : Nat) (a1 : Nat) (a2 : Nat) (a3 : Int32) (w : XW) : (F_L_law fu (n + 1)).2.2.2.2.2.2.2.2.2.2.2.2.2.2.2.2.2.2.2.2.2.2.2.2.2.2.2.2.2.1 a0 a1 a2 a3 w =
    (aI w a0 (a3 + (1 : Int32))).bind fun x231 =>
    (aI w a0 (a3 + (2 : Int32))).bind fun x232 =>
    (aI w a0 (a3 + (3 : Int32))).bind fun x233 =>
    cI (U_X7_sheet fu [.ref a1, .int x231, .int x232, .int x233] w) fun x235 w234 =>
    (aI w234 a0 (a3 + (1 : Int32))).bind fun x236 =>
    (aI w234 a0 (a3 + (2 : Int32))).bind fun x237 =>
    (aI w234 a0 (a3 + (3 : Int32))).bind fun x238 =>
    cI (U_X8_sheet fu [.ref a2, .int x236, .int x237, .int x238] w234) fun x240 w239 =>
    (if x235 = x240 then
      (F_L_law fu n).2.2.2.2.2.2.2.2.2.2.2.2.2.2.2.2.2.2.2.2.2.2.2.2.2.2.2.2.2.2.2.2.2.2.2.2.2.2.2.2 a0 a1 a2 a3 w239
    else
      retZ (0 : Int32) w239) := by
  rw [F_L_law]
theorem L_30 (a0 : Nat) (a1 : Nat) (a2 : Nat) (a3 : Int32) (w : XW) : (F_L_law fu (n + 1)).2.2.2.2.2.2.2.2.2.2.2.2.2.2.2.2.2.2.2.2.2.2.2.2.2.2.2.2.2.2.1 a0 a1 a2 a3 w =
    (aI w a0 (a3 + (1 : Int32))).bind fun x241 =>
    cI (U_X7_lose fu [.ref a1, .int x241] w) fun x243 w242 =>
    (aI w242 a0 (a3 + (1 : Int32))).bind fun x244 =>
    cI (U_X8_lose fu [.ref a2, .int x244] w242) fun x246 w245 =>
    (if x243 = x246 then
      (F_L_law fu n).2.2.2.2.2.2.2.2.2.2.2.2.2.2.2.2.2.2.2.2.2.2.2.2.2.2.2.2.2.2.2.2.2.2.2.2.2.2.2.2 a0 a1 a2 a3 w245
    else
      retZ (0 : Int32) w245) := by
  rw [F_L_law]
theorem L_31 (a0 : Nat) (a1 : Nat) (a2 : Nat) (a3 : Int32) (w : XW) : (F_L_law fu (n + 1)).2.2.2.2.2.2.2.2.2.2.2.2.2.2.2.2.2.2.2.2.2.2.2.2.2.2.2.2.2.2.2.1 a0 a1 a2 a3 w =
    (aI w a0 (a3 + (1 : Int32))).bind fun x247 =>
    (aI w a0 (a3 + (2 : Int32))).bind fun x248 =>
    (aI w a0 (a3 + (3 : Int32))).bind fun x249 =>
    cI (U_X7_put fu [.ref a1, .int x247, .int x248, .int x249] w) fun x251 w250 =>
    (aI w250 a0 (a3 + (1 : Int32))).bind fun x252 =>
    (aI w250 a0 (a3 + (2 : Int32))).bind fun x253 =>
    (aI w250 a0 (a3 + (3 : Int32))).bind fun x254 =>
    cI (U_X8_put fu [.ref a2, .int x252, .int x253, .int x254] w250) fun x256 w255 =>
    (if x251 = x256 then
      (F_L_law fu n).2.2.2.2.2.2.2.2.2.2.2.2.2.2.2.2.2.2.2.2.2.2.2.2.2.2.2.2.2.2.2.2.2.2.2.2.2.2.2.2 a0 a1 a2 a3 w255
    else
      retZ (0 : Int32) w255) := by
  rw [F_L_law]
theorem L_32 (a0 : Nat) (a1 : Nat) (a2 : Nat) (a3 : Int32) (w : XW) : (F_L_law fu (n + 1)).2.2.2.2.2.2.2.2.2.2.2.2.2.2.2.2.2.2.2.2.2.2.2.2.2.2.2.2.2.2.2.2.1 a0 a1 a2 a3 w =
    (aI w a0 (a3 + (1 : Int32))).bind fun x257 =>
    (aI w a0 (a3 + (2 : Int32))).bind fun x258 =>
    (aI w a0 (a3 + (3 : Int32))).bind fun x259 =>
    cL (U_X7_cell fu [.ref a1, .int x257, .int x258, .int x259] w) fun x261 w260 =>
    (aI w260 a0 (a3 + (1 : Int32))).bind fun x262 =>
    (aI w260 a0 (a3 + (2 : Int32))).bind fun x263 =>
    (aI w260 a0 (a3 + (3 : Int32))).bind fun x264 =>
    cL (U_X8_cell fu [.ref a2, .int x262, .int x263, .int x264] w260) fun x266 w265 =>
    (if (lg_cmp x261 x266) = 0 then
      (F_L_law fu n).2.2.2.2.2.2.2.2.2.2.2.2.2.2.2.2.2.2.2.2.2.2.2.2.2.2.2.2.2.2.2.2.2.2.2.2.2.2.2.2 a0 a1 a2 a3 w265
    else
      retZ (0 : Int32) w265) := by
  rw [F_L_law]
theorem L_33 (a0 : Nat) (a1 : Nat) (a2 : Nat) (a3 : Int32) (w : XW) : (F_L_law fu (n + 1)).2.2.2.2.2.2.2.2.2.2.2.2.2.2.2.2.2.2.2.2.2.2.2.2.2.2.2.2.2.2.2.2.2.1 a0 a1 a2 a3 w =
    (aI w a0 (a3 + (1 : Int32))).bind fun x267 =>
    (aI w a0 (a3 + (2 : Int32))).bind fun x268 =>
    (aI w a0 (a3 + (3 : Int32))).bind fun x269 =>
    (aI w a0 (a3 + (4 : Int32))).bind fun x270 =>
    (aI w a0 (a3 + (5 : Int32))).bind fun x271 =>
    cI (U_X7_copy fu [.ref a1, .int x267, .int x268, .int x269, .int x270, .int x271] w) fun x273 w272 =>
    (aI w272 a0 (a3 + (1 : Int32))).bind fun x274 =>
    (aI w272 a0 (a3 + (2 : Int32))).bind fun x275 =>
    (aI w272 a0 (a3 + (3 : Int32))).bind fun x276 =>
    (aI w272 a0 (a3 + (4 : Int32))).bind fun x277 =>
    (aI w272 a0 (a3 + (5 : Int32))).bind fun x278 =>
    cI (U_X8_copy fu [.ref a2, .int x274, .int x275, .int x276, .int x277, .int x278] w272) fun x280 w279 =>
    (if x273 = x280 then
      (F_L_law fu n).2.2.2.2.2.2.2.2.2.2.2.2.2.2.2.2.2.2.2.2.2.2.2.2.2.2.2.2.2.2.2.2.2.2.2.2.2.2.2.2 a0 a1 a2 a3 w279
    else
      retZ (0 : Int32) w279) := by
  rw [F_L_law]
theorem L_34 (a0 : Nat) (a1 : Nat) (a2 : Nat) (a3 : Int32) (w : XW) : (F_L_law fu (n + 1)).2.2.2.2.2.2.2.2.2.2.2.2.2.2.2.2.2.2.2.2.2.2.2.2.2.2.2.2.2.2.2.2.2.2.1 a0 a1 a2 a3 w =
    (aI w a0 (a3 + (1 : Int32))).bind fun x281 =>
    cI (U_X7_tell fu [.ref a1, .int x281] w) fun x283 w282 =>
    (aI w282 a0 (a3 + (1 : Int32))).bind fun x284 =>
    cI (U_X8_tell fu [.ref a2, .int x284] w282) fun x286 w285 =>
    (if x283 = x286 then
      (F_L_law fu n).2.2.2.2.2.2.2.2.2.2.2.2.2.2.2.2.2.2.2.2.2.2.2.2.2.2.2.2.2.2.2.2.2.2.2.2.2.2.2.2 a0 a1 a2 a3 w285
    else
      retZ (0 : Int32) w285) := by
  rw [F_L_law]
theorem L_35 (a0 : Nat) (a1 : Nat) (a2 : Nat) (a3 : Int32) (w : XW) : (F_L_law fu (n + 1)).2.2.2.2.2.2.2.2.2.2.2.2.2.2.2.2.2.2.2.2.2.2.2.2.2.2.2.2.2.2.2.2.2.2.2.1 a0 a1 a2 a3 w =
    (aI w a0 (a3 + (1 : Int32))).bind fun x287 =>
    cI (U_X7_tread fu [.ref a1, .int x287] w) fun x289 w288 =>
    (aI w288 a0 (a3 + (1 : Int32))).bind fun x290 =>
    cI (U_X8_tread fu [.ref a2, .int x290] w288) fun x292 w291 =>
    (if x289 = x292 then
      (F_L_law fu n).2.2.2.2.2.2.2.2.2.2.2.2.2.2.2.2.2.2.2.2.2.2.2.2.2.2.2.2.2.2.2.2.2.2.2.2.2.2.2.2 a0 a1 a2 a3 w291
    else
      retZ (0 : Int32) w291) := by
  rw [F_L_law]
theorem L_36 (a0 : Nat) (a1 : Nat) (a2 : Nat) (a3 : Int32) (w : XW) : (F_L_law fu (n + 1)).2.2.2.2.2.2.2.2.2.2.2.2.2.2.2.2.2.2.2.2.2.2.2.2.2.2.2.2.2.2.2.2.2.2.2.2.1 a0 a1 a2 a3 w =
    (aI w a0 (a3 + (1 : Int32))).bind fun x293 =>
    (aI w a0 (a3 + (2 : Int32))).bind fun x294 =>
    cI (U_X7_as fu [.ref a1, .int x293, .int x294] w) fun x296 w295 =>
    (aI w295 a0 (a3 + (1 : Int32))).bind fun x297 =>
    (aI w295 a0 (a3 + (2 : Int32))).bind fun x298 =>
    cI (U_X8_as fu [.ref a2, .int x297, .int x298] w295) fun x300 w299 =>
    (if x296 = x300 then
      (F_L_law fu n).2.2.2.2.2.2.2.2.2.2.2.2.2.2.2.2.2.2.2.2.2.2.2.2.2.2.2.2.2.2.2.2.2.2.2.2.2.2.2.2 a0 a1 a2 a3 w299
    else
      retZ (0 : Int32) w299) := by
  rw [F_L_law]
theorem L_37 (a0 : Nat) (a1 : Nat) (a2 : Nat) (a3 : Int32) (w : XW) : (F_L_law fu (n + 1)).2.2.2.2.2.2.2.2.2.2.2.2.2.2.2.2.2.2.2.2.2.2.2.2.2.2.2.2.2.2.2.2.2.2.2.2.2.1 a0 a1 a2 a3 w =
    cI (U_X7_trace fu [.ref a1] w) fun x302 w301 =>
    cI (U_X8_trace fu [.ref a2] w301) fun x304 w303 =>
    (if x302 = x304 then
      (F_L_law fu n).2.2.2.2.2.2.2.2.2.2.2.2.2.2.2.2.2.2.2.2.2.2.2.2.2.2.2.2.2.2.2.2.2.2.2.2.2.2.2.2 a0 a1 a2 a3 w303
    else
      retZ (0 : Int32) w303) := by
  rw [F_L_law]
theorem L_38 (a0 : Nat) (a1 : Nat) (a2 : Nat) (a3 : Int32) (w : XW) : (F_L_law fu (n + 1)).2.2.2.2.2.2.2.2.2.2.2.2.2.2.2.2.2.2.2.2.2.2.2.2.2.2.2.2.2.2.2.2.2.2.2.2.2.2.1 a0 a1 a2 a3 w =
    cI (U_X7_fault fu [.ref a1] w) fun x306 w305 =>
    cI (U_X8_fault fu [.ref a2] w305) fun x308 w307 =>
    (if x306 = x308 then
      (F_L_law fu n).2.2.2.2.2.2.2.2.2.2.2.2.2.2.2.2.2.2.2.2.2.2.2.2.2.2.2.2.2.2.2.2.2.2.2.2.2.2.2.2 a0 a1 a2 a3 w307
    else
      retZ (0 : Int32) w307) := by
  rw [F_L_law]
theorem L_39 (a0 : Nat) (a1 : Nat) (a2 : Nat) (a3 : Int32) (w : XW) : (F_L_law fu (n + 1)).2.2.2.2.2.2.2.2.2.2.2.2.2.2.2.2.2.2.2.2.2.2.2.2.2.2.2.2.2.2.2.2.2.2.2.2.2.2.2.1 a0 a1 a2 a3 w =
    (aI w a0 (a3 + (1 : Int32))).bind fun x309 =>
    cI (U_X7_many fu [.ref a1, .int x309] w) fun x311 w310 =>
    (aI w310 a0 (a3 + (1 : Int32))).bind fun x312 =>
    cI (U_X8_many fu [.ref a2, .int x312] w310) fun x314 w313 =>
    (if x311 = x314 then
      (F_L_law fu n).2.2.2.2.2.2.2.2.2.2.2.2.2.2.2.2.2.2.2.2.2.2.2.2.2.2.2.2.2.2.2.2.2.2.2.2.2.2.2.2 a0 a1 a2 a3 w313
    else
      retZ (0 : Int32) w313) := by
  rw [F_L_law]
theorem L_40 (a0 : Nat) (a1 : Nat) (a2 : Nat) (a3 : Int32) (w : XW) : (F_L_law fu (n + 1)).2.2.2.2.2.2.2.2.2.2.2.2.2.2.2.2.2.2.2.2.2.2.2.2.2.2.2.2.2.2.2.2.2.2.2.2.2.2.2.2 a0 a1 a2 a3 w =
    (F_L_law fu n).1 a0 a1 a2 (a3 + (7 : Int32)) w := by
  rw [F_L_law]
end LW
