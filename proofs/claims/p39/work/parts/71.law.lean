section LW
variable (fu n : Nat)
theorem L_0 (a0 : Nat) (a1 : Nat) (a2 : Nat) (a4 : Nat) (a5 : Int32) (a6 : Nat) (a7 : Int32) (w : XW) : (F_L_law fu (n + 1)).1 a0 a1 a2 a4 a5 a6 a7 w =
    (if a7 < (3 : Int32) then
      cI (U_L_cell fu [.ref a0, .int (7 : Int32)] w) fun x2 w1 =>
      cI (U_L_cell fu [.ref a0, .int (7 : Int32)] w1) fun x4 w3 =>
      cI (U_L_some fu [.int (x4 >>> ((13 : Int32) &&& 31)), .int (2 : Int32)] w3) fun x6 w5 =>
      (if x6 = 0 then
        (F_L_law fu n).2.1 a0 a1 a2 a4 a5 a6 a7 (9 : Int32) (x2 >>> (((4 : Int32) * a7) &&& 31)) (1 : Int32) a7 a6 w5
      else
        (F_L_law fu n).2.1 a0 a1 a2 a4 a5 a6 a7 (4 : Int32) (x2 >>> (((4 : Int32) * a7) &&& 31)) (1 : Int32) a7 a6 w5)
    else
      (if 0 ≤ (7 : Int32) ∧ (7 : Int32) ≤ 1000 ∧ 0 < List.length w then
      (F_L_law fu n).2.2.1 a0 a1 a2 a4 a5 a6 (List.length w) (0 : Int32) (w ++ [.inr (0, List.replicate (Int32.toNatClampNeg (7 : Int32)) 0)])
      else none)) := by
  rw [F_L_law]
theorem L_1 (a0 : Nat) (a1 : Nat) (a2 : Nat) (a4 : Nat) (a5 : Int32) (a6 : Nat) (a7 : Int32) (s0 : Int32) (s1 : Int32) (s2 : Int32) (s3 : Int32) (s4 : Nat) (w : XW) : (F_L_law fu (n + 1)).2.1 a0 a1 a2 a4 a5 a6 a7 s0 s1 s2 s3 s4 w =
    cI (U_L_some fu [.int s1, .int s0] w) fun x8 w7 =>
    (sI w7 s4 s3 (s2 + x8)).bind fun w9 =>
    (aI w9 a6 a7).bind fun x10 =>
    cI (U_X7_walker fu [.ref a1, .int x10] w9) fun x12 w11 =>
    (if x12 = a7 then
      cI (U_X7_stride fu [.ref a1, .int a7] w11) fun x14 w13 =>
      (aI w13 a6 a7).bind fun x15 =>
      (if x14 = x15 then
        (F_L_law fu n).1 a0 a1 a2 a4 a5 a6 (a7 + (1 : Int32)) w13
      else
        retZ (0 : Int32) w13)
    else
      retZ (0 : Int32) w11) := by
  rw [F_L_law]
theorem L_2 (a0 : Nat) (a1 : Nat) (a2 : Nat) (a4 : Nat) (a5 : Int32) (a6 : Nat) (a7 : Nat) (a8 : Int32) (w : XW) : (F_L_law fu (n + 1)).2.2.1 a0 a1 a2 a4 a5 a6 a7 a8 w =
    (if a8 < (7 : Int32) then
      (sI w a7 a8 (-1 : Int32)).bind fun w16 =>
      (F_L_law fu n).2.2.1 a0 a1 a2 a4 a5 a6 a7 (a8 + (1 : Int32)) w16
    else
      (F_L_law fu n).2.2.2.1 a0 a1 a2 a4 a5 a6 a7 (0 : Int32) (0 : Int32) w) := by
  rw [F_L_law]
theorem L_3 (a0 : Nat) (a1 : Nat) (a2 : Nat) (a4 : Nat) (a5 : Int32) (a6 : Nat) (a7 : Nat) (a8 : Int32) (a9 : Int32) (w : XW) : (F_L_law fu (n + 1)).2.2.2.1 a0 a1 a2 a4 a5 a6 a7 a8 a9 w =
    (if a9 < (14 : Int32) then
      cI (U_L_cell fu [.ref a0, .int ((8 : Int32) + a9)] w) fun x25 w24 =>
      cI (U_L_some fu [.int x25, .int (a5 + (1 : Int32))] w24) fun x27 w26 =>
      (aI w26 a2 (0 : Int32)).bind fun x28 =>
      cI (U_L_some fu [.int (x25 >>> ((3 : Int32) &&& 31)), .int (x28 + (1 : Int32))] w26) fun x30 w29 =>
      (if x27 < a5 then
        (F_L_law fu n).2.2.2.2.1 a0 a1 a2 a4 a5 a6 a7 a8 a9 x25 x27 x30 (-1 : Int32) (0 : Int32) w29
      else
        cI (U_L_some fu [.int (x25 >>> ((7 : Int32) &&& 31)), .int (4 : Int32)] w29) fun x32 w31 =>
        cI (U_X7_water fu [.ref a1, .int x32] w31) fun x34 w33 =>
        (if x34 = a8 then
          (F_L_law fu n).2.2.2.2.2.2.2.2.2.1 a0 a1 a2 a4 a5 a6 a7 x32 a9 x25 (0 : Int32) (0 : Int32) w33
        else
          retZ (0 : Int32) w33))
    else
      cI (U_X7_set fu [.ref a1, .int a5, .int (0 : Int32)] w) fun x18 w17 =>
      (if x18 = (-1 : Int32) then
        (if a5 = 0 then
          (F_L_law fu n).2.2.2.2.2.2.2.2.2.2.2.2.2.2.2.2.2.2.2.2.2.2 a1 w17
        else
          (aI w17 a2 (0 : Int32)).bind fun x19 =>
          cI (U_X7_set fu [.ref a1, .int (0 : Int32), .int x19] w17) fun x21 w20 =>
          (if x21 = (-1 : Int32) then
            cI (U_X7_set fu [.ref a1, .int (0 : Int32), .int (-1 : Int32)] w20) fun x23 w22 =>
            (if x23 = (-1 : Int32) then
              (F_L_law fu n).2.2.2.2.2.2.2.2.2.2.2.2.2.2.2.2.2.2.2.2.2.2 a1 w22
            else
              retZ (0 : Int32) w22)
          else
            retZ (0 : Int32) w20))
      else
        retZ (0 : Int32) w17)) := by
  rw [F_L_law]
theorem L_4 (a0 : Nat) (a1 : Nat) (a2 : Nat) (a4 : Nat) (a5 : Int32) (a6 : Nat) (a7 : Nat) (a8 : Int32) (a9 : Int32) (a10 : Int32) (a11 : Int32) (a12 : Int32) (a13 : Int32) (a14 : Int32) (w : XW) : (F_L_law fu (n + 1)).2.2.2.2.1 a0 a1 a2 a4 a5 a6 a7 a8 a9 a10 a11 a12 a13 a14 w =
    (aI w a2 (0 : Int32)).bind fun x35 =>
    (if a14 < x35 then
      (aI w a7 a14).bind fun x39 =>
      (if x39 = a11 then
        (F_L_law fu n).2.2.2.2.1 a0 a1 a2 a4 a5 a6 a7 a8 a9 a10 a11 a12 a14 (a14 + (1 : Int32)) w
      else
        (F_L_law fu n).2.2.2.2.1 a0 a1 a2 a4 a5 a6 a7 a8 a9 a10 a11 a12 a13 (a14 + (1 : Int32)) w)
    else
      (aI w a2 (0 : Int32)).bind fun x36 =>
      (if a12 = x36 then
        (F_L_law fu n).2.2.2.2.2.1 a0 a1 a2 a4 a5 a6 a7 a8 a9 a10 a11 a12 a13 w
      else
        (aI w a7 a12).bind fun x37 =>
        (if x37 < 0 then
          (F_L_law fu n).2.2.2.2.2.1 a0 a1 a2 a4 a5 a6 a7 a8 a9 a10 a11 a12 a13 w
        else
          (aI w a2 (0 : Int32)).bind fun x38 =>
          (if a12 = x38 then
            (F_L_law fu n).2.2.2.2.2.2.1 a0 a1 a2 a4 a5 a6 a7 a8 a9 a10 a11 a12 a13 (0 : Int32) (-9 : Int32) a11 a1 w
          else
            (F_L_law fu n).2.2.2.2.2.2.1 a0 a1 a2 a4 a5 a6 a7 a8 a9 a10 a11 a12 a13 (0 : Int32) a12 a11 a1 w)))) := by
  rw [F_L_law]
theorem L_5 (a0 : Nat) (a1 : Nat) (a2 : Nat) (a4 : Nat) (a5 : Int32) (a6 : Nat) (a7 : Nat) (a8 : Int32) (a9 : Int32) (a10 : Int32) (a11 : Int32) (a12 : Int32) (a13 : Int32) (w : XW) : (F_L_law fu (n + 1)).2.2.2.2.2.1 a0 a1 a2 a4 a5 a6 a7 a8 a9 a10 a11 a12 a13 w =
    (aI w a2 (0 : Int32)).bind fun x40 =>
    (if a12 = x40 then
      (F_L_law fu n).2.2.2.2.2.2.1 a0 a1 a2 a4 a5 a6 a7 a8 a9 a10 a11 a12 a13 (1 : Int32) (-9 : Int32) a11 a1 w
    else
      (F_L_law fu n).2.2.2.2.2.2.1 a0 a1 a2 a4 a5 a6 a7 a8 a9 a10 a11 a12 a13 (1 : Int32) a12 a11 a1 w) := by
  rw [F_L_law]
theorem L_6 (a0 : Nat) (a1 : Nat) (a2 : Nat) (a4 : Nat) (a5 : Int32) (a6 : Nat) (a7 : Nat) (a8 : Int32) (a9 : Int32) (a10 : Int32) (a11 : Int32) (a12 : Int32) (a13 : Int32) (a14 : Int32) (s0 : Int32) (s1 : Int32) (s2 : Nat) (w : XW) : (F_L_law fu (n + 1)).2.2.2.2.2.2.1 a0 a1 a2 a4 a5 a6 a7 a8 a9 a10 a11 a12 a13 a14 s0 s1 s2 w =
    cI (U_X7_set fu [.ref s2, .int s1, .int s0] w) fun x42 w41 =>
    (if a14 = 0 then
      (if x42 = (-3 : Int32) then
        (if a14 = 0 then
          (F_L_law fu n).2.2.2.2.2.2.2.1 a0 a1 a2 a4 a5 a6 a7 a8 a9 a10 a11 a12 a14 w41
        else
          (if a13 < 0 then
            (F_L_law fu n).2.2.2.2.2.2.2.1 a0 a1 a2 a4 a5 a6 a7 a8 a9 a10 a11 a12 a14 w41
          else
            (sI w41 a7 a13 (-1 : Int32)).bind fun w43 =>
            (F_L_law fu n).2.2.2.2.2.2.2.1 a0 a1 a2 a4 a5 a6 a7 a8 a9 a10 a11 a12 a14 w43))
      else
        retZ (0 : Int32) w41)
    else
      (if x42 = (1 : Int32) then
        (if a14 = 0 then
          (F_L_law fu n).2.2.2.2.2.2.2.1 a0 a1 a2 a4 a5 a6 a7 a8 a9 a10 a11 a12 a14 w41
        else
          (if a13 < 0 then
            (F_L_law fu n).2.2.2.2.2.2.2.1 a0 a1 a2 a4 a5 a6 a7 a8 a9 a10 a11 a12 a14 w41
          else
            (sI w41 a7 a13 (-1 : Int32)).bind fun w44 =>
            (F_L_law fu n).2.2.2.2.2.2.2.1 a0 a1 a2 a4 a5 a6 a7 a8 a9 a10 a11 a12 a14 w44))
      else
        retZ (0 : Int32) w41)) := by
  rw [F_L_law]
theorem L_7 (a0 : Nat) (a1 : Nat) (a2 : Nat) (a4 : Nat) (a5 : Int32) (a6 : Nat) (a7 : Nat) (a8 : Int32) (a9 : Int32) (a10 : Int32) (a11 : Int32) (a12 : Int32) (a14 : Int32) (w : XW) : (F_L_law fu (n + 1)).2.2.2.2.2.2.2.1 a0 a1 a2 a4 a5 a6 a7 a8 a9 a10 a11 a12 a14 w =
    (if a14 = 0 then
      (F_L_law fu n).2.2.2.2.2.2.2.2.1 a0 a1 a2 a4 a5 a6 a7 a8 a9 a10 a11 (-9 : Int32) (0 : Int32) w
    else
      (aI w a2 (0 : Int32)).bind fun x45 =>
      (if a12 < x45 then
        (sI w a7 a12 a11).bind fun w46 =>
        (F_L_law fu n).2.2.2.2.2.2.2.2.1 a0 a1 a2 a4 a5 a6 a7 a8 a9 a10 a11 (-9 : Int32) (0 : Int32) w46
      else
        (F_L_law fu n).2.2.2.2.2.2.2.2.1 a0 a1 a2 a4 a5 a6 a7 a8 a9 a10 a11 (-9 : Int32) (0 : Int32) w)) := by
  rw [F_L_law]
theorem L_8 (a0 : Nat) (a1 : Nat) (a2 : Nat) (a4 : Nat) (a5 : Int32) (a6 : Nat) (a7 : Nat) (a8 : Int32) (a9 : Int32) (a10 : Int32) (a11 : Int32) (a15 : Int32) (a16 : Int32) (w : XW) : (F_L_law fu (n + 1)).2.2.2.2.2.2.2.2.1 a0 a1 a2 a4 a5 a6 a7 a8 a9 a10 a11 a15 a16 w =
    (aI w a2 (0 : Int32)).bind fun x47 =>
    (if a16 < x47 then
      (aI w a7 a16).bind fun x50 =>
      (if x50 = a11 then
        (F_L_law fu n).2.2.2.2.2.2.2.2.1 a0 a1 a2 a4 a5 a6 a7 a8 a9 a10 a11 a16 (a16 + (1 : Int32)) w
      else
        (F_L_law fu n).2.2.2.2.2.2.2.2.1 a0 a1 a2 a4 a5 a6 a7 a8 a9 a10 a11 a15 (a16 + (1 : Int32)) w)
    else
      cI (U_X7_ofStone fu [.ref a1, .int a11, .int (5 : Int32)] w) fun x49 w48 =>
      (if x49 = a15 then
        (F_L_law fu n).2.2.2.2.2.2.2.2.2.1 a0 a1 a2 a4 a5 a6 a7 a8 a9 a10 (0 : Int32) (0 : Int32) w48
      else
        retZ (0 : Int32) w48)) := by
  rw [F_L_law]
theorem L_9 (a0 : Nat) (a1 : Nat) (a2 : Nat) (a4 : Nat) (a5 : Int32) (a6 : Nat) (a7 : Nat) (a8 : Int32) (a9 : Int32) (a10 : Int32) (a13 : Int32) (a14 : Int32) (w : XW) : (F_L_law fu (n + 1)).2.2.2.2.2.2.2.2.2.1 a0 a1 a2 a4 a5 a6 a7 a8 a9 a10 a13 a14 w =
    (aI w a2 (0 : Int32)).bind fun x51 =>
    (if a14 < x51 then
      (aI w a7 a14).bind fun x58 =>
      (if x58 < 0 then
        (F_L_law fu n).2.2.2.2.2.2.2.2.2.2.1 a0 a1 a2 a4 a5 a6 a7 a8 a9 a10 a14 (0 : Int32) a13 w
      else
        (F_L_law fu n).2.2.2.2.2.2.2.2.2.2.1 a0 a1 a2 a4 a5 a6 a7 a8 a9 a10 a14 (1 : Int32) a13 w)
    else
      cI (U_X7_many fu [.ref a1, .int (3 : Int32)] w) fun x53 w52 =>
      (if x53 = a13 then
        cI (U_X7_many fu [.ref a1, .int (6 : Int32)] w52) fun x55 w54 =>
        (if x55 = a8 then
          cI (U_L_some fu [.int (a10 >>> ((11 : Int32) &&& 31)), .int (3 : Int32)] w54) fun x57 w56 =>
          (F_L_law fu n).2.2.2.2.2.2.2.2.2.2.2.2.1 a0 a1 a2 a4 a5 a6 a7 a8 a9 a10 x57 (0 : Int32) w56
        else
          retZ (0 : Int32) w54)
      else
        retZ (0 : Int32) w52)) := by
  rw [F_L_law]
theorem L_10 (a0 : Nat) (a1 : Nat) (a2 : Nat) (a4 : Nat) (a5 : Int32) (a6 : Nat) (a7 : Nat) (a8 : Int32) (a9 : Int32) (a10 : Int32) (a14 : Int32) (s0 : Int32) (s1 : Int32) (w : XW) : (F_L_law fu (n + 1)).2.2.2.2.2.2.2.2.2.2.1 a0 a1 a2 a4 a5 a6 a7 a8 a9 a10 a14 s0 s1 w =
    cI (U_X7_ofCell fu [.ref a1, .int a14, .int (2 : Int32)] w) fun x60 w59 =>
    (aI w59 a7 a14).bind fun x61 =>
    (if x61 < 0 then
      (F_L_law fu n).2.2.2.2.2.2.2.2.2.2.2.1 a0 a1 a2 a4 a5 a6 a7 a8 a9 a10 (s1 + s0) a14 (-9 : Int32) x60 w59
    else
      (aI w59 a7 a14).bind fun x62 =>
      (F_L_law fu n).2.2.2.2.2.2.2.2.2.2.2.1 a0 a1 a2 a4 a5 a6 a7 a8 a9 a10 (s1 + s0) a14 x62 x60 w59) := by
  rw [F_L_law]
theorem L_11 (a0 : Nat) (a1 : Nat) (a2 : Nat) (a4 : Nat) (a5 : Int32) (a6 : Nat) (a7 : Nat) (a8 : Int32) (a9 : Int32) (a10 : Int32) (a13 : Int32) (a14 : Int32) (s0 : Int32) (s1 : Int32) (w : XW) : (F_L_law fu (n + 1)).2.2.2.2.2.2.2.2.2.2.2.1 a0 a1 a2 a4 a5 a6 a7 a8 a9 a10 a13 a14 s0 s1 w =
    (if s1 = s0 then
      cI (U_X7_ofCell fu [.ref a1, .int a14, .int (4 : Int32)] w) fun x64 w63 =>
      (aI w63 a7 a14).bind fun x65 =>
      (if x65 < 0 then
        (if x64 = (-99 : Int32) then
          (F_L_law fu n).2.2.2.2.2.2.2.2.2.1 a0 a1 a2 a4 a5 a6 a7 a8 a9 a10 a13 (a14 + (1 : Int32)) w63
        else
          retZ (0 : Int32) w63)
      else
        (aI w63 a7 a14).bind fun x66 =>
        (aI w63 a4 ((6 : Int32) + x66)).bind fun x67 =>
        (aI w63 a2 ((2 : Int32) + a14)).bind fun x68 =>
        (if x64 = ((x67 - x68) - a8) then
          (F_L_law fu n).2.2.2.2.2.2.2.2.2.1 a0 a1 a2 a4 a5 a6 a7 a8 a9 a10 a13 (a14 + (1 : Int32)) w63
        else
          retZ (0 : Int32) w63))
    else
      retZ (0 : Int32) w) := by
  rw [F_L_law]
theorem L_12 (a0 : Nat) (a1 : Nat) (a2 : Nat) (a4 : Nat) (a5 : Int32) (a6 : Nat) (a7 : Nat) (a8 : Int32) (a9 : Int32) (a10 : Int32) (a14 : Int32) (a15 : Int32) (w : XW) : (F_L_law fu (n + 1)).2.2.2.2.2.2.2.2.2.2.2.2.1 a0 a1 a2 a4 a5 a6 a7 a8 a9 a10 a14 a15 w =
    (if a15 < (2 : Int32) then
      (if a15 = (1 : Int32) then
        (F_L_law fu n).2.2.2.2.2.2.2.2.2.2.2.2.2.1 a0 a1 a2 a4 a5 a6 a7 a8 a9 a10 a14 a15 (1 : Int32) a14 a1 w
      else
        (F_L_law fu n).2.2.2.2.2.2.2.2.2.2.2.2.2.1 a0 a1 a2 a4 a5 a6 a7 a8 a9 a10 a14 a15 (0 : Int32) a14 a1 w)
    else
      (aI w a2 (0 : Int32)).bind fun x69 =>
      (F_L_law fu n).2.2.2.2.2.2.2.2.2.2.2.2.2.2.2.1 a0 a1 a2 a4 a5 a6 a7 a8 a9 a10 a14 (x69 + (1 : Int32)) (-9 : Int32) (9 : Int32) w) := by
  rw [F_L_law]
theorem L_13 (a0 : Nat) (a1 : Nat) (a2 : Nat) (a4 : Nat) (a5 : Int32) (a6 : Nat) (a7 : Nat) (a8 : Int32) (a9 : Int32) (a10 : Int32) (a14 : Int32) (a15 : Int32) (s0 : Int32) (s1 : Int32) (s2 : Nat) (w : XW) : (F_L_law fu (n + 1)).2.2.2.2.2.2.2.2.2.2.2.2.2.1 a0 a1 a2 a4 a5 a6 a7 a8 a9 a10 a14 a15 s0 s1 s2 w =
    cI (U_X7_can fu [.ref s2, .int s1, .int s0] w) fun x71 w70 =>
    (aI w70 a6 a14).bind fun x72 =>
    cI (U_L_can fu [.ref a2, .ref a4, .ref a7, .int a8, .int (x72 - a15)] w70) fun x74 w73 =>
    (if x74 = 0 then
      (if x71 = (0 : Int32) then
        (F_L_law fu n).2.2.2.2.2.2.2.2.2.2.2.2.2.2.1 a0 a1 a2 a4 a5 a6 a7 a8 a9 a10 a14 a15 (-9 : Int32) (0 : Int32) w73
      else
        retZ (0 : Int32) w73)
    else
      (if x71 = (1 : Int32) then
        (F_L_law fu n).2.2.2.2.2.2.2.2.2.2.2.2.2.2.1 a0 a1 a2 a4 a5 a6 a7 a8 a9 a10 a14 a15 (-9 : Int32) (0 : Int32) w73
      else
        retZ (0 : Int32) w73)) := by
  rw [F_L_law]
theorem L_14 (a0 : Nat) (a1 : Nat) (a2 : Nat) (a4 : Nat) (a5 : Int32) (a6 : Nat) (a7 : Nat) (a8 : Int32) (a9 : Int32) (a10 : Int32) (a14 : Int32) (a15 : Int32) (a16 : Int32) (a17 : Int32) (w : XW) : (F_L_law fu (n + 1)).2.2.2.2.2.2.2.2.2.2.2.2.2.2.1 a0 a1 a2 a4 a5 a6 a7 a8 a9 a10 a14 a15 a16 a17 w =
    (if a17 < (10 : Int32) then
      (aI w a6 a14).bind fun x79 =>
      cI (U_L_can fu [.ref a2, .ref a4, .ref a7, .int a17, .int (x79 - a15)] w) fun x81 w80 =>
      (if x81 = 0 then
        (F_L_law fu n).2.2.2.2.2.2.2.2.2.2.2.2.2.2.1 a0 a1 a2 a4 a5 a6 a7 a8 a9 a10 a14 a15 a16 (a17 + (1 : Int32)) w80
      else
        (F_L_law fu n).2.2.2.2.2.2.2.2.2.2.2.2.2.2.1 a0 a1 a2 a4 a5 a6 a7 a8 a9 a10 a14 a15 a17 (a17 + (1 : Int32)) w80)
    else
      (if a15 = (1 : Int32) then
        cI (U_X7_highest fu [.ref a1, .int a14, .int (1 : Int32)] w) fun x78 w77 =>
        (if x78 = a16 then
          (F_L_law fu n).2.2.2.2.2.2.2.2.2.2.2.2.1 a0 a1 a2 a4 a5 a6 a7 a8 a9 a10 a14 (a15 + (1 : Int32)) w77
        else
          retZ (0 : Int32) w77)
      else
        cI (U_X7_highest fu [.ref a1, .int a14, .int (0 : Int32)] w) fun x76 w75 =>
        (if x76 = a16 then
          (F_L_law fu n).2.2.2.2.2.2.2.2.2.2.2.2.1 a0 a1 a2 a4 a5 a6 a7 a8 a9 a10 a14 (a15 + (1 : Int32)) w75
        else
          retZ (0 : Int32) w75))) := by
  rw [F_L_law]
theorem L_15 (a0 : Nat) (a1 : Nat) (a2 : Nat) (a4 : Nat) (a5 : Int32) (a6 : Nat) (a7 : Nat) (a8 : Int32) (a9 : Int32) (a10 : Int32) (a14 : Int32) (a15 : Int32) (a16 : Int32) (a17 : Int32) (w : XW) : (F_L_law fu (n + 1)).2.2.2.2.2.2.2.2.2.2.2.2.2.2.2.1 a0 a1 a2 a4 a5 a6 a7 a8 a9 a10 a14 a15 a16 a17 w =
    (if 0 < a17 then
      (aI w a6 a14).bind fun x84 =>
      cI (U_L_come fu [.ref a2, .ref a4, .ref a7, .int a8, .int x84, .int (0 : Int32), .int a17] w) fun x86 w85 =>
      (if ((x86 >>> (a15 &&& 31)) &&& (1 : Int32)) = (1 : Int32) then
        (F_L_law fu n).2.2.2.2.2.2.2.2.2.2.2.2.2.2.2.1 a0 a1 a2 a4 a5 a6 a7 a8 a9 a10 a14 a15 a17 (a17 + (-1 : Int32)) w85
      else
        (F_L_law fu n).2.2.2.2.2.2.2.2.2.2.2.2.2.2.2.1 a0 a1 a2 a4 a5 a6 a7 a8 a9 a10 a14 a15 a16 (a17 + (-1 : Int32)) w85)
    else
      cI (U_X7_way fu [.ref a1, .int a14, .int (-1 : Int32)] w) fun x83 w82 =>
      (if x83 = a16 then
        (F_L_law fu n).2.2.2.2.2.2.2.2.2.2.2.2.2.2.2.2.1 a0 a1 a2 a4 a5 a6 a7 a8 a9 a10 a14 a15 a16 (0 : Int32) (0 : Int32) w82
      else
        retZ (0 : Int32) w82)) := by
  rw [F_L_law]
theorem L_16 (a0 : Nat) (a1 : Nat) (a2 : Nat) (a4 : Nat) (a5 : Int32) (a6 : Nat) (a7 : Nat) (a8 : Int32) (a9 : Int32) (a10 : Int32) (a14 : Int32) (a15 : Int32) (a16 : Int32) (a17 : Int32) (a18 : Int32) (w : XW) : (F_L_law fu (n + 1)).2.2.2.2.2.2.2.2.2.2.2.2.2.2.2.2.1 a0 a1 a2 a4 a5 a6 a7 a8 a9 a10 a14 a15 a16 a17 a18 w =
    (if a18 < (9 : Int32) then
      (if a16 < 0 then
        cI (U_X7_way fu [.ref a1, .int a14, .int a18] w) fun x88 w87 =>
        (if x88 = (-9 : Int32) then
          (F_L_law fu n).2.2.2.2.2.2.2.2.2.2.2.2.2.2.2.2.1 a0 a1 a2 a4 a5 a6 a7 a8 a9 a10 a14 a15 a16 a17 (a18 + (1 : Int32)) w87
        else
          retZ (0 : Int32) w87)
      else
        (if a18 < a16 then
          (F_L_law fu n).2.2.2.2.2.2.2.2.2.2.2.2.2.2.2.2.2.1 a0 a1 a2 a4 a5 a6 a7 a8 a9 a10 a14 a15 a16 a17 a18 (-1 : Int32) a15 w
        else
          cI (U_X7_way fu [.ref a1, .int a14, .int a18] w) fun x90 w89 =>
          (if x90 = (-9 : Int32) then
            (F_L_law fu n).2.2.2.2.2.2.2.2.2.2.2.2.2.2.2.2.1 a0 a1 a2 a4 a5 a6 a7 a8 a9 a10 a14 a15 a16 a17 (a18 + (1 : Int32)) w89
          else
            retZ (0 : Int32) w89)))
    else
      (if 0 < a16 then
        (if a17 = a15 then
          (F_L_law fu n).2.2.2.2.2.2.2.2.2.2.2.2.2.2.2.2.2.2.2.1 a0 a1 a2 a4 a5 a6 a7 a8 a9 a10 a14 a15 w
        else
          retZ (0 : Int32) w)
      else
        (F_L_law fu n).2.2.2.2.2.2.2.2.2.2.2.2.2.2.2.2.2.2.2.1 a0 a1 a2 a4 a5 a6 a7 a8 a9 a10 a14 a15 w)) := by
  rw [F_L_law]
theorem L_17 (a0 : Nat) (a1 : Nat) (a2 : Nat) (a4 : Nat) (a5 : Int32) (a6 : Nat) (a7 : Nat) (a8 : Int32) (a9 : Int32) (a10 : Int32) (a14 : Int32) (a15 : Int32) (a16 : Int32) (a17 : Int32) (a18 : Int32) (a19 : Int32) (a20 : Int32) (w : XW) : (F_L_law fu (n + 1)).2.2.2.2.2.2.2.2.2.2.2.2.2.2.2.2.2.1 a0 a1 a2 a4 a5 a6 a7 a8 a9 a10 a14 a15 a16 a17 a18 a19 a20 w =
    (if 0 < a20 then
      (if a20 = a17 then
        (F_L_law fu n).2.2.2.2.2.2.2.2.2.2.2.2.2.2.2.2.2.2.1 a0 a1 a2 a4 a5 a6 a7 a8 a9 a10 a14 a15 a16 a17 a18 a19 a20 (0 : Int32) w
      else
        cI (U_L_stands fu [.ref a2, .ref a4, .ref a7, .int a8, .int a20] w) fun x94 w93 =>
        (if x94 = 0 then
          (F_L_law fu n).2.2.2.2.2.2.2.2.2.2.2.2.2.2.2.2.2.2.1 a0 a1 a2 a4 a5 a6 a7 a8 a9 a10 a14 a15 a16 a17 a18 a19 a20 (0 : Int32) w93
        else
          (aI w93 a6 a14).bind fun x95 =>
          cI (U_L_goes fu [.ref a2, .ref a4, .ref a7, .int x95, .int a17, .int a20] w93) fun x97 w96 =>
          (if x97 = 0 then
            (F_L_law fu n).2.2.2.2.2.2.2.2.2.2.2.2.2.2.2.2.2.2.1 a0 a1 a2 a4 a5 a6 a7 a8 a9 a10 a14 a15 a16 a17 a18 a19 a20 (0 : Int32) w96
          else
            (F_L_law fu n).2.2.2.2.2.2.2.2.2.2.2.2.2.2.2.2.2.2.1 a0 a1 a2 a4 a5 a6 a7 a8 a9 a10 a14 a15 a16 a17 a18 a19 a20 (1 : Int32) w96)))
    else
      (if a19 < 0 then
        retZ (0 : Int32) w
      else
        cI (U_X7_way fu [.ref a1, .int a14, .int a18] w) fun x92 w91 =>
        (if x92 = (a19 - (1 : Int32)) then
          (F_L_law fu n).2.2.2.2.2.2.2.2.2.2.2.2.2.2.2.2.1 a0 a1 a2 a4 a5 a6 a7 a8 a9 a10 a14 a15 a16 a19 (a18 + (1 : Int32)) w91
        else
          retZ (0 : Int32) w91))) := by
  rw [F_L_law]
theorem L_18 (a0 : Nat) (a1 : Nat) (a2 : Nat) (a4 : Nat) (a5 : Int32) (a6 : Nat) (a7 : Nat) (a8 : Int32) (a9 : Int32) (a10 : Int32) (a14 : Int32) (a15 : Int32) (a16 : Int32) (a17 : Int32) (a18 : Int32) (a19 : Int32) (a20 : Int32) (s0 : Int32) (w : XW) : (F_L_law fu (n + 1)).2.2.2.2.2.2.2.2.2.2.2.2.2.2.2.2.2.2.1 a0 a1 a2 a4 a5 a6 a7 a8 a9 a10 a14 a15 a16 a17 a18 a19 a20 s0 w =
    (if s0 = 0 then
      (F_L_law fu n).2.2.2.2.2.2.2.2.2.2.2.2.2.2.2.2.2.1 a0 a1 a2 a4 a5 a6 a7 a8 a9 a10 a14 a15 a16 a17 a18 a19 (a20 + (-1 : Int32)) w
    else
      (aI w a6 a14).bind fun x98 =>
      cI (U_L_come fu [.ref a2, .ref a4, .ref a7, .int a8, .int x98, .int a20, .int ((a16 - (1 : Int32)) - a18)] w) fun x100 w99 =>
      (if ((x100 >>> (a15 &&& 31)) &&& (1 : Int32)) = (1 : Int32) then
        (F_L_law fu n).2.2.2.2.2.2.2.2.2.2.2.2.2.2.2.2.2.1 a0 a1 a2 a4 a5 a6 a7 a8 a9 a10 a14 a15 a16 a17 a18 a20 (a20 + (-1 : Int32)) w99
      else
        (F_L_law fu n).2.2.2.2.2.2.2.2.2.2.2.2.2.2.2.2.2.1 a0 a1 a2 a4 a5 a6 a7 a8 a9 a10 a14 a15 a16 a17 a18 a19 (a20 + (-1 : Int32)) w99)) := by
  rw [F_L_law]
theorem L_19 (a0 : Nat) (a1 : Nat) (a2 : Nat) (a4 : Nat) (a5 : Int32) (a6 : Nat) (a7 : Nat) (a8 : Int32) (a9 : Int32) (a10 : Int32) (a14 : Int32) (a15 : Int32) (w : XW) : (F_L_law fu (n + 1)).2.2.2.2.2.2.2.2.2.2.2.2.2.2.2.2.2.2.2.1 a0 a1 a2 a4 a5 a6 a7 a8 a9 a10 a14 a15 w =
    cI (U_L_some fu [.int (a10 >>> ((13 : Int32) &&& 31)), .int (3 : Int32)] w) fun x102 w101 =>
    (aI w101 a6 a14).bind fun x103 =>
    cI (U_L_come fu [.ref a2, .ref a4, .ref a7, .int a8, .int x103, .int (0 : Int32), .int (9 : Int32)] w101) fun x105 w104 =>
    (aI w104 a6 a14).bind fun x106 =>
    cI (U_L_come fu [.ref a2, .ref a4, .ref a7, .int a8, .int x106, .int a15, .int (9 : Int32)] w104) fun x108 w107 =>
    (aI w107 a6 x102).bind fun x109 =>
    cI (U_L_come fu [.ref a2, .ref a4, .ref a7, .int a8, .int x109, .int (0 : Int32), .int (9 : Int32)] w107) fun x111 w110 =>
    (aI w110 a6 x102).bind fun x112 =>
    cI (U_L_come fu [.ref a2, .ref a4, .ref a7, .int a8, .int x112, .int a15, .int (9 : Int32)] w110) fun x114 w113 =>
    (F_L_law fu n).2.2.2.2.2.2.2.2.2.2.2.2.2.2.2.2.2.2.2.2.1 a0 a1 a2 a4 a5 a6 a7 a8 a9 a10 a14 x102 (((x105 &&& x108) &&& x111) &&& x114) (0 : Int32) (0 : Int32) w113 := by
  rw [F_L_law]
theorem L_20 (a0 : Nat) (a1 : Nat) (a2 : Nat) (a4 : Nat) (a5 : Int32) (a6 : Nat) (a7 : Nat) (a8 : Int32) (a9 : Int32) (a10 : Int32) (a14 : Int32) (a18 : Int32) (a19 : Int32) (a20 : Int32) (a21 : Int32) (w : XW) : (F_L_law fu (n + 1)).2.2.2.2.2.2.2.2.2.2.2.2.2.2.2.2.2.2.2.2.1 a0 a1 a2 a4 a5 a6 a7 a8 a9 a10 a14 a18 a19 a20 a21 w =
    (aI w a2 (0 : Int32)).bind fun x115 =>
    (if a21 < x115 then
      (if ((a19 >>> ((a21 + (1 : Int32)) &&& 31)) &&& (1 : Int32)) = (1 : Int32) then
        (aI w a7 a21).bind fun x124 =>
        (aI w a4 x124).bind fun x125 =>
        (if 0 < x125 then
          (F_L_law fu n).2.2.2.2.2.2.2.2.2.2.2.2.2.2.2.2.2.2.2.2.1 a0 a1 a2 a4 a5 a6 a7 a8 a9 a10 a14 a18 a19 (a20 ||| ((1 : Int32) <<< (a21 &&& 31))) (a21 + (1 : Int32)) w
        else
          (F_L_law fu n).2.2.2.2.2.2.2.2.2.2.2.2.2.2.2.2.2.2.2.2.1 a0 a1 a2 a4 a5 a6 a7 a8 a9 a10 a14 a18 a19 a20 (a21 + (1 : Int32)) w)
      else
        (F_L_law fu n).2.2.2.2.2.2.2.2.2.2.2.2.2.2.2.2.2.2.2.2.1 a0 a1 a2 a4 a5 a6 a7 a8 a9 a10 a14 a18 a19 a20 (a21 + (1 : Int32)) w)
    else
      cI (U_X7_pass fu [.ref a1, .int a14, .int a18] w) fun x117 w116 =>
      (if x117 = a20 then
        cI (U_X7_pass fu [.ref a1, .int a18, .int a14] w116) fun x119 w118 =>
        (if x119 = a20 then
          (if (5 : Int32) = 0 then none else
          (if 0 < (a9 - a9 / (5 : Int32) * (5 : Int32)) then
            (F_L_law fu n).2.2.2.1 a0 a1 a2 a4 a5 a6 a7 a8 (a9 + (1 : Int32)) w118
          else
            cI (U_L_some fu [.int (a10 >>> ((15 : Int32) &&& 31)), .int (7 : Int32)] w118) fun x121 w120 =>
            cI (U_X7_sheet fu [.ref a1, .int (1 : Int32), .int (1 : Int32), .int (8 : Int32)] w120) fun x123 w122 =>
            (if x123 = (1 : Int32) then
              (F_L_law fu n).2.2.2.2.2.2.2.2.2.2.2.2.2.2.2.2.2.2.2.2.2.1 a0 a1 a2 a4 a5 a6 a7 a8 a9 a10 a14 x121 (0 : Int32) (0 : Int32) w122
            else
              retZ (0 : Int32) w122)))
        else
          retZ (0 : Int32) w118)
      else
        retZ (0 : Int32) w116)) := by
  rw [F_L_law]
theorem L_21 (a0 : Nat) (a1 : Nat) (a2 : Nat) (a4 : Nat) (a5 : Int32) (a6 : Nat) (a7 : Nat) (a8 : Int32) (a9 : Int32) (a10 : Int32) (a14 : Int32) (a21 : Int32) (a22 : Int32) (a23 : Int32) (w : XW) : (F_L_law fu (n + 1)).2.2.2.2.2.2.2.2.2.2.2.2.2.2.2.2.2.2.2.2.2.1 a0 a1 a2 a4 a5 a6 a7 a8 a9 a10 a14 a21 a22 a23 w =
    (if a23 < a21 then
      cI (U_L_some fu [.int (a10 >>> (((9 : Int32) + a23) &&& 31)), .int (10 : Int32)] w) fun x131 w130 =>
      cI (U_X7_put fu [.ref a1, .int (1 : Int32), .int ((1 : Int32) + a23), .int x131] w130) fun x133 w132 =>
      (if x133 = (1 : Int32) then
        (aI w132 a6 a14).bind fun x134 =>
        cI (U_L_can fu [.ref a2, .ref a4, .ref a7, .int x131, .int x134] w132) fun x136 w135 =>
        (if x136 = 0 then
          (F_L_law fu n).2.2.2.2.2.2.2.2.2.2.2.2.2.2.2.2.2.2.2.2.2.1 a0 a1 a2 a4 a5 a6 a7 a8 a9 a10 a14 a21 (a22 + (0 : Int32)) (a23 + (1 : Int32)) w135
        else
          (F_L_law fu n).2.2.2.2.2.2.2.2.2.2.2.2.2.2.2.2.2.2.2.2.2.1 a0 a1 a2 a4 a5 a6 a7 a8 a9 a10 a14 a21 (a22 + (1 : Int32)) (a23 + (1 : Int32)) w135)
      else
        retZ (0 : Int32) w132)
    else
      cI (U_X7_days fu [.ref a1, .int a14, .int (1 : Int32), .int (1 : Int32), .int (1 : Int32), .int a21] w) fun x127 w126 =>
      (if x127 = a22 then
        cI (U_X7_many fu [.ref a1, .int (6 : Int32)] w126) fun x129 w128 =>
        (if x129 = a8 then
          (F_L_law fu n).2.2.2.1 a0 a1 a2 a4 a5 a6 a7 a8 (a9 + (1 : Int32)) w128
        else
          retZ (0 : Int32) w128)
      else
        retZ (0 : Int32) w126)) := by
  rw [F_L_law]
theorem L_22 (a1 : Nat) (w : XW) : (F_L_law fu (n + 1)).2.2.2.2.2.2.2.2.2.2.2.2.2.2.2.2.2.2.2.2.2.2 a1 w =
    cI (U_X7_water fu [.ref a1, .int (10 : Int32)] w) fun x138 w137 =>
    (if x138 = (-2 : Int32) then
      cI (U_X7_walker fu [.ref a1, .int (0 : Int32)] w137) fun x140 w139 =>
      (if x140 = (-2 : Int32) then
        cI (U_X7_walker fu [.ref a1, .int (10 : Int32)] w139) fun x142 w141 =>
        (if x142 = (-2 : Int32) then
          cI (U_X7_stride fu [.ref a1, .int (3 : Int32)] w141) fun x144 w143 =>
          (if x144 = (-1 : Int32) then
            cI (U_X7_can fu [.ref a1, .int (3 : Int32), .int (1 : Int32)] w143) fun x146 w145 =>
            (if x146 = (-1 : Int32) then
              cI (U_X7_way fu [.ref a1, .int (3 : Int32), .int (0 : Int32)] w145) fun x148 w147 =>
              (if x148 = (-1 : Int32) then
                cI (U_X7_way fu [.ref a1, .int (0 : Int32), .int (-2 : Int32)] w147) fun x150 w149 =>
                (if x150 = (-1 : Int32) then
                  cI (U_X7_highest fu [.ref a1, .int (-1 : Int32), .int (1 : Int32)] w149) fun x152 w151 =>
                  (if x152 = (-1 : Int32) then
                    cI (U_X7_pass fu [.ref a1, .int (0 : Int32), .int (3 : Int32)] w151) fun x154 w153 =>
                    (if x154 = (-1 : Int32) then
                      cI (U_X7_days fu [.ref a1, .int (3 : Int32), .int (1 : Int32), .int (1 : Int32), .int (0 : Int32), .int (0 : Int32)] w153) fun x156 w155 =>
                      (if x156 = (-1 : Int32) then
                        cI (U_X7_days fu [.ref a1, .int (0 : Int32), .int (1 : Int32), .int (1 : Int32), .int (0 : Int32), .int (0 : Int32)] w155) fun x158 w157 =>
                        (if x158 = 0 then
                          cI (U_X7_put fu [.ref a1, .int (1 : Int32), .int (0 : Int32), .int (10 : Int32)] w157) fun x160 w159 =>
                          (if x160 = (1 : Int32) then
                            cI (U_X7_days fu [.ref a1, .int (0 : Int32), .int (1 : Int32), .int (1 : Int32), .int (0 : Int32), .int (1 : Int32)] w159) fun x162 w161 =>
                            (if x162 = (-2 : Int32) then
                              cI (U_X7_days fu [.ref a1, .int (0 : Int32), .int (1 : Int32), .int (1 : Int32), .int (8 : Int32), .int (1 : Int32)] w161) fun x164 w163 =>
                              (if x164 = (-13 : Int32) then
                                cI (U_X7_days fu [.ref a1, .int (0 : Int32), .int (1 : Int32), .int (0 : Int32), .int (0 : Int32), .int (1 : Int32)] w163) fun x166 w165 =>
                                (if x166 = (-12 : Int32) then
                                  cI (U_X7_days fu [.ref a1, .int (0 : Int32), .int (1 : Int32), .int (1 : Int32), .int (0 : Int32), .int (-1 : Int32)] w165) fun x168 w167 =>
                                  (if x168 = (-14 : Int32) then
                                    cI (U_X7_days fu [.ref a1, .int (0 : Int32), .int (2 : Int32), .int (1 : Int32), .int (0 : Int32), .int (1 : Int32)] w167) fun x170 w169 =>
                                    (if x170 = (-11 : Int32) then
                                      retZ (1 : Int32) w169
                                    else
                                      retZ (0 : Int32) w169)
                                  else
                                    retZ (0 : Int32) w167)
                                else
                                  retZ (0 : Int32) w165)
                              else
                                retZ (0 : Int32) w163)
                            else
                              retZ (0 : Int32) w161)
                          else
                            retZ (0 : Int32) w159)
                        else
                          retZ (0 : Int32) w157)
                      else
                        retZ (0 : Int32) w155)
                    else
                      retZ (0 : Int32) w153)
                  else
                    retZ (0 : Int32) w151)
                else
                  retZ (0 : Int32) w149)
              else
                retZ (0 : Int32) w147)
            else
              retZ (0 : Int32) w145)
          else
            retZ (0 : Int32) w143)
        else
          retZ (0 : Int32) w141)
      else
        retZ (0 : Int32) w139)
    else
      retZ (0 : Int32) w137) := by
  rw [F_L_law]
end LW
