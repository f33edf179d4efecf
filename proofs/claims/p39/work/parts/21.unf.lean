/-! unfolding rows (laid by program wip/whole/gen/part21.py) -/
theorem u_J7_fill_53178 (fu : Nat) (a0 : Nat) (a1 : Int32) (w : XW) : U_J7_fill_53178 fu [.ref a0, .int a1] w = M_J7_fill_53178 fu a0 a1 w := rfl
theorem u_X0_init (fu : Nat) (a0 : Nat) (w : XW) : U_X0_init fu [.ref a0] w = M_X0_init fu a0 w := rfl
theorem u_X4_init (fu : Nat) (a0 : Nat) (w : XW) : U_X4_init fu [.ref a0] w = M_X4_init fu a0 w := rfl
theorem u_X6_init (fu : Nat) (a0 : Nat) (w : XW) : U_X6_init fu [.ref a0] w = M_X6_init fu a0 w := rfl
theorem u_X1_init (fu : Nat) (a0 : Nat) (w : XW) : U_X1_init fu [.ref a0] w = M_X1_init fu a0 w := rfl
theorem u_X3_init (fu : Nat) (a0 : Nat) (w : XW) : U_X3_init fu [.ref a0] w = M_X3_init fu a0 w := rfl
theorem u_X2_init (fu : Nat) (a0 : Nat) (w : XW) : U_X2_init fu [.ref a0] w = M_X2_init fu a0 w := rfl
theorem u_X7_init (fu : Nat) (a0 : Nat) (w : XW) : U_X7_init fu [.ref a0] w = M_X7_init fu a0 w := rfl
theorem u_L_cell (fu : Nat) (a0 : Nat) (a1 : Int32) (w : XW) : U_L_cell fu [.ref a0, .int a1] w = M_L_cell fu a0 a1 w := rfl
theorem u_L_some (fu : Nat) (a0 : Int32) (a1 : Int32) (w : XW) : U_L_some fu [.int a0, .int a1] w = M_L_some fu a0 a1 w := rfl
theorem u_X7_isWithin (fu : Nat) (a0 : Int32) (a1 : Int32) (a2 : Int32) (w : XW) : U_X7_isWithin fu [.int a0, .int a1, .int a2] w = M_X7_isWithin fu a0 a1 a2 w := rfl
theorem u_X4_isSheet (fu : Nat) (a0 : Int32) (w : XW) : U_X4_isSheet fu [.int a0] w = M_X4_isSheet fu a0 w := rfl
theorem u_X4_isSort (fu : Nat) (a0 : Int32) (w : XW) : U_X4_isSort fu [.int a0] w = M_X4_isSort fu a0 w := rfl
theorem u_X7_failBy (fu : Nat) (a0 : Nat) (a1 : Int32) (w : XW) : U_X7_failBy fu [.ref a0, .int a1] w = if isO w a0 6 = true then M_X7_failBy fu a0 a1 w else none := rfl
theorem u_J7_rangeCheck_23922 (fu : Nat) (a0 : Int32) (a1 : Int32) (a2 : Int32) (w : XW) : U_J7_rangeCheck_23922 fu [.int a0, .int a1, .int a2] w = M_J7_rangeCheck_23922 fu a0 a1 a2 w := rfl
theorem u_J7_fill_fda19 (fu : Nat) (a0 : Nat) (a1 : Int32) (a2 : Int32) (a3 : Int32) (w : XW) : U_J7_fill_fda19 fu [.ref a0, .int a1, .int a2, .int a3] w = M_J7_fill_fda19 fu a0 a1 a2 a3 w := rfl
theorem u_X4_renew (fu : Nat) (a0 : Nat) (a1 : Int32) (a2 : Int32) (a3 : Int32) (w : XW) : U_X4_renew fu [.ref a0, .int a1, .int a2, .int a3] w = if isO w a0 4 = true then M_X4_renew fu a0 a1 a2 a3 w else none := rfl
theorem u_X7_sheet (fu : Nat) (a0 : Nat) (a1 : Int32) (a2 : Int32) (a3 : Int32) (w : XW) : U_X7_sheet fu [.ref a0, .int a1, .int a2, .int a3] w = if isO w a0 6 = true then M_X7_sheet fu a0 a1 a2 a3 w else none := rfl
theorem u_X4_isThere (fu : Nat) (a0 : Nat) (a1 : Int32) (w : XW) : U_X4_isThere fu [.ref a0, .int a1] w = if isO w a0 4 = true then M_X4_isThere fu a0 a1 w else none := rfl
theorem u_X4_cut (fu : Nat) (a0 : Int32) (a1 : Int32) (w : XW) : U_X4_cut fu [.int a0, .int a1] w = M_X4_cut fu a0 a1 w := rfl
theorem u_X4_write (fu : Nat) (a0 : Nat) (a1 : Int32) (a2 : Int32) (a3 : Int32) (w : XW) : U_X4_write fu [.ref a0, .int a1, .int a2, .int a3] w = if isO w a0 4 = true then M_X4_write fu a0 a1 a2 a3 w else none := rfl
theorem u_X7_put (fu : Nat) (a0 : Nat) (a1 : Int32) (a2 : Int32) (a3 : Int32) (w : XW) : U_X7_put fu [.ref a0, .int a1, .int a2, .int a3] w = if isO w a0 6 = true then M_X7_put fu a0 a1 a2 a3 w else none := rfl
theorem u_L_put (fu : Nat) (a0 : Nat) (a1 : Nat) (a2 : Int32) (a3 : Int32) (a4 : Nat) (w : XW) : U_L_put fu [.ref a0, .ref a1, .int a2, .int a3, .ref a4] w = M_L_put fu a0 a1 a2 a3 a4 w := rfl
theorem u_X4_reaches (fu : Nat) (a0 : Nat) (a1 : Int32) (a2 : Int32) (a3 : Int32) (w : XW) : U_X4_reaches fu [.ref a0, .int a1, .int a2, .int a3] w = if isO w a0 4 = true then M_X4_reaches fu a0 a1 a2 a3 w else none := rfl
theorem u_X4_faultOfCells (fu : Nat) (a0 : Nat) (a1 : Int32) (a2 : Int32) (a3 : Int32) (a4 : Int32) (w : XW) : U_X4_faultOfCells fu [.ref a0, .int a1, .int a2, .int a3, .int a4] w = if isO w a0 4 = true then M_X4_faultOfCells fu a0 a1 a2 a3 a4 w else none := rfl
theorem u_X7_refusalOfCells (fu : Nat) (a0 : Nat) (a1 : Int32) (a2 : Int32) (a3 : Int32) (a4 : Int32) (w : XW) : U_X7_refusalOfCells fu [.ref a0, .int a1, .int a2, .int a3, .int a4] w = if isO w a0 6 = true then M_X7_refusalOfCells fu a0 a1 a2 a3 a4 w else none := rfl
theorem u_X4_at (fu : Nat) (a0 : Nat) (a1 : Int32) (a2 : Int32) (w : XW) : U_X4_at fu [.ref a0, .int a1, .int a2] w = if isO w a0 4 = true then M_X4_at fu a0 a1 a2 w else none := rfl
theorem u_X5_isDigit (fu : Nat) (a0 : Int32) (w : XW) : U_X5_isDigit fu [.int a0] w = M_X5_isDigit fu a0 w := rfl
theorem u_X5_cellsTold (fu : Nat) (a0 : Nat) (a1 : Int32) (a2 : Int32) (a3 : Int32) (w : XW) : U_X5_cellsTold fu [.ref a0, .int a1, .int a2, .int a3] w = M_X5_cellsTold fu a0 a1 a2 a3 w := rfl
theorem u_X5_length (fu : Nat) (a0 : Int32) (w : XW) : U_X5_length fu [.int a0] w = M_X5_length fu a0 w := rfl
theorem u_X5_goesOn (fu : Nat) (a0 : Int32) (a1 : Int32) (a2 : Int32) (w : XW) : U_X5_goesOn fu [.int a0, .int a1, .int a2] w = M_X5_goesOn fu a0 a1 a2 w := rfl
theorem u_X5_firstFault (fu : Nat) (a0 : Nat) (a1 : Int32) (a2 : Int32) (a3 : Int32) (w : XW) : U_X5_firstFault fu [.ref a0, .int a1, .int a2, .int a3] w = M_X5_firstFault fu a0 a1 a2 a3 w := rfl
theorem u_X0_makeAnew (fu : Nat) (a0 : Nat) (w : XW) : U_X0_makeAnew fu [.ref a0] w = if isO w a0 0 = true then M_X0_makeAnew fu a0 w else none := rfl
theorem u_X5_readInto (fu : Nat) (a0 : Nat) (a1 : Nat) (a2 : Int32) (a3 : Int32) (a4 : Int32) (w : XW) : U_X5_readInto fu [.ref a0, .ref a1, .int a2, .int a3, .int a4] w = M_X5_readInto fu a0 a1 a2 a3 a4 w := rfl
theorem u_X7_brook (fu : Nat) (a0 : Nat) (a1 : Int32) (a2 : Int32) (a3 : Int32) (a4 : Int32) (w : XW) : U_X7_brook fu [.ref a0, .int a1, .int a2, .int a3, .int a4] w = if isO w a0 6 = true then M_X7_brook fu a0 a1 a2 a3 a4 w else none := rfl
theorem u_X0_isThere (fu : Nat) (a0 : Nat) (w : XW) : U_X0_isThere fu [.ref a0] w = if isO w a0 0 = true then M_X0_isThere fu a0 w else none := rfl
theorem u_X0_addStone (fu : Nat) (a0 : Nat) (a1 : Int32) (a2 : Int32) (a3 : Int32) (a4 : Int32) (w : XW) : U_X0_addStone fu [.ref a0, .int a1, .int a2, .int a3, .int a4] w = if isO w a0 0 = true then M_X0_addStone fu a0 a1 a2 a3 a4 w else none := rfl
theorem u_X7_stone (fu : Nat) (a0 : Nat) (a1 : Int32) (a2 : Int32) (a3 : Int32) (a4 : Int32) (w : XW) : U_X7_stone fu [.ref a0, .int a1, .int a2, .int a3, .int a4] w = if isO w a0 6 = true then M_X7_stone fu a0 a1 a2 a3 a4 w else none := rfl
theorem u_L_stones (fu : Nat) (a0 : Nat) (a1 : Nat) (a2 : Int32) (a3 : Int32) (a4 : Nat) (w : XW) : U_L_stones fu [.ref a0, .ref a1, .int a2, .int a3, .ref a4] w = M_L_stones fu a0 a1 a2 a3 a4 w := rfl
theorem u_X0_addWalker (fu : Nat) (a0 : Nat) (a1 : Int32) (w : XW) : U_X0_addWalker fu [.ref a0, .int a1] w = if isO w a0 0 = true then M_X0_addWalker fu a0 a1 w else none := rfl
theorem u_X7_walker (fu : Nat) (a0 : Nat) (a1 : Int32) (w : XW) : U_X7_walker fu [.ref a0, .int a1] w = if isO w a0 6 = true then M_X7_walker fu a0 a1 w else none := rfl
theorem u_X0_isWalker (fu : Nat) (a0 : Nat) (a1 : Int32) (w : XW) : U_X0_isWalker fu [.ref a0, .int a1] w = if isO w a0 0 = true then M_X0_isWalker fu a0 a1 w else none := rfl
theorem u_X7_stride (fu : Nat) (a0 : Nat) (a1 : Int32) (w : XW) : U_X7_stride fu [.ref a0, .int a1] w = if isO w a0 6 = true then M_X7_stride fu a0 a1 w else none := rfl
theorem u_X0_isStone (fu : Nat) (a0 : Nat) (a1 : Int32) (w : XW) : U_X0_isStone fu [.ref a0, .int a1] w = if isO w a0 0 = true then M_X0_isStone fu a0 a1 w else none := rfl
theorem u_X0_isCell (fu : Nat) (a0 : Nat) (a1 : Int32) (w : XW) : U_X0_isCell fu [.ref a0, .int a1] w = if isO w a0 0 = true then M_X0_isCell fu a0 a1 w else none := rfl
theorem u_X7_has (fu : Nat) (a0 : Int32) (a1 : Int32) (w : XW) : U_X7_has fu [.int a0, .int a1] w = M_X7_has fu a0 a1 w := rfl
theorem u_X0_cellOf (fu : Nat) (a0 : Nat) (a1 : Int32) (w : XW) : U_X0_cellOf fu [.ref a0, .int a1] w = if isO w a0 0 = true then M_X0_cellOf fu a0 a1 w else none := rfl
theorem u_X0_takeUp (fu : Nat) (a0 : Nat) (a1 : Int32) (w : XW) : U_X0_takeUp fu [.ref a0, .int a1] w = if isO w a0 0 = true then M_X0_takeUp fu a0 a1 w else none := rfl
theorem u_X7_set (fu : Nat) (a0 : Nat) (a1 : Int32) (a2 : Int32) (w : XW) : U_X7_set fu [.ref a0, .int a1, .int a2] w = if isO w a0 6 = true then M_X7_set fu a0 a1 a2 w else none := rfl
theorem u_X0_holdOf (fu : Nat) (a0 : Nat) (a1 : Int32) (w : XW) : U_X0_holdOf fu [.ref a0, .int a1] w = if isO w a0 0 = true then M_X0_holdOf fu a0 a1 w else none := rfl
theorem u_X7_ofStone (fu : Nat) (a0 : Nat) (a1 : Int32) (a2 : Int32) (w : XW) : U_X7_ofStone fu [.ref a0, .int a1, .int a2] w = if isO w a0 6 = true then M_X7_ofStone fu a0 a1 a2 w else none := rfl
theorem u_X7_water (fu : Nat) (a0 : Nat) (a1 : Int32) (w : XW) : U_X7_water fu [.ref a0, .int a1] w = if isO w a0 6 = true then M_X7_water fu a0 a1 w else none := rfl
theorem u_X0_topOf (fu : Nat) (a0 : Nat) (a1 : Int32) (a2 : Int32) (a3 : Int32) (w : XW) : U_X0_topOf fu [.ref a0, .int a1, .int a2, .int a3] w = if isO w a0 0 = true then M_X0_topOf fu a0 a1 a2 a3 w else none := rfl
theorem u_X7_ofCell (fu : Nat) (a0 : Nat) (a1 : Int32) (a2 : Int32) (w : XW) : U_X7_ofCell fu [.ref a0, .int a1, .int a2] w = if isO w a0 6 = true then M_X7_ofCell fu a0 a1 a2 w else none := rfl
theorem u_X0_ofKind (fu : Nat) (a0 : Nat) (a1 : Int32) (w : XW) : U_X0_ofKind fu [.ref a0, .int a1] w = if isO w a0 0 = true then M_X0_ofKind fu a0 a1 w else none := rfl
theorem u_X0_filled (fu : Nat) (a0 : Nat) (w : XW) : U_X0_filled fu [.ref a0] w = if isO w a0 0 = true then M_X0_filled fu a0 w else none := rfl
theorem u_J6_bitCount_0f7a4 (fu : Nat) (a0 : Int32) (w : XW) : U_J6_bitCount_0f7a4 fu [.int a0] w = M_J6_bitCount_0f7a4 fu a0 w := rfl
theorem u_X7_many (fu : Nat) (a0 : Nat) (a1 : Int32) (w : XW) : U_X7_many fu [.ref a0, .int a1] w = if isO w a0 6 = true then M_X7_many fu a0 a1 w else none := rfl
theorem u_X0_reachOf (fu : Nat) (a0 : Nat) (a1 : Int32) (a2 : Int32) (w : XW) : U_X0_reachOf fu [.ref a0, .int a1, .int a2] w = if isO w a0 0 = true then M_X0_reachOf fu a0 a1 a2 w else none := rfl
theorem u_X0_dry (fu : Nat) (a0 : Nat) (a1 : Int32) (w : XW) : U_X0_dry fu [.ref a0, .int a1] w = if isO w a0 0 = true then M_X0_dry fu a0 a1 w else none := rfl
theorem u_X7_farthest (fu : Nat) (a0 : Int32) (a1 : Int32) (a2 : Int32) (a3 : Int32) (w : XW) : U_X7_farthest fu [.int a0, .int a1, .int a2, .int a3] w = M_X7_farthest fu a0 a1 a2 a3 w := rfl
theorem u_X0_isCrossed (fu : Nat) (a0 : Nat) (a1 : Int32) (a2 : Int32) (a3 : Int32) (w : XW) : U_X0_isCrossed fu [.ref a0, .int a1, .int a2, .int a3] w = if isO w a0 0 = true then M_X0_isCrossed fu a0 a1 a2 a3 w else none := rfl
theorem u_X7_can (fu : Nat) (a0 : Nat) (a1 : Int32) (a2 : Int32) (w : XW) : U_X7_can fu [.ref a0, .int a1, .int a2] w = if isO w a0 6 = true then M_X7_can fu a0 a1 a2 w else none := rfl
theorem u_L_stands (fu : Nat) (a0 : Nat) (a1 : Nat) (a2 : Nat) (a3 : Int32) (a4 : Int32) (w : XW) : U_L_stands fu [.ref a0, .ref a1, .ref a2, .int a3, .int a4] w = M_L_stands fu a0 a1 a2 a3 a4 w := rfl
theorem u_L_goes (fu : Nat) (a0 : Nat) (a1 : Nat) (a2 : Nat) (a3 : Int32) (a4 : Int32) (a5 : Int32) (w : XW) : U_L_goes fu [.ref a0, .ref a1, .ref a2, .int a3, .int a4, .int a5] w = M_L_goes fu a0 a1 a2 a3 a4 a5 w := rfl
theorem u_L_come (fu : Nat) (a0 : Nat) (a1 : Nat) (a2 : Nat) (a3 : Int32) (a4 : Int32) (a5 : Int32) (a6 : Int32) (w : XW) : U_L_come fu [.ref a0, .ref a1, .ref a2, .int a3, .int a4, .int a5, .int a6] w = M_L_come fu a0 a1 a2 a3 a4 a5 a6 w := rfl
theorem u_L_can (fu : Nat) (a0 : Nat) (a1 : Nat) (a2 : Nat) (a3 : Int32) (a4 : Int32) (w : XW) : U_L_can fu [.ref a0, .ref a1, .ref a2, .int a3, .int a4] w = M_L_can fu a0 a1 a2 a3 a4 w := rfl
theorem u_X7_highest (fu : Nat) (a0 : Nat) (a1 : Int32) (a2 : Int32) (w : XW) : U_X7_highest fu [.ref a0, .int a1, .int a2] w = if isO w a0 6 = true then M_X7_highest fu a0 a1 a2 w else none := rfl
theorem u_X6_isStride (fu : Nat) (a0 : Nat) (a1 : Int32) (a2 : Int32) (w : XW) : U_X6_isStride fu [.ref a0, .int a1, .int a2] w = if isO w a0 5 = true then M_X6_isStride fu a0 a1 a2 w else none := rfl
theorem u_X6_fewestFrom (fu : Nat) (a0 : Nat) (a1 : Int32) (w : XW) : U_X6_fewestFrom fu [.ref a0, .int a1] w = if isO w a0 5 = true then M_X6_fewestFrom fu a0 a1 w else none := rfl
theorem u_X6_firstBehind (fu : Nat) (a0 : Nat) (a1 : Int32) (w : XW) : U_X6_firstBehind fu [.ref a0, .int a1] w = if isO w a0 5 = true then M_X6_firstBehind fu a0 a1 w else none := rfl
theorem u_X6_find (fu : Nat) (a0 : Nat) (a1 : Nat) (a2 : Int32) (w : XW) : U_X6_find fu [.ref a0, .ref a1, .int a2] w = if isO w a0 5 = true then M_X6_find fu a0 a1 a2 w else none := rfl
theorem u_X7_way (fu : Nat) (a0 : Nat) (a1 : Int32) (a2 : Int32) (w : XW) : U_X7_way fu [.ref a0, .int a1, .int a2] w = if isO w a0 6 = true then M_X7_way fu a0 a1 a2 w else none := rfl
theorem u_X7_pass (fu : Nat) (a0 : Nat) (a1 : Int32) (a2 : Int32) (w : XW) : U_X7_pass fu [.ref a0, .int a1, .int a2] w = if isO w a0 6 = true then M_X7_pass fu a0 a1 a2 w else none := rfl
theorem u_X4_areWithin (fu : Nat) (a0 : Nat) (a1 : Int32) (a2 : Int32) (a3 : Int32) (a4 : Int32) (w : XW) : U_X4_areWithin fu [.ref a0, .int a1, .int a2, .int a3, .int a4] w = if isO w a0 4 = true then M_X4_areWithin fu a0 a1 a2 a3 a4 w else none := rfl
theorem u_X7_days (fu : Nat) (a0 : Nat) (a1 : Int32) (a2 : Int32) (a3 : Int32) (a4 : Int32) (a5 : Int32) (w : XW) : U_X7_days fu [.ref a0, .int a1, .int a2, .int a3, .int a4, .int a5] w = if isO w a0 6 = true then M_X7_days fu a0 a1 a2 a3 a4 a5 w else none := rfl
