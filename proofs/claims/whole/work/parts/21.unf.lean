/-! unfolding rows (laid by program wip/whole/gen/part21.py) -/
theorem u_J7_fill_53178 (fu : Nat) (a0 : Nat) (a1 : Int32) (w : XW) : U_J7_fill_53178 fu [.ref a0, .int a1] w = M_J7_fill_53178 fu a0 a1 w := rfl
theorem u_X0_init (fu : Nat) (a0 : Nat) (w : XW) : U_X0_init fu [.ref a0] w = M_X0_init fu a0 w := rfl
theorem u_X4_init (fu : Nat) (a0 : Nat) (w : XW) : U_X4_init fu [.ref a0] w = M_X4_init fu a0 w := rfl
theorem u_X6_init (fu : Nat) (a0 : Nat) (w : XW) : U_X6_init fu [.ref a0] w = M_X6_init fu a0 w := rfl
theorem u_X1_init (fu : Nat) (a0 : Nat) (w : XW) : U_X1_init fu [.ref a0] w = M_X1_init fu a0 w := rfl
theorem u_X3_init (fu : Nat) (a0 : Nat) (w : XW) : U_X3_init fu [.ref a0] w = M_X3_init fu a0 w := rfl
theorem u_X2_init (fu : Nat) (a0 : Nat) (w : XW) : U_X2_init fu [.ref a0] w = M_X2_init fu a0 w := rfl
theorem u_X7_init (fu : Nat) (a0 : Nat) (w : XW) : U_X7_init fu [.ref a0] w = M_X7_init fu a0 w := rfl
theorem u_X8_init (fu : Nat) (a0 : Nat) (w : XW) : U_X8_init fu [.ref a0] w = M_X8_init fu a0 w := rfl
theorem u_X7_isWithin (fu : Nat) (a0 : Int32) (a1 : Int32) (a2 : Int32) (w : XW) : U_X7_isWithin fu [.int a0, .int a1, .int a2] w = M_X7_isWithin fu a0 a1 a2 w := rfl
theorem u_X4_isSheet (fu : Nat) (a0 : Int32) (w : XW) : U_X4_isSheet fu [.int a0] w = M_X4_isSheet fu a0 w := rfl
theorem u_X4_isSort (fu : Nat) (a0 : Int32) (w : XW) : U_X4_isSort fu [.int a0] w = M_X4_isSort fu a0 w := rfl
theorem u_X4_isThere (fu : Nat) (a0 : Nat) (a1 : Int32) (w : XW) : U_X4_isThere fu [.ref a0, .int a1] w = if isO w a0 4 = true then M_X4_isThere fu a0 a1 w else none := rfl
theorem u_X4_reaches (fu : Nat) (a0 : Nat) (a1 : Int32) (a2 : Int32) (a3 : Int32) (w : XW) : U_X4_reaches fu [.ref a0, .int a1, .int a2, .int a3] w = if isO w a0 4 = true then M_X4_reaches fu a0 a1 a2 a3 w else none := rfl
theorem u_X4_faultOfCells (fu : Nat) (a0 : Nat) (a1 : Int32) (a2 : Int32) (a3 : Int32) (a4 : Int32) (w : XW) : U_X4_faultOfCells fu [.ref a0, .int a1, .int a2, .int a3, .int a4] w = if isO w a0 4 = true then M_X4_faultOfCells fu a0 a1 a2 a3 a4 w else none := rfl
theorem u_X7_failBy (fu : Nat) (a0 : Nat) (a1 : Int32) (w : XW) : U_X7_failBy fu [.ref a0, .int a1] w = if isO w a0 6 = true then M_X7_failBy fu a0 a1 w else none := rfl
theorem u_X7_refusalOfCells (fu : Nat) (a0 : Nat) (a1 : Int32) (a2 : Int32) (a3 : Int32) (a4 : Int32) (w : XW) : U_X7_refusalOfCells fu [.ref a0, .int a1, .int a2, .int a3, .int a4] w = if isO w a0 6 = true then M_X7_refusalOfCells fu a0 a1 a2 a3 a4 w else none := rfl
theorem u_X4_at (fu : Nat) (a0 : Nat) (a1 : Int32) (a2 : Int32) (w : XW) : U_X4_at fu [.ref a0, .int a1, .int a2] w = if isO w a0 4 = true then M_X4_at fu a0 a1 a2 w else none := rfl
theorem u_X5_isDigit (fu : Nat) (a0 : Int32) (w : XW) : U_X5_isDigit fu [.int a0] w = M_X5_isDigit fu a0 w := rfl
theorem u_X5_cellsTold (fu : Nat) (a0 : Nat) (a1 : Int32) (a2 : Int32) (a3 : Int32) (w : XW) : U_X5_cellsTold fu [.ref a0, .int a1, .int a2, .int a3] w = M_X5_cellsTold fu a0 a1 a2 a3 w := rfl
theorem u_X5_length (fu : Nat) (a0 : Int32) (w : XW) : U_X5_length fu [.int a0] w = M_X5_length fu a0 w := rfl
theorem u_X5_goesOn (fu : Nat) (a0 : Int32) (a1 : Int32) (a2 : Int32) (w : XW) : U_X5_goesOn fu [.int a0, .int a1, .int a2] w = M_X5_goesOn fu a0 a1 a2 w := rfl
theorem u_X5_firstFault (fu : Nat) (a0 : Nat) (a1 : Int32) (a2 : Int32) (a3 : Int32) (w : XW) : U_X5_firstFault fu [.ref a0, .int a1, .int a2, .int a3] w = M_X5_firstFault fu a0 a1 a2 a3 w := rfl
theorem u_X0_makeAnew (fu : Nat) (a0 : Nat) (w : XW) : U_X0_makeAnew fu [.ref a0] w = if isO w a0 0 = true then M_X0_makeAnew fu a0 w else none := rfl
theorem u_X5_readInto (fu : Nat) (a0 : Nat) (a1 : Nat) (a2 : Int32) (a3 : Int32) (a4 : Int32) (w : XW) : U_X5_readInto fu [.ref a0, .ref a1, .int a2, .int a3, .int a4] w = M_X5_readInto fu a0 a1 a2 a3 a4 w := rfl
theorem u_X7_brook (fu : Nat) (a0 : Nat) (a1 : Int32) (a2 : Int32) (a3 : Int32) (a4 : Int32) (w : XW) : U_X7_brook fu [.ref a0, .int a1, .int a2, .int a3, .int a4] w = if isO w a0 6 = true then M_X7_brook fu a0 a1 a2 a3 a4 w else none := rfl
theorem u_X8_within (fu : Nat) (a0 : Int32) (a1 : Int32) (a2 : Int32) (w : XW) : U_X8_within fu [.int a0, .int a1, .int a2] w = M_X8_within fu a0 a1 a2 w := rfl
theorem u_X8_isSheet (fu : Nat) (a0 : Int32) (w : XW) : U_X8_isSheet fu [.int a0] w = M_X8_isSheet fu a0 w := rfl
theorem u_X8_isSort (fu : Nat) (a0 : Int32) (w : XW) : U_X8_isSort fu [.int a0] w = M_X8_isSort fu a0 w := rfl
theorem u_X8_against (fu : Nat) (a0 : Nat) (a1 : Int32) (a2 : Int32) (a3 : Int32) (a4 : Int32) (w : XW) : U_X8_against fu [.ref a0, .int a1, .int a2, .int a3, .int a4] w = if isO w a0 7 = true then M_X8_against fu a0 a1 a2 a3 a4 w else none := rfl
theorem u_X8_fails (fu : Nat) (a0 : Nat) (a1 : Int32) (w : XW) : U_X8_fails fu [.ref a0, .int a1] w = if isO w a0 7 = true then M_X8_fails fu a0 a1 w else none := rfl
theorem u_X8_isCode (fu : Nat) (a0 : Nat) (a1 : Int32) (a2 : Int32) (w : XW) : U_X8_isCode fu [.ref a0, .int a1, .int a2] w = if isO w a0 7 = true then M_X8_isCode fu a0 a1 a2 w else none := rfl
theorem u_X8_isDigit (fu : Nat) (a0 : Nat) (a1 : Int32) (w : XW) : U_X8_isDigit fu [.ref a0, .int a1] w = if isO w a0 7 = true then M_X8_isDigit fu a0 a1 w else none := rfl
theorem u_X8_readBrook (fu : Nat) (a0 : Nat) (a1 : Int32) (w : XW) : U_X8_readBrook fu [.ref a0, .int a1] w = if isO w a0 7 = true then M_X8_readBrook fu a0 a1 w else none := rfl
theorem u_X8_brook (fu : Nat) (a0 : Nat) (a1 : Int32) (a2 : Int32) (a3 : Int32) (a4 : Int32) (w : XW) : U_X8_brook fu [.ref a0, .int a1, .int a2, .int a3, .int a4] w = if isO w a0 7 = true then M_X8_brook fu a0 a1 a2 a3 a4 w else none := rfl
theorem u_X0_isCell (fu : Nat) (a0 : Nat) (a1 : Int32) (w : XW) : U_X0_isCell fu [.ref a0, .int a1] w = if isO w a0 0 = true then M_X0_isCell fu a0 a1 w else none := rfl
theorem u_X7_has (fu : Nat) (a0 : Int32) (a1 : Int32) (w : XW) : U_X7_has fu [.int a0, .int a1] w = M_X7_has fu a0 a1 w := rfl
theorem u_X0_topOf (fu : Nat) (a0 : Nat) (a1 : Int32) (a2 : Int32) (a3 : Int32) (w : XW) : U_X0_topOf fu [.ref a0, .int a1, .int a2, .int a3] w = if isO w a0 0 = true then M_X0_topOf fu a0 a1 a2 a3 w else none := rfl
theorem u_X7_ofCell (fu : Nat) (a0 : Nat) (a1 : Int32) (a2 : Int32) (w : XW) : U_X7_ofCell fu [.ref a0, .int a1, .int a2] w = if isO w a0 6 = true then M_X7_ofCell fu a0 a1 a2 w else none := rfl
theorem u_X8_isCell (fu : Nat) (a0 : Nat) (a1 : Int32) (w : XW) : U_X8_isCell fu [.ref a0, .int a1] w = if isO w a0 7 = true then M_X8_isCell fu a0 a1 w else none := rfl
theorem u_X8_topOf (fu : Nat) (a0 : Nat) (a1 : Int32) (a2 : Int32) (w : XW) : U_X8_topOf fu [.ref a0, .int a1, .int a2] w = if isO w a0 7 = true then M_X8_topOf fu a0 a1 a2 w else none := rfl
theorem u_X8_ofCell (fu : Nat) (a0 : Nat) (a1 : Int32) (a2 : Int32) (w : XW) : U_X8_ofCell fu [.ref a0, .int a1, .int a2] w = if isO w a0 7 = true then M_X8_ofCell fu a0 a1 a2 w else none := rfl
theorem u_X7_guard (fu : Nat) (a0 : Nat) (a1 : Int32) (a2 : Int32) (w : XW) : U_X7_guard fu [.ref a0, .int a1, .int a2] w = if isO w a0 6 = true then M_X7_guard fu a0 a1 a2 w else none := rfl
theorem u_X8_guard (fu : Nat) (a0 : Nat) (a1 : Int32) (a2 : Int32) (w : XW) : U_X8_guard fu [.ref a0, .int a1, .int a2] w = if isO w a0 7 = true then M_X8_guard fu a0 a1 a2 w else none := rfl
theorem u_X0_isThere (fu : Nat) (a0 : Nat) (w : XW) : U_X0_isThere fu [.ref a0] w = if isO w a0 0 = true then M_X0_isThere fu a0 w else none := rfl
theorem u_X7_water (fu : Nat) (a0 : Nat) (a1 : Int32) (w : XW) : U_X7_water fu [.ref a0, .int a1] w = if isO w a0 6 = true then M_X7_water fu a0 a1 w else none := rfl
theorem u_X8_water (fu : Nat) (a0 : Nat) (a1 : Int32) (w : XW) : U_X8_water fu [.ref a0, .int a1] w = if isO w a0 7 = true then M_X8_water fu a0 a1 w else none := rfl
theorem u_X0_addStone (fu : Nat) (a0 : Nat) (a1 : Int32) (a2 : Int32) (a3 : Int32) (a4 : Int32) (w : XW) : U_X0_addStone fu [.ref a0, .int a1, .int a2, .int a3, .int a4] w = if isO w a0 0 = true then M_X0_addStone fu a0 a1 a2 a3 a4 w else none := rfl
theorem u_X7_stone (fu : Nat) (a0 : Nat) (a1 : Int32) (a2 : Int32) (a3 : Int32) (a4 : Int32) (w : XW) : U_X7_stone fu [.ref a0, .int a1, .int a2, .int a3, .int a4] w = if isO w a0 6 = true then M_X7_stone fu a0 a1 a2 a3 a4 w else none := rfl
theorem u_X8_stone (fu : Nat) (a0 : Nat) (a1 : Int32) (a2 : Int32) (a3 : Int32) (a4 : Int32) (w : XW) : U_X8_stone fu [.ref a0, .int a1, .int a2, .int a3, .int a4] w = if isO w a0 7 = true then M_X8_stone fu a0 a1 a2 a3 a4 w else none := rfl
theorem u_X0_isStone (fu : Nat) (a0 : Nat) (a1 : Int32) (w : XW) : U_X0_isStone fu [.ref a0, .int a1] w = if isO w a0 0 = true then M_X0_isStone fu a0 a1 w else none := rfl
theorem u_X0_holdOf (fu : Nat) (a0 : Nat) (a1 : Int32) (w : XW) : U_X0_holdOf fu [.ref a0, .int a1] w = if isO w a0 0 = true then M_X0_holdOf fu a0 a1 w else none := rfl
theorem u_X0_cellOf (fu : Nat) (a0 : Nat) (a1 : Int32) (w : XW) : U_X0_cellOf fu [.ref a0, .int a1] w = if isO w a0 0 = true then M_X0_cellOf fu a0 a1 w else none := rfl
theorem u_X7_ofStone (fu : Nat) (a0 : Nat) (a1 : Int32) (a2 : Int32) (w : XW) : U_X7_ofStone fu [.ref a0, .int a1, .int a2] w = if isO w a0 6 = true then M_X7_ofStone fu a0 a1 a2 w else none := rfl
theorem u_X8_isStone (fu : Nat) (a0 : Nat) (a1 : Int32) (w : XW) : U_X8_isStone fu [.ref a0, .int a1] w = if isO w a0 7 = true then M_X8_isStone fu a0 a1 w else none := rfl
theorem u_X8_holdOf (fu : Nat) (a0 : Nat) (a1 : Int32) (w : XW) : U_X8_holdOf fu [.ref a0, .int a1] w = if isO w a0 7 = true then M_X8_holdOf fu a0 a1 w else none := rfl
theorem u_X8_ofStone (fu : Nat) (a0 : Nat) (a1 : Int32) (a2 : Int32) (w : XW) : U_X8_ofStone fu [.ref a0, .int a1, .int a2] w = if isO w a0 7 = true then M_X8_ofStone fu a0 a1 a2 w else none := rfl
theorem u_X0_takeUp (fu : Nat) (a0 : Nat) (a1 : Int32) (w : XW) : U_X0_takeUp fu [.ref a0, .int a1] w = if isO w a0 0 = true then M_X0_takeUp fu a0 a1 w else none := rfl
theorem u_X7_set (fu : Nat) (a0 : Nat) (a1 : Int32) (a2 : Int32) (w : XW) : U_X7_set fu [.ref a0, .int a1, .int a2] w = if isO w a0 6 = true then M_X7_set fu a0 a1 a2 w else none := rfl
theorem u_X8_set (fu : Nat) (a0 : Nat) (a1 : Int32) (a2 : Int32) (w : XW) : U_X8_set fu [.ref a0, .int a1, .int a2] w = if isO w a0 7 = true then M_X8_set fu a0 a1 a2 w else none := rfl
theorem u_X0_workOf (fu : Nat) (a0 : Nat) (a1 : Int32) (a2 : Int32) (w : XW) : U_X0_workOf fu [.ref a0, .int a1, .int a2] w = if isO w a0 0 = true then M_X0_workOf fu a0 a1 a2 w else none := rfl
theorem u_X7_work (fu : Nat) (a0 : Nat) (a1 : Int32) (a2 : Int32) (w : XW) : U_X7_work fu [.ref a0, .int a1, .int a2] w = if isO w a0 6 = true then M_X7_work fu a0 a1 a2 w else none := rfl
theorem u_X8_workOf (fu : Nat) (a0 : Nat) (a1 : Int32) (a2 : Int32) (w : XW) : U_X8_workOf fu [.ref a0, .int a1, .int a2] w = if isO w a0 7 = true then M_X8_workOf fu a0 a1 a2 w else none := rfl
theorem u_X8_work (fu : Nat) (a0 : Nat) (a1 : Int32) (a2 : Int32) (w : XW) : U_X8_work fu [.ref a0, .int a1, .int a2] w = if isO w a0 7 = true then M_X8_work fu a0 a1 a2 w else none := rfl
theorem u_X0_addWalker (fu : Nat) (a0 : Nat) (a1 : Int32) (w : XW) : U_X0_addWalker fu [.ref a0, .int a1] w = if isO w a0 0 = true then M_X0_addWalker fu a0 a1 w else none := rfl
theorem u_X7_walker (fu : Nat) (a0 : Nat) (a1 : Int32) (w : XW) : U_X7_walker fu [.ref a0, .int a1] w = if isO w a0 6 = true then M_X7_walker fu a0 a1 w else none := rfl
theorem u_X8_walker (fu : Nat) (a0 : Nat) (a1 : Int32) (w : XW) : U_X8_walker fu [.ref a0, .int a1] w = if isO w a0 7 = true then M_X8_walker fu a0 a1 w else none := rfl
theorem u_X0_isWalker (fu : Nat) (a0 : Nat) (a1 : Int32) (w : XW) : U_X0_isWalker fu [.ref a0, .int a1] w = if isO w a0 0 = true then M_X0_isWalker fu a0 a1 w else none := rfl
theorem u_X7_stride (fu : Nat) (a0 : Nat) (a1 : Int32) (w : XW) : U_X7_stride fu [.ref a0, .int a1] w = if isO w a0 6 = true then M_X7_stride fu a0 a1 w else none := rfl
theorem u_X8_isWalker (fu : Nat) (a0 : Nat) (a1 : Int32) (w : XW) : U_X8_isWalker fu [.ref a0, .int a1] w = if isO w a0 7 = true then M_X8_isWalker fu a0 a1 w else none := rfl
theorem u_X8_stride (fu : Nat) (a0 : Nat) (a1 : Int32) (w : XW) : U_X8_stride fu [.ref a0, .int a1] w = if isO w a0 7 = true then M_X8_stride fu a0 a1 w else none := rfl
theorem u_X0_ofKind (fu : Nat) (a0 : Nat) (a1 : Int32) (w : XW) : U_X0_ofKind fu [.ref a0, .int a1] w = if isO w a0 0 = true then M_X0_ofKind fu a0 a1 w else none := rfl
theorem u_X0_filled (fu : Nat) (a0 : Nat) (w : XW) : U_X0_filled fu [.ref a0] w = if isO w a0 0 = true then M_X0_filled fu a0 w else none := rfl
theorem u_X0_reachOf (fu : Nat) (a0 : Nat) (a1 : Int32) (a2 : Int32) (w : XW) : U_X0_reachOf fu [.ref a0, .int a1, .int a2] w = if isO w a0 0 = true then M_X0_reachOf fu a0 a1 a2 w else none := rfl
theorem u_X0_dry (fu : Nat) (a0 : Nat) (a1 : Int32) (w : XW) : U_X0_dry fu [.ref a0, .int a1] w = if isO w a0 0 = true then M_X0_dry fu a0 a1 w else none := rfl
theorem u_X7_farthest (fu : Nat) (a0 : Int32) (a1 : Int32) (a2 : Int32) (a3 : Int32) (w : XW) : U_X7_farthest fu [.int a0, .int a1, .int a2, .int a3] w = M_X7_farthest fu a0 a1 a2 a3 w := rfl
theorem u_X0_isCrossed (fu : Nat) (a0 : Nat) (a1 : Int32) (a2 : Int32) (a3 : Int32) (w : XW) : U_X0_isCrossed fu [.ref a0, .int a1, .int a2, .int a3] w = if isO w a0 0 = true then M_X0_isCrossed fu a0 a1 a2 a3 w else none := rfl
theorem u_X7_can (fu : Nat) (a0 : Nat) (a1 : Int32) (a2 : Int32) (w : XW) : U_X7_can fu [.ref a0, .int a1, .int a2] w = if isO w a0 6 = true then M_X7_can fu a0 a1 a2 w else none := rfl
theorem u_X8_layNow (fu : Nat) (a0 : Nat) (w : XW) : U_X8_layNow fu [.ref a0] w = if isO w a0 7 = true then M_X8_layNow fu a0 w else none := rfl
theorem u_X8_strideOf (fu : Nat) (a0 : Nat) (a1 : Int32) (a2 : Int32) (w : XW) : U_X8_strideOf fu [.ref a0, .int a1, .int a2] w = if isO w a0 7 = true then M_X8_strideOf fu a0 a1 a2 w else none := rfl
theorem u_X8_isBank (fu : Nat) (a0 : Nat) (a1 : Int32) (w : XW) : U_X8_isBank fu [.ref a0, .int a1] w = if isO w a0 7 = true then M_X8_isBank fu a0 a1 w else none := rfl
theorem u_X8_isStand (fu : Nat) (a0 : Nat) (a1 : Int32) (w : XW) : U_X8_isStand fu [.ref a0, .int a1] w = if isO w a0 7 = true then M_X8_isStand fu a0 a1 w else none := rfl
theorem u_X8_easeAt (fu : Nat) (a0 : Nat) (a1 : Int32) (w : XW) : U_X8_easeAt fu [.ref a0, .int a1] w = if isO w a0 7 = true then M_X8_easeAt fu a0 a1 w else none := rfl
theorem u_X8_isStride (fu : Nat) (a0 : Nat) (a1 : Int32) (a2 : Int32) (a3 : Int32) (w : XW) : U_X8_isStride fu [.ref a0, .int a1, .int a2, .int a3] w = if isO w a0 7 = true then M_X8_isStride fu a0 a1 a2 a3 w else none := rfl
theorem u_X8_layFar (fu : Nat) (a0 : Nat) (a1 : Int32) (a2 : Int32) (w : XW) : U_X8_layFar fu [.ref a0, .int a1, .int a2] w = if isO w a0 7 = true then M_X8_layFar fu a0 a1 a2 w else none := rfl
theorem u_X8_comes (fu : Nat) (a0 : Nat) (a1 : Int32) (w : XW) : U_X8_comes fu [.ref a0, .int a1] w = if isO w a0 7 = true then M_X8_comes fu a0 a1 w else none := rfl
theorem u_X8_can (fu : Nat) (a0 : Nat) (a1 : Int32) (a2 : Int32) (w : XW) : U_X8_can fu [.ref a0, .int a1, .int a2] w = if isO w a0 7 = true then M_X8_can fu a0 a1 a2 w else none := rfl
theorem u_X6_isStride (fu : Nat) (a0 : Nat) (a1 : Int32) (a2 : Int32) (w : XW) : U_X6_isStride fu [.ref a0, .int a1, .int a2] w = if isO w a0 5 = true then M_X6_isStride fu a0 a1 a2 w else none := rfl
theorem u_X6_fewestFrom (fu : Nat) (a0 : Nat) (a1 : Int32) (w : XW) : U_X6_fewestFrom fu [.ref a0, .int a1] w = if isO w a0 5 = true then M_X6_fewestFrom fu a0 a1 w else none := rfl
theorem u_X6_firstBehind (fu : Nat) (a0 : Nat) (a1 : Int32) (w : XW) : U_X6_firstBehind fu [.ref a0, .int a1] w = if isO w a0 5 = true then M_X6_firstBehind fu a0 a1 w else none := rfl
theorem u_X6_find (fu : Nat) (a0 : Nat) (a1 : Nat) (a2 : Int32) (w : XW) : U_X6_find fu [.ref a0, .ref a1, .int a2] w = if isO w a0 5 = true then M_X6_find fu a0 a1 a2 w else none := rfl
theorem u_X7_way (fu : Nat) (a0 : Nat) (a1 : Int32) (a2 : Int32) (w : XW) : U_X7_way fu [.ref a0, .int a1, .int a2] w = if isO w a0 6 = true then M_X7_way fu a0 a1 a2 w else none := rfl
theorem u_X8_way (fu : Nat) (a0 : Nat) (a1 : Int32) (a2 : Int32) (w : XW) : U_X8_way fu [.ref a0, .int a1, .int a2] w = if isO w a0 7 = true then M_X8_way fu a0 a1 a2 w else none := rfl
theorem u_X7_highest (fu : Nat) (a0 : Nat) (a1 : Int32) (a2 : Int32) (w : XW) : U_X7_highest fu [.ref a0, .int a1, .int a2] w = if isO w a0 6 = true then M_X7_highest fu a0 a1 a2 w else none := rfl
theorem u_X8_highest (fu : Nat) (a0 : Nat) (a1 : Int32) (a2 : Int32) (w : XW) : U_X8_highest fu [.ref a0, .int a1, .int a2] w = if isO w a0 7 = true then M_X8_highest fu a0 a1 a2 w else none := rfl
theorem u_X7_pass (fu : Nat) (a0 : Nat) (a1 : Int32) (a2 : Int32) (w : XW) : U_X7_pass fu [.ref a0, .int a1, .int a2] w = if isO w a0 6 = true then M_X7_pass fu a0 a1 a2 w else none := rfl
theorem u_X8_has (fu : Nat) (a0 : Int32) (a1 : Int32) (w : XW) : U_X8_has fu [.int a0, .int a1] w = M_X8_has fu a0 a1 w := rfl
theorem u_X8_fromBoth (fu : Nat) (a0 : Nat) (a1 : Int32) (w : XW) : U_X8_fromBoth fu [.ref a0, .int a1] w = if isO w a0 7 = true then M_X8_fromBoth fu a0 a1 w else none := rfl
theorem u_X8_pass (fu : Nat) (a0 : Nat) (a1 : Int32) (a2 : Int32) (w : XW) : U_X8_pass fu [.ref a0, .int a1, .int a2] w = if isO w a0 7 = true then M_X8_pass fu a0 a1 a2 w else none := rfl
theorem u_X4_areWithin (fu : Nat) (a0 : Nat) (a1 : Int32) (a2 : Int32) (a3 : Int32) (a4 : Int32) (w : XW) : U_X4_areWithin fu [.ref a0, .int a1, .int a2, .int a3, .int a4] w = if isO w a0 4 = true then M_X4_areWithin fu a0 a1 a2 a3 a4 w else none := rfl
theorem u_X7_days (fu : Nat) (a0 : Nat) (a1 : Int32) (a2 : Int32) (a3 : Int32) (a4 : Int32) (a5 : Int32) (w : XW) : U_X7_days fu [.ref a0, .int a1, .int a2, .int a3, .int a4, .int a5] w = if isO w a0 6 = true then M_X7_days fu a0 a1 a2 a3 a4 a5 w else none := rfl
theorem u_X8_days (fu : Nat) (a0 : Nat) (a1 : Int32) (a2 : Int32) (a3 : Int32) (a4 : Int32) (a5 : Int32) (w : XW) : U_X8_days fu [.ref a0, .int a1, .int a2, .int a3, .int a4, .int a5] w = if isO w a0 7 = true then M_X8_days fu a0 a1 a2 a3 a4 a5 w else none := rfl
theorem u_X7_isFlood (fu : Nat) (a0 : Int32) (a1 : Int32) (w : XW) : U_X7_isFlood fu [.int a0, .int a1] w = M_X7_isFlood fu a0 a1 w := rfl
theorem u_X1_digging (fu : Nat) (a0 : Nat) (a1 : Int32) (a2 : Int32) (a3 : Int32) (a4 : Int32) (w : XW) : U_X1_digging fu [.ref a0, .int a1, .int a2, .int a3, .int a4] w = M_X1_digging fu a0 a1 a2 a3 a4 w := rfl
theorem u_X1_goRound (fu : Nat) (a0 : Nat) (a1 : Nat) (a2 : Int32) (a3 : Int32) (a4 : Int32) (w : XW) : U_X1_goRound fu [.ref a0, .ref a1, .int a2, .int a3, .int a4] w = if isO w a0 1 = true then M_X1_goRound fu a0 a1 a2 a3 a4 w else none := rfl
theorem u_X1_run (fu : Nat) (a0 : Nat) (a1 : Nat) (a2 : Int32) (a3 : Int32) (a4 : Int32) (w : XW) : U_X1_run fu [.ref a0, .ref a1, .int a2, .int a3, .int a4] w = if isO w a0 1 = true then M_X1_run fu a0 a1 a2 a3 a4 w else none := rfl
theorem u_X7_stands (fu : Nat) (a0 : Nat) (a1 : Int32) (a2 : Int32) (w : XW) : U_X7_stands fu [.ref a0, .int a1, .int a2] w = if isO w a0 6 = true then M_X7_stands fu a0 a1 a2 w else none := rfl
theorem u_X8_isFlood (fu : Nat) (a0 : Int32) (a1 : Int32) (w : XW) : U_X8_isFlood fu [.int a0, .int a1] w = M_X8_isFlood fu a0 a1 w := rfl
theorem u_X8_powerAt (fu : Nat) (a0 : Nat) (a1 : Int32) (a2 : Int32) (w : XW) : U_X8_powerAt fu [.ref a0, .int a1, .int a2] w = if isO w a0 7 = true then M_X8_powerAt fu a0 a1 a2 w else none := rfl
theorem u_X8_goFlood (fu : Nat) (a0 : Nat) (a1 : Int32) (a2 : Int32) (w : XW) : U_X8_goFlood fu [.ref a0, .int a1, .int a2] w = if isO w a0 7 = true then M_X8_goFlood fu a0 a1 a2 w else none := rfl
theorem u_X8_standing (fu : Nat) (a0 : Nat) (w : XW) : U_X8_standing fu [.ref a0] w = if isO w a0 7 = true then M_X8_standing fu a0 w else none := rfl
theorem u_X8_stands (fu : Nat) (a0 : Nat) (a1 : Int32) (a2 : Int32) (w : XW) : U_X8_stands fu [.ref a0, .int a1, .int a2] w = if isO w a0 7 = true then M_X8_stands fu a0 a1 a2 w else none := rfl
theorem u_X7_goes (fu : Nat) (a0 : Nat) (a1 : Int32) (a2 : Int32) (w : XW) : U_X7_goes fu [.ref a0, .int a1, .int a2] w = if isO w a0 6 = true then M_X7_goes fu a0 a1 a2 w else none := rfl
theorem u_X8_goes (fu : Nat) (a0 : Nat) (a1 : Int32) (a2 : Int32) (w : XW) : U_X8_goes fu [.ref a0, .int a1, .int a2] w = if isO w a0 7 = true then M_X8_goes fu a0 a1 a2 w else none := rfl
theorem u_X7_dug (fu : Nat) (a0 : Nat) (a1 : Int32) (a2 : Int32) (a3 : Int32) (w : XW) : U_X7_dug fu [.ref a0, .int a1, .int a2, .int a3] w = if isO w a0 6 = true then M_X7_dug fu a0 a1 a2 a3 w else none := rfl
theorem u_X8_dug (fu : Nat) (a0 : Nat) (a1 : Int32) (a2 : Int32) (a3 : Int32) (w : XW) : U_X8_dug fu [.ref a0, .int a1, .int a2, .int a3] w = if isO w a0 7 = true then M_X8_dug fu a0 a1 a2 a3 w else none := rfl
theorem u_X0_loseStonesOf (fu : Nat) (a0 : Nat) (a1 : Int32) (w : XW) : U_X0_loseStonesOf fu [.ref a0, .int a1] w = if isO w a0 0 = true then M_X0_loseStonesOf fu a0 a1 w else none := rfl
theorem u_J6_bitCount_0f7a4 (fu : Nat) (a0 : Int32) (w : XW) : U_J6_bitCount_0f7a4 fu [.int a0] w = M_J6_bitCount_0f7a4 fu a0 w := rfl
theorem u_X7_flood (fu : Nat) (a0 : Nat) (a1 : Int32) (a2 : Int32) (w : XW) : U_X7_flood fu [.ref a0, .int a1, .int a2] w = if isO w a0 6 = true then M_X7_flood fu a0 a1 a2 w else none := rfl
theorem u_X8_flood (fu : Nat) (a0 : Nat) (a1 : Int32) (a2 : Int32) (w : XW) : U_X8_flood fu [.ref a0, .int a1, .int a2] w = if isO w a0 7 = true then M_X8_flood fu a0 a1 a2 w else none := rfl
theorem u_X7_save (fu : Nat) (a0 : Nat) (a1 : Int32) (a2 : Int32) (a3 : Int32) (w : XW) : U_X7_save fu [.ref a0, .int a1, .int a2, .int a3] w = if isO w a0 6 = true then M_X7_save fu a0 a1 a2 a3 w else none := rfl
theorem u_X8_bitsOf (fu : Nat) (a0 : Int32) (w : XW) : U_X8_bitsOf fu [.int a0] w = M_X8_bitsOf fu a0 w := rfl
theorem u_X8_save (fu : Nat) (a0 : Nat) (a1 : Int32) (a2 : Int32) (a3 : Int32) (w : XW) : U_X8_save fu [.ref a0, .int a1, .int a2, .int a3] w = if isO w a0 7 = true then M_X8_save fu a0 a1 a2 a3 w else none := rfl
theorem u_X3_outlasts (fu : Nat) (a0 : Nat) (a1 : Nat) (a2 : Int32) (a3 : Int32) (a4 : Int32) (w : XW) : U_X3_outlasts fu [.ref a0, .ref a1, .int a2, .int a3, .int a4] w = if isO w a0 3 = true then M_X3_outlasts fu a0 a1 a2 a3 a4 w else none := rfl
theorem u_X3_usesOf (fu : Nat) (a0 : Nat) (a1 : Nat) (a2 : Int32) (w : XW) : U_X3_usesOf fu [.ref a0, .ref a1, .int a2] w = if isO w a0 3 = true then M_X3_usesOf fu a0 a1 a2 w else none := rfl
theorem u_X0_easeOf (fu : Nat) (a0 : Nat) (a1 : Int32) (w : XW) : U_X0_easeOf fu [.ref a0, .int a1] w = if isO w a0 0 = true then M_X0_easeOf fu a0 a1 w else none := rfl
theorem u_X3_helps (fu : Nat) (a0 : Nat) (a1 : Nat) (a2 : Int32) (a3 : Int32) (a4 : Int32) (w : XW) : U_X3_helps fu [.ref a0, .ref a1, .int a2, .int a3, .int a4] w = if isO w a0 3 = true then M_X3_helps fu a0 a1 a2 a3 a4 w else none := rfl
theorem u_X3_farBehind (fu : Nat) (a0 : Nat) (a1 : Nat) (a2 : Int32) (a3 : Int32) (w : XW) : U_X3_farBehind fu [.ref a0, .ref a1, .int a2, .int a3] w = if isO w a0 3 = true then M_X3_farBehind fu a0 a1 a2 a3 w else none := rfl
theorem u_X3_costOf (fu : Nat) (a0 : Nat) (a1 : Int32) (a2 : Int32) (w : XW) : U_X3_costOf fu [.ref a0, .int a1, .int a2] w = M_X3_costOf fu a0 a1 a2 w := rfl
theorem u_X3_leastFrom (fu : Nat) (a0 : Nat) (a1 : Nat) (a2 : Int32) (a3 : Int32) (w : XW) : U_X3_leastFrom fu [.ref a0, .ref a1, .int a2, .int a3] w = if isO w a0 3 = true then M_X3_leastFrom fu a0 a1 a2 a3 w else none := rfl
theorem u_X3_lookAhead (fu : Nat) (a0 : Nat) (a1 : Nat) (w : XW) : U_X3_lookAhead fu [.ref a0, .ref a1] w = if isO w a0 3 = true then M_X3_lookAhead fu a0 a1 w else none := rfl
theorem u_X3_lastOnesStand (fu : Nat) (a0 : Nat) (a1 : Nat) (a2 : Int32) (a3 : Int32) (w : XW) : U_X3_lastOnesStand fu [.ref a0, .ref a1, .int a2, .int a3] w = if isO w a0 3 = true then M_X3_lastOnesStand fu a0 a1 a2 a3 w else none := rfl
theorem u_X3_take (fu : Nat) (a0 : Nat) (a1 : Int32) (w : XW) : U_X3_take fu [.ref a0, .int a1] w = if isO w a0 3 = true then M_X3_take fu a0 a1 w else none := rfl
theorem u_X3_layFrom (fu : Nat) (k : Nat) (a0 : Nat) (a1 : Nat) (a2 : Int32) (a3 : Int32) (a4 : Int32) (a5 : Int32) (a6 : Int32) (w : XW) : U_X3_layFrom fu (k + 1) [.ref a0, .ref a1, .int a2, .int a3, .int a4, .int a5, .int a6] w = M_X3_layFrom fu (U_X3_layFrom fu k) a0 a1 a2 a3 a4 a5 a6 w := rfl
theorem u_X3_find (fu : Nat) (a0 : Nat) (a1 : Nat) (a2 : Int32) (a3 : Int32) (a4 : Int32) (w : XW) : U_X3_find fu [.ref a0, .ref a1, .int a2, .int a3, .int a4] w = if isO w a0 3 = true then M_X3_find fu a0 a1 a2 a3 a4 w else none := rfl
theorem u_X3_isFound (fu : Nat) (a0 : Nat) (w : XW) : U_X3_isFound fu [.ref a0] w = if isO w a0 3 = true then M_X3_isFound fu a0 w else none := rfl
theorem u_X3_bestMany (fu : Nat) (a0 : Nat) (w : XW) : U_X3_bestMany fu [.ref a0] w = if isO w a0 3 = true then M_X3_bestMany fu a0 w else none := rfl
theorem u_X3_bestWork (fu : Nat) (a0 : Nat) (w : XW) : U_X3_bestWork fu [.ref a0] w = if isO w a0 3 = true then M_X3_bestWork fu a0 w else none := rfl
theorem u_X7_plan (fu : Nat) (a0 : Nat) (a1 : Int32) (a2 : Int32) (a3 : Int32) (a4 : Int32) (w : XW) : U_X7_plan fu [.ref a0, .int a1, .int a2, .int a3, .int a4] w = if isO w a0 6 = true then M_X7_plan fu a0 a1 a2 a3 a4 w else none := rfl
theorem u_X8_isFree (fu : Nat) (a0 : Nat) (a1 : Int32) (a2 : Int32) (w : XW) : U_X8_isFree fu [.ref a0, .int a1, .int a2] w = if isO w a0 7 = true then M_X8_isFree fu a0 a1 a2 w else none := rfl
theorem u_X8_workAhead (fu : Nat) (a0 : Nat) (a1 : Int32) (w : XW) : U_X8_workAhead fu [.ref a0, .int a1] w = if isO w a0 7 = true then M_X8_workAhead fu a0 a1 w else none := rfl
theorem u_X8_isPlan (fu : Nat) (a0 : Nat) (a1 : Int32) (a2 : Int32) (a3 : Int32) (w : XW) : U_X8_isPlan fu [.ref a0, .int a1, .int a2, .int a3] w = if isO w a0 7 = true then M_X8_isPlan fu a0 a1 a2 a3 w else none := rfl
theorem u_X8_offer (fu : Nat) (a0 : Nat) (a1 : Int32) (a2 : Int32) (a3 : Int32) (w : XW) : U_X8_offer fu [.ref a0, .int a1, .int a2, .int a3] w = if isO w a0 7 = true then M_X8_offer fu a0 a1 a2 a3 w else none := rfl
theorem u_X8_findPlan (fu : Nat) (a0 : Nat) (a1 : Int32) (a2 : Int32) (a3 : Int32) (w : XW) : U_X8_findPlan fu [.ref a0, .int a1, .int a2, .int a3] w = if isO w a0 7 = true then M_X8_findPlan fu a0 a1 a2 a3 w else none := rfl
theorem u_X8_plan (fu : Nat) (a0 : Nat) (a1 : Int32) (a2 : Int32) (a3 : Int32) (a4 : Int32) (w : XW) : U_X8_plan fu [.ref a0, .int a1, .int a2, .int a3, .int a4] w = if isO w a0 7 = true then M_X8_plan fu a0 a1 a2 a3 a4 w else none := rfl
theorem u_X2_layable (fu : Nat) (a0 : Nat) (a1 : Nat) (a2 : Int32) (a3 : Int32) (w : XW) : U_X2_layable fu [.ref a0, .ref a1, .int a2, .int a3] w = if isO w a0 2 = true then M_X2_layable fu a0 a1 a2 a3 w else none := rfl
theorem u_X2_waysFrom (fu : Nat) (a0 : Nat) (a1 : Nat) (a2 : Int32) (a3 : Int32) (w : XW) : U_X2_waysFrom fu [.ref a0, .ref a1, .int a2, .int a3] w = if isO w a0 2 = true then M_X2_waysFrom fu a0 a1 a2 a3 w else none := rfl
theorem u_X2_count (fu : Nat) (a0 : Nat) (a1 : Nat) (a2 : Int32) (w : XW) : U_X2_count fu [.ref a0, .ref a1, .int a2] w = if isO w a0 2 = true then M_X2_count fu a0 a1 a2 w else none := rfl
theorem u_X7_orders (fu : Nat) (a0 : Nat) (a1 : Int32) (w : XW) : U_X7_orders fu [.ref a0, .int a1] w = if isO w a0 6 = true then M_X7_orders fu a0 a1 w else none := rfl
theorem u_X8_isLaid (fu : Nat) (a0 : Nat) (a1 : Int32) (a2 : Int32) (a3 : Int32) (w : XW) : U_X8_isLaid fu [.ref a0, .int a1, .int a2, .int a3] w = if isO w a0 7 = true then M_X8_isLaid fu a0 a1 a2 a3 w else none := rfl
theorem u_X8_layWays (fu : Nat) (a0 : Nat) (a1 : Int32) (w : XW) : U_X8_layWays fu [.ref a0, .int a1] w = if isO w a0 7 = true then M_X8_layWays fu a0 a1 w else none := rfl
theorem u_X8_orders (fu : Nat) (a0 : Nat) (a1 : Int32) (w : XW) : U_X8_orders fu [.ref a0, .int a1] w = if isO w a0 7 = true then M_X8_orders fu a0 a1 w else none := rfl
theorem u_X2_firstThatGoesOn (fu : Nat) (a0 : Nat) (a1 : Nat) (a2 : Int32) (a3 : Int32) (w : XW) : U_X2_firstThatGoesOn fu [.ref a0, .ref a1, .int a2, .int a3] w = if isO w a0 2 = true then M_X2_firstThatGoesOn fu a0 a1 a2 a3 w else none := rfl
theorem u_X2_cellOfFirst (fu : Nat) (a0 : Nat) (a1 : Nat) (a2 : Int32) (a3 : Int32) (w : XW) : U_X2_cellOfFirst fu [.ref a0, .ref a1, .int a2, .int a3] w = if isO w a0 2 = true then M_X2_cellOfFirst fu a0 a1 a2 a3 w else none := rfl
theorem u_X7_order (fu : Nat) (a0 : Nat) (a1 : Int32) (a2 : Int32) (w : XW) : U_X7_order fu [.ref a0, .int a1, .int a2] w = if isO w a0 6 = true then M_X7_order fu a0 a1 a2 w else none := rfl
theorem u_X8_order (fu : Nat) (a0 : Nat) (a1 : Int32) (a2 : Int32) (w : XW) : U_X8_order fu [.ref a0, .int a1, .int a2] w = if isO w a0 7 = true then M_X8_order fu a0 a1 a2 w else none := rfl
theorem u_X7_fits (fu : Nat) (a0 : Nat) (a1 : Int32) (a2 : Int32) (w : XW) : U_X7_fits fu [.ref a0, .int a1, .int a2] w = if isO w a0 6 = true then M_X7_fits fu a0 a1 a2 w else none := rfl
theorem u_X8_fits (fu : Nat) (a0 : Nat) (a1 : Int32) (a2 : Int32) (w : XW) : U_X8_fits fu [.ref a0, .int a1, .int a2] w = if isO w a0 7 = true then M_X8_fits fu a0 a1 a2 w else none := rfl
theorem u_X4_sum (fu : Nat) (a0 : Nat) (a1 : Int32) (a2 : Int32) (a3 : Int32) (w : XW) : U_X4_sum fu [.ref a0, .int a1, .int a2, .int a3] w = if isO w a0 4 = true then M_X4_sum fu a0 a1 a2 a3 w else none := rfl
theorem u_X7_weightAcross (fu : Nat) (a0 : Nat) (a1 : Int32) (a2 : Int32) (a3 : Int32) (a4 : Int32) (w : XW) : U_X7_weightAcross fu [.ref a0, .int a1, .int a2, .int a3, .int a4] w = if isO w a0 6 = true then M_X7_weightAcross fu a0 a1 a2 a3 a4 w else none := rfl
theorem u_X7_commonDivisor (fu : Nat) (a0 : Int32) (a1 : Int32) (w : XW) : U_X7_commonDivisor fu [.int a0, .int a1] w = M_X7_commonDivisor fu a0 a1 w := rfl
theorem u_X7_odds (fu : Nat) (a0 : Nat) (a1 : Int32) (a2 : Int32) (a3 : Int32) (a4 : Int32) (a5 : Int32) (a6 : Int32) (w : XW) : U_X7_odds fu [.ref a0, .int a1, .int a2, .int a3, .int a4, .int a5, .int a6] w = if isO w a0 6 = true then M_X7_odds fu a0 a1 a2 a3 a4 a5 a6 w else none := rfl
theorem u_X8_lost (fu : Nat) (a0 : Nat) (a1 : Int32) (w : XW) : U_X8_lost fu [.ref a0, .int a1] w = if isO w a0 7 = true then M_X8_lost fu a0 a1 w else none := rfl
theorem u_X8_common (fu : Nat) (a0 : Int64) (a2 : Int64) (w : XW) : U_X8_common fu [.long a0, .long a2] w = M_X8_common fu a0 a2 w := rfl
theorem u_X8_odds (fu : Nat) (a0 : Nat) (a1 : Int32) (a2 : Int32) (a3 : Int32) (a4 : Int32) (a5 : Int32) (a6 : Int32) (w : XW) : U_X8_odds fu [.ref a0, .int a1, .int a2, .int a3, .int a4, .int a5, .int a6] w = if isO w a0 7 = true then M_X8_odds fu a0 a1 a2 a3 a4 a5 a6 w else none := rfl
theorem u_J7_rangeCheck_23922 (fu : Nat) (a0 : Int32) (a1 : Int32) (a2 : Int32) (w : XW) : U_J7_rangeCheck_23922 fu [.int a0, .int a1, .int a2] w = M_J7_rangeCheck_23922 fu a0 a1 a2 w := rfl
theorem u_J7_fill_fda19 (fu : Nat) (a0 : Nat) (a1 : Int32) (a2 : Int32) (a3 : Int32) (w : XW) : U_J7_fill_fda19 fu [.ref a0, .int a1, .int a2, .int a3] w = M_J7_fill_fda19 fu a0 a1 a2 a3 w := rfl
theorem u_X4_renew (fu : Nat) (a0 : Nat) (a1 : Int32) (a2 : Int32) (a3 : Int32) (w : XW) : U_X4_renew fu [.ref a0, .int a1, .int a2, .int a3] w = if isO w a0 4 = true then M_X4_renew fu a0 a1 a2 a3 w else none := rfl
theorem u_X7_sheet (fu : Nat) (a0 : Nat) (a1 : Int32) (a2 : Int32) (a3 : Int32) (w : XW) : U_X7_sheet fu [.ref a0, .int a1, .int a2, .int a3] w = if isO w a0 6 = true then M_X7_sheet fu a0 a1 a2 a3 w else none := rfl
theorem u_X8_sheet (fu : Nat) (a0 : Nat) (a1 : Int32) (a2 : Int32) (a3 : Int32) (w : XW) : U_X8_sheet fu [.ref a0, .int a1, .int a2, .int a3] w = if isO w a0 7 = true then M_X8_sheet fu a0 a1 a2 a3 w else none := rfl
theorem u_X4_clear (fu : Nat) (a0 : Nat) (a1 : Int32) (w : XW) : U_X4_clear fu [.ref a0, .int a1] w = if isO w a0 4 = true then M_X4_clear fu a0 a1 w else none := rfl
theorem u_X7_lose (fu : Nat) (a0 : Nat) (a1 : Int32) (w : XW) : U_X7_lose fu [.ref a0, .int a1] w = if isO w a0 6 = true then M_X7_lose fu a0 a1 w else none := rfl
theorem u_X8_lose (fu : Nat) (a0 : Nat) (a1 : Int32) (w : XW) : U_X8_lose fu [.ref a0, .int a1] w = if isO w a0 7 = true then M_X8_lose fu a0 a1 w else none := rfl
theorem u_X4_cut (fu : Nat) (a0 : Int32) (a1 : Int32) (w : XW) : U_X4_cut fu [.int a0, .int a1] w = M_X4_cut fu a0 a1 w := rfl
theorem u_X4_write (fu : Nat) (a0 : Nat) (a1 : Int32) (a2 : Int32) (a3 : Int32) (w : XW) : U_X4_write fu [.ref a0, .int a1, .int a2, .int a3] w = if isO w a0 4 = true then M_X4_write fu a0 a1 a2 a3 w else none := rfl
theorem u_X7_put (fu : Nat) (a0 : Nat) (a1 : Int32) (a2 : Int32) (a3 : Int32) (w : XW) : U_X7_put fu [.ref a0, .int a1, .int a2, .int a3] w = if isO w a0 6 = true then M_X7_put fu a0 a1 a2 a3 w else none := rfl
theorem u_X8_put (fu : Nat) (a0 : Nat) (a1 : Int32) (a2 : Int32) (a3 : Int32) (w : XW) : U_X8_put fu [.ref a0, .int a1, .int a2, .int a3] w = if isO w a0 7 = true then M_X8_put fu a0 a1 a2 a3 w else none := rfl
theorem u_X7_cell (fu : Nat) (a0 : Nat) (a1 : Int32) (a2 : Int32) (a3 : Int32) (w : XW) : U_X7_cell fu [.ref a0, .int a1, .int a2, .int a3] w = if isO w a0 6 = true then M_X7_cell fu a0 a1 a2 a3 w else none := rfl
theorem u_X8_cell (fu : Nat) (a0 : Nat) (a1 : Int32) (a2 : Int32) (a3 : Int32) (w : XW) : U_X8_cell fu [.ref a0, .int a1, .int a2, .int a3] w = if isO w a0 7 = true then M_X8_cell fu a0 a1 a2 a3 w else none := rfl
theorem u_X4_move (fu : Nat) (a0 : Nat) (a1 : Int32) (a2 : Int32) (a3 : Int32) (a4 : Int32) (a5 : Int32) (w : XW) : U_X4_move fu [.ref a0, .int a1, .int a2, .int a3, .int a4, .int a5] w = if isO w a0 4 = true then M_X4_move fu a0 a1 a2 a3 a4 a5 w else none := rfl
theorem u_X7_copy (fu : Nat) (a0 : Nat) (a1 : Int32) (a2 : Int32) (a3 : Int32) (a4 : Int32) (a5 : Int32) (w : XW) : U_X7_copy fu [.ref a0, .int a1, .int a2, .int a3, .int a4, .int a5] w = if isO w a0 6 = true then M_X7_copy fu a0 a1 a2 a3 a4 a5 w else none := rfl
theorem u_X8_copy (fu : Nat) (a0 : Nat) (a1 : Int32) (a2 : Int32) (a3 : Int32) (a4 : Int32) (a5 : Int32) (w : XW) : U_X8_copy fu [.ref a0, .int a1, .int a2, .int a3, .int a4, .int a5] w = if isO w a0 7 = true then M_X8_copy fu a0 a1 a2 a3 a4 a5 w else none := rfl
theorem u_X7_leave (fu : Nat) (a0 : Nat) (a1 : Int32) (w : XW) : U_X7_leave fu [.ref a0, .int a1] w = if isO w a0 6 = true then M_X7_leave fu a0 a1 w else none := rfl
theorem u_X7_tellAsStone (fu : Nat) (a0 : Nat) (a1 : Int32) (w : XW) : U_X7_tellAsStone fu [.ref a0, .int a1] w = if isO w a0 6 = true then M_X7_tellAsStone fu a0 a1 w else none := rfl
theorem u_X7_tellAsFlat (fu : Nat) (a0 : Nat) (a1 : Int32) (w : XW) : U_X7_tellAsFlat fu [.ref a0, .int a1] w = if isO w a0 6 = true then M_X7_tellAsFlat fu a0 a1 w else none := rfl
theorem u_X7_tellAsTable (fu : Nat) (a0 : Nat) (a1 : Int32) (w : XW) : U_X7_tellAsTable fu [.ref a0, .int a1] w = if isO w a0 6 = true then M_X7_tellAsTable fu a0 a1 w else none := rfl
theorem u_X7_tell (fu : Nat) (a0 : Nat) (a1 : Int32) (w : XW) : U_X7_tell fu [.ref a0, .int a1] w = if isO w a0 6 = true then M_X7_tell fu a0 a1 w else none := rfl
theorem u_X8_begins (fu : Nat) (a0 : Nat) (a1 : Int32) (w : XW) : U_X8_begins fu [.ref a0, .int a1] w = if isO w a0 7 = true then M_X8_begins fu a0 a1 w else none := rfl
theorem u_X8_tell (fu : Nat) (a0 : Nat) (a1 : Int32) (w : XW) : U_X8_tell fu [.ref a0, .int a1] w = if isO w a0 7 = true then M_X8_tell fu a0 a1 w else none := rfl
theorem u_X7_tread (fu : Nat) (a0 : Nat) (a1 : Int32) (w : XW) : U_X7_tread fu [.ref a0, .int a1] w = if isO w a0 6 = true then M_X7_tread fu a0 a1 w else none := rfl
theorem u_X8_tread (fu : Nat) (a0 : Nat) (a1 : Int32) (w : XW) : U_X8_tread fu [.ref a0, .int a1] w = if isO w a0 7 = true then M_X8_tread fu a0 a1 w else none := rfl
theorem u_X7_as (fu : Nat) (a0 : Nat) (a1 : Int32) (a2 : Int32) (w : XW) : U_X7_as fu [.ref a0, .int a1, .int a2] w = if isO w a0 6 = true then M_X7_as fu a0 a1 a2 w else none := rfl
theorem u_X8_as (fu : Nat) (a0 : Nat) (a1 : Int32) (a2 : Int32) (w : XW) : U_X8_as fu [.ref a0, .int a1, .int a2] w = if isO w a0 7 = true then M_X8_as fu a0 a1 a2 w else none := rfl
theorem u_X7_trace (fu : Nat) (a0 : Nat) (w : XW) : U_X7_trace fu [.ref a0] w = if isO w a0 6 = true then M_X7_trace fu a0 w else none := rfl
theorem u_X8_trace (fu : Nat) (a0 : Nat) (w : XW) : U_X8_trace fu [.ref a0] w = if isO w a0 7 = true then M_X8_trace fu a0 w else none := rfl
theorem u_X7_fault (fu : Nat) (a0 : Nat) (w : XW) : U_X7_fault fu [.ref a0] w = if isO w a0 6 = true then M_X7_fault fu a0 w else none := rfl
theorem u_X8_fault (fu : Nat) (a0 : Nat) (w : XW) : U_X8_fault fu [.ref a0] w = if isO w a0 7 = true then M_X8_fault fu a0 w else none := rfl
theorem u_X7_many (fu : Nat) (a0 : Nat) (a1 : Int32) (w : XW) : U_X7_many fu [.ref a0, .int a1] w = if isO w a0 6 = true then M_X7_many fu a0 a1 w else none := rfl
theorem u_X8_stonesIn (fu : Nat) (a0 : Nat) (a1 : Int32) (w : XW) : U_X8_stonesIn fu [.ref a0, .int a1] w = if isO w a0 7 = true then M_X8_stonesIn fu a0 a1 w else none := rfl
theorem u_X8_guards (fu : Nat) (a0 : Nat) (w : XW) : U_X8_guards fu [.ref a0] w = if isO w a0 7 = true then M_X8_guards fu a0 w else none := rfl
theorem u_X8_many (fu : Nat) (a0 : Nat) (a1 : Int32) (w : XW) : U_X8_many fu [.ref a0, .int a1] w = if isO w a0 7 = true then M_X8_many fu a0 a1 w else none := rfl
theorem u_L_law (fu : Nat) (a0 : Nat) (w : XW) : U_L_law fu [.ref a0] w = M_L_law fu a0 w := rfl
