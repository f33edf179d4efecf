/-! laid by program (wip/whole/gen/part14.py): words by their places -/
set_option maxRecDepth 100000 in
theorem hI_w : Jvm.Cond.arrayClass .int ∈ tblG := tblG_of (i := 94) rfl rfl
set_option maxRecDepth 100000 in
theorem uw_X0 : ∀ w ∈ u_ws RX0 TX0 15, w ∈ tblG := by
  show ∀ w ∈ [u_lay RX0 TX0 0, u_lay RX0 TX0 1, u_lay RX0 TX0 2, u_lay RX0 TX0 3, u_lay RX0 TX0 4, u_lay RX0 TX0 5, u_lay RX0 TX0 6, u_lay RX0 TX0 7, u_lay RX0 TX0 8, u_lay RX0 TX0 9, u_lay RX0 TX0 10, u_lay RX0 TX0 11, u_lay RX0 TX0 12, u_lay RX0 TX0 13, u_lay RX0 TX0 14], w ∈ tblG
  exact List.forall_mem_cons.mpr ⟨(tblG_of (i := 63) rfl rfl), List.forall_mem_cons.mpr ⟨(tblG_of (i := 65) rfl rfl), List.forall_mem_cons.mpr ⟨(tblG_of (i := 67) rfl rfl), List.forall_mem_cons.mpr ⟨(tblG_of (i := 69) rfl rfl), List.forall_mem_cons.mpr ⟨(tblG_of (i := 71) rfl rfl), List.forall_mem_cons.mpr ⟨(tblG_of (i := 73) rfl rfl), List.forall_mem_cons.mpr ⟨(tblG_of (i := 75) rfl rfl), List.forall_mem_cons.mpr ⟨(tblG_of (i := 77) rfl rfl), List.forall_mem_cons.mpr ⟨(tblG_of (i := 79) rfl rfl), List.forall_mem_cons.mpr ⟨(tblG_of (i := 81) rfl rfl), List.forall_mem_cons.mpr ⟨(tblG_of (i := 83) rfl rfl), List.forall_mem_cons.mpr ⟨(tblG_of (i := 85) rfl rfl), List.forall_mem_cons.mpr ⟨(tblG_of (i := 87) rfl rfl), List.forall_mem_cons.mpr ⟨(tblG_of (i := 89) rfl rfl), List.forall_mem_cons.mpr ⟨(tblG_of (i := 91) rfl rfl), fun _ h => absurd h List.not_mem_nil⟩⟩⟩⟩⟩⟩⟩⟩⟩⟩⟩⟩⟩⟩⟩
set_option maxRecDepth 100000 in
theorem uw_X1 : ∀ w ∈ u_ws RX1 TX1 3, w ∈ tblG := by
  show ∀ w ∈ [u_lay RX1 TX1 0, u_lay RX1 TX1 1, u_lay RX1 TX1 2], w ∈ tblG
  exact List.forall_mem_cons.mpr ⟨(tblG_of (i := 147) rfl rfl), List.forall_mem_cons.mpr ⟨(tblG_of (i := 149) rfl rfl), List.forall_mem_cons.mpr ⟨(tblG_of (i := 151) rfl rfl), fun _ h => absurd h List.not_mem_nil⟩⟩⟩
set_option maxRecDepth 100000 in
theorem uw_X2 : ∀ w ∈ u_ws RX2 TX2 2, w ∈ tblG := by
  show ∀ w ∈ [u_lay RX2 TX2 0, u_lay RX2 TX2 1], w ∈ tblG
  exact List.forall_mem_cons.mpr ⟨(tblG_of (i := 190) rfl rfl), List.forall_mem_cons.mpr ⟨(tblG_of (i := 192) rfl rfl), fun _ h => absurd h List.not_mem_nil⟩⟩
set_option maxRecDepth 100000 in
theorem uw_X3 : ∀ w ∈ u_ws RX3 TX3 8, w ∈ tblG := by
  show ∀ w ∈ [u_lay RX3 TX3 0, u_lay RX3 TX3 1, u_lay RX3 TX3 2, u_lay RX3 TX3 3, u_lay RX3 TX3 4, u_lay RX3 TX3 5, u_lay RX3 TX3 6, u_lay RX3 TX3 7], w ∈ tblG
  exact List.forall_mem_cons.mpr ⟨(tblG_of (i := 166) rfl rfl), List.forall_mem_cons.mpr ⟨(tblG_of (i := 168) rfl rfl), List.forall_mem_cons.mpr ⟨(tblG_of (i := 170) rfl rfl), List.forall_mem_cons.mpr ⟨(tblG_of (i := 172) rfl rfl), List.forall_mem_cons.mpr ⟨(tblG_of (i := 174) rfl rfl), List.forall_mem_cons.mpr ⟨(tblG_of (i := 176) rfl rfl), List.forall_mem_cons.mpr ⟨(tblG_of (i := 178) rfl rfl), List.forall_mem_cons.mpr ⟨(tblG_of (i := 180) rfl rfl), fun _ h => absurd h List.not_mem_nil⟩⟩⟩⟩⟩⟩⟩⟩
set_option maxRecDepth 100000 in
theorem uw_X4 : ∀ w ∈ u_ws RX4 TX4 3, w ∈ tblG := by
  show ∀ w ∈ [u_lay RX4 TX4 0, u_lay RX4 TX4 1, u_lay RX4 TX4 2], w ∈ tblG
  exact List.forall_mem_cons.mpr ⟨(tblG_of (i := 106) rfl rfl), List.forall_mem_cons.mpr ⟨(tblG_of (i := 108) rfl rfl), List.forall_mem_cons.mpr ⟨(tblG_of (i := 110) rfl rfl), fun _ h => absurd h List.not_mem_nil⟩⟩⟩
set_option maxRecDepth 100000 in
theorem uw_X6 : ∀ w ∈ u_ws RX6 TX6 6, w ∈ tblG := by
  show ∀ w ∈ [u_lay RX6 TX6 0, u_lay RX6 TX6 1, u_lay RX6 TX6 2, u_lay RX6 TX6 3, u_lay RX6 TX6 4, u_lay RX6 TX6 5], w ∈ tblG
  exact List.forall_mem_cons.mpr ⟨(tblG_of (i := 126) rfl rfl), List.forall_mem_cons.mpr ⟨(tblG_of (i := 128) rfl rfl), List.forall_mem_cons.mpr ⟨(tblG_of (i := 130) rfl rfl), List.forall_mem_cons.mpr ⟨(tblG_of (i := 132) rfl rfl), List.forall_mem_cons.mpr ⟨(tblG_of (i := 134) rfl rfl), List.forall_mem_cons.mpr ⟨(tblG_of (i := 136) rfl rfl), fun _ h => absurd h List.not_mem_nil⟩⟩⟩⟩⟩⟩
set_option maxRecDepth 100000 in
theorem uw_X7 : ∀ w ∈ u_ws RX7 TX7 8, w ∈ tblG := by
  show ∀ w ∈ [u_lay RX7 TX7 0, u_lay RX7 TX7 1, u_lay RX7 TX7 2, u_lay RX7 TX7 3, u_lay RX7 TX7 4, u_lay RX7 TX7 5, u_lay RX7 TX7 6, u_lay RX7 TX7 7], w ∈ tblG
  exact List.forall_mem_cons.mpr ⟨(tblG_of (i := 202) rfl rfl), List.forall_mem_cons.mpr ⟨(tblG_of (i := 204) rfl rfl), List.forall_mem_cons.mpr ⟨(tblG_of (i := 206) rfl rfl), List.forall_mem_cons.mpr ⟨(tblG_of (i := 208) rfl rfl), List.forall_mem_cons.mpr ⟨(tblG_of (i := 210) rfl rfl), List.forall_mem_cons.mpr ⟨(tblG_of (i := 212) rfl rfl), List.forall_mem_cons.mpr ⟨(tblG_of (i := 214) rfl rfl), List.forall_mem_cons.mpr ⟨(tblG_of (i := 216) rfl rfl), fun _ h => absurd h List.not_mem_nil⟩⟩⟩⟩⟩⟩⟩⟩
def y_X0_init : MethodName := ⟨"BrookStones$Brook", "<init>", "()V"⟩
set_option maxRecDepth 100000 in
theorem mi_X0_init : Jvm.Cond.code y_X0_init prog_2_method_1_code 1 (none) ∈ tblG ∧ Jvm.Cond.initialized y_X0_init.cls ∈ tblG ∧ Jvm.Cond.instanceMethod y_X0_init ∈ tblG ∧ pl3 y_X0_init 0 := ⟨tblG_of (i := 24) rfl rfl, tblG_of (i := 2) rfl rfl, tblG_of (i := 23) rfl rfl, ⟨by decide +kernel, by decide +kernel, by decide +kernel⟩⟩
def y_X0_makeAnew : MethodName := ⟨"BrookStones$Brook", "makeAnew", "()V"⟩
set_option maxRecDepth 100000 in
theorem mi_X0_makeAnew : Jvm.Cond.code y_X0_makeAnew prog_2_method_2_code 1 (none) ∈ tblG ∧ Jvm.Cond.initialized y_X0_makeAnew.cls ∈ tblG ∧ Jvm.Cond.instanceMethod y_X0_makeAnew ∈ tblG ∧ Jvm.Cond.selects y_X0_makeAnew.cls y_X0_makeAnew y_X0_makeAnew ∈ tblG ∧ pl3 y_X0_makeAnew 0 := ⟨tblG_of (i := 281) rfl rfl, tblG_of (i := 2) rfl rfl, tblG_of (i := 280) rfl rfl, tblG_sel (q := (y_X0_makeAnew, 15)) (List.mem_of_getElem? (i := 6) rfl), ⟨by decide +kernel, by decide +kernel, by decide +kernel⟩⟩
def y_X0_isThere : MethodName := ⟨"BrookStones$Brook", "isThere", "()Z"⟩
set_option maxRecDepth 100000 in
theorem mi_X0_isThere : Jvm.Cond.code y_X0_isThere prog_2_method_3_code 1 (some .boolean) ∈ tblG ∧ Jvm.Cond.initialized y_X0_isThere.cls ∈ tblG ∧ Jvm.Cond.instanceMethod y_X0_isThere ∈ tblG ∧ Jvm.Cond.selects y_X0_isThere.cls y_X0_isThere y_X0_isThere ∈ tblG ∧ pl3 y_X0_isThere 0 := ⟨tblG_of (i := 308) rfl rfl, tblG_of (i := 2) rfl rfl, tblG_of (i := 307) rfl rfl, tblG_sel (q := (y_X0_isThere, 15)) (List.mem_of_getElem? (i := 9) rfl), ⟨by decide +kernel, by decide +kernel, by decide +kernel⟩⟩
def y_X0_isCell : MethodName := ⟨"BrookStones$Brook", "isCell", "(I)Z"⟩
set_option maxRecDepth 100000 in
theorem mi_X0_isCell : Jvm.Cond.code y_X0_isCell prog_2_method_4_code 2 (some .boolean) ∈ tblG ∧ Jvm.Cond.initialized y_X0_isCell.cls ∈ tblG ∧ Jvm.Cond.instanceMethod y_X0_isCell ∈ tblG ∧ Jvm.Cond.selects y_X0_isCell.cls y_X0_isCell y_X0_isCell ∈ tblG ∧ pl3 y_X0_isCell 1 := ⟨tblG_of (i := 292) rfl rfl, tblG_of (i := 2) rfl rfl, tblG_of (i := 291) rfl rfl, tblG_sel (q := (y_X0_isCell, 15)) (List.mem_of_getElem? (i := 7) rfl), ⟨by decide +kernel, by decide +kernel, by decide +kernel⟩⟩
def y_X0_isStone : MethodName := ⟨"BrookStones$Brook", "isStone", "(I)Z"⟩
set_option maxRecDepth 100000 in
theorem mi_X0_isStone : Jvm.Cond.code y_X0_isStone prog_2_method_5_code 2 (some .boolean) ∈ tblG ∧ Jvm.Cond.initialized y_X0_isStone.cls ∈ tblG ∧ Jvm.Cond.instanceMethod y_X0_isStone ∈ tblG ∧ Jvm.Cond.selects y_X0_isStone.cls y_X0_isStone y_X0_isStone ∈ tblG ∧ pl3 y_X0_isStone 1 := ⟨tblG_of (i := 316) rfl rfl, tblG_of (i := 2) rfl rfl, tblG_of (i := 315) rfl rfl, tblG_sel (q := (y_X0_isStone, 15)) (List.mem_of_getElem? (i := 10) rfl), ⟨by decide +kernel, by decide +kernel, by decide +kernel⟩⟩
def y_X0_isWalker : MethodName := ⟨"BrookStones$Brook", "isWalker", "(I)Z"⟩
set_option maxRecDepth 100000 in
theorem mi_X0_isWalker : Jvm.Cond.code y_X0_isWalker prog_2_method_6_code 2 (some .boolean) ∈ tblG ∧ Jvm.Cond.initialized y_X0_isWalker.cls ∈ tblG ∧ Jvm.Cond.instanceMethod y_X0_isWalker ∈ tblG ∧ Jvm.Cond.selects y_X0_isWalker.cls y_X0_isWalker y_X0_isWalker ∈ tblG ∧ pl3 y_X0_isWalker 1 := ⟨tblG_of (i := 349) rfl rfl, tblG_of (i := 2) rfl rfl, tblG_of (i := 348) rfl rfl, tblG_sel (q := (y_X0_isWalker, 15)) (List.mem_of_getElem? (i := 15) rfl), ⟨by decide +kernel, by decide +kernel, by decide +kernel⟩⟩
def y_X0_addStone : MethodName := ⟨"BrookStones$Brook", "addStone", "(IIII)I"⟩
set_option maxRecDepth 100000 in
theorem mi_X0_addStone : Jvm.Cond.code y_X0_addStone prog_2_method_7_code 5 (some .int) ∈ tblG ∧ Jvm.Cond.initialized y_X0_addStone.cls ∈ tblG ∧ Jvm.Cond.instanceMethod y_X0_addStone ∈ tblG ∧ Jvm.Cond.selects y_X0_addStone.cls y_X0_addStone y_X0_addStone ∈ tblG ∧ pl3 y_X0_addStone 4 := ⟨tblG_of (i := 480) rfl rfl, tblG_of (i := 2) rfl rfl, tblG_of (i := 479) rfl rfl, tblG_sel (q := (y_X0_addStone, 15)) (List.mem_of_getElem? (i := 28) rfl), ⟨by decide +kernel, by decide +kernel, by decide +kernel⟩⟩
def y_X0_addWalker : MethodName := ⟨"BrookStones$Brook", "addWalker", "(I)I"⟩
set_option maxRecDepth 100000 in
theorem mi_X0_addWalker : Jvm.Cond.code y_X0_addWalker prog_2_method_8_code 2 (some .int) ∈ tblG ∧ Jvm.Cond.initialized y_X0_addWalker.cls ∈ tblG ∧ Jvm.Cond.instanceMethod y_X0_addWalker ∈ tblG ∧ Jvm.Cond.selects y_X0_addWalker.cls y_X0_addWalker y_X0_addWalker ∈ tblG ∧ pl3 y_X0_addWalker 1 := ⟨tblG_of (i := 341) rfl rfl, tblG_of (i := 2) rfl rfl, tblG_of (i := 340) rfl rfl, tblG_sel (q := (y_X0_addWalker, 15)) (List.mem_of_getElem? (i := 14) rfl), ⟨by decide +kernel, by decide +kernel, by decide +kernel⟩⟩
def y_X0_reachOf : MethodName := ⟨"BrookStones$Brook", "reachOf", "(IZ)I"⟩
set_option maxRecDepth 100000 in
theorem mi_X0_reachOf : Jvm.Cond.code y_X0_reachOf prog_2_method_9_code 3 (some .int) ∈ tblG ∧ Jvm.Cond.initialized y_X0_reachOf.cls ∈ tblG ∧ Jvm.Cond.instanceMethod y_X0_reachOf ∈ tblG ∧ Jvm.Cond.selects y_X0_reachOf.cls y_X0_reachOf y_X0_reachOf ∈ tblG ∧ pl3 y_X0_reachOf 2 := ⟨tblG_of (i := 365) rfl rfl, tblG_of (i := 2) rfl rfl, tblG_of (i := 364) rfl rfl, tblG_sel (q := (y_X0_reachOf, 15)) (List.mem_of_getElem? (i := 18) rfl), ⟨by decide +kernel, by decide +kernel, by decide +kernel⟩⟩
def y_X0_holdOf : MethodName := ⟨"BrookStones$Brook", "holdOf", "(I)I"⟩
set_option maxRecDepth 100000 in
theorem mi_X0_holdOf : Jvm.Cond.code y_X0_holdOf prog_2_method_10_code 2 (some .int) ∈ tblG ∧ Jvm.Cond.initialized y_X0_holdOf.cls ∈ tblG ∧ Jvm.Cond.instanceMethod y_X0_holdOf ∈ tblG ∧ Jvm.Cond.selects y_X0_holdOf.cls y_X0_holdOf y_X0_holdOf ∈ tblG ∧ pl3 y_X0_holdOf 1 := ⟨tblG_of (i := 320) rfl rfl, tblG_of (i := 2) rfl rfl, tblG_of (i := 319) rfl rfl, tblG_sel (q := (y_X0_holdOf, 15)) (List.mem_of_getElem? (i := 11) rfl), ⟨by decide +kernel, by decide +kernel, by decide +kernel⟩⟩
def y_X0_topOf : MethodName := ⟨"BrookStones$Brook", "topOf", "(III)I"⟩
set_option maxRecDepth 100000 in
theorem mi_X0_topOf : Jvm.Cond.code y_X0_topOf prog_2_method_13_code 4 (some .int) ∈ tblG ∧ Jvm.Cond.initialized y_X0_topOf.cls ∈ tblG ∧ Jvm.Cond.instanceMethod y_X0_topOf ∈ tblG ∧ Jvm.Cond.selects y_X0_topOf.cls y_X0_topOf y_X0_topOf ∈ tblG ∧ pl3 y_X0_topOf 3 := ⟨tblG_of (i := 299) rfl rfl, tblG_of (i := 2) rfl rfl, tblG_of (i := 298) rfl rfl, tblG_sel (q := (y_X0_topOf, 15)) (List.mem_of_getElem? (i := 8) rfl), ⟨by decide +kernel, by decide +kernel, by decide +kernel⟩⟩
def y_X0_cellOf : MethodName := ⟨"BrookStones$Brook", "cellOf", "(I)I"⟩
set_option maxRecDepth 100000 in
theorem mi_X0_cellOf : Jvm.Cond.code y_X0_cellOf prog_2_method_14_code 3 (some .int) ∈ tblG ∧ Jvm.Cond.initialized y_X0_cellOf.cls ∈ tblG ∧ Jvm.Cond.instanceMethod y_X0_cellOf ∈ tblG ∧ Jvm.Cond.selects y_X0_cellOf.cls y_X0_cellOf y_X0_cellOf ∈ tblG ∧ pl3 y_X0_cellOf 1 := ⟨tblG_of (i := 324) rfl rfl, tblG_of (i := 2) rfl rfl, tblG_of (i := 323) rfl rfl, tblG_sel (q := (y_X0_cellOf, 15)) (List.mem_of_getElem? (i := 12) rfl), ⟨by decide +kernel, by decide +kernel, by decide +kernel⟩⟩
def y_X0_takeUp : MethodName := ⟨"BrookStones$Brook", "takeUp", "(I)V"⟩
set_option maxRecDepth 100000 in
theorem mi_X0_takeUp : Jvm.Cond.code y_X0_takeUp prog_2_method_15_code 3 (none) ∈ tblG ∧ Jvm.Cond.initialized y_X0_takeUp.cls ∈ tblG ∧ Jvm.Cond.instanceMethod y_X0_takeUp ∈ tblG ∧ Jvm.Cond.selects y_X0_takeUp.cls y_X0_takeUp y_X0_takeUp ∈ tblG ∧ pl3 y_X0_takeUp 1 := ⟨tblG_of (i := 332) rfl rfl, tblG_of (i := 2) rfl rfl, tblG_of (i := 331) rfl rfl, tblG_sel (q := (y_X0_takeUp, 15)) (List.mem_of_getElem? (i := 13) rfl), ⟨by decide +kernel, by decide +kernel, by decide +kernel⟩⟩
def y_X0_filled : MethodName := ⟨"BrookStones$Brook", "filled", "()I"⟩
set_option maxRecDepth 100000 in
theorem mi_X0_filled : Jvm.Cond.code y_X0_filled prog_2_method_17_code 1 (some .int) ∈ tblG ∧ Jvm.Cond.initialized y_X0_filled.cls ∈ tblG ∧ Jvm.Cond.instanceMethod y_X0_filled ∈ tblG ∧ Jvm.Cond.selects y_X0_filled.cls y_X0_filled y_X0_filled ∈ tblG ∧ pl3 y_X0_filled 0 := ⟨tblG_of (i := 357) rfl rfl, tblG_of (i := 2) rfl rfl, tblG_of (i := 356) rfl rfl, tblG_sel (q := (y_X0_filled, 15)) (List.mem_of_getElem? (i := 16) rfl), ⟨by decide +kernel, by decide +kernel, by decide +kernel⟩⟩
def y_X0_ofKind : MethodName := ⟨"BrookStones$Brook", "ofKind", "(I)I"⟩
set_option maxRecDepth 100000 in
theorem mi_X0_ofKind : Jvm.Cond.code y_X0_ofKind prog_2_method_18_code 4 (some .int) ∈ tblG ∧ Jvm.Cond.initialized y_X0_ofKind.cls ∈ tblG ∧ Jvm.Cond.instanceMethod y_X0_ofKind ∈ tblG ∧ Jvm.Cond.selects y_X0_ofKind.cls y_X0_ofKind y_X0_ofKind ∈ tblG ∧ pl3 y_X0_ofKind 1 := ⟨tblG_of (i := 361) rfl rfl, tblG_of (i := 2) rfl rfl, tblG_of (i := 360) rfl rfl, tblG_sel (q := (y_X0_ofKind, 15)) (List.mem_of_getElem? (i := 17) rfl), ⟨by decide +kernel, by decide +kernel, by decide +kernel⟩⟩
def y_X0_dry : MethodName := ⟨"BrookStones$Brook", "dry", "(I)I"⟩
set_option maxRecDepth 100000 in
theorem mi_X0_dry : Jvm.Cond.code y_X0_dry prog_2_method_19_code 4 (some .int) ∈ tblG ∧ Jvm.Cond.initialized y_X0_dry.cls ∈ tblG ∧ Jvm.Cond.instanceMethod y_X0_dry ∈ tblG ∧ Jvm.Cond.selects y_X0_dry.cls y_X0_dry y_X0_dry ∈ tblG ∧ pl3 y_X0_dry 1 := ⟨tblG_of (i := 373) rfl rfl, tblG_of (i := 2) rfl rfl, tblG_of (i := 372) rfl rfl, tblG_sel (q := (y_X0_dry, 15)) (List.mem_of_getElem? (i := 20) rfl), ⟨by decide +kernel, by decide +kernel, by decide +kernel⟩⟩
def y_X0_isCrossed : MethodName := ⟨"BrookStones$Brook", "isCrossed", "(III)Z"⟩
set_option maxRecDepth 100000 in
theorem mi_X0_isCrossed : Jvm.Cond.code y_X0_isCrossed prog_2_method_20_code 4 (some .boolean) ∈ tblG ∧ Jvm.Cond.initialized y_X0_isCrossed.cls ∈ tblG ∧ Jvm.Cond.instanceMethod y_X0_isCrossed ∈ tblG ∧ Jvm.Cond.selects y_X0_isCrossed.cls y_X0_isCrossed y_X0_isCrossed ∈ tblG ∧ pl3 y_X0_isCrossed 3 := ⟨tblG_of (i := 369) rfl rfl, tblG_of (i := 2) rfl rfl, tblG_of (i := 368) rfl rfl, tblG_sel (q := (y_X0_isCrossed, 15)) (List.mem_of_getElem? (i := 19) rfl), ⟨by decide +kernel, by decide +kernel, by decide +kernel⟩⟩
def y_X1_init : MethodName := ⟨"BrookStones$Flood", "<init>", "()V"⟩
set_option maxRecDepth 100000 in
theorem mi_X1_init : Jvm.Cond.code y_X1_init prog_3_method_1_code 1 (none) ∈ tblG ∧ Jvm.Cond.initialized y_X1_init.cls ∈ tblG ∧ Jvm.Cond.instanceMethod y_X1_init ∈ tblG ∧ pl3 y_X1_init 0 := ⟨tblG_of (i := 143) rfl rfl, tblG_of (i := 6) rfl rfl, tblG_of (i := 142) rfl rfl, ⟨by decide +kernel, by decide +kernel, by decide +kernel⟩⟩
def y_X2_init : MethodName := ⟨"BrookStones$Layings", "<init>", "()V"⟩
set_option maxRecDepth 100000 in
theorem mi_X2_init : Jvm.Cond.code y_X2_init prog_4_method_1_code 1 (none) ∈ tblG ∧ Jvm.Cond.initialized y_X2_init.cls ∈ tblG ∧ Jvm.Cond.instanceMethod y_X2_init ∈ tblG ∧ pl3 y_X2_init 0 := ⟨tblG_of (i := 187) rfl rfl, tblG_of (i := 8) rfl rfl, tblG_of (i := 186) rfl rfl, ⟨by decide +kernel, by decide +kernel, by decide +kernel⟩⟩
def y_X3_init : MethodName := ⟨"BrookStones$Planner", "<init>", "()V"⟩
set_option maxRecDepth 100000 in
theorem mi_X3_init : Jvm.Cond.code y_X3_init prog_5_method_1_code 1 (none) ∈ tblG ∧ Jvm.Cond.initialized y_X3_init.cls ∈ tblG ∧ Jvm.Cond.instanceMethod y_X3_init ∈ tblG ∧ pl3 y_X3_init 0 := ⟨tblG_of (i := 158) rfl rfl, tblG_of (i := 7) rfl rfl, tblG_of (i := 157) rfl rfl, ⟨by decide +kernel, by decide +kernel, by decide +kernel⟩⟩
def y_X4_init : MethodName := ⟨"BrookStones$Sheets", "<init>", "()V"⟩
set_option maxRecDepth 100000 in
theorem mi_X4_init : Jvm.Cond.code y_X4_init prog_6_method_1_code 1 (none) ∈ tblG ∧ Jvm.Cond.initialized y_X4_init.cls ∈ tblG ∧ Jvm.Cond.instanceMethod y_X4_init ∈ tblG ∧ pl3 y_X4_init 0 := ⟨tblG_of (i := 99) rfl rfl, tblG_of (i := 4) rfl rfl, tblG_of (i := 98) rfl rfl, ⟨by decide +kernel, by decide +kernel, by decide +kernel⟩⟩
def y_X4_isSheet : MethodName := ⟨"BrookStones$Sheets", "isSheet", "(I)Z"⟩
set_option maxRecDepth 100000 in
theorem mi_X4_isSheet : Jvm.Cond.code y_X4_isSheet prog_6_method_2_code 1 (some .boolean) ∈ tblG ∧ Jvm.Cond.initialized y_X4_isSheet.cls ∈ tblG ∧ Jvm.Cond.static y_X4_isSheet ∈ tblG ∧ pl3 y_X4_isSheet 1 := ⟨tblG_of (i := 229) rfl rfl, tblG_of (i := 4) rfl rfl, tblG_of (i := 228) rfl rfl, ⟨by decide +kernel, by decide +kernel, by decide +kernel⟩⟩
def y_X4_isSort : MethodName := ⟨"BrookStones$Sheets", "isSort", "(I)Z"⟩
set_option maxRecDepth 100000 in
theorem mi_X4_isSort : Jvm.Cond.code y_X4_isSort prog_6_method_3_code 1 (some .boolean) ∈ tblG ∧ Jvm.Cond.initialized y_X4_isSort.cls ∈ tblG ∧ Jvm.Cond.static y_X4_isSort ∈ tblG ∧ pl3 y_X4_isSort 1 := ⟨tblG_of (i := 235) rfl rfl, tblG_of (i := 4) rfl rfl, tblG_of (i := 234) rfl rfl, ⟨by decide +kernel, by decide +kernel, by decide +kernel⟩⟩
def y_X4_isThere : MethodName := ⟨"BrookStones$Sheets", "isThere", "(I)Z"⟩
set_option maxRecDepth 100000 in
theorem mi_X4_isThere : Jvm.Cond.code y_X4_isThere prog_6_method_4_code 2 (some .boolean) ∈ tblG ∧ Jvm.Cond.initialized y_X4_isThere.cls ∈ tblG ∧ Jvm.Cond.instanceMethod y_X4_isThere ∈ tblG ∧ Jvm.Cond.selects y_X4_isThere.cls y_X4_isThere y_X4_isThere ∈ tblG ∧ pl3 y_X4_isThere 1 := ⟨tblG_of (i := 243) rfl rfl, tblG_of (i := 4) rfl rfl, tblG_of (i := 242) rfl rfl, tblG_sel (q := (y_X4_isThere, 3)) (List.mem_of_getElem? (i := 2) rfl), ⟨by decide +kernel, by decide +kernel, by decide +kernel⟩⟩
def y_X4_renew : MethodName := ⟨"BrookStones$Sheets", "renew", "(III)V"⟩
set_option maxRecDepth 100000 in
theorem mi_X4_renew : Jvm.Cond.code y_X4_renew prog_6_method_6_code 5 (none) ∈ tblG ∧ Jvm.Cond.initialized y_X4_renew.cls ∈ tblG ∧ Jvm.Cond.instanceMethod y_X4_renew ∈ tblG ∧ Jvm.Cond.selects y_X4_renew.cls y_X4_renew y_X4_renew ∈ tblG ∧ pl3 y_X4_renew 3 := ⟨tblG_of (i := 430) rfl rfl, tblG_of (i := 4) rfl rfl, tblG_of (i := 429) rfl rfl, tblG_sel (q := (y_X4_renew, 3)) (List.mem_of_getElem? (i := 26) rfl), ⟨by decide +kernel, by decide +kernel, by decide +kernel⟩⟩
def y_X4_at : MethodName := ⟨"BrookStones$Sheets", "at", "(II)I"⟩
set_option maxRecDepth 100000 in
theorem mi_X4_at : Jvm.Cond.code y_X4_at prog_6_method_7_code 3 (some .int) ∈ tblG ∧ Jvm.Cond.initialized y_X4_at.cls ∈ tblG ∧ Jvm.Cond.instanceMethod y_X4_at ∈ tblG ∧ Jvm.Cond.selects y_X4_at.cls y_X4_at y_X4_at ∈ tblG ∧ pl3 y_X4_at 2 := ⟨tblG_of (i := 261) rfl rfl, tblG_of (i := 4) rfl rfl, tblG_of (i := 260) rfl rfl, tblG_sel (q := (y_X4_at, 3)) (List.mem_of_getElem? (i := 5) rfl), ⟨by decide +kernel, by decide +kernel, by decide +kernel⟩⟩
def y_X4_write : MethodName := ⟨"BrookStones$Sheets", "write", "(III)V"⟩
set_option maxRecDepth 100000 in
theorem mi_X4_write : Jvm.Cond.code y_X4_write prog_6_method_8_code 4 (none) ∈ tblG ∧ Jvm.Cond.initialized y_X4_write.cls ∈ tblG ∧ Jvm.Cond.instanceMethod y_X4_write ∈ tblG ∧ Jvm.Cond.selects y_X4_write.cls y_X4_write y_X4_write ∈ tblG ∧ pl3 y_X4_write 3 := ⟨tblG_of (i := 445) rfl rfl, tblG_of (i := 4) rfl rfl, tblG_of (i := 444) rfl rfl, tblG_sel (q := (y_X4_write, 3)) (List.mem_of_getElem? (i := 27) rfl), ⟨by decide +kernel, by decide +kernel, by decide +kernel⟩⟩
def y_X4_cut : MethodName := ⟨"BrookStones$Sheets", "cut", "(II)I"⟩
set_option maxRecDepth 100000 in
theorem mi_X4_cut : Jvm.Cond.code y_X4_cut prog_6_method_9_code 2 (some .int) ∈ tblG ∧ Jvm.Cond.initialized y_X4_cut.cls ∈ tblG ∧ Jvm.Cond.static y_X4_cut ∈ tblG ∧ pl3 y_X4_cut 2 := ⟨tblG_of (i := 448) rfl rfl, tblG_of (i := 4) rfl rfl, tblG_of (i := 447) rfl rfl, ⟨by decide +kernel, by decide +kernel, by decide +kernel⟩⟩
def y_X4_reaches : MethodName := ⟨"BrookStones$Sheets", "reaches", "(III)Z"⟩
set_option maxRecDepth 100000 in
theorem mi_X4_reaches : Jvm.Cond.code y_X4_reaches prog_6_method_11_code 4 (some .boolean) ∈ tblG ∧ Jvm.Cond.initialized y_X4_reaches.cls ∈ tblG ∧ Jvm.Cond.instanceMethod y_X4_reaches ∈ tblG ∧ Jvm.Cond.selects y_X4_reaches.cls y_X4_reaches y_X4_reaches ∈ tblG ∧ pl3 y_X4_reaches 3 := ⟨tblG_of (i := 247) rfl rfl, tblG_of (i := 4) rfl rfl, tblG_of (i := 246) rfl rfl, tblG_sel (q := (y_X4_reaches, 3)) (List.mem_of_getElem? (i := 3) rfl), ⟨by decide +kernel, by decide +kernel, by decide +kernel⟩⟩
def y_X4_faultOfCells : MethodName := ⟨"BrookStones$Sheets", "faultOfCells", "(IIII)I"⟩
set_option maxRecDepth 100000 in
theorem mi_X4_faultOfCells : Jvm.Cond.code y_X4_faultOfCells prog_6_method_12_code 5 (some .int) ∈ tblG ∧ Jvm.Cond.initialized y_X4_faultOfCells.cls ∈ tblG ∧ Jvm.Cond.instanceMethod y_X4_faultOfCells ∈ tblG ∧ Jvm.Cond.selects y_X4_faultOfCells.cls y_X4_faultOfCells y_X4_faultOfCells ∈ tblG ∧ pl3 y_X4_faultOfCells 4 := ⟨tblG_of (i := 239) rfl rfl, tblG_of (i := 4) rfl rfl, tblG_of (i := 238) rfl rfl, tblG_sel (q := (y_X4_faultOfCells, 3)) (List.mem_of_getElem? (i := 1) rfl), ⟨by decide +kernel, by decide +kernel, by decide +kernel⟩⟩
def y_X4_areWithin : MethodName := ⟨"BrookStones$Sheets", "areWithin", "(IIII)Z"⟩
set_option maxRecDepth 100000 in
theorem mi_X4_areWithin : Jvm.Cond.code y_X4_areWithin prog_6_method_13_code 6 (some .boolean) ∈ tblG ∧ Jvm.Cond.initialized y_X4_areWithin.cls ∈ tblG ∧ Jvm.Cond.instanceMethod y_X4_areWithin ∈ tblG ∧ Jvm.Cond.selects y_X4_areWithin.cls y_X4_areWithin y_X4_areWithin ∈ tblG ∧ pl3 y_X4_areWithin 4 := ⟨tblG_of (i := 420) rfl rfl, tblG_of (i := 4) rfl rfl, tblG_of (i := 419) rfl rfl, tblG_sel (q := (y_X4_areWithin, 3)) (List.mem_of_getElem? (i := 25) rfl), ⟨by decide +kernel, by decide +kernel, by decide +kernel⟩⟩
def y_X5_firstFault : MethodName := ⟨"BrookStones$Text", "firstFault", "(LBrookStones$Sheets;III)I"⟩
set_option maxRecDepth 100000 in
theorem mi_X5_firstFault : Jvm.Cond.code y_X5_firstFault prog_7_method_2_code 7 (some .int) ∈ tblG ∧ Jvm.Cond.initialized y_X5_firstFault.cls ∈ tblG ∧ Jvm.Cond.static y_X5_firstFault ∈ tblG ∧ pl3 y_X5_firstFault 4 := ⟨tblG_of (i := 254) rfl rfl, tblG_of (i := 9) rfl rfl, tblG_of (i := 253) rfl rfl, ⟨by decide +kernel, by decide +kernel, by decide +kernel⟩⟩
def y_X5_readInto : MethodName := ⟨"BrookStones$Text", "readInto", "(LBrookStones$Brook;LBrookStones$Sheets;III)V"⟩
set_option maxRecDepth 100000 in
theorem mi_X5_readInto : Jvm.Cond.code y_X5_readInto prog_7_method_3_code 7 (none) ∈ tblG ∧ Jvm.Cond.initialized y_X5_readInto.cls ∈ tblG ∧ Jvm.Cond.static y_X5_readInto ∈ tblG ∧ pl3 y_X5_readInto 5 := ⟨tblG_of (i := 284) rfl rfl, tblG_of (i := 9) rfl rfl, tblG_of (i := 283) rfl rfl, ⟨by decide +kernel, by decide +kernel, by decide +kernel⟩⟩
def y_X5_length : MethodName := ⟨"BrookStones$Text", "length", "(I)I"⟩
set_option maxRecDepth 100000 in
theorem mi_X5_length : Jvm.Cond.code y_X5_length prog_7_method_4_code 1 (some .int) ∈ tblG ∧ Jvm.Cond.initialized y_X5_length.cls ∈ tblG ∧ Jvm.Cond.static y_X5_length ∈ tblG ∧ pl3 y_X5_length 1 := ⟨tblG_of (i := 271) rfl rfl, tblG_of (i := 9) rfl rfl, tblG_of (i := 270) rfl rfl, ⟨by decide +kernel, by decide +kernel, by decide +kernel⟩⟩
def y_X5_cellsTold : MethodName := ⟨"BrookStones$Text", "cellsTold", "(LBrookStones$Sheets;III)I"⟩
set_option maxRecDepth 100000 in
theorem mi_X5_cellsTold : Jvm.Cond.code y_X5_cellsTold prog_7_method_5_code 5 (some .int) ∈ tblG ∧ Jvm.Cond.initialized y_X5_cellsTold.cls ∈ tblG ∧ Jvm.Cond.static y_X5_cellsTold ∈ tblG ∧ pl3 y_X5_cellsTold 4 := ⟨tblG_of (i := 257) rfl rfl, tblG_of (i := 9) rfl rfl, tblG_of (i := 256) rfl rfl, ⟨by decide +kernel, by decide +kernel, by decide +kernel⟩⟩
def y_X5_goesOn : MethodName := ⟨"BrookStones$Text", "goesOn", "(III)Z"⟩
set_option maxRecDepth 100000 in
theorem mi_X5_goesOn : Jvm.Cond.code y_X5_goesOn prog_7_method_6_code 3 (some .boolean) ∈ tblG ∧ Jvm.Cond.initialized y_X5_goesOn.cls ∈ tblG ∧ Jvm.Cond.static y_X5_goesOn ∈ tblG ∧ pl3 y_X5_goesOn 3 := ⟨tblG_of (i := 274) rfl rfl, tblG_of (i := 9) rfl rfl, tblG_of (i := 273) rfl rfl, ⟨by decide +kernel, by decide +kernel, by decide +kernel⟩⟩
def y_X5_isDigit : MethodName := ⟨"BrookStones$Text", "isDigit", "(I)Z"⟩
set_option maxRecDepth 100000 in
theorem mi_X5_isDigit : Jvm.Cond.code y_X5_isDigit prog_7_method_7_code 1 (some .boolean) ∈ tblG ∧ Jvm.Cond.initialized y_X5_isDigit.cls ∈ tblG ∧ Jvm.Cond.static y_X5_isDigit ∈ tblG ∧ pl3 y_X5_isDigit 1 := ⟨tblG_of (i := 264) rfl rfl, tblG_of (i := 9) rfl rfl, tblG_of (i := 263) rfl rfl, ⟨by decide +kernel, by decide +kernel, by decide +kernel⟩⟩
def y_X6_init : MethodName := ⟨"BrookStones$Way", "<init>", "()V"⟩
set_option maxRecDepth 100000 in
theorem mi_X6_init : Jvm.Cond.code y_X6_init prog_8_method_1_code 1 (none) ∈ tblG ∧ Jvm.Cond.initialized y_X6_init.cls ∈ tblG ∧ Jvm.Cond.instanceMethod y_X6_init ∈ tblG ∧ pl3 y_X6_init 0 := ⟨tblG_of (i := 117) rfl rfl, tblG_of (i := 5) rfl rfl, tblG_of (i := 116) rfl rfl, ⟨by decide +kernel, by decide +kernel, by decide +kernel⟩⟩
def y_X6_find : MethodName := ⟨"BrookStones$Way", "find", "(LBrookStones$Brook;I)I"⟩
set_option maxRecDepth 100000 in
theorem mi_X6_find : Jvm.Cond.code y_X6_find prog_8_method_2_code 5 (some .int) ∈ tblG ∧ Jvm.Cond.initialized y_X6_find.cls ∈ tblG ∧ Jvm.Cond.instanceMethod y_X6_find ∈ tblG ∧ Jvm.Cond.selects y_X6_find.cls y_X6_find y_X6_find ∈ tblG ∧ pl3 y_X6_find 2 := ⟨tblG_of (i := 385) rfl rfl, tblG_of (i := 5) rfl rfl, tblG_of (i := 384) rfl rfl, tblG_sel (q := (y_X6_find, 6)) (List.mem_of_getElem? (i := 21) rfl), ⟨by decide +kernel, by decide +kernel, by decide +kernel⟩⟩
def y_X6_fewestFrom : MethodName := ⟨"BrookStones$Way", "fewestFrom", "(I)I"⟩
set_option maxRecDepth 100000 in
theorem mi_X6_fewestFrom : Jvm.Cond.code y_X6_fewestFrom prog_8_method_3_code 4 (some .int) ∈ tblG ∧ Jvm.Cond.initialized y_X6_fewestFrom.cls ∈ tblG ∧ Jvm.Cond.instanceMethod y_X6_fewestFrom ∈ tblG ∧ Jvm.Cond.selects y_X6_fewestFrom.cls y_X6_fewestFrom y_X6_fewestFrom ∈ tblG ∧ pl3 y_X6_fewestFrom 1 := ⟨tblG_of (i := 391) rfl rfl, tblG_of (i := 5) rfl rfl, tblG_of (i := 390) rfl rfl, tblG_sel (q := (y_X6_fewestFrom, 6)) (List.mem_of_getElem? (i := 22) rfl), ⟨by decide +kernel, by decide +kernel, by decide +kernel⟩⟩
def y_X6_firstBehind : MethodName := ⟨"BrookStones$Way", "firstBehind", "(I)I"⟩
set_option maxRecDepth 100000 in
theorem mi_X6_firstBehind : Jvm.Cond.code y_X6_firstBehind prog_8_method_4_code 3 (some .int) ∈ tblG ∧ Jvm.Cond.initialized y_X6_firstBehind.cls ∈ tblG ∧ Jvm.Cond.instanceMethod y_X6_firstBehind ∈ tblG ∧ Jvm.Cond.selects y_X6_firstBehind.cls y_X6_firstBehind y_X6_firstBehind ∈ tblG ∧ pl3 y_X6_firstBehind 1 := ⟨tblG_of (i := 401) rfl rfl, tblG_of (i := 5) rfl rfl, tblG_of (i := 400) rfl rfl, tblG_sel (q := (y_X6_firstBehind, 6)) (List.mem_of_getElem? (i := 24) rfl), ⟨by decide +kernel, by decide +kernel, by decide +kernel⟩⟩
def y_X6_isStride : MethodName := ⟨"BrookStones$Way", "isStride", "(II)Z"⟩
set_option maxRecDepth 100000 in
theorem mi_X6_isStride : Jvm.Cond.code y_X6_isStride prog_8_method_5_code 4 (some .boolean) ∈ tblG ∧ Jvm.Cond.initialized y_X6_isStride.cls ∈ tblG ∧ Jvm.Cond.instanceMethod y_X6_isStride ∈ tblG ∧ Jvm.Cond.selects y_X6_isStride.cls y_X6_isStride y_X6_isStride ∈ tblG ∧ pl3 y_X6_isStride 2 := ⟨tblG_of (i := 395) rfl rfl, tblG_of (i := 5) rfl rfl, tblG_of (i := 394) rfl rfl, tblG_sel (q := (y_X6_isStride, 6)) (List.mem_of_getElem? (i := 23) rfl), ⟨by decide +kernel, by decide +kernel, by decide +kernel⟩⟩
def y_X7_init : MethodName := ⟨"BrookStones", "<init>", "()V"⟩
set_option maxRecDepth 100000 in
theorem mi_X7_init : Jvm.Cond.code y_X7_init prog_1_method_1_code 1 (none) ∈ tblG ∧ Jvm.Cond.initialized y_X7_init.cls ∈ tblG ∧ Jvm.Cond.instanceMethod y_X7_init ∈ tblG ∧ pl3 y_X7_init 0 := ⟨tblG_of (i := 16) rfl rfl, tblG_of (i := 1) rfl rfl, tblG_of (i := 15) rfl rfl, ⟨by decide +kernel, by decide +kernel, by decide +kernel⟩⟩
def y_X7_brook : MethodName := ⟨"BrookStones", "brook", "(IIII)I"⟩
set_option maxRecDepth 100000 in
theorem mi_X7_brook : Jvm.Cond.code y_X7_brook prog_1_method_2_code 7 (some .int) ∈ tblG ∧ Jvm.Cond.initialized y_X7_brook.cls ∈ tblG ∧ Jvm.Cond.instanceMethod y_X7_brook ∈ tblG ∧ Jvm.Cond.selects y_X7_brook.cls y_X7_brook y_X7_brook ∈ tblG ∧ pl3 y_X7_brook 4 := ⟨tblG_of (i := 222) rfl rfl, tblG_of (i := 1) rfl rfl, tblG_of (i := 220) rfl rfl, tblG_of (i := 221) rfl rfl, ⟨by decide +kernel, by decide +kernel, by decide +kernel⟩⟩
def y_X7_ofCell : MethodName := ⟨"BrookStones", "ofCell", "(II)I"⟩
set_option maxRecDepth 100000 in
theorem mi_X7_ofCell : Jvm.Cond.code y_X7_ofCell prog_1_method_3_code 4 (some .int) ∈ tblG ∧ Jvm.Cond.initialized y_X7_ofCell.cls ∈ tblG ∧ Jvm.Cond.instanceMethod y_X7_ofCell ∈ tblG ∧ Jvm.Cond.selects y_X7_ofCell.cls y_X7_ofCell y_X7_ofCell ∈ tblG ∧ pl3 y_X7_ofCell 2 := ⟨tblG_of (i := 288) rfl rfl, tblG_of (i := 1) rfl rfl, tblG_of (i := 286) rfl rfl, tblG_of (i := 287) rfl rfl, ⟨by decide +kernel, by decide +kernel, by decide +kernel⟩⟩
def y_X7_water : MethodName := ⟨"BrookStones", "water", "(I)I"⟩
set_option maxRecDepth 100000 in
theorem mi_X7_water : Jvm.Cond.code y_X7_water prog_1_method_5_code 3 (some .int) ∈ tblG ∧ Jvm.Cond.initialized y_X7_water.cls ∈ tblG ∧ Jvm.Cond.instanceMethod y_X7_water ∈ tblG ∧ Jvm.Cond.selects y_X7_water.cls y_X7_water y_X7_water ∈ tblG ∧ pl3 y_X7_water 1 := ⟨tblG_of (i := 303) rfl rfl, tblG_of (i := 1) rfl rfl, tblG_of (i := 301) rfl rfl, tblG_of (i := 302) rfl rfl, ⟨by decide +kernel, by decide +kernel, by decide +kernel⟩⟩
def y_X7_stone : MethodName := ⟨"BrookStones", "stone", "(IIII)I"⟩
set_option maxRecDepth 100000 in
theorem mi_X7_stone : Jvm.Cond.code y_X7_stone prog_1_method_6_code 5 (some .int) ∈ tblG ∧ Jvm.Cond.initialized y_X7_stone.cls ∈ tblG ∧ Jvm.Cond.instanceMethod y_X7_stone ∈ tblG ∧ Jvm.Cond.selects y_X7_stone.cls y_X7_stone y_X7_stone ∈ tblG ∧ pl3 y_X7_stone 4 := ⟨tblG_of (i := 476) rfl rfl, tblG_of (i := 1) rfl rfl, tblG_of (i := 474) rfl rfl, tblG_of (i := 475) rfl rfl, ⟨by decide +kernel, by decide +kernel, by decide +kernel⟩⟩
def y_X7_ofStone : MethodName := ⟨"BrookStones", "ofStone", "(II)I"⟩
set_option maxRecDepth 100000 in
theorem mi_X7_ofStone : Jvm.Cond.code y_X7_ofStone prog_1_method_7_code 3 (some .int) ∈ tblG ∧ Jvm.Cond.initialized y_X7_ofStone.cls ∈ tblG ∧ Jvm.Cond.instanceMethod y_X7_ofStone ∈ tblG ∧ Jvm.Cond.selects y_X7_ofStone.cls y_X7_ofStone y_X7_ofStone ∈ tblG ∧ pl3 y_X7_ofStone 2 := ⟨tblG_of (i := 312) rfl rfl, tblG_of (i := 1) rfl rfl, tblG_of (i := 310) rfl rfl, tblG_of (i := 311) rfl rfl, ⟨by decide +kernel, by decide +kernel, by decide +kernel⟩⟩
def y_X7_set : MethodName := ⟨"BrookStones", "set", "(II)I"⟩
set_option maxRecDepth 100000 in
theorem mi_X7_set : Jvm.Cond.code y_X7_set prog_1_method_8_code 3 (some .int) ∈ tblG ∧ Jvm.Cond.initialized y_X7_set.cls ∈ tblG ∧ Jvm.Cond.instanceMethod y_X7_set ∈ tblG ∧ Jvm.Cond.selects y_X7_set.cls y_X7_set y_X7_set ∈ tblG ∧ pl3 y_X7_set 2 := ⟨tblG_of (i := 328) rfl rfl, tblG_of (i := 1) rfl rfl, tblG_of (i := 326) rfl rfl, tblG_of (i := 327) rfl rfl, ⟨by decide +kernel, by decide +kernel, by decide +kernel⟩⟩
def y_X7_walker : MethodName := ⟨"BrookStones", "walker", "(I)I"⟩
set_option maxRecDepth 100000 in
theorem mi_X7_walker : Jvm.Cond.code y_X7_walker prog_1_method_10_code 2 (some .int) ∈ tblG ∧ Jvm.Cond.initialized y_X7_walker.cls ∈ tblG ∧ Jvm.Cond.instanceMethod y_X7_walker ∈ tblG ∧ Jvm.Cond.selects y_X7_walker.cls y_X7_walker y_X7_walker ∈ tblG ∧ pl3 y_X7_walker 1 := ⟨tblG_of (i := 337) rfl rfl, tblG_of (i := 1) rfl rfl, tblG_of (i := 335) rfl rfl, tblG_of (i := 336) rfl rfl, ⟨by decide +kernel, by decide +kernel, by decide +kernel⟩⟩
def y_X7_stride : MethodName := ⟨"BrookStones", "stride", "(I)I"⟩
set_option maxRecDepth 100000 in
theorem mi_X7_stride : Jvm.Cond.code y_X7_stride prog_1_method_11_code 2 (some .int) ∈ tblG ∧ Jvm.Cond.initialized y_X7_stride.cls ∈ tblG ∧ Jvm.Cond.instanceMethod y_X7_stride ∈ tblG ∧ Jvm.Cond.selects y_X7_stride.cls y_X7_stride y_X7_stride ∈ tblG ∧ pl3 y_X7_stride 1 := ⟨tblG_of (i := 345) rfl rfl, tblG_of (i := 1) rfl rfl, tblG_of (i := 343) rfl rfl, tblG_of (i := 344) rfl rfl, ⟨by decide +kernel, by decide +kernel, by decide +kernel⟩⟩
def y_X7_can : MethodName := ⟨"BrookStones", "can", "(IZ)I"⟩
set_option maxRecDepth 100000 in
theorem mi_X7_can : Jvm.Cond.code y_X7_can prog_1_method_12_code 3 (some .int) ∈ tblG ∧ Jvm.Cond.initialized y_X7_can.cls ∈ tblG ∧ Jvm.Cond.instanceMethod y_X7_can ∈ tblG ∧ Jvm.Cond.selects y_X7_can.cls y_X7_can y_X7_can ∈ tblG ∧ pl3 y_X7_can 2 := ⟨tblG_of (i := 353) rfl rfl, tblG_of (i := 1) rfl rfl, tblG_of (i := 351) rfl rfl, tblG_of (i := 352) rfl rfl, ⟨by decide +kernel, by decide +kernel, by decide +kernel⟩⟩
def y_X7_way : MethodName := ⟨"BrookStones", "way", "(II)I"⟩
set_option maxRecDepth 100000 in
theorem mi_X7_way : Jvm.Cond.code y_X7_way prog_1_method_13_code 4 (some .int) ∈ tblG ∧ Jvm.Cond.initialized y_X7_way.cls ∈ tblG ∧ Jvm.Cond.instanceMethod y_X7_way ∈ tblG ∧ Jvm.Cond.selects y_X7_way.cls y_X7_way y_X7_way ∈ tblG ∧ pl3 y_X7_way 2 := ⟨tblG_of (i := 381) rfl rfl, tblG_of (i := 1) rfl rfl, tblG_of (i := 379) rfl rfl, tblG_of (i := 380) rfl rfl, ⟨by decide +kernel, by decide +kernel, by decide +kernel⟩⟩
def y_X7_highest : MethodName := ⟨"BrookStones", "highest", "(IZ)I"⟩
set_option maxRecDepth 100000 in
theorem mi_X7_highest : Jvm.Cond.code y_X7_highest prog_1_method_14_code 4 (some .int) ∈ tblG ∧ Jvm.Cond.initialized y_X7_highest.cls ∈ tblG ∧ Jvm.Cond.instanceMethod y_X7_highest ∈ tblG ∧ Jvm.Cond.selects y_X7_highest.cls y_X7_highest y_X7_highest ∈ tblG ∧ pl3 y_X7_highest 2 := ⟨tblG_of (i := 405) rfl rfl, tblG_of (i := 1) rfl rfl, tblG_of (i := 403) rfl rfl, tblG_of (i := 404) rfl rfl, ⟨by decide +kernel, by decide +kernel, by decide +kernel⟩⟩
def y_X7_pass : MethodName := ⟨"BrookStones", "pass", "(II)I"⟩
set_option maxRecDepth 100000 in
theorem mi_X7_pass : Jvm.Cond.code y_X7_pass prog_1_method_15_code 4 (some .int) ∈ tblG ∧ Jvm.Cond.initialized y_X7_pass.cls ∈ tblG ∧ Jvm.Cond.instanceMethod y_X7_pass ∈ tblG ∧ Jvm.Cond.selects y_X7_pass.cls y_X7_pass y_X7_pass ∈ tblG ∧ pl3 y_X7_pass 2 := ⟨tblG_of (i := 409) rfl rfl, tblG_of (i := 1) rfl rfl, tblG_of (i := 407) rfl rfl, tblG_of (i := 408) rfl rfl, ⟨by decide +kernel, by decide +kernel, by decide +kernel⟩⟩
def y_X7_days : MethodName := ⟨"BrookStones", "days", "(IIIII)I"⟩
set_option maxRecDepth 100000 in
theorem mi_X7_days : Jvm.Cond.code y_X7_days prog_1_method_16_code 10 (some .int) ∈ tblG ∧ Jvm.Cond.initialized y_X7_days.cls ∈ tblG ∧ Jvm.Cond.instanceMethod y_X7_days ∈ tblG ∧ Jvm.Cond.selects y_X7_days.cls y_X7_days y_X7_days ∈ tblG ∧ pl3 y_X7_days 5 := ⟨tblG_of (i := 416) rfl rfl, tblG_of (i := 1) rfl rfl, tblG_of (i := 414) rfl rfl, tblG_of (i := 415) rfl rfl, ⟨by decide +kernel, by decide +kernel, by decide +kernel⟩⟩
def y_X7_sheet : MethodName := ⟨"BrookStones", "sheet", "(III)I"⟩
set_option maxRecDepth 100000 in
theorem mi_X7_sheet : Jvm.Cond.code y_X7_sheet prog_1_method_28_code 4 (some .int) ∈ tblG ∧ Jvm.Cond.initialized y_X7_sheet.cls ∈ tblG ∧ Jvm.Cond.instanceMethod y_X7_sheet ∈ tblG ∧ Jvm.Cond.selects y_X7_sheet.cls y_X7_sheet y_X7_sheet ∈ tblG ∧ pl3 y_X7_sheet 3 := ⟨tblG_of (i := 426) rfl rfl, tblG_of (i := 1) rfl rfl, tblG_of (i := 424) rfl rfl, tblG_of (i := 425) rfl rfl, ⟨by decide +kernel, by decide +kernel, by decide +kernel⟩⟩
def y_X7_put : MethodName := ⟨"BrookStones", "put", "(III)I"⟩
set_option maxRecDepth 100000 in
theorem mi_X7_put : Jvm.Cond.code y_X7_put prog_1_method_30_code 4 (some .int) ∈ tblG ∧ Jvm.Cond.initialized y_X7_put.cls ∈ tblG ∧ Jvm.Cond.instanceMethod y_X7_put ∈ tblG ∧ Jvm.Cond.selects y_X7_put.cls y_X7_put y_X7_put ∈ tblG ∧ pl3 y_X7_put 3 := ⟨tblG_of (i := 440) rfl rfl, tblG_of (i := 1) rfl rfl, tblG_of (i := 438) rfl rfl, tblG_of (i := 439) rfl rfl, ⟨by decide +kernel, by decide +kernel, by decide +kernel⟩⟩
def y_X7_many : MethodName := ⟨"BrookStones", "many", "(I)I"⟩
set_option maxRecDepth 100000 in
theorem mi_X7_many : Jvm.Cond.code y_X7_many prog_1_method_38_code 2 (some .int) ∈ tblG ∧ Jvm.Cond.initialized y_X7_many.cls ∈ tblG ∧ Jvm.Cond.instanceMethod y_X7_many ∈ tblG ∧ Jvm.Cond.selects y_X7_many.cls y_X7_many y_X7_many ∈ tblG ∧ pl3 y_X7_many 1 := ⟨tblG_of (i := 452) rfl rfl, tblG_of (i := 1) rfl rfl, tblG_of (i := 450) rfl rfl, tblG_of (i := 451) rfl rfl, ⟨by decide +kernel, by decide +kernel, by decide +kernel⟩⟩
def y_X7_refusalOfCells : MethodName := ⟨"BrookStones", "refusalOfCells", "(IIII)I"⟩
set_option maxRecDepth 100000 in
theorem mi_X7_refusalOfCells : Jvm.Cond.code y_X7_refusalOfCells prog_1_method_39_code 6 (some .int) ∈ tblG ∧ Jvm.Cond.initialized y_X7_refusalOfCells.cls ∈ tblG ∧ Jvm.Cond.instanceMethod y_X7_refusalOfCells ∈ tblG ∧ Jvm.Cond.selects y_X7_refusalOfCells.cls y_X7_refusalOfCells y_X7_refusalOfCells ∈ tblG ∧ pl3 y_X7_refusalOfCells 4 := ⟨tblG_of (i := 226) rfl rfl, tblG_of (i := 1) rfl rfl, tblG_of (i := 225) rfl rfl, tblG_sel (q := (y_X7_refusalOfCells, 8)) (List.mem_of_getElem? (i := 0) rfl), ⟨by decide +kernel, by decide +kernel, by decide +kernel⟩⟩
def y_X7_failBy : MethodName := ⟨"BrookStones", "failBy", "(I)I"⟩
set_option maxRecDepth 100000 in
theorem mi_X7_failBy : Jvm.Cond.code y_X7_failBy prog_1_method_40_code 2 (some .int) ∈ tblG ∧ Jvm.Cond.initialized y_X7_failBy.cls ∈ tblG ∧ Jvm.Cond.instanceMethod y_X7_failBy ∈ tblG ∧ Jvm.Cond.selects y_X7_failBy.cls y_X7_failBy y_X7_failBy ∈ tblG ∧ pl3 y_X7_failBy 1 := ⟨tblG_of (i := 251) rfl rfl, tblG_of (i := 1) rfl rfl, tblG_of (i := 250) rfl rfl, tblG_sel (q := (y_X7_failBy, 8)) (List.mem_of_getElem? (i := 4) rfl), ⟨by decide +kernel, by decide +kernel, by decide +kernel⟩⟩
def y_X7_isWithin : MethodName := ⟨"BrookStones", "isWithin", "(III)Z"⟩
set_option maxRecDepth 100000 in
theorem mi_X7_isWithin : Jvm.Cond.code y_X7_isWithin prog_1_method_46_code 3 (some .boolean) ∈ tblG ∧ Jvm.Cond.initialized y_X7_isWithin.cls ∈ tblG ∧ Jvm.Cond.static y_X7_isWithin ∈ tblG ∧ pl3 y_X7_isWithin 3 := ⟨tblG_of (i := 232) rfl rfl, tblG_of (i := 1) rfl rfl, tblG_of (i := 231) rfl rfl, ⟨by decide +kernel, by decide +kernel, by decide +kernel⟩⟩
def y_X7_has : MethodName := ⟨"BrookStones", "has", "(II)Z"⟩
set_option maxRecDepth 100000 in
theorem mi_X7_has : Jvm.Cond.code y_X7_has prog_1_method_47_code 2 (some .boolean) ∈ tblG ∧ Jvm.Cond.initialized y_X7_has.cls ∈ tblG ∧ Jvm.Cond.static y_X7_has ∈ tblG ∧ pl3 y_X7_has 2 := ⟨tblG_of (i := 295) rfl rfl, tblG_of (i := 1) rfl rfl, tblG_of (i := 294) rfl rfl, ⟨by decide +kernel, by decide +kernel, by decide +kernel⟩⟩
def y_X7_farthest : MethodName := ⟨"BrookStones", "farthest", "(IIII)I"⟩
set_option maxRecDepth 100000 in
theorem mi_X7_farthest : Jvm.Cond.code y_X7_farthest prog_1_method_49_code 7 (some .int) ∈ tblG ∧ Jvm.Cond.initialized y_X7_farthest.cls ∈ tblG ∧ Jvm.Cond.static y_X7_farthest ∈ tblG ∧ pl3 y_X7_farthest 4 := ⟨tblG_of (i := 377) rfl rfl, tblG_of (i := 1) rfl rfl, tblG_of (i := 376) rfl rfl, ⟨by decide +kernel, by decide +kernel, by decide +kernel⟩⟩
def y_J6_bitCount_0f7a4 : MethodName := ⟨"java/lang/Integer", "bitCount", "(I)I"⟩
set_option maxRecDepth 100000 in
theorem mi_J6_bitCount_0f7a4 : Jvm.Cond.code y_J6_bitCount_0f7a4 prog_11_method_49_code 1 (some .int) ∈ tblG ∧ Jvm.Cond.initialized y_J6_bitCount_0f7a4.cls ∈ tblG ∧ Jvm.Cond.static y_J6_bitCount_0f7a4 ∈ tblG ∧ pl3 y_J6_bitCount_0f7a4 1 := ⟨tblG_of (i := 455) rfl rfl, tblG_of (i := 11) rfl rfl, tblG_of (i := 454) rfl rfl, ⟨by decide +kernel, by decide +kernel, by decide +kernel⟩⟩
def y_J9_max_7cf53 : MethodName := ⟨"java/lang/Math", "max", "(II)I"⟩
set_option maxRecDepth 100000 in
theorem mi_J9_max_7cf53 : Jvm.Cond.code y_J9_max_7cf53 prog_12_method_65_code 2 (some .int) ∈ tblG ∧ Jvm.Cond.initialized y_J9_max_7cf53.cls ∈ tblG ∧ Jvm.Cond.static y_J9_max_7cf53 ∈ tblG ∧ pl3 y_J9_max_7cf53 2 := ⟨tblG_of (i := 268) rfl rfl, tblG_of (i := 10) rfl rfl, tblG_of (i := 267) rfl rfl, ⟨by decide +kernel, by decide +kernel, by decide +kernel⟩⟩
def y_J9_min_7cf53 : MethodName := ⟨"java/lang/Math", "min", "(II)I"⟩
set_option maxRecDepth 100000 in
theorem mi_J9_min_7cf53 : Jvm.Cond.code y_J9_min_7cf53 prog_12_method_69_code 2 (some .int) ∈ tblG ∧ Jvm.Cond.initialized y_J9_min_7cf53.cls ∈ tblG ∧ Jvm.Cond.static y_J9_min_7cf53 ∈ tblG ∧ pl3 y_J9_min_7cf53 2 := ⟨tblG_of (i := 277) rfl rfl, tblG_of (i := 10) rfl rfl, tblG_of (i := 276) rfl rfl, ⟨by decide +kernel, by decide +kernel, by decide +kernel⟩⟩
def y_J7_rangeCheck_23922 : MethodName := ⟨"java/util/Arrays", "rangeCheck", "(III)V"⟩
set_option maxRecDepth 100000 in
theorem mi_J7_rangeCheck_23922 : Jvm.Cond.code y_J7_rangeCheck_23922 prog_13_method_30_code 3 (none) ∈ tblG ∧ Jvm.Cond.initialized y_J7_rangeCheck_23922.cls ∈ tblG ∧ Jvm.Cond.static y_J7_rangeCheck_23922 ∈ tblG ∧ pl3 y_J7_rangeCheck_23922 3 := ⟨tblG_of (i := 436) rfl rfl, tblG_of (i := 3) rfl rfl, tblG_of (i := 435) rfl rfl, ⟨by decide +kernel, by decide +kernel, by decide +kernel⟩⟩
def y_J7_fill_53178 : MethodName := ⟨"java/util/Arrays", "fill", "([II)V"⟩
set_option maxRecDepth 100000 in
theorem mi_J7_fill_53178 : Jvm.Cond.code y_J7_fill_53178 prog_13_method_103_code 4 (none) ∈ tblG ∧ Jvm.Cond.initialized y_J7_fill_53178.cls ∈ tblG ∧ Jvm.Cond.static y_J7_fill_53178 ∈ tblG ∧ pl3 y_J7_fill_53178 2 := ⟨tblG_of (i := 28) rfl rfl, tblG_of (i := 3) rfl rfl, tblG_of (i := 27) rfl rfl, ⟨by decide +kernel, by decide +kernel, by decide +kernel⟩⟩
def y_J7_fill_fda19 : MethodName := ⟨"java/util/Arrays", "fill", "([IIII)V"⟩
set_option maxRecDepth 100000 in
theorem mi_J7_fill_fda19 : Jvm.Cond.code y_J7_fill_fda19 prog_13_method_104_code 5 (none) ∈ tblG ∧ Jvm.Cond.initialized y_J7_fill_fda19.cls ∈ tblG ∧ Jvm.Cond.static y_J7_fill_fda19 ∈ tblG ∧ pl3 y_J7_fill_fda19 4 := ⟨tblG_of (i := 433) rfl rfl, tblG_of (i := 3) rfl rfl, tblG_of (i := 432) rfl rfl, ⟨by decide +kernel, by decide +kernel, by decide +kernel⟩⟩
def y_L_cell : MethodName := ⟨"BrookStonesLaw", "cell", "([II)I"⟩
set_option maxRecDepth 100000 in
theorem mi_L_cell : Jvm.Cond.code y_L_cell method_2_code 2 (some .int) ∈ tblG ∧ Jvm.Cond.initialized y_L_cell.cls ∈ tblG ∧ Jvm.Cond.static y_L_cell ∈ tblG ∧ pl3 y_L_cell 2 := ⟨tblG_of (i := 461) rfl rfl, tblG_of (i := 0) rfl rfl, tblG_of (i := 460) rfl rfl, ⟨by decide +kernel, by decide +kernel, by decide +kernel⟩⟩
def y_L_some : MethodName := ⟨"BrookStonesLaw", "some", "(II)I"⟩
set_option maxRecDepth 100000 in
theorem mi_L_some : Jvm.Cond.code y_L_some method_3_code 2 (some .int) ∈ tblG ∧ Jvm.Cond.initialized y_L_some.cls ∈ tblG ∧ Jvm.Cond.static y_L_some ∈ tblG ∧ pl3 y_L_some 2 := ⟨tblG_of (i := 465) rfl rfl, tblG_of (i := 0) rfl rfl, tblG_of (i := 464) rfl rfl, ⟨by decide +kernel, by decide +kernel, by decide +kernel⟩⟩
def y_L_put : MethodName := ⟨"BrookStonesLaw", "put", "(LBrookStones;[III[I)I"⟩
set_option maxRecDepth 100000 in
theorem mi_L_put : Jvm.Cond.code y_L_put method_4_code 8 (some .int) ∈ tblG ∧ Jvm.Cond.initialized y_L_put.cls ∈ tblG ∧ Jvm.Cond.static y_L_put ∈ tblG ∧ pl3 y_L_put 5 := ⟨tblG_of (i := 469) rfl rfl, tblG_of (i := 0) rfl rfl, tblG_of (i := 468) rfl rfl, ⟨by decide +kernel, by decide +kernel, by decide +kernel⟩⟩
def y_L_stones : MethodName := ⟨"BrookStonesLaw", "stones", "(LBrookStones;[III[I)I"⟩
set_option maxRecDepth 100000 in
theorem mi_L_stones : Jvm.Cond.code y_L_stones method_5_code 8 (some .int) ∈ tblG ∧ Jvm.Cond.initialized y_L_stones.cls ∈ tblG ∧ Jvm.Cond.static y_L_stones ∈ tblG ∧ pl3 y_L_stones 5 := ⟨tblG_of (i := 472) rfl rfl, tblG_of (i := 0) rfl rfl, tblG_of (i := 471) rfl rfl, ⟨by decide +kernel, by decide +kernel, by decide +kernel⟩⟩
def y_L_stands : MethodName := ⟨"BrookStonesLaw", "stands", "([I[I[III)Z"⟩
set_option maxRecDepth 100000 in
theorem mi_L_stands : Jvm.Cond.code y_L_stands method_6_code 6 (some .boolean) ∈ tblG ∧ Jvm.Cond.initialized y_L_stands.cls ∈ tblG ∧ Jvm.Cond.static y_L_stands ∈ tblG ∧ pl3 y_L_stands 5 := ⟨tblG_of (i := 483) rfl rfl, tblG_of (i := 0) rfl rfl, tblG_of (i := 482) rfl rfl, ⟨by decide +kernel, by decide +kernel, by decide +kernel⟩⟩
def y_L_goes : MethodName := ⟨"BrookStonesLaw", "goes", "([I[I[IIII)Z"⟩
set_option maxRecDepth 100000 in
theorem mi_L_goes : Jvm.Cond.code y_L_goes method_7_code 7 (some .boolean) ∈ tblG ∧ Jvm.Cond.initialized y_L_goes.cls ∈ tblG ∧ Jvm.Cond.static y_L_goes ∈ tblG ∧ pl3 y_L_goes 6 := ⟨tblG_of (i := 486) rfl rfl, tblG_of (i := 0) rfl rfl, tblG_of (i := 485) rfl rfl, ⟨by decide +kernel, by decide +kernel, by decide +kernel⟩⟩
def y_L_come : MethodName := ⟨"BrookStonesLaw", "come", "([I[I[IIIII)I"⟩
set_option maxRecDepth 100000 in
theorem mi_L_come : Jvm.Cond.code y_L_come method_8_code 12 (some .int) ∈ tblG ∧ Jvm.Cond.initialized y_L_come.cls ∈ tblG ∧ Jvm.Cond.static y_L_come ∈ tblG ∧ pl3 y_L_come 7 := ⟨tblG_of (i := 489) rfl rfl, tblG_of (i := 0) rfl rfl, tblG_of (i := 488) rfl rfl, ⟨by decide +kernel, by decide +kernel, by decide +kernel⟩⟩
def y_L_can : MethodName := ⟨"BrookStonesLaw", "can", "([I[I[III)Z"⟩
set_option maxRecDepth 100000 in
theorem mi_L_can : Jvm.Cond.code y_L_can method_9_code 5 (some .boolean) ∈ tblG ∧ Jvm.Cond.initialized y_L_can.cls ∈ tblG ∧ Jvm.Cond.static y_L_can ∈ tblG ∧ pl3 y_L_can 5 := ⟨tblG_of (i := 492) rfl rfl, tblG_of (i := 0) rfl rfl, tblG_of (i := 491) rfl rfl, ⟨by decide +kernel, by decide +kernel, by decide +kernel⟩⟩
set_option maxRecDepth 100000 in
theorem fk_BrookStones_12 : fOK "BrookStones" false (12, 6, 0, 10) := ⟨RX7, TX7, 8, tyX7, "BrookStones", rfl, by decide, uw_X7, tyX7_ok, nmX7, rfl, Or.inl (tblG_of (i := 195) rfl rfl), fun h => absurd h (by decide), fun h => absurd h (by decide)⟩
set_option maxRecDepth 100000 in
theorem fk_BrookStones_21 : fOK "BrookStones" false (21, 6, 1, 10) := ⟨RX7, TX7, 8, tyX7, "BrookStones", rfl, by decide, uw_X7, tyX7_ok, nmX7, rfl, Or.inl (tblG_of (i := 196) rfl rfl), fun h => absurd h (by decide), fun h => absurd h (by decide)⟩
set_option maxRecDepth 100000 in
theorem fk_BrookStones_28 : fOK "BrookStones" false (28, 6, 2, 10) := ⟨RX7, TX7, 8, tyX7, "BrookStones", rfl, by decide, uw_X7, tyX7_ok, nmX7, rfl, Or.inl (tblG_of (i := 197) rfl rfl), fun h => absurd h (by decide), fun h => absurd h (by decide)⟩
set_option maxRecDepth 100000 in
theorem fk_BrookStones_35 : fOK "BrookStones" false (35, 6, 3, 10) := ⟨RX7, TX7, 8, tyX7, "BrookStones", rfl, by decide, uw_X7, tyX7_ok, nmX7, rfl, Or.inl (tblG_of (i := 198) rfl rfl), fun h => absurd h (by decide), fun h => absurd h (by decide)⟩
set_option maxRecDepth 100000 in
theorem fk_BrookStones_42 : fOK "BrookStones" false (42, 6, 4, 10) := ⟨RX7, TX7, 8, tyX7, "BrookStones", rfl, by decide, uw_X7, tyX7_ok, nmX7, rfl, Or.inl (tblG_of (i := 199) rfl rfl), fun h => absurd h (by decide), fun h => absurd h (by decide)⟩
set_option maxRecDepth 100000 in
theorem fk_BrookStones_49 : fOK "BrookStones" false (49, 6, 5, 10) := ⟨RX7, TX7, 8, tyX7, "BrookStones", rfl, by decide, uw_X7, tyX7_ok, nmX7, rfl, Or.inl (tblG_of (i := 200) rfl rfl), fun h => absurd h (by decide), fun h => absurd h (by decide)⟩
set_option maxRecDepth 100000 in
theorem fk_BrookStones_53 : fOK "BrookStones" false (53, 6, 7, 1) := ⟨RX7, TX7, 8, tyX7, "BrookStones", rfl, by decide, uw_X7, tyX7_ok, nmX7, rfl, Or.inl (tblG_of (i := 201) rfl rfl), fun _ => ⟨rfl, rfl⟩, fun h => absurd h (by decide)⟩
set_option maxRecDepth 100000 in
theorem fk_BrookStones_74 : fOK "BrookStones" false (74, 0, 8, 1) := ⟨RX0, TX0, 15, tyX0, "BrookStones", rfl, by decide, uw_X0, tyX0_ok, nmX0, rfl, Or.inr (tblN_of (i := 48) rfl rfl), fun _ => ⟨rfl, rfl⟩, fun h => absurd h (by decide)⟩
set_option maxRecDepth 100000 in
theorem fk_BrookStones_81 : fOK "BrookStones" false (81, 0, 2, 10) := ⟨RX0, TX0, 15, tyX0, "BrookStones", rfl, by decide, uw_X0, tyX0_ok, nmX0, rfl, Or.inr (tblN_of (i := 36) rfl rfl), fun h => absurd h (by decide), fun h => absurd h (by decide)⟩
set_option maxRecDepth 100000 in
theorem fk_BrookStones_85 : fOK "BrookStones" false (85, 0, 0, 10) := ⟨RX0, TX0, 15, tyX0, "BrookStones", rfl, by decide, uw_X0, tyX0_ok, nmX0, rfl, Or.inr (tblN_of (i := 31) rfl rfl), fun h => absurd h (by decide), fun h => absurd h (by decide)⟩
set_option maxRecDepth 100000 in
theorem fk_BrookStones_88 : fOK "BrookStones" false (88, 0, 1, 10) := ⟨RX0, TX0, 15, tyX0, "BrookStones", rfl, by decide, uw_X0, tyX0_ok, nmX0, rfl, Or.inr (tblN_of (i := 34) rfl rfl), fun h => absurd h (by decide), fun h => absurd h (by decide)⟩
set_option maxRecDepth 100000 in
theorem fk_BrookStones_91 : fOK "BrookStones" false (91, 0, 10, 1) := ⟨RX0, TX0, 15, tyX0, "BrookStones", rfl, by decide, uw_X0, tyX0_ok, nmX0, rfl, Or.inr (tblN_of (i := 53) rfl rfl), fun _ => ⟨rfl, rfl⟩, fun h => absurd h (by decide)⟩
set_option maxRecDepth 100000 in
theorem fk_BrookStones_98 : fOK "BrookStones" false (98, 0, 11, 1) := ⟨RX0, TX0, 15, tyX0, "BrookStones", rfl, by decide, uw_X0, tyX0_ok, nmX0, rfl, Or.inr (tblN_of (i := 56) rfl rfl), fun _ => ⟨rfl, rfl⟩, fun h => absurd h (by decide)⟩
set_option maxRecDepth 100000 in
theorem fk_BrookStones_113 : fOK "BrookStones" false (113, 0, 12, 1) := ⟨RX0, TX0, 15, tyX0, "BrookStones", rfl, by decide, uw_X0, tyX0_ok, nmX0, rfl, Or.inr (tblN_of (i := 58) rfl rfl), fun _ => ⟨rfl, rfl⟩, fun h => absurd h (by decide)⟩
set_option maxRecDepth 100000 in
theorem fk_BrookStones_122 : fOK "BrookStones" false (122, 0, 3, 10) := ⟨RX0, TX0, 15, tyX0, "BrookStones", rfl, by decide, uw_X0, tyX0_ok, nmX0, rfl, Or.inr (tblN_of (i := 38) rfl rfl), fun h => absurd h (by decide), fun h => absurd h (by decide)⟩
set_option maxRecDepth 100000 in
theorem fk_BrookStones_125 : fOK "BrookStones" false (125, 0, 4, 10) := ⟨RX0, TX0, 15, tyX0, "BrookStones", rfl, by decide, uw_X0, tyX0_ok, nmX0, rfl, Or.inr (tblN_of (i := 40) rfl rfl), fun h => absurd h (by decide), fun h => absurd h (by decide)⟩
set_option maxRecDepth 100000 in
theorem fk_BrookStones_128 : fOK "BrookStones" false (128, 0, 5, 10) := ⟨RX0, TX0, 15, tyX0, "BrookStones", rfl, by decide, uw_X0, tyX0_ok, nmX0, rfl, Or.inr (tblN_of (i := 42) rfl rfl), fun h => absurd h (by decide), fun h => absurd h (by decide)⟩
set_option maxRecDepth 100000 in
theorem fk_BrookStones_131 : fOK "BrookStones" false (131, 0, 6, 10) := ⟨RX0, TX0, 15, tyX0, "BrookStones", rfl, by decide, uw_X0, tyX0_ok, nmX0, rfl, Or.inr (tblN_of (i := 44) rfl rfl), fun h => absurd h (by decide), fun h => absurd h (by decide)⟩
set_option maxRecDepth 100000 in
theorem fk_BrookStones_138 : fOK "BrookStones" false (138, 0, 13, 1) := ⟨RX0, TX0, 15, tyX0, "BrookStones", rfl, by decide, uw_X0, tyX0_ok, nmX0, rfl, Or.inr (tblN_of (i := 60) rfl rfl), fun _ => ⟨rfl, rfl⟩, fun h => absurd h (by decide)⟩
set_option maxRecDepth 100000 in
theorem fk_BrookStones_152 : fOK "BrookStones" false (152, 0, 14, 1) := ⟨RX0, TX0, 15, tyX0, "BrookStones", rfl, by decide, uw_X0, tyX0_ok, nmX0, rfl, Or.inr (tblN_of (i := 62) rfl rfl), fun _ => ⟨rfl, rfl⟩, fun h => absurd h (by decide)⟩
set_option maxRecDepth 100000 in
theorem fk_BrookStones_161 : fOK "BrookStones" false (161, 0, 7, 10) := ⟨RX0, TX0, 15, tyX0, "BrookStones", rfl, by decide, uw_X0, tyX0_ok, nmX0, rfl, Or.inr (tblN_of (i := 46) rfl rfl), fun h => absurd h (by decide), fun h => absurd h (by decide)⟩
set_option maxRecDepth 100000 in
theorem fk_BrookStones_179 : fOK "BrookStones" false (179, 5, 0, 10) := ⟨RX6, TX6, 6, tyX6, "BrookStones", rfl, by decide, uw_X6, tyX6_ok, nmX6, rfl, Or.inr (tblN_of (i := 120) rfl rfl), fun h => absurd h (by decide), fun h => absurd h (by decide)⟩
set_option maxRecDepth 100000 in
theorem fk_BrookStones_274 : fOK "BrookStones" false (274, 4, 1, 10) := ⟨RX4, TX4, 3, tyX4, "BrookStones", rfl, by decide, uw_X4, tyX4_ok, nmX4, rfl, Or.inr (tblN_of (i := 104) rfl rfl), fun h => absurd h (by decide), fun h => absurd h (by decide)⟩
def fl_BrookStones : List (Nat × Nat × Nat × Nat) := [(12, 6, 0, 10), (21, 6, 1, 10), (28, 6, 2, 10), (35, 6, 3, 10), (42, 6, 4, 10), (49, 6, 5, 10), (53, 6, 7, 1), (74, 0, 8, 1), (81, 0, 2, 10), (85, 0, 0, 10), (88, 0, 1, 10), (91, 0, 10, 1), (98, 0, 11, 1), (113, 0, 12, 1), (122, 0, 3, 10), (125, 0, 4, 10), (128, 0, 5, 10), (131, 0, 6, 10), (138, 0, 13, 1), (152, 0, 14, 1), (161, 0, 7, 10), (179, 5, 0, 10), (274, 4, 1, 10)]
set_option maxRecDepth 100000 in
theorem fl_BrookStones_ok : ∀ q ∈ fl_BrookStones, fOK "BrookStones" false q := List.forall_mem_cons.mpr ⟨fk_BrookStones_12, List.forall_mem_cons.mpr ⟨fk_BrookStones_21, List.forall_mem_cons.mpr ⟨fk_BrookStones_28, List.forall_mem_cons.mpr ⟨fk_BrookStones_35, List.forall_mem_cons.mpr ⟨fk_BrookStones_42, List.forall_mem_cons.mpr ⟨fk_BrookStones_49, List.forall_mem_cons.mpr ⟨fk_BrookStones_53, List.forall_mem_cons.mpr ⟨fk_BrookStones_74, List.forall_mem_cons.mpr ⟨fk_BrookStones_81, List.forall_mem_cons.mpr ⟨fk_BrookStones_85, List.forall_mem_cons.mpr ⟨fk_BrookStones_88, List.forall_mem_cons.mpr ⟨fk_BrookStones_91, List.forall_mem_cons.mpr ⟨fk_BrookStones_98, List.forall_mem_cons.mpr ⟨fk_BrookStones_113, List.forall_mem_cons.mpr ⟨fk_BrookStones_122, List.forall_mem_cons.mpr ⟨fk_BrookStones_125, List.forall_mem_cons.mpr ⟨fk_BrookStones_128, List.forall_mem_cons.mpr ⟨fk_BrookStones_131, List.forall_mem_cons.mpr ⟨fk_BrookStones_138, List.forall_mem_cons.mpr ⟨fk_BrookStones_152, List.forall_mem_cons.mpr ⟨fk_BrookStones_161, List.forall_mem_cons.mpr ⟨fk_BrookStones_179, List.forall_mem_cons.mpr ⟨fk_BrookStones_274, fun _ h => absurd h List.not_mem_nil⟩⟩⟩⟩⟩⟩⟩⟩⟩⟩⟩⟩⟩⟩⟩⟩⟩⟩⟩⟩⟩⟩⟩
set_option maxRecDepth 100000 in
theorem fk_BrookStones_i_12 : fOK "BrookStones" true (12, 6, 0, 12) := ⟨RX7, TX7, 8, tyX7, "BrookStones", rfl, by decide, uw_X7, tyX7_ok, nmX7, rfl, Or.inl (tblG_of (i := 195) rfl rfl), fun h => absurd h (by decide), fun _ => ⟨rfl, rfl, rfl, Or.inl ⟨_, rfl⟩, tblG_of (i := 195) rfl rfl⟩⟩
set_option maxRecDepth 100000 in
theorem fk_BrookStones_i_21 : fOK "BrookStones" true (21, 6, 1, 12) := ⟨RX7, TX7, 8, tyX7, "BrookStones", rfl, by decide, uw_X7, tyX7_ok, nmX7, rfl, Or.inl (tblG_of (i := 196) rfl rfl), fun h => absurd h (by decide), fun _ => ⟨rfl, rfl, rfl, Or.inl ⟨_, rfl⟩, tblG_of (i := 196) rfl rfl⟩⟩
set_option maxRecDepth 100000 in
theorem fk_BrookStones_i_28 : fOK "BrookStones" true (28, 6, 2, 12) := ⟨RX7, TX7, 8, tyX7, "BrookStones", rfl, by decide, uw_X7, tyX7_ok, nmX7, rfl, Or.inl (tblG_of (i := 197) rfl rfl), fun h => absurd h (by decide), fun _ => ⟨rfl, rfl, rfl, Or.inl ⟨_, rfl⟩, tblG_of (i := 197) rfl rfl⟩⟩
set_option maxRecDepth 100000 in
theorem fk_BrookStones_i_35 : fOK "BrookStones" true (35, 6, 3, 12) := ⟨RX7, TX7, 8, tyX7, "BrookStones", rfl, by decide, uw_X7, tyX7_ok, nmX7, rfl, Or.inl (tblG_of (i := 198) rfl rfl), fun h => absurd h (by decide), fun _ => ⟨rfl, rfl, rfl, Or.inl ⟨_, rfl⟩, tblG_of (i := 198) rfl rfl⟩⟩
set_option maxRecDepth 100000 in
theorem fk_BrookStones_i_42 : fOK "BrookStones" true (42, 6, 4, 12) := ⟨RX7, TX7, 8, tyX7, "BrookStones", rfl, by decide, uw_X7, tyX7_ok, nmX7, rfl, Or.inl (tblG_of (i := 199) rfl rfl), fun h => absurd h (by decide), fun _ => ⟨rfl, rfl, rfl, Or.inl ⟨_, rfl⟩, tblG_of (i := 199) rfl rfl⟩⟩
set_option maxRecDepth 100000 in
theorem fk_BrookStones_i_49 : fOK "BrookStones" true (49, 6, 5, 12) := ⟨RX7, TX7, 8, tyX7, "BrookStones", rfl, by decide, uw_X7, tyX7_ok, nmX7, rfl, Or.inl (tblG_of (i := 200) rfl rfl), fun h => absurd h (by decide), fun _ => ⟨rfl, rfl, rfl, Or.inl ⟨_, rfl⟩, tblG_of (i := 200) rfl rfl⟩⟩
set_option maxRecDepth 100000 in
theorem fk_BrookStones_i_53 : fOK "BrookStones" true (53, 6, 7, 1) := ⟨RX7, TX7, 8, tyX7, "BrookStones", rfl, by decide, uw_X7, tyX7_ok, nmX7, rfl, Or.inl (tblG_of (i := 201) rfl rfl), fun _ => ⟨rfl, rfl⟩, fun h => absurd h (by decide)⟩
set_option maxRecDepth 100000 in
theorem fk_BrookStones_i_74 : fOK "BrookStones" true (74, 0, 8, 1) := ⟨RX0, TX0, 15, tyX0, "BrookStones", rfl, by decide, uw_X0, tyX0_ok, nmX0, rfl, Or.inr (tblN_of (i := 48) rfl rfl), fun _ => ⟨rfl, rfl⟩, fun h => absurd h (by decide)⟩
set_option maxRecDepth 100000 in
theorem fk_BrookStones_i_81 : fOK "BrookStones" true (81, 0, 2, 10) := ⟨RX0, TX0, 15, tyX0, "BrookStones", rfl, by decide, uw_X0, tyX0_ok, nmX0, rfl, Or.inr (tblN_of (i := 36) rfl rfl), fun h => absurd h (by decide), fun h => absurd h (by decide)⟩
set_option maxRecDepth 100000 in
theorem fk_BrookStones_i_85 : fOK "BrookStones" true (85, 0, 0, 10) := ⟨RX0, TX0, 15, tyX0, "BrookStones", rfl, by decide, uw_X0, tyX0_ok, nmX0, rfl, Or.inr (tblN_of (i := 31) rfl rfl), fun h => absurd h (by decide), fun h => absurd h (by decide)⟩
set_option maxRecDepth 100000 in
theorem fk_BrookStones_i_88 : fOK "BrookStones" true (88, 0, 1, 10) := ⟨RX0, TX0, 15, tyX0, "BrookStones", rfl, by decide, uw_X0, tyX0_ok, nmX0, rfl, Or.inr (tblN_of (i := 34) rfl rfl), fun h => absurd h (by decide), fun h => absurd h (by decide)⟩
set_option maxRecDepth 100000 in
theorem fk_BrookStones_i_91 : fOK "BrookStones" true (91, 0, 10, 1) := ⟨RX0, TX0, 15, tyX0, "BrookStones", rfl, by decide, uw_X0, tyX0_ok, nmX0, rfl, Or.inr (tblN_of (i := 53) rfl rfl), fun _ => ⟨rfl, rfl⟩, fun h => absurd h (by decide)⟩
set_option maxRecDepth 100000 in
theorem fk_BrookStones_i_98 : fOK "BrookStones" true (98, 0, 11, 1) := ⟨RX0, TX0, 15, tyX0, "BrookStones", rfl, by decide, uw_X0, tyX0_ok, nmX0, rfl, Or.inr (tblN_of (i := 56) rfl rfl), fun _ => ⟨rfl, rfl⟩, fun h => absurd h (by decide)⟩
set_option maxRecDepth 100000 in
theorem fk_BrookStones_i_113 : fOK "BrookStones" true (113, 0, 12, 1) := ⟨RX0, TX0, 15, tyX0, "BrookStones", rfl, by decide, uw_X0, tyX0_ok, nmX0, rfl, Or.inr (tblN_of (i := 58) rfl rfl), fun _ => ⟨rfl, rfl⟩, fun h => absurd h (by decide)⟩
set_option maxRecDepth 100000 in
theorem fk_BrookStones_i_122 : fOK "BrookStones" true (122, 0, 3, 10) := ⟨RX0, TX0, 15, tyX0, "BrookStones", rfl, by decide, uw_X0, tyX0_ok, nmX0, rfl, Or.inr (tblN_of (i := 38) rfl rfl), fun h => absurd h (by decide), fun h => absurd h (by decide)⟩
set_option maxRecDepth 100000 in
theorem fk_BrookStones_i_125 : fOK "BrookStones" true (125, 0, 4, 10) := ⟨RX0, TX0, 15, tyX0, "BrookStones", rfl, by decide, uw_X0, tyX0_ok, nmX0, rfl, Or.inr (tblN_of (i := 40) rfl rfl), fun h => absurd h (by decide), fun h => absurd h (by decide)⟩
set_option maxRecDepth 100000 in
theorem fk_BrookStones_i_128 : fOK "BrookStones" true (128, 0, 5, 10) := ⟨RX0, TX0, 15, tyX0, "BrookStones", rfl, by decide, uw_X0, tyX0_ok, nmX0, rfl, Or.inr (tblN_of (i := 42) rfl rfl), fun h => absurd h (by decide), fun h => absurd h (by decide)⟩
set_option maxRecDepth 100000 in
theorem fk_BrookStones_i_131 : fOK "BrookStones" true (131, 0, 6, 10) := ⟨RX0, TX0, 15, tyX0, "BrookStones", rfl, by decide, uw_X0, tyX0_ok, nmX0, rfl, Or.inr (tblN_of (i := 44) rfl rfl), fun h => absurd h (by decide), fun h => absurd h (by decide)⟩
set_option maxRecDepth 100000 in
theorem fk_BrookStones_i_138 : fOK "BrookStones" true (138, 0, 13, 1) := ⟨RX0, TX0, 15, tyX0, "BrookStones", rfl, by decide, uw_X0, tyX0_ok, nmX0, rfl, Or.inr (tblN_of (i := 60) rfl rfl), fun _ => ⟨rfl, rfl⟩, fun h => absurd h (by decide)⟩
set_option maxRecDepth 100000 in
theorem fk_BrookStones_i_152 : fOK "BrookStones" true (152, 0, 14, 1) := ⟨RX0, TX0, 15, tyX0, "BrookStones", rfl, by decide, uw_X0, tyX0_ok, nmX0, rfl, Or.inr (tblN_of (i := 62) rfl rfl), fun _ => ⟨rfl, rfl⟩, fun h => absurd h (by decide)⟩
set_option maxRecDepth 100000 in
theorem fk_BrookStones_i_161 : fOK "BrookStones" true (161, 0, 7, 10) := ⟨RX0, TX0, 15, tyX0, "BrookStones", rfl, by decide, uw_X0, tyX0_ok, nmX0, rfl, Or.inr (tblN_of (i := 46) rfl rfl), fun h => absurd h (by decide), fun h => absurd h (by decide)⟩
set_option maxRecDepth 100000 in
theorem fk_BrookStones_i_179 : fOK "BrookStones" true (179, 5, 0, 10) := ⟨RX6, TX6, 6, tyX6, "BrookStones", rfl, by decide, uw_X6, tyX6_ok, nmX6, rfl, Or.inr (tblN_of (i := 120) rfl rfl), fun h => absurd h (by decide), fun h => absurd h (by decide)⟩
set_option maxRecDepth 100000 in
theorem fk_BrookStones_i_274 : fOK "BrookStones" true (274, 4, 1, 10) := ⟨RX4, TX4, 3, tyX4, "BrookStones", rfl, by decide, uw_X4, tyX4_ok, nmX4, rfl, Or.inr (tblN_of (i := 104) rfl rfl), fun h => absurd h (by decide), fun h => absurd h (by decide)⟩
def fl_BrookStones_i : List (Nat × Nat × Nat × Nat) := [(12, 6, 0, 12), (21, 6, 1, 12), (28, 6, 2, 12), (35, 6, 3, 12), (42, 6, 4, 12), (49, 6, 5, 12), (53, 6, 7, 1), (74, 0, 8, 1), (81, 0, 2, 10), (85, 0, 0, 10), (88, 0, 1, 10), (91, 0, 10, 1), (98, 0, 11, 1), (113, 0, 12, 1), (122, 0, 3, 10), (125, 0, 4, 10), (128, 0, 5, 10), (131, 0, 6, 10), (138, 0, 13, 1), (152, 0, 14, 1), (161, 0, 7, 10), (179, 5, 0, 10), (274, 4, 1, 10)]
set_option maxRecDepth 100000 in
theorem fl_BrookStones_i_ok : ∀ q ∈ fl_BrookStones_i, fOK "BrookStones" true q := List.forall_mem_cons.mpr ⟨fk_BrookStones_i_12, List.forall_mem_cons.mpr ⟨fk_BrookStones_i_21, List.forall_mem_cons.mpr ⟨fk_BrookStones_i_28, List.forall_mem_cons.mpr ⟨fk_BrookStones_i_35, List.forall_mem_cons.mpr ⟨fk_BrookStones_i_42, List.forall_mem_cons.mpr ⟨fk_BrookStones_i_49, List.forall_mem_cons.mpr ⟨fk_BrookStones_i_53, List.forall_mem_cons.mpr ⟨fk_BrookStones_i_74, List.forall_mem_cons.mpr ⟨fk_BrookStones_i_81, List.forall_mem_cons.mpr ⟨fk_BrookStones_i_85, List.forall_mem_cons.mpr ⟨fk_BrookStones_i_88, List.forall_mem_cons.mpr ⟨fk_BrookStones_i_91, List.forall_mem_cons.mpr ⟨fk_BrookStones_i_98, List.forall_mem_cons.mpr ⟨fk_BrookStones_i_113, List.forall_mem_cons.mpr ⟨fk_BrookStones_i_122, List.forall_mem_cons.mpr ⟨fk_BrookStones_i_125, List.forall_mem_cons.mpr ⟨fk_BrookStones_i_128, List.forall_mem_cons.mpr ⟨fk_BrookStones_i_131, List.forall_mem_cons.mpr ⟨fk_BrookStones_i_138, List.forall_mem_cons.mpr ⟨fk_BrookStones_i_152, List.forall_mem_cons.mpr ⟨fk_BrookStones_i_161, List.forall_mem_cons.mpr ⟨fk_BrookStones_i_179, List.forall_mem_cons.mpr ⟨fk_BrookStones_i_274, fun _ h => absurd h List.not_mem_nil⟩⟩⟩⟩⟩⟩⟩⟩⟩⟩⟩⟩⟩⟩⟩⟩⟩⟩⟩⟩⟩⟩⟩
set_option maxRecDepth 100000 in
theorem fk_BrookStones_Brook_9 : fOK "BrookStones$Brook" false (9, 0, 0, 10) := ⟨RX0, TX0, 15, tyX0, "BrookStones", rfl, by decide, uw_X0, tyX0_ok, nmX0, rfl, Or.inl (tblG_of (i := 29) rfl rfl), fun h => absurd h (by decide), fun h => absurd h (by decide)⟩
set_option maxRecDepth 100000 in
theorem fk_BrookStones_Brook_15 : fOK "BrookStones$Brook" false (15, 0, 1, 10) := ⟨RX0, TX0, 15, tyX0, "BrookStones", rfl, by decide, uw_X0, tyX0_ok, nmX0, rfl, Or.inl (tblG_of (i := 32) rfl rfl), fun h => absurd h (by decide), fun h => absurd h (by decide)⟩
set_option maxRecDepth 100000 in
theorem fk_BrookStones_Brook_18 : fOK "BrookStones$Brook" false (18, 0, 2, 10) := ⟨RX0, TX0, 15, tyX0, "BrookStones", rfl, by decide, uw_X0, tyX0_ok, nmX0, rfl, Or.inl (tblG_of (i := 35) rfl rfl), fun h => absurd h (by decide), fun h => absurd h (by decide)⟩
set_option maxRecDepth 100000 in
theorem fk_BrookStones_Brook_21 : fOK "BrookStones$Brook" false (21, 0, 3, 10) := ⟨RX0, TX0, 15, tyX0, "BrookStones", rfl, by decide, uw_X0, tyX0_ok, nmX0, rfl, Or.inl (tblG_of (i := 37) rfl rfl), fun h => absurd h (by decide), fun h => absurd h (by decide)⟩
set_option maxRecDepth 100000 in
theorem fk_BrookStones_Brook_24 : fOK "BrookStones$Brook" false (24, 0, 4, 10) := ⟨RX0, TX0, 15, tyX0, "BrookStones", rfl, by decide, uw_X0, tyX0_ok, nmX0, rfl, Or.inl (tblG_of (i := 39) rfl rfl), fun h => absurd h (by decide), fun h => absurd h (by decide)⟩
set_option maxRecDepth 100000 in
theorem fk_BrookStones_Brook_27 : fOK "BrookStones$Brook" false (27, 0, 5, 10) := ⟨RX0, TX0, 15, tyX0, "BrookStones", rfl, by decide, uw_X0, tyX0_ok, nmX0, rfl, Or.inl (tblG_of (i := 41) rfl rfl), fun h => absurd h (by decide), fun h => absurd h (by decide)⟩
set_option maxRecDepth 100000 in
theorem fk_BrookStones_Brook_30 : fOK "BrookStones$Brook" false (30, 0, 6, 10) := ⟨RX0, TX0, 15, tyX0, "BrookStones", rfl, by decide, uw_X0, tyX0_ok, nmX0, rfl, Or.inl (tblG_of (i := 43) rfl rfl), fun h => absurd h (by decide), fun h => absurd h (by decide)⟩
set_option maxRecDepth 100000 in
theorem fk_BrookStones_Brook_33 : fOK "BrookStones$Brook" false (33, 0, 7, 10) := ⟨RX0, TX0, 15, tyX0, "BrookStones", rfl, by decide, uw_X0, tyX0_ok, nmX0, rfl, Or.inl (tblG_of (i := 45) rfl rfl), fun h => absurd h (by decide), fun h => absurd h (by decide)⟩
set_option maxRecDepth 100000 in
theorem fk_BrookStones_Brook_42 : fOK "BrookStones$Brook" false (42, 0, 10, 1) := ⟨RX0, TX0, 15, tyX0, "BrookStones", rfl, by decide, uw_X0, tyX0_ok, nmX0, rfl, Or.inl (tblG_of (i := 52) rfl rfl), fun _ => ⟨rfl, rfl⟩, fun h => absurd h (by decide)⟩
set_option maxRecDepth 100000 in
theorem fk_BrookStones_Brook_46 : fOK "BrookStones$Brook" false (46, 0, 11, 1) := ⟨RX0, TX0, 15, tyX0, "BrookStones", rfl, by decide, uw_X0, tyX0_ok, nmX0, rfl, Or.inl (tblG_of (i := 54) rfl rfl), fun _ => ⟨rfl, rfl⟩, fun h => absurd h (by decide)⟩
set_option maxRecDepth 100000 in
theorem fk_BrookStones_Brook_49 : fOK "BrookStones$Brook" false (49, 0, 12, 1) := ⟨RX0, TX0, 15, tyX0, "BrookStones", rfl, by decide, uw_X0, tyX0_ok, nmX0, rfl, Or.inl (tblG_of (i := 57) rfl rfl), fun _ => ⟨rfl, rfl⟩, fun h => absurd h (by decide)⟩
set_option maxRecDepth 100000 in
theorem fk_BrookStones_Brook_52 : fOK "BrookStones$Brook" false (52, 0, 13, 1) := ⟨RX0, TX0, 15, tyX0, "BrookStones", rfl, by decide, uw_X0, tyX0_ok, nmX0, rfl, Or.inl (tblG_of (i := 59) rfl rfl), fun _ => ⟨rfl, rfl⟩, fun h => absurd h (by decide)⟩
set_option maxRecDepth 100000 in
theorem fk_BrookStones_Brook_55 : fOK "BrookStones$Brook" false (55, 0, 14, 1) := ⟨RX0, TX0, 15, tyX0, "BrookStones", rfl, by decide, uw_X0, tyX0_ok, nmX0, rfl, Or.inl (tblG_of (i := 61) rfl rfl), fun _ => ⟨rfl, rfl⟩, fun h => absurd h (by decide)⟩
set_option maxRecDepth 100000 in
theorem fk_BrookStones_Brook_58 : fOK "BrookStones$Brook" false (58, 0, 8, 1) := ⟨RX0, TX0, 15, tyX0, "BrookStones", rfl, by decide, uw_X0, tyX0_ok, nmX0, rfl, Or.inl (tblG_of (i := 49) rfl rfl), fun _ => ⟨rfl, rfl⟩, fun h => absurd h (by decide)⟩
def fl_BrookStones_Brook : List (Nat × Nat × Nat × Nat) := [(9, 0, 0, 10), (15, 0, 1, 10), (18, 0, 2, 10), (21, 0, 3, 10), (24, 0, 4, 10), (27, 0, 5, 10), (30, 0, 6, 10), (33, 0, 7, 10), (42, 0, 10, 1), (46, 0, 11, 1), (49, 0, 12, 1), (52, 0, 13, 1), (55, 0, 14, 1), (58, 0, 8, 1)]
set_option maxRecDepth 100000 in
theorem fl_BrookStones_Brook_ok : ∀ q ∈ fl_BrookStones_Brook, fOK "BrookStones$Brook" false q := List.forall_mem_cons.mpr ⟨fk_BrookStones_Brook_9, List.forall_mem_cons.mpr ⟨fk_BrookStones_Brook_15, List.forall_mem_cons.mpr ⟨fk_BrookStones_Brook_18, List.forall_mem_cons.mpr ⟨fk_BrookStones_Brook_21, List.forall_mem_cons.mpr ⟨fk_BrookStones_Brook_24, List.forall_mem_cons.mpr ⟨fk_BrookStones_Brook_27, List.forall_mem_cons.mpr ⟨fk_BrookStones_Brook_30, List.forall_mem_cons.mpr ⟨fk_BrookStones_Brook_33, List.forall_mem_cons.mpr ⟨fk_BrookStones_Brook_42, List.forall_mem_cons.mpr ⟨fk_BrookStones_Brook_46, List.forall_mem_cons.mpr ⟨fk_BrookStones_Brook_49, List.forall_mem_cons.mpr ⟨fk_BrookStones_Brook_52, List.forall_mem_cons.mpr ⟨fk_BrookStones_Brook_55, List.forall_mem_cons.mpr ⟨fk_BrookStones_Brook_58, fun _ h => absurd h List.not_mem_nil⟩⟩⟩⟩⟩⟩⟩⟩⟩⟩⟩⟩⟩⟩
set_option maxRecDepth 100000 in
theorem fk_BrookStones_Brook_i_9 : fOK "BrookStones$Brook" true (9, 0, 0, 12) := ⟨RX0, TX0, 15, tyX0, "BrookStones", rfl, by decide, uw_X0, tyX0_ok, nmX0, rfl, Or.inl (tblG_of (i := 29) rfl rfl), fun h => absurd h (by decide), fun _ => ⟨rfl, rfl, rfl, Or.inr ⟨_, rfl⟩, tblG_of (i := 29) rfl rfl⟩⟩
set_option maxRecDepth 100000 in
theorem fk_BrookStones_Brook_i_15 : fOK "BrookStones$Brook" true (15, 0, 1, 12) := ⟨RX0, TX0, 15, tyX0, "BrookStones", rfl, by decide, uw_X0, tyX0_ok, nmX0, rfl, Or.inl (tblG_of (i := 32) rfl rfl), fun h => absurd h (by decide), fun _ => ⟨rfl, rfl, rfl, Or.inr ⟨_, rfl⟩, tblG_of (i := 32) rfl rfl⟩⟩
set_option maxRecDepth 100000 in
theorem fk_BrookStones_Brook_i_18 : fOK "BrookStones$Brook" true (18, 0, 2, 12) := ⟨RX0, TX0, 15, tyX0, "BrookStones", rfl, by decide, uw_X0, tyX0_ok, nmX0, rfl, Or.inl (tblG_of (i := 35) rfl rfl), fun h => absurd h (by decide), fun _ => ⟨rfl, rfl, rfl, Or.inr ⟨_, rfl⟩, tblG_of (i := 35) rfl rfl⟩⟩
set_option maxRecDepth 100000 in
theorem fk_BrookStones_Brook_i_21 : fOK "BrookStones$Brook" true (21, 0, 3, 12) := ⟨RX0, TX0, 15, tyX0, "BrookStones", rfl, by decide, uw_X0, tyX0_ok, nmX0, rfl, Or.inl (tblG_of (i := 37) rfl rfl), fun h => absurd h (by decide), fun _ => ⟨rfl, rfl, rfl, Or.inr ⟨_, rfl⟩, tblG_of (i := 37) rfl rfl⟩⟩
set_option maxRecDepth 100000 in
theorem fk_BrookStones_Brook_i_24 : fOK "BrookStones$Brook" true (24, 0, 4, 12) := ⟨RX0, TX0, 15, tyX0, "BrookStones", rfl, by decide, uw_X0, tyX0_ok, nmX0, rfl, Or.inl (tblG_of (i := 39) rfl rfl), fun h => absurd h (by decide), fun _ => ⟨rfl, rfl, rfl, Or.inr ⟨_, rfl⟩, tblG_of (i := 39) rfl rfl⟩⟩
set_option maxRecDepth 100000 in
theorem fk_BrookStones_Brook_i_27 : fOK "BrookStones$Brook" true (27, 0, 5, 12) := ⟨RX0, TX0, 15, tyX0, "BrookStones", rfl, by decide, uw_X0, tyX0_ok, nmX0, rfl, Or.inl (tblG_of (i := 41) rfl rfl), fun h => absurd h (by decide), fun _ => ⟨rfl, rfl, rfl, Or.inr ⟨_, rfl⟩, tblG_of (i := 41) rfl rfl⟩⟩
set_option maxRecDepth 100000 in
theorem fk_BrookStones_Brook_i_30 : fOK "BrookStones$Brook" true (30, 0, 6, 12) := ⟨RX0, TX0, 15, tyX0, "BrookStones", rfl, by decide, uw_X0, tyX0_ok, nmX0, rfl, Or.inl (tblG_of (i := 43) rfl rfl), fun h => absurd h (by decide), fun _ => ⟨rfl, rfl, rfl, Or.inr ⟨_, rfl⟩, tblG_of (i := 43) rfl rfl⟩⟩
set_option maxRecDepth 100000 in
theorem fk_BrookStones_Brook_i_33 : fOK "BrookStones$Brook" true (33, 0, 7, 12) := ⟨RX0, TX0, 15, tyX0, "BrookStones", rfl, by decide, uw_X0, tyX0_ok, nmX0, rfl, Or.inl (tblG_of (i := 45) rfl rfl), fun h => absurd h (by decide), fun _ => ⟨rfl, rfl, rfl, Or.inr ⟨_, rfl⟩, tblG_of (i := 45) rfl rfl⟩⟩
set_option maxRecDepth 100000 in
theorem fk_BrookStones_Brook_i_42 : fOK "BrookStones$Brook" true (42, 0, 10, 1) := ⟨RX0, TX0, 15, tyX0, "BrookStones", rfl, by decide, uw_X0, tyX0_ok, nmX0, rfl, Or.inl (tblG_of (i := 52) rfl rfl), fun _ => ⟨rfl, rfl⟩, fun h => absurd h (by decide)⟩
set_option maxRecDepth 100000 in
theorem fk_BrookStones_Brook_i_46 : fOK "BrookStones$Brook" true (46, 0, 11, 1) := ⟨RX0, TX0, 15, tyX0, "BrookStones", rfl, by decide, uw_X0, tyX0_ok, nmX0, rfl, Or.inl (tblG_of (i := 54) rfl rfl), fun _ => ⟨rfl, rfl⟩, fun h => absurd h (by decide)⟩
set_option maxRecDepth 100000 in
theorem fk_BrookStones_Brook_i_49 : fOK "BrookStones$Brook" true (49, 0, 12, 1) := ⟨RX0, TX0, 15, tyX0, "BrookStones", rfl, by decide, uw_X0, tyX0_ok, nmX0, rfl, Or.inl (tblG_of (i := 57) rfl rfl), fun _ => ⟨rfl, rfl⟩, fun h => absurd h (by decide)⟩
set_option maxRecDepth 100000 in
theorem fk_BrookStones_Brook_i_52 : fOK "BrookStones$Brook" true (52, 0, 13, 1) := ⟨RX0, TX0, 15, tyX0, "BrookStones", rfl, by decide, uw_X0, tyX0_ok, nmX0, rfl, Or.inl (tblG_of (i := 59) rfl rfl), fun _ => ⟨rfl, rfl⟩, fun h => absurd h (by decide)⟩
set_option maxRecDepth 100000 in
theorem fk_BrookStones_Brook_i_55 : fOK "BrookStones$Brook" true (55, 0, 14, 1) := ⟨RX0, TX0, 15, tyX0, "BrookStones", rfl, by decide, uw_X0, tyX0_ok, nmX0, rfl, Or.inl (tblG_of (i := 61) rfl rfl), fun _ => ⟨rfl, rfl⟩, fun h => absurd h (by decide)⟩
set_option maxRecDepth 100000 in
theorem fk_BrookStones_Brook_i_58 : fOK "BrookStones$Brook" true (58, 0, 8, 1) := ⟨RX0, TX0, 15, tyX0, "BrookStones", rfl, by decide, uw_X0, tyX0_ok, nmX0, rfl, Or.inl (tblG_of (i := 49) rfl rfl), fun _ => ⟨rfl, rfl⟩, fun h => absurd h (by decide)⟩
def fl_BrookStones_Brook_i : List (Nat × Nat × Nat × Nat) := [(9, 0, 0, 12), (15, 0, 1, 12), (18, 0, 2, 12), (21, 0, 3, 12), (24, 0, 4, 12), (27, 0, 5, 12), (30, 0, 6, 12), (33, 0, 7, 12), (42, 0, 10, 1), (46, 0, 11, 1), (49, 0, 12, 1), (52, 0, 13, 1), (55, 0, 14, 1), (58, 0, 8, 1)]
set_option maxRecDepth 100000 in
theorem fl_BrookStones_Brook_i_ok : ∀ q ∈ fl_BrookStones_Brook_i, fOK "BrookStones$Brook" true q := List.forall_mem_cons.mpr ⟨fk_BrookStones_Brook_i_9, List.forall_mem_cons.mpr ⟨fk_BrookStones_Brook_i_15, List.forall_mem_cons.mpr ⟨fk_BrookStones_Brook_i_18, List.forall_mem_cons.mpr ⟨fk_BrookStones_Brook_i_21, List.forall_mem_cons.mpr ⟨fk_BrookStones_Brook_i_24, List.forall_mem_cons.mpr ⟨fk_BrookStones_Brook_i_27, List.forall_mem_cons.mpr ⟨fk_BrookStones_Brook_i_30, List.forall_mem_cons.mpr ⟨fk_BrookStones_Brook_i_33, List.forall_mem_cons.mpr ⟨fk_BrookStones_Brook_i_42, List.forall_mem_cons.mpr ⟨fk_BrookStones_Brook_i_46, List.forall_mem_cons.mpr ⟨fk_BrookStones_Brook_i_49, List.forall_mem_cons.mpr ⟨fk_BrookStones_Brook_i_52, List.forall_mem_cons.mpr ⟨fk_BrookStones_Brook_i_55, List.forall_mem_cons.mpr ⟨fk_BrookStones_Brook_i_58, fun _ h => absurd h List.not_mem_nil⟩⟩⟩⟩⟩⟩⟩⟩⟩⟩⟩⟩⟩⟩
set_option maxRecDepth 100000 in
theorem fk_BrookStones_Flood_9 : fOK "BrookStones$Flood" false (9, 1, 0, 10) := ⟨RX1, TX1, 3, tyX1, "BrookStones", rfl, by decide, uw_X1, tyX1_ok, nmX1, rfl, Or.inl (tblG_of (i := 145) rfl rfl), fun h => absurd h (by decide), fun h => absurd h (by decide)⟩
set_option maxRecDepth 100000 in
theorem fk_BrookStones_Flood_15 : fOK "BrookStones$Flood" false (15, 1, 1, 10) := ⟨RX1, TX1, 3, tyX1, "BrookStones", rfl, by decide, uw_X1, tyX1_ok, nmX1, rfl, Or.inl (tblG_of (i := 146) rfl rfl), fun h => absurd h (by decide), fun h => absurd h (by decide)⟩
def fl_BrookStones_Flood : List (Nat × Nat × Nat × Nat) := [(9, 1, 0, 10), (15, 1, 1, 10)]
set_option maxRecDepth 100000 in
theorem fl_BrookStones_Flood_ok : ∀ q ∈ fl_BrookStones_Flood, fOK "BrookStones$Flood" false q := List.forall_mem_cons.mpr ⟨fk_BrookStones_Flood_9, List.forall_mem_cons.mpr ⟨fk_BrookStones_Flood_15, fun _ h => absurd h List.not_mem_nil⟩⟩
set_option maxRecDepth 100000 in
theorem fk_BrookStones_Flood_i_9 : fOK "BrookStones$Flood" true (9, 1, 0, 12) := ⟨RX1, TX1, 3, tyX1, "BrookStones", rfl, by decide, uw_X1, tyX1_ok, nmX1, rfl, Or.inl (tblG_of (i := 145) rfl rfl), fun h => absurd h (by decide), fun _ => ⟨rfl, rfl, rfl, Or.inr ⟨_, rfl⟩, tblG_of (i := 145) rfl rfl⟩⟩
set_option maxRecDepth 100000 in
theorem fk_BrookStones_Flood_i_15 : fOK "BrookStones$Flood" true (15, 1, 1, 12) := ⟨RX1, TX1, 3, tyX1, "BrookStones", rfl, by decide, uw_X1, tyX1_ok, nmX1, rfl, Or.inl (tblG_of (i := 146) rfl rfl), fun h => absurd h (by decide), fun _ => ⟨rfl, rfl, rfl, Or.inr ⟨_, rfl⟩, tblG_of (i := 146) rfl rfl⟩⟩
def fl_BrookStones_Flood_i : List (Nat × Nat × Nat × Nat) := [(9, 1, 0, 12), (15, 1, 1, 12)]
set_option maxRecDepth 100000 in
theorem fl_BrookStones_Flood_i_ok : ∀ q ∈ fl_BrookStones_Flood_i, fOK "BrookStones$Flood" true q := List.forall_mem_cons.mpr ⟨fk_BrookStones_Flood_i_9, List.forall_mem_cons.mpr ⟨fk_BrookStones_Flood_i_15, fun _ h => absurd h List.not_mem_nil⟩⟩
set_option maxRecDepth 100000 in
theorem fk_BrookStones_Layings_9 : fOK "BrookStones$Layings" false (9, 2, 0, 10) := ⟨RX2, TX2, 2, tyX2, "BrookStones", rfl, by decide, uw_X2, tyX2_ok, nmX2, rfl, Or.inl (tblG_of (i := 189) rfl rfl), fun h => absurd h (by decide), fun h => absurd h (by decide)⟩
def fl_BrookStones_Layings : List (Nat × Nat × Nat × Nat) := [(9, 2, 0, 10)]
set_option maxRecDepth 100000 in
theorem fl_BrookStones_Layings_ok : ∀ q ∈ fl_BrookStones_Layings, fOK "BrookStones$Layings" false q := List.forall_mem_cons.mpr ⟨fk_BrookStones_Layings_9, fun _ h => absurd h List.not_mem_nil⟩
set_option maxRecDepth 100000 in
theorem fk_BrookStones_Layings_i_9 : fOK "BrookStones$Layings" true (9, 2, 0, 12) := ⟨RX2, TX2, 2, tyX2, "BrookStones", rfl, by decide, uw_X2, tyX2_ok, nmX2, rfl, Or.inl (tblG_of (i := 189) rfl rfl), fun h => absurd h (by decide), fun _ => ⟨rfl, rfl, rfl, Or.inr ⟨_, rfl⟩, tblG_of (i := 189) rfl rfl⟩⟩
def fl_BrookStones_Layings_i : List (Nat × Nat × Nat × Nat) := [(9, 2, 0, 12)]
set_option maxRecDepth 100000 in
theorem fl_BrookStones_Layings_i_ok : ∀ q ∈ fl_BrookStones_Layings_i, fOK "BrookStones$Layings" true q := List.forall_mem_cons.mpr ⟨fk_BrookStones_Layings_i_9, fun _ h => absurd h List.not_mem_nil⟩
set_option maxRecDepth 100000 in
theorem fk_BrookStones_Planner_11 : fOK "BrookStones$Planner" false (11, 3, 0, 10) := ⟨RX3, TX3, 8, tyX3, "BrookStones", rfl, by decide, uw_X3, tyX3_ok, nmX3, rfl, Or.inl (tblG_of (i := 162) rfl rfl), fun h => absurd h (by decide), fun h => absurd h (by decide)⟩
set_option maxRecDepth 100000 in
theorem fk_BrookStones_Planner_15 : fOK "BrookStones$Planner" false (15, 3, 1, 10) := ⟨RX3, TX3, 8, tyX3, "BrookStones", rfl, by decide, uw_X3, tyX3_ok, nmX3, rfl, Or.inl (tblG_of (i := 163) rfl rfl), fun h => absurd h (by decide), fun h => absurd h (by decide)⟩
set_option maxRecDepth 100000 in
theorem fk_BrookStones_Planner_18 : fOK "BrookStones$Planner" false (18, 3, 2, 10) := ⟨RX3, TX3, 8, tyX3, "BrookStones", rfl, by decide, uw_X3, tyX3_ok, nmX3, rfl, Or.inl (tblG_of (i := 164) rfl rfl), fun h => absurd h (by decide), fun h => absurd h (by decide)⟩
set_option maxRecDepth 100000 in
theorem fk_BrookStones_Planner_23 : fOK "BrookStones$Planner" false (23, 3, 3, 10) := ⟨RX3, TX3, 8, tyX3, "BrookStones", rfl, by decide, uw_X3, tyX3_ok, nmX3, rfl, Or.inl (tblG_of (i := 165) rfl rfl), fun h => absurd h (by decide), fun h => absurd h (by decide)⟩
def fl_BrookStones_Planner : List (Nat × Nat × Nat × Nat) := [(11, 3, 0, 10), (15, 3, 1, 10), (18, 3, 2, 10), (23, 3, 3, 10)]
set_option maxRecDepth 100000 in
theorem fl_BrookStones_Planner_ok : ∀ q ∈ fl_BrookStones_Planner, fOK "BrookStones$Planner" false q := List.forall_mem_cons.mpr ⟨fk_BrookStones_Planner_11, List.forall_mem_cons.mpr ⟨fk_BrookStones_Planner_15, List.forall_mem_cons.mpr ⟨fk_BrookStones_Planner_18, List.forall_mem_cons.mpr ⟨fk_BrookStones_Planner_23, fun _ h => absurd h List.not_mem_nil⟩⟩⟩⟩
set_option maxRecDepth 100000 in
theorem fk_BrookStones_Planner_i_11 : fOK "BrookStones$Planner" true (11, 3, 0, 12) := ⟨RX3, TX3, 8, tyX3, "BrookStones", rfl, by decide, uw_X3, tyX3_ok, nmX3, rfl, Or.inl (tblG_of (i := 162) rfl rfl), fun h => absurd h (by decide), fun _ => ⟨rfl, rfl, rfl, Or.inr ⟨_, rfl⟩, tblG_of (i := 162) rfl rfl⟩⟩
set_option maxRecDepth 100000 in
theorem fk_BrookStones_Planner_i_15 : fOK "BrookStones$Planner" true (15, 3, 1, 12) := ⟨RX3, TX3, 8, tyX3, "BrookStones", rfl, by decide, uw_X3, tyX3_ok, nmX3, rfl, Or.inl (tblG_of (i := 163) rfl rfl), fun h => absurd h (by decide), fun _ => ⟨rfl, rfl, rfl, Or.inr ⟨_, rfl⟩, tblG_of (i := 163) rfl rfl⟩⟩
set_option maxRecDepth 100000 in
theorem fk_BrookStones_Planner_i_18 : fOK "BrookStones$Planner" true (18, 3, 2, 12) := ⟨RX3, TX3, 8, tyX3, "BrookStones", rfl, by decide, uw_X3, tyX3_ok, nmX3, rfl, Or.inl (tblG_of (i := 164) rfl rfl), fun h => absurd h (by decide), fun _ => ⟨rfl, rfl, rfl, Or.inr ⟨_, rfl⟩, tblG_of (i := 164) rfl rfl⟩⟩
set_option maxRecDepth 100000 in
theorem fk_BrookStones_Planner_i_23 : fOK "BrookStones$Planner" true (23, 3, 3, 12) := ⟨RX3, TX3, 8, tyX3, "BrookStones", rfl, by decide, uw_X3, tyX3_ok, nmX3, rfl, Or.inl (tblG_of (i := 165) rfl rfl), fun h => absurd h (by decide), fun _ => ⟨rfl, rfl, rfl, Or.inr ⟨_, rfl⟩, tblG_of (i := 165) rfl rfl⟩⟩
def fl_BrookStones_Planner_i : List (Nat × Nat × Nat × Nat) := [(11, 3, 0, 12), (15, 3, 1, 12), (18, 3, 2, 12), (23, 3, 3, 12)]
set_option maxRecDepth 100000 in
theorem fl_BrookStones_Planner_i_ok : ∀ q ∈ fl_BrookStones_Planner_i, fOK "BrookStones$Planner" true q := List.forall_mem_cons.mpr ⟨fk_BrookStones_Planner_i_11, List.forall_mem_cons.mpr ⟨fk_BrookStones_Planner_i_15, List.forall_mem_cons.mpr ⟨fk_BrookStones_Planner_i_18, List.forall_mem_cons.mpr ⟨fk_BrookStones_Planner_i_23, fun _ h => absurd h List.not_mem_nil⟩⟩⟩⟩
set_option maxRecDepth 100000 in
theorem fk_BrookStones_Sheets_9 : fOK "BrookStones$Sheets" false (9, 4, 0, 10) := ⟨RX4, TX4, 3, tyX4, "BrookStones", rfl, by decide, uw_X4, tyX4_ok, nmX4, rfl, Or.inl (tblG_of (i := 102) rfl rfl), fun h => absurd h (by decide), fun h => absurd h (by decide)⟩
set_option maxRecDepth 100000 in
theorem fk_BrookStones_Sheets_15 : fOK "BrookStones$Sheets" false (15, 4, 1, 10) := ⟨RX4, TX4, 3, tyX4, "BrookStones", rfl, by decide, uw_X4, tyX4_ok, nmX4, rfl, Or.inl (tblG_of (i := 103) rfl rfl), fun h => absurd h (by decide), fun h => absurd h (by decide)⟩
set_option maxRecDepth 100000 in
theorem fk_BrookStones_Sheets_18 : fOK "BrookStones$Sheets" false (18, 4, 2, 10) := ⟨RX4, TX4, 3, tyX4, "BrookStones", rfl, by decide, uw_X4, tyX4_ok, nmX4, rfl, Or.inl (tblG_of (i := 105) rfl rfl), fun h => absurd h (by decide), fun h => absurd h (by decide)⟩
def fl_BrookStones_Sheets : List (Nat × Nat × Nat × Nat) := [(9, 4, 0, 10), (15, 4, 1, 10), (18, 4, 2, 10)]
set_option maxRecDepth 100000 in
theorem fl_BrookStones_Sheets_ok : ∀ q ∈ fl_BrookStones_Sheets, fOK "BrookStones$Sheets" false q := List.forall_mem_cons.mpr ⟨fk_BrookStones_Sheets_9, List.forall_mem_cons.mpr ⟨fk_BrookStones_Sheets_15, List.forall_mem_cons.mpr ⟨fk_BrookStones_Sheets_18, fun _ h => absurd h List.not_mem_nil⟩⟩⟩
set_option maxRecDepth 100000 in
theorem fk_BrookStones_Sheets_i_9 : fOK "BrookStones$Sheets" true (9, 4, 0, 12) := ⟨RX4, TX4, 3, tyX4, "BrookStones", rfl, by decide, uw_X4, tyX4_ok, nmX4, rfl, Or.inl (tblG_of (i := 102) rfl rfl), fun h => absurd h (by decide), fun _ => ⟨rfl, rfl, rfl, Or.inr ⟨_, rfl⟩, tblG_of (i := 102) rfl rfl⟩⟩
set_option maxRecDepth 100000 in
theorem fk_BrookStones_Sheets_i_15 : fOK "BrookStones$Sheets" true (15, 4, 1, 12) := ⟨RX4, TX4, 3, tyX4, "BrookStones", rfl, by decide, uw_X4, tyX4_ok, nmX4, rfl, Or.inl (tblG_of (i := 103) rfl rfl), fun h => absurd h (by decide), fun _ => ⟨rfl, rfl, rfl, Or.inr ⟨_, rfl⟩, tblG_of (i := 103) rfl rfl⟩⟩
set_option maxRecDepth 100000 in
theorem fk_BrookStones_Sheets_i_18 : fOK "BrookStones$Sheets" true (18, 4, 2, 12) := ⟨RX4, TX4, 3, tyX4, "BrookStones", rfl, by decide, uw_X4, tyX4_ok, nmX4, rfl, Or.inl (tblG_of (i := 105) rfl rfl), fun h => absurd h (by decide), fun _ => ⟨rfl, rfl, rfl, Or.inr ⟨_, rfl⟩, tblG_of (i := 105) rfl rfl⟩⟩
def fl_BrookStones_Sheets_i : List (Nat × Nat × Nat × Nat) := [(9, 4, 0, 12), (15, 4, 1, 12), (18, 4, 2, 12)]
set_option maxRecDepth 100000 in
theorem fl_BrookStones_Sheets_i_ok : ∀ q ∈ fl_BrookStones_Sheets_i, fOK "BrookStones$Sheets" true q := List.forall_mem_cons.mpr ⟨fk_BrookStones_Sheets_i_9, List.forall_mem_cons.mpr ⟨fk_BrookStones_Sheets_i_15, List.forall_mem_cons.mpr ⟨fk_BrookStones_Sheets_i_18, fun _ h => absurd h List.not_mem_nil⟩⟩⟩
set_option maxRecDepth 100000 in
theorem fk_BrookStones_Text_34 : fOK "BrookStones$Text" false (34, 0, 0, 10) := ⟨RX0, TX0, 15, tyX0, "BrookStones", rfl, by decide, uw_X0, tyX0_ok, nmX0, rfl, Or.inr (tblN_of (i := 30) rfl rfl), fun h => absurd h (by decide), fun h => absurd h (by decide)⟩
set_option maxRecDepth 100000 in
theorem fk_BrookStones_Text_40 : fOK "BrookStones$Text" false (40, 0, 1, 10) := ⟨RX0, TX0, 15, tyX0, "BrookStones", rfl, by decide, uw_X0, tyX0_ok, nmX0, rfl, Or.inr (tblN_of (i := 33) rfl rfl), fun h => absurd h (by decide), fun h => absurd h (by decide)⟩
set_option maxRecDepth 100000 in
theorem fk_BrookStones_Text_43 : fOK "BrookStones$Text" false (43, 0, 9, 1) := ⟨RX0, TX0, 15, tyX0, "BrookStones", rfl, by decide, uw_X0, tyX0_ok, nmX0, rfl, Or.inr (tblN_of (i := 51) rfl rfl), fun _ => ⟨rfl, rfl⟩, fun h => absurd h (by decide)⟩
set_option maxRecDepth 100000 in
theorem fk_BrookStones_Text_47 : fOK "BrookStones$Text" false (47, 0, 8, 1) := ⟨RX0, TX0, 15, tyX0, "BrookStones", rfl, by decide, uw_X0, tyX0_ok, nmX0, rfl, Or.inr (tblN_of (i := 50) rfl rfl), fun _ => ⟨rfl, rfl⟩, fun h => absurd h (by decide)⟩
def fl_BrookStones_Text : List (Nat × Nat × Nat × Nat) := [(34, 0, 0, 10), (40, 0, 1, 10), (43, 0, 9, 1), (47, 0, 8, 1)]
set_option maxRecDepth 100000 in
theorem fl_BrookStones_Text_ok : ∀ q ∈ fl_BrookStones_Text, fOK "BrookStones$Text" false q := List.forall_mem_cons.mpr ⟨fk_BrookStones_Text_34, List.forall_mem_cons.mpr ⟨fk_BrookStones_Text_40, List.forall_mem_cons.mpr ⟨fk_BrookStones_Text_43, List.forall_mem_cons.mpr ⟨fk_BrookStones_Text_47, fun _ h => absurd h List.not_mem_nil⟩⟩⟩⟩
set_option maxRecDepth 100000 in
theorem fk_BrookStones_Text_i_34 : fOK "BrookStones$Text" true (34, 0, 0, 10) := ⟨RX0, TX0, 15, tyX0, "BrookStones", rfl, by decide, uw_X0, tyX0_ok, nmX0, rfl, Or.inr (tblN_of (i := 30) rfl rfl), fun h => absurd h (by decide), fun h => absurd h (by decide)⟩
set_option maxRecDepth 100000 in
theorem fk_BrookStones_Text_i_40 : fOK "BrookStones$Text" true (40, 0, 1, 10) := ⟨RX0, TX0, 15, tyX0, "BrookStones", rfl, by decide, uw_X0, tyX0_ok, nmX0, rfl, Or.inr (tblN_of (i := 33) rfl rfl), fun h => absurd h (by decide), fun h => absurd h (by decide)⟩
set_option maxRecDepth 100000 in
theorem fk_BrookStones_Text_i_43 : fOK "BrookStones$Text" true (43, 0, 9, 1) := ⟨RX0, TX0, 15, tyX0, "BrookStones", rfl, by decide, uw_X0, tyX0_ok, nmX0, rfl, Or.inr (tblN_of (i := 51) rfl rfl), fun _ => ⟨rfl, rfl⟩, fun h => absurd h (by decide)⟩
set_option maxRecDepth 100000 in
theorem fk_BrookStones_Text_i_47 : fOK "BrookStones$Text" true (47, 0, 8, 1) := ⟨RX0, TX0, 15, tyX0, "BrookStones", rfl, by decide, uw_X0, tyX0_ok, nmX0, rfl, Or.inr (tblN_of (i := 50) rfl rfl), fun _ => ⟨rfl, rfl⟩, fun h => absurd h (by decide)⟩
def fl_BrookStones_Text_i : List (Nat × Nat × Nat × Nat) := [(34, 0, 0, 10), (40, 0, 1, 10), (43, 0, 9, 1), (47, 0, 8, 1)]
set_option maxRecDepth 100000 in
theorem fl_BrookStones_Text_i_ok : ∀ q ∈ fl_BrookStones_Text_i, fOK "BrookStones$Text" true q := List.forall_mem_cons.mpr ⟨fk_BrookStones_Text_i_34, List.forall_mem_cons.mpr ⟨fk_BrookStones_Text_i_40, List.forall_mem_cons.mpr ⟨fk_BrookStones_Text_i_43, List.forall_mem_cons.mpr ⟨fk_BrookStones_Text_i_47, fun _ h => absurd h List.not_mem_nil⟩⟩⟩⟩
set_option maxRecDepth 100000 in
theorem fk_BrookStones_Way_9 : fOK "BrookStones$Way" false (9, 5, 0, 10) := ⟨RX6, TX6, 6, tyX6, "BrookStones", rfl, by decide, uw_X6, tyX6_ok, nmX6, rfl, Or.inl (tblG_of (i := 119) rfl rfl), fun h => absurd h (by decide), fun h => absurd h (by decide)⟩
set_option maxRecDepth 100000 in
theorem fk_BrookStones_Way_15 : fOK "BrookStones$Way" false (15, 5, 1, 10) := ⟨RX6, TX6, 6, tyX6, "BrookStones", rfl, by decide, uw_X6, tyX6_ok, nmX6, rfl, Or.inl (tblG_of (i := 121) rfl rfl), fun h => absurd h (by decide), fun h => absurd h (by decide)⟩
set_option maxRecDepth 100000 in
theorem fk_BrookStones_Way_18 : fOK "BrookStones$Way" false (18, 5, 5, 1) := ⟨RX6, TX6, 6, tyX6, "BrookStones", rfl, by decide, uw_X6, tyX6_ok, nmX6, rfl, Or.inl (tblG_of (i := 125) rfl rfl), fun _ => ⟨rfl, rfl⟩, fun h => absurd h (by decide)⟩
set_option maxRecDepth 100000 in
theorem fk_BrookStones_Way_22 : fOK "BrookStones$Way" false (22, 0, 8, 1) := ⟨RX0, TX0, 15, tyX0, "BrookStones", rfl, by decide, uw_X0, tyX0_ok, nmX0, rfl, Or.inr (tblN_of (i := 47) rfl rfl), fun _ => ⟨rfl, rfl⟩, fun h => absurd h (by decide)⟩
set_option maxRecDepth 100000 in
theorem fk_BrookStones_Way_27 : fOK "BrookStones$Way" false (27, 5, 4, 1) := ⟨RX6, TX6, 6, tyX6, "BrookStones", rfl, by decide, uw_X6, tyX6_ok, nmX6, rfl, Or.inl (tblG_of (i := 124) rfl rfl), fun _ => ⟨rfl, rfl⟩, fun h => absurd h (by decide)⟩
set_option maxRecDepth 100000 in
theorem fk_BrookStones_Way_30 : fOK "BrookStones$Way" false (30, 0, 11, 1) := ⟨RX0, TX0, 15, tyX0, "BrookStones", rfl, by decide, uw_X0, tyX0_ok, nmX0, rfl, Or.inr (tblN_of (i := 55) rfl rfl), fun _ => ⟨rfl, rfl⟩, fun h => absurd h (by decide)⟩
set_option maxRecDepth 100000 in
theorem fk_BrookStones_Way_37 : fOK "BrookStones$Way" false (37, 5, 2, 1) := ⟨RX6, TX6, 6, tyX6, "BrookStones", rfl, by decide, uw_X6, tyX6_ok, nmX6, rfl, Or.inl (tblG_of (i := 122) rfl rfl), fun _ => ⟨rfl, rfl⟩, fun h => absurd h (by decide)⟩
set_option maxRecDepth 100000 in
theorem fk_BrookStones_Way_43 : fOK "BrookStones$Way" false (43, 5, 3, 1) := ⟨RX6, TX6, 6, tyX6, "BrookStones", rfl, by decide, uw_X6, tyX6_ok, nmX6, rfl, Or.inl (tblG_of (i := 123) rfl rfl), fun _ => ⟨rfl, rfl⟩, fun h => absurd h (by decide)⟩
def fl_BrookStones_Way : List (Nat × Nat × Nat × Nat) := [(9, 5, 0, 10), (15, 5, 1, 10), (18, 5, 5, 1), (22, 0, 8, 1), (27, 5, 4, 1), (30, 0, 11, 1), (37, 5, 2, 1), (43, 5, 3, 1)]
set_option maxRecDepth 100000 in
theorem fl_BrookStones_Way_ok : ∀ q ∈ fl_BrookStones_Way, fOK "BrookStones$Way" false q := List.forall_mem_cons.mpr ⟨fk_BrookStones_Way_9, List.forall_mem_cons.mpr ⟨fk_BrookStones_Way_15, List.forall_mem_cons.mpr ⟨fk_BrookStones_Way_18, List.forall_mem_cons.mpr ⟨fk_BrookStones_Way_22, List.forall_mem_cons.mpr ⟨fk_BrookStones_Way_27, List.forall_mem_cons.mpr ⟨fk_BrookStones_Way_30, List.forall_mem_cons.mpr ⟨fk_BrookStones_Way_37, List.forall_mem_cons.mpr ⟨fk_BrookStones_Way_43, fun _ h => absurd h List.not_mem_nil⟩⟩⟩⟩⟩⟩⟩⟩
set_option maxRecDepth 100000 in
theorem fk_BrookStones_Way_i_9 : fOK "BrookStones$Way" true (9, 5, 0, 12) := ⟨RX6, TX6, 6, tyX6, "BrookStones", rfl, by decide, uw_X6, tyX6_ok, nmX6, rfl, Or.inl (tblG_of (i := 119) rfl rfl), fun h => absurd h (by decide), fun _ => ⟨rfl, rfl, rfl, Or.inr ⟨_, rfl⟩, tblG_of (i := 119) rfl rfl⟩⟩
set_option maxRecDepth 100000 in
theorem fk_BrookStones_Way_i_15 : fOK "BrookStones$Way" true (15, 5, 1, 12) := ⟨RX6, TX6, 6, tyX6, "BrookStones", rfl, by decide, uw_X6, tyX6_ok, nmX6, rfl, Or.inl (tblG_of (i := 121) rfl rfl), fun h => absurd h (by decide), fun _ => ⟨rfl, rfl, rfl, Or.inr ⟨_, rfl⟩, tblG_of (i := 121) rfl rfl⟩⟩
set_option maxRecDepth 100000 in
theorem fk_BrookStones_Way_i_18 : fOK "BrookStones$Way" true (18, 5, 5, 1) := ⟨RX6, TX6, 6, tyX6, "BrookStones", rfl, by decide, uw_X6, tyX6_ok, nmX6, rfl, Or.inl (tblG_of (i := 125) rfl rfl), fun _ => ⟨rfl, rfl⟩, fun h => absurd h (by decide)⟩
set_option maxRecDepth 100000 in
theorem fk_BrookStones_Way_i_22 : fOK "BrookStones$Way" true (22, 0, 8, 1) := ⟨RX0, TX0, 15, tyX0, "BrookStones", rfl, by decide, uw_X0, tyX0_ok, nmX0, rfl, Or.inr (tblN_of (i := 47) rfl rfl), fun _ => ⟨rfl, rfl⟩, fun h => absurd h (by decide)⟩
set_option maxRecDepth 100000 in
theorem fk_BrookStones_Way_i_27 : fOK "BrookStones$Way" true (27, 5, 4, 1) := ⟨RX6, TX6, 6, tyX6, "BrookStones", rfl, by decide, uw_X6, tyX6_ok, nmX6, rfl, Or.inl (tblG_of (i := 124) rfl rfl), fun _ => ⟨rfl, rfl⟩, fun h => absurd h (by decide)⟩
set_option maxRecDepth 100000 in
theorem fk_BrookStones_Way_i_30 : fOK "BrookStones$Way" true (30, 0, 11, 1) := ⟨RX0, TX0, 15, tyX0, "BrookStones", rfl, by decide, uw_X0, tyX0_ok, nmX0, rfl, Or.inr (tblN_of (i := 55) rfl rfl), fun _ => ⟨rfl, rfl⟩, fun h => absurd h (by decide)⟩
set_option maxRecDepth 100000 in
theorem fk_BrookStones_Way_i_37 : fOK "BrookStones$Way" true (37, 5, 2, 1) := ⟨RX6, TX6, 6, tyX6, "BrookStones", rfl, by decide, uw_X6, tyX6_ok, nmX6, rfl, Or.inl (tblG_of (i := 122) rfl rfl), fun _ => ⟨rfl, rfl⟩, fun h => absurd h (by decide)⟩
set_option maxRecDepth 100000 in
theorem fk_BrookStones_Way_i_43 : fOK "BrookStones$Way" true (43, 5, 3, 1) := ⟨RX6, TX6, 6, tyX6, "BrookStones", rfl, by decide, uw_X6, tyX6_ok, nmX6, rfl, Or.inl (tblG_of (i := 123) rfl rfl), fun _ => ⟨rfl, rfl⟩, fun h => absurd h (by decide)⟩
def fl_BrookStones_Way_i : List (Nat × Nat × Nat × Nat) := [(9, 5, 0, 12), (15, 5, 1, 12), (18, 5, 5, 1), (22, 0, 8, 1), (27, 5, 4, 1), (30, 0, 11, 1), (37, 5, 2, 1), (43, 5, 3, 1)]
set_option maxRecDepth 100000 in
theorem fl_BrookStones_Way_i_ok : ∀ q ∈ fl_BrookStones_Way_i, fOK "BrookStones$Way" true q := List.forall_mem_cons.mpr ⟨fk_BrookStones_Way_i_9, List.forall_mem_cons.mpr ⟨fk_BrookStones_Way_i_15, List.forall_mem_cons.mpr ⟨fk_BrookStones_Way_i_18, List.forall_mem_cons.mpr ⟨fk_BrookStones_Way_i_22, List.forall_mem_cons.mpr ⟨fk_BrookStones_Way_i_27, List.forall_mem_cons.mpr ⟨fk_BrookStones_Way_i_30, List.forall_mem_cons.mpr ⟨fk_BrookStones_Way_i_37, List.forall_mem_cons.mpr ⟨fk_BrookStones_Way_i_43, fun _ h => absurd h List.not_mem_nil⟩⟩⟩⟩⟩⟩⟩⟩
set_option maxRecDepth 100000 in
theorem nk_BrookStones_9 : nOK "BrookStones" (9, 0, [.null, .null, .null, .null, .null, .null, .null, .null, .int 0, .int 0, .int 0, .int 0, .int 0, .int 0, .int 0]) := Or.inr ⟨RX0, TX0, 15, tyX0, rfl, uw_X0, tyX0_ok, tblG_of (i := 20) rfl rfl, tblG_of (i := 21) rfl rfl, tblG_of (i := 2) rfl rfl, rfl, by decide +kernel, by decide +kernel⟩
set_option maxRecDepth 100000 in
theorem nk_BrookStones_18 : nOK "BrookStones" (18, 4, [.null, .null, .null]) := Or.inr ⟨RX4, TX4, 3, tyX4, rfl, uw_X4, tyX4_ok, tblG_of (i := 95) rfl rfl, tblG_of (i := 96) rfl rfl, tblG_of (i := 4) rfl rfl, rfl, by decide +kernel, by decide +kernel⟩
set_option maxRecDepth 100000 in
theorem nk_BrookStones_25 : nOK "BrookStones" (25, 5, [.null, .null, .int 0, .int 0, .int 0, .int 0]) := Or.inr ⟨RX6, TX6, 6, tyX6, rfl, uw_X6, tyX6_ok, tblG_of (i := 113) rfl rfl, tblG_of (i := 114) rfl rfl, tblG_of (i := 5) rfl rfl, rfl, by decide +kernel, by decide +kernel⟩
set_option maxRecDepth 100000 in
theorem nk_BrookStones_32 : nOK "BrookStones" (32, 1, [.null, .null, .int 0]) := Or.inr ⟨RX1, TX1, 3, tyX1, rfl, uw_X1, tyX1_ok, tblG_of (i := 139) rfl rfl, tblG_of (i := 140) rfl rfl, tblG_of (i := 6) rfl rfl, rfl, by decide +kernel, by decide +kernel⟩
set_option maxRecDepth 100000 in
theorem nk_BrookStones_39 : nOK "BrookStones" (39, 3, [.null, .null, .null, .null, .int 0, .int 0, .int 0, .int 0]) := Or.inr ⟨RX3, TX3, 8, tyX3, rfl, uw_X3, tyX3_ok, tblG_of (i := 154) rfl rfl, tblG_of (i := 155) rfl rfl, tblG_of (i := 7) rfl rfl, rfl, by decide +kernel, by decide +kernel⟩
set_option maxRecDepth 100000 in
theorem nk_BrookStones_46 : nOK "BrookStones" (46, 2, [.null, .int 0]) := Or.inr ⟨RX2, TX2, 2, tyX2, rfl, uw_X2, tyX2_ok, tblG_of (i := 183) rfl rfl, tblG_of (i := 184) rfl rfl, tblG_of (i := 8) rfl rfl, rfl, by decide +kernel, by decide +kernel⟩
def nl_BrookStones : List (Nat × Nat × List Value) := [(9, 0, [.null, .null, .null, .null, .null, .null, .null, .null, .int 0, .int 0, .int 0, .int 0, .int 0, .int 0, .int 0]), (18, 4, [.null, .null, .null]), (25, 5, [.null, .null, .int 0, .int 0, .int 0, .int 0]), (32, 1, [.null, .null, .int 0]), (39, 3, [.null, .null, .null, .null, .int 0, .int 0, .int 0, .int 0]), (46, 2, [.null, .int 0])]
set_option maxRecDepth 100000 in
theorem nl_BrookStones_ok : ∀ q ∈ nl_BrookStones, nOK "BrookStones" q := List.forall_mem_cons.mpr ⟨nk_BrookStones_9, List.forall_mem_cons.mpr ⟨nk_BrookStones_18, List.forall_mem_cons.mpr ⟨nk_BrookStones_25, List.forall_mem_cons.mpr ⟨nk_BrookStones_32, List.forall_mem_cons.mpr ⟨nk_BrookStones_39, List.forall_mem_cons.mpr ⟨nk_BrookStones_46, fun _ h => absurd h List.not_mem_nil⟩⟩⟩⟩⟩⟩
set_option maxRecDepth 100000 in
theorem nk_BrookStones_Planner_21 : nOK "BrookStones$Planner" (21, 99, []) := Or.inl ⟨rfl, tblG_of (i := 160) rfl rfl, tblN_of (i := 161) rfl rfl⟩
def nl_BrookStones_Planner : List (Nat × Nat × List Value) := [(21, 99, [])]
set_option maxRecDepth 100000 in
theorem nl_BrookStones_Planner_ok : ∀ q ∈ nl_BrookStones_Planner, nOK "BrookStones$Planner" q := List.forall_mem_cons.mpr ⟨nk_BrookStones_Planner_21, fun _ h => absurd h List.not_mem_nil⟩
set_option maxRecDepth 100000 in
theorem nk_BrookStonesLaw_20 : nOK "BrookStonesLaw" (20, 6, [.null, .null, .null, .null, .null, .null, .int 0, .int 0]) := Or.inr ⟨RX7, TX7, 8, tyX7, rfl, uw_X7, tyX7_ok, tblG_of (i := 12) rfl rfl, tblG_of (i := 13) rfl rfl, tblG_of (i := 1) rfl rfl, rfl, by decide +kernel, by decide +kernel⟩
def nl_BrookStonesLaw : List (Nat × Nat × List Value) := [(20, 6, [.null, .null, .null, .null, .null, .null, .int 0, .int 0])]
set_option maxRecDepth 100000 in
theorem nl_BrookStonesLaw_ok : ∀ q ∈ nl_BrookStonesLaw, nOK "BrookStonesLaw" q := List.forall_mem_cons.mpr ⟨nk_BrookStonesLaw_20, fun _ h => absurd h List.not_mem_nil⟩
def kl_BrookStonesLaw : List (Nat × Int32) := [(7, 747796405), (8, 2147483647)]
set_option maxRecDepth 100000 in
theorem kl_BrookStonesLaw_ok : ∀ q ∈ kl_BrookStonesLaw, Jvm.Cond.constant "BrookStonesLaw" q.1 q.2 ∈ tblG := List.forall_mem_cons.mpr ⟨tblG_of (i := 462) rfl rfl, List.forall_mem_cons.mpr ⟨tblG_of (i := 466) rfl rfl, fun _ h => absurd h List.not_mem_nil⟩⟩
def kl_java_lang_Integer : List (Nat × Int32) := [(265, 1431655765), (266, 858993459), (267, 252645135)]
set_option maxRecDepth 100000 in
theorem kl_java_lang_Integer_ok : ∀ q ∈ kl_java_lang_Integer, Jvm.Cond.constant "java/lang/Integer" q.1 q.2 ∈ tblG := List.forall_mem_cons.mpr ⟨tblG_of (i := 456) rfl rfl, List.forall_mem_cons.mpr ⟨tblG_of (i := 457) rfl rfl, List.forall_mem_cons.mpr ⟨tblG_of (i := 458) rfl rfl, fun _ h => absurd h List.not_mem_nil⟩⟩⟩
