/-! laid by program (wip/whole/gen/part14.py): words by their places -/
set_option maxRecDepth 100000 in
theorem hI_w : Jvm.Cond.arrayClass .int ∈ tblG := tblG_of (i := 107) rfl rfl
set_option maxRecDepth 100000 in
theorem hZ_w : Jvm.Cond.arrayClass .boolean ∈ tblG := tblG_of (i := 853) rfl rfl
set_option maxRecDepth 100000 in
theorem uw_X0 : ∀ w ∈ u_ws RX0 TX0 15, w ∈ tblG := by
  show ∀ w ∈ [u_lay RX0 TX0 0, u_lay RX0 TX0 1, u_lay RX0 TX0 2, u_lay RX0 TX0 3, u_lay RX0 TX0 4, u_lay RX0 TX0 5, u_lay RX0 TX0 6, u_lay RX0 TX0 7, u_lay RX0 TX0 8, u_lay RX0 TX0 9, u_lay RX0 TX0 10, u_lay RX0 TX0 11, u_lay RX0 TX0 12, u_lay RX0 TX0 13, u_lay RX0 TX0 14], w ∈ tblG
  exact List.forall_mem_cons.mpr ⟨(tblG_of (i := 76) rfl rfl), List.forall_mem_cons.mpr ⟨(tblG_of (i := 78) rfl rfl), List.forall_mem_cons.mpr ⟨(tblG_of (i := 80) rfl rfl), List.forall_mem_cons.mpr ⟨(tblG_of (i := 82) rfl rfl), List.forall_mem_cons.mpr ⟨(tblG_of (i := 84) rfl rfl), List.forall_mem_cons.mpr ⟨(tblG_of (i := 86) rfl rfl), List.forall_mem_cons.mpr ⟨(tblG_of (i := 88) rfl rfl), List.forall_mem_cons.mpr ⟨(tblG_of (i := 90) rfl rfl), List.forall_mem_cons.mpr ⟨(tblG_of (i := 92) rfl rfl), List.forall_mem_cons.mpr ⟨(tblG_of (i := 94) rfl rfl), List.forall_mem_cons.mpr ⟨(tblG_of (i := 96) rfl rfl), List.forall_mem_cons.mpr ⟨(tblG_of (i := 98) rfl rfl), List.forall_mem_cons.mpr ⟨(tblG_of (i := 100) rfl rfl), List.forall_mem_cons.mpr ⟨(tblG_of (i := 102) rfl rfl), List.forall_mem_cons.mpr ⟨(tblG_of (i := 104) rfl rfl), fun _ h => absurd h List.not_mem_nil⟩⟩⟩⟩⟩⟩⟩⟩⟩⟩⟩⟩⟩⟩⟩
set_option maxRecDepth 100000 in
theorem uw_X1 : ∀ w ∈ u_ws RX1 TX1 3, w ∈ tblG := by
  show ∀ w ∈ [u_lay RX1 TX1 0, u_lay RX1 TX1 1, u_lay RX1 TX1 2], w ∈ tblG
  exact List.forall_mem_cons.mpr ⟨(tblG_of (i := 165) rfl rfl), List.forall_mem_cons.mpr ⟨(tblG_of (i := 167) rfl rfl), List.forall_mem_cons.mpr ⟨(tblG_of (i := 169) rfl rfl), fun _ h => absurd h List.not_mem_nil⟩⟩⟩
set_option maxRecDepth 100000 in
theorem uw_X2 : ∀ w ∈ u_ws RX2 TX2 2, w ∈ tblG := by
  show ∀ w ∈ [u_lay RX2 TX2 0, u_lay RX2 TX2 1], w ∈ tblG
  exact List.forall_mem_cons.mpr ⟨(tblG_of (i := 214) rfl rfl), List.forall_mem_cons.mpr ⟨(tblG_of (i := 216) rfl rfl), fun _ h => absurd h List.not_mem_nil⟩⟩
set_option maxRecDepth 100000 in
theorem uw_X3 : ∀ w ∈ u_ws RX3 TX3 8, w ∈ tblG := by
  show ∀ w ∈ [u_lay RX3 TX3 0, u_lay RX3 TX3 1, u_lay RX3 TX3 2, u_lay RX3 TX3 3, u_lay RX3 TX3 4, u_lay RX3 TX3 5, u_lay RX3 TX3 6, u_lay RX3 TX3 7], w ∈ tblG
  exact List.forall_mem_cons.mpr ⟨(tblG_of (i := 189) rfl rfl), List.forall_mem_cons.mpr ⟨(tblG_of (i := 191) rfl rfl), List.forall_mem_cons.mpr ⟨(tblG_of (i := 193) rfl rfl), List.forall_mem_cons.mpr ⟨(tblG_of (i := 195) rfl rfl), List.forall_mem_cons.mpr ⟨(tblG_of (i := 197) rfl rfl), List.forall_mem_cons.mpr ⟨(tblG_of (i := 199) rfl rfl), List.forall_mem_cons.mpr ⟨(tblG_of (i := 201) rfl rfl), List.forall_mem_cons.mpr ⟨(tblG_of (i := 203) rfl rfl), fun _ h => absurd h List.not_mem_nil⟩⟩⟩⟩⟩⟩⟩⟩
set_option maxRecDepth 100000 in
theorem uw_X4 : ∀ w ∈ u_ws RX4 TX4 3, w ∈ tblG := by
  show ∀ w ∈ [u_lay RX4 TX4 0, u_lay RX4 TX4 1, u_lay RX4 TX4 2], w ∈ tblG
  exact List.forall_mem_cons.mpr ⟨(tblG_of (i := 120) rfl rfl), List.forall_mem_cons.mpr ⟨(tblG_of (i := 122) rfl rfl), List.forall_mem_cons.mpr ⟨(tblG_of (i := 124) rfl rfl), fun _ h => absurd h List.not_mem_nil⟩⟩⟩
set_option maxRecDepth 100000 in
theorem uw_X6 : ∀ w ∈ u_ws RX6 TX6 6, w ∈ tblG := by
  show ∀ w ∈ [u_lay RX6 TX6 0, u_lay RX6 TX6 1, u_lay RX6 TX6 2, u_lay RX6 TX6 3, u_lay RX6 TX6 4, u_lay RX6 TX6 5], w ∈ tblG
  exact List.forall_mem_cons.mpr ⟨(tblG_of (i := 140) rfl rfl), List.forall_mem_cons.mpr ⟨(tblG_of (i := 142) rfl rfl), List.forall_mem_cons.mpr ⟨(tblG_of (i := 144) rfl rfl), List.forall_mem_cons.mpr ⟨(tblG_of (i := 146) rfl rfl), List.forall_mem_cons.mpr ⟨(tblG_of (i := 148) rfl rfl), List.forall_mem_cons.mpr ⟨(tblG_of (i := 150) rfl rfl), fun _ h => absurd h List.not_mem_nil⟩⟩⟩⟩⟩⟩
set_option maxRecDepth 100000 in
theorem uw_X7 : ∀ w ∈ u_ws RX7 TX7 8, w ∈ tblG := by
  show ∀ w ∈ [u_lay RX7 TX7 0, u_lay RX7 TX7 1, u_lay RX7 TX7 2, u_lay RX7 TX7 3, u_lay RX7 TX7 4, u_lay RX7 TX7 5, u_lay RX7 TX7 6, u_lay RX7 TX7 7], w ∈ tblG
  exact List.forall_mem_cons.mpr ⟨(tblG_of (i := 227) rfl rfl), List.forall_mem_cons.mpr ⟨(tblG_of (i := 229) rfl rfl), List.forall_mem_cons.mpr ⟨(tblG_of (i := 231) rfl rfl), List.forall_mem_cons.mpr ⟨(tblG_of (i := 233) rfl rfl), List.forall_mem_cons.mpr ⟨(tblG_of (i := 235) rfl rfl), List.forall_mem_cons.mpr ⟨(tblG_of (i := 237) rfl rfl), List.forall_mem_cons.mpr ⟨(tblG_of (i := 239) rfl rfl), List.forall_mem_cons.mpr ⟨(tblG_of (i := 241) rfl rfl), fun _ h => absurd h List.not_mem_nil⟩⟩⟩⟩⟩⟩⟩⟩
set_option maxRecDepth 100000 in
theorem uw_X8 : ∀ w ∈ u_ws RX8 TX8 37, w ∈ tblG := by
  show ∀ w ∈ [u_lay RX8 TX8 0, u_lay RX8 TX8 1, u_lay RX8 TX8 2, u_lay RX8 TX8 3, u_lay RX8 TX8 4, u_lay RX8 TX8 5, u_lay RX8 TX8 6, u_lay RX8 TX8 7, u_lay RX8 TX8 8, u_lay RX8 TX8 9, u_lay RX8 TX8 10, u_lay RX8 TX8 11, u_lay RX8 TX8 12, u_lay RX8 TX8 13, u_lay RX8 TX8 14, u_lay RX8 TX8 15, u_lay RX8 TX8 16, u_lay RX8 TX8 17, u_lay RX8 TX8 18, u_lay RX8 TX8 19, u_lay RX8 TX8 20, u_lay RX8 TX8 21, u_lay RX8 TX8 22, u_lay RX8 TX8 23, u_lay RX8 TX8 24, u_lay RX8 TX8 25, u_lay RX8 TX8 26, u_lay RX8 TX8 27, u_lay RX8 TX8 28, u_lay RX8 TX8 29, u_lay RX8 TX8 30, u_lay RX8 TX8 31, u_lay RX8 TX8 32, u_lay RX8 TX8 33, u_lay RX8 TX8 34, u_lay RX8 TX8 35, u_lay RX8 TX8 36], w ∈ tblG
  exact List.forall_mem_cons.mpr ⟨(tblG_of (i := 778) rfl rfl), List.forall_mem_cons.mpr ⟨(tblG_of (i := 780) rfl rfl), List.forall_mem_cons.mpr ⟨(tblG_of (i := 782) rfl rfl), List.forall_mem_cons.mpr ⟨(tblG_of (i := 784) rfl rfl), List.forall_mem_cons.mpr ⟨(tblG_of (i := 786) rfl rfl), List.forall_mem_cons.mpr ⟨(tblG_of (i := 788) rfl rfl), List.forall_mem_cons.mpr ⟨(tblG_of (i := 790) rfl rfl), List.forall_mem_cons.mpr ⟨(tblG_of (i := 792) rfl rfl), List.forall_mem_cons.mpr ⟨(tblG_of (i := 794) rfl rfl), List.forall_mem_cons.mpr ⟨(tblG_of (i := 796) rfl rfl), List.forall_mem_cons.mpr ⟨(tblG_of (i := 798) rfl rfl), List.forall_mem_cons.mpr ⟨(tblG_of (i := 800) rfl rfl), List.forall_mem_cons.mpr ⟨(tblG_of (i := 802) rfl rfl), List.forall_mem_cons.mpr ⟨(tblG_of (i := 804) rfl rfl), List.forall_mem_cons.mpr ⟨(tblG_of (i := 806) rfl rfl), List.forall_mem_cons.mpr ⟨(tblG_of (i := 808) rfl rfl), List.forall_mem_cons.mpr ⟨(tblG_of (i := 810) rfl rfl), List.forall_mem_cons.mpr ⟨(tblG_of (i := 812) rfl rfl), List.forall_mem_cons.mpr ⟨(tblG_of (i := 814) rfl rfl), List.forall_mem_cons.mpr ⟨(tblG_of (i := 816) rfl rfl), List.forall_mem_cons.mpr ⟨(tblG_of (i := 818) rfl rfl), List.forall_mem_cons.mpr ⟨(tblG_of (i := 820) rfl rfl), List.forall_mem_cons.mpr ⟨(tblG_of (i := 822) rfl rfl), List.forall_mem_cons.mpr ⟨(tblG_of (i := 824) rfl rfl), List.forall_mem_cons.mpr ⟨(tblG_of (i := 826) rfl rfl), List.forall_mem_cons.mpr ⟨(tblG_of (i := 828) rfl rfl), List.forall_mem_cons.mpr ⟨(tblG_of (i := 830) rfl rfl), List.forall_mem_cons.mpr ⟨(tblG_of (i := 832) rfl rfl), List.forall_mem_cons.mpr ⟨(tblG_of (i := 834) rfl rfl), List.forall_mem_cons.mpr ⟨(tblG_of (i := 836) rfl rfl), List.forall_mem_cons.mpr ⟨(tblG_of (i := 838) rfl rfl), List.forall_mem_cons.mpr ⟨(tblG_of (i := 840) rfl rfl), List.forall_mem_cons.mpr ⟨(tblG_of (i := 842) rfl rfl), List.forall_mem_cons.mpr ⟨(tblG_of (i := 844) rfl rfl), List.forall_mem_cons.mpr ⟨(tblG_of (i := 846) rfl rfl), List.forall_mem_cons.mpr ⟨(tblG_of (i := 848) rfl rfl), List.forall_mem_cons.mpr ⟨(tblG_of (i := 850) rfl rfl), fun _ h => absurd h List.not_mem_nil⟩⟩⟩⟩⟩⟩⟩⟩⟩⟩⟩⟩⟩⟩⟩⟩⟩⟩⟩⟩⟩⟩⟩⟩⟩⟩⟩⟩⟩⟩⟩⟩⟩⟩⟩⟩⟩
def y_X0_init : MethodName := ⟨"BrookStones$Brook", "<init>", "()V"⟩
set_option maxRecDepth 100000 in
theorem mi_X0_init : Jvm.Cond.code y_X0_init prog_2_method_1_code 1 (none) ∈ tblG ∧ Jvm.Cond.initialized y_X0_init.cls ∈ tblG ∧ Jvm.Cond.instanceMethod y_X0_init ∈ tblG ∧ pl3 y_X0_init 0 := ⟨tblG_of (i := 26) rfl rfl, tblG_of (i := 2) rfl rfl, tblG_of (i := 25) rfl rfl, ⟨by decide +kernel, by decide +kernel, by decide +kernel⟩⟩
def y_X0_makeAnew : MethodName := ⟨"BrookStones$Brook", "makeAnew", "()V"⟩
set_option maxRecDepth 100000 in
theorem mi_X0_makeAnew : Jvm.Cond.code y_X0_makeAnew prog_2_method_2_code 1 (none) ∈ tblG ∧ Jvm.Cond.initialized y_X0_makeAnew.cls ∈ tblG ∧ Jvm.Cond.instanceMethod y_X0_makeAnew ∈ tblG ∧ Jvm.Cond.selects y_X0_makeAnew.cls y_X0_makeAnew y_X0_makeAnew ∈ tblG ∧ pl3 y_X0_makeAnew 0 := ⟨tblG_of (i := 306) rfl rfl, tblG_of (i := 2) rfl rfl, tblG_of (i := 305) rfl rfl, tblG_sel (q := (y_X0_makeAnew, 15)) (List.mem_of_getElem? (i := 6) rfl), ⟨by decide +kernel, by decide +kernel, by decide +kernel⟩⟩
def y_X0_isThere : MethodName := ⟨"BrookStones$Brook", "isThere", "()Z"⟩
set_option maxRecDepth 100000 in
theorem mi_X0_isThere : Jvm.Cond.code y_X0_isThere prog_2_method_3_code 1 (some .boolean) ∈ tblG ∧ Jvm.Cond.initialized y_X0_isThere.cls ∈ tblG ∧ Jvm.Cond.instanceMethod y_X0_isThere ∈ tblG ∧ Jvm.Cond.selects y_X0_isThere.cls y_X0_isThere y_X0_isThere ∈ tblG ∧ pl3 y_X0_isThere 0 := ⟨tblG_of (i := 337) rfl rfl, tblG_of (i := 2) rfl rfl, tblG_of (i := 336) rfl rfl, tblG_sel (q := (y_X0_isThere, 15)) (List.mem_of_getElem? (i := 9) rfl), ⟨by decide +kernel, by decide +kernel, by decide +kernel⟩⟩
def y_X0_isCell : MethodName := ⟨"BrookStones$Brook", "isCell", "(I)Z"⟩
set_option maxRecDepth 100000 in
theorem mi_X0_isCell : Jvm.Cond.code y_X0_isCell prog_2_method_4_code 2 (some .boolean) ∈ tblG ∧ Jvm.Cond.initialized y_X0_isCell.cls ∈ tblG ∧ Jvm.Cond.instanceMethod y_X0_isCell ∈ tblG ∧ Jvm.Cond.selects y_X0_isCell.cls y_X0_isCell y_X0_isCell ∈ tblG ∧ pl3 y_X0_isCell 1 := ⟨tblG_of (i := 317) rfl rfl, tblG_of (i := 2) rfl rfl, tblG_of (i := 316) rfl rfl, tblG_sel (q := (y_X0_isCell, 15)) (List.mem_of_getElem? (i := 7) rfl), ⟨by decide +kernel, by decide +kernel, by decide +kernel⟩⟩
def y_X0_isStone : MethodName := ⟨"BrookStones$Brook", "isStone", "(I)Z"⟩
set_option maxRecDepth 100000 in
theorem mi_X0_isStone : Jvm.Cond.code y_X0_isStone prog_2_method_5_code 2 (some .boolean) ∈ tblG ∧ Jvm.Cond.initialized y_X0_isStone.cls ∈ tblG ∧ Jvm.Cond.instanceMethod y_X0_isStone ∈ tblG ∧ Jvm.Cond.selects y_X0_isStone.cls y_X0_isStone y_X0_isStone ∈ tblG ∧ pl3 y_X0_isStone 1 := ⟨tblG_of (i := 353) rfl rfl, tblG_of (i := 2) rfl rfl, tblG_of (i := 352) rfl rfl, tblG_sel (q := (y_X0_isStone, 15)) (List.mem_of_getElem? (i := 11) rfl), ⟨by decide +kernel, by decide +kernel, by decide +kernel⟩⟩
def y_X0_isWalker : MethodName := ⟨"BrookStones$Brook", "isWalker", "(I)Z"⟩
set_option maxRecDepth 100000 in
theorem mi_X0_isWalker : Jvm.Cond.code y_X0_isWalker prog_2_method_6_code 2 (some .boolean) ∈ tblG ∧ Jvm.Cond.initialized y_X0_isWalker.cls ∈ tblG ∧ Jvm.Cond.instanceMethod y_X0_isWalker ∈ tblG ∧ Jvm.Cond.selects y_X0_isWalker.cls y_X0_isWalker y_X0_isWalker ∈ tblG ∧ pl3 y_X0_isWalker 1 := ⟨tblG_of (i := 394) rfl rfl, tblG_of (i := 2) rfl rfl, tblG_of (i := 393) rfl rfl, tblG_sel (q := (y_X0_isWalker, 15)) (List.mem_of_getElem? (i := 17) rfl), ⟨by decide +kernel, by decide +kernel, by decide +kernel⟩⟩
def y_X0_addStone : MethodName := ⟨"BrookStones$Brook", "addStone", "(IIII)I"⟩
set_option maxRecDepth 100000 in
theorem mi_X0_addStone : Jvm.Cond.code y_X0_addStone prog_2_method_7_code 5 (some .int) ∈ tblG ∧ Jvm.Cond.initialized y_X0_addStone.cls ∈ tblG ∧ Jvm.Cond.instanceMethod y_X0_addStone ∈ tblG ∧ Jvm.Cond.selects y_X0_addStone.cls y_X0_addStone y_X0_addStone ∈ tblG ∧ pl3 y_X0_addStone 4 := ⟨tblG_of (i := 345) rfl rfl, tblG_of (i := 2) rfl rfl, tblG_of (i := 344) rfl rfl, tblG_sel (q := (y_X0_addStone, 15)) (List.mem_of_getElem? (i := 10) rfl), ⟨by decide +kernel, by decide +kernel, by decide +kernel⟩⟩
def y_X0_addWalker : MethodName := ⟨"BrookStones$Brook", "addWalker", "(I)I"⟩
set_option maxRecDepth 100000 in
theorem mi_X0_addWalker : Jvm.Cond.code y_X0_addWalker prog_2_method_8_code 2 (some .int) ∈ tblG ∧ Jvm.Cond.initialized y_X0_addWalker.cls ∈ tblG ∧ Jvm.Cond.instanceMethod y_X0_addWalker ∈ tblG ∧ Jvm.Cond.selects y_X0_addWalker.cls y_X0_addWalker y_X0_addWalker ∈ tblG ∧ pl3 y_X0_addWalker 1 := ⟨tblG_of (i := 386) rfl rfl, tblG_of (i := 2) rfl rfl, tblG_of (i := 385) rfl rfl, tblG_sel (q := (y_X0_addWalker, 15)) (List.mem_of_getElem? (i := 16) rfl), ⟨by decide +kernel, by decide +kernel, by decide +kernel⟩⟩
def y_X0_reachOf : MethodName := ⟨"BrookStones$Brook", "reachOf", "(IZ)I"⟩
set_option maxRecDepth 100000 in
theorem mi_X0_reachOf : Jvm.Cond.code y_X0_reachOf prog_2_method_9_code 3 (some .int) ∈ tblG ∧ Jvm.Cond.initialized y_X0_reachOf.cls ∈ tblG ∧ Jvm.Cond.instanceMethod y_X0_reachOf ∈ tblG ∧ Jvm.Cond.selects y_X0_reachOf.cls y_X0_reachOf y_X0_reachOf ∈ tblG ∧ pl3 y_X0_reachOf 2 := ⟨tblG_of (i := 410) rfl rfl, tblG_of (i := 2) rfl rfl, tblG_of (i := 409) rfl rfl, tblG_sel (q := (y_X0_reachOf, 15)) (List.mem_of_getElem? (i := 20) rfl), ⟨by decide +kernel, by decide +kernel, by decide +kernel⟩⟩
def y_X0_holdOf : MethodName := ⟨"BrookStones$Brook", "holdOf", "(I)I"⟩
set_option maxRecDepth 100000 in
theorem mi_X0_holdOf : Jvm.Cond.code y_X0_holdOf prog_2_method_10_code 2 (some .int) ∈ tblG ∧ Jvm.Cond.initialized y_X0_holdOf.cls ∈ tblG ∧ Jvm.Cond.instanceMethod y_X0_holdOf ∈ tblG ∧ Jvm.Cond.selects y_X0_holdOf.cls y_X0_holdOf y_X0_holdOf ∈ tblG ∧ pl3 y_X0_holdOf 1 := ⟨tblG_of (i := 357) rfl rfl, tblG_of (i := 2) rfl rfl, tblG_of (i := 356) rfl rfl, tblG_sel (q := (y_X0_holdOf, 15)) (List.mem_of_getElem? (i := 12) rfl), ⟨by decide +kernel, by decide +kernel, by decide +kernel⟩⟩
def y_X0_easeOf : MethodName := ⟨"BrookStones$Brook", "easeOf", "(I)I"⟩
set_option maxRecDepth 100000 in
theorem mi_X0_easeOf : Jvm.Cond.code y_X0_easeOf prog_2_method_11_code 2 (some .int) ∈ tblG ∧ Jvm.Cond.initialized y_X0_easeOf.cls ∈ tblG ∧ Jvm.Cond.instanceMethod y_X0_easeOf ∈ tblG ∧ Jvm.Cond.selects y_X0_easeOf.cls y_X0_easeOf y_X0_easeOf ∈ tblG ∧ pl3 y_X0_easeOf 1 := ⟨tblG_of (i := 555) rfl rfl, tblG_of (i := 2) rfl rfl, tblG_of (i := 554) rfl rfl, tblG_sel (q := (y_X0_easeOf, 15)) (List.mem_of_getElem? (i := 37) rfl), ⟨by decide +kernel, by decide +kernel, by decide +kernel⟩⟩
def y_X0_workOf : MethodName := ⟨"BrookStones$Brook", "workOf", "(II)I"⟩
set_option maxRecDepth 100000 in
theorem mi_X0_workOf : Jvm.Cond.code y_X0_workOf prog_2_method_12_code 4 (some .int) ∈ tblG ∧ Jvm.Cond.initialized y_X0_workOf.cls ∈ tblG ∧ Jvm.Cond.instanceMethod y_X0_workOf ∈ tblG ∧ Jvm.Cond.selects y_X0_workOf.cls y_X0_workOf y_X0_workOf ∈ tblG ∧ pl3 y_X0_workOf 2 := ⟨tblG_of (i := 378) rfl rfl, tblG_of (i := 2) rfl rfl, tblG_of (i := 377) rfl rfl, tblG_sel (q := (y_X0_workOf, 15)) (List.mem_of_getElem? (i := 15) rfl), ⟨by decide +kernel, by decide +kernel, by decide +kernel⟩⟩
def y_X0_topOf : MethodName := ⟨"BrookStones$Brook", "topOf", "(III)I"⟩
set_option maxRecDepth 100000 in
theorem mi_X0_topOf : Jvm.Cond.code y_X0_topOf prog_2_method_13_code 4 (some .int) ∈ tblG ∧ Jvm.Cond.initialized y_X0_topOf.cls ∈ tblG ∧ Jvm.Cond.instanceMethod y_X0_topOf ∈ tblG ∧ Jvm.Cond.selects y_X0_topOf.cls y_X0_topOf y_X0_topOf ∈ tblG ∧ pl3 y_X0_topOf 3 := ⟨tblG_of (i := 324) rfl rfl, tblG_of (i := 2) rfl rfl, tblG_of (i := 323) rfl rfl, tblG_sel (q := (y_X0_topOf, 15)) (List.mem_of_getElem? (i := 8) rfl), ⟨by decide +kernel, by decide +kernel, by decide +kernel⟩⟩
def y_X0_cellOf : MethodName := ⟨"BrookStones$Brook", "cellOf", "(I)I"⟩
set_option maxRecDepth 100000 in
theorem mi_X0_cellOf : Jvm.Cond.code y_X0_cellOf prog_2_method_14_code 3 (some .int) ∈ tblG ∧ Jvm.Cond.initialized y_X0_cellOf.cls ∈ tblG ∧ Jvm.Cond.instanceMethod y_X0_cellOf ∈ tblG ∧ Jvm.Cond.selects y_X0_cellOf.cls y_X0_cellOf y_X0_cellOf ∈ tblG ∧ pl3 y_X0_cellOf 1 := ⟨tblG_of (i := 361) rfl rfl, tblG_of (i := 2) rfl rfl, tblG_of (i := 360) rfl rfl, tblG_sel (q := (y_X0_cellOf, 15)) (List.mem_of_getElem? (i := 13) rfl), ⟨by decide +kernel, by decide +kernel, by decide +kernel⟩⟩
def y_X0_takeUp : MethodName := ⟨"BrookStones$Brook", "takeUp", "(I)V"⟩
set_option maxRecDepth 100000 in
theorem mi_X0_takeUp : Jvm.Cond.code y_X0_takeUp prog_2_method_15_code 3 (none) ∈ tblG ∧ Jvm.Cond.initialized y_X0_takeUp.cls ∈ tblG ∧ Jvm.Cond.instanceMethod y_X0_takeUp ∈ tblG ∧ Jvm.Cond.selects y_X0_takeUp.cls y_X0_takeUp y_X0_takeUp ∈ tblG ∧ pl3 y_X0_takeUp 1 := ⟨tblG_of (i := 369) rfl rfl, tblG_of (i := 2) rfl rfl, tblG_of (i := 368) rfl rfl, tblG_sel (q := (y_X0_takeUp, 15)) (List.mem_of_getElem? (i := 14) rfl), ⟨by decide +kernel, by decide +kernel, by decide +kernel⟩⟩
def y_X0_loseStonesOf : MethodName := ⟨"BrookStones$Brook", "loseStonesOf", "(I)V"⟩
set_option maxRecDepth 100000 in
theorem mi_X0_loseStonesOf : Jvm.Cond.code y_X0_loseStonesOf prog_2_method_16_code 3 (none) ∈ tblG ∧ Jvm.Cond.initialized y_X0_loseStonesOf.cls ∈ tblG ∧ Jvm.Cond.instanceMethod y_X0_loseStonesOf ∈ tblG ∧ Jvm.Cond.selects y_X0_loseStonesOf.cls y_X0_loseStonesOf y_X0_loseStonesOf ∈ tblG ∧ pl3 y_X0_loseStonesOf 1 := ⟨tblG_of (i := 505) rfl rfl, tblG_of (i := 2) rfl rfl, tblG_of (i := 504) rfl rfl, tblG_sel (q := (y_X0_loseStonesOf, 15)) (List.mem_of_getElem? (i := 30) rfl), ⟨by decide +kernel, by decide +kernel, by decide +kernel⟩⟩
def y_X0_filled : MethodName := ⟨"BrookStones$Brook", "filled", "()I"⟩
set_option maxRecDepth 100000 in
theorem mi_X0_filled : Jvm.Cond.code y_X0_filled prog_2_method_17_code 1 (some .int) ∈ tblG ∧ Jvm.Cond.initialized y_X0_filled.cls ∈ tblG ∧ Jvm.Cond.instanceMethod y_X0_filled ∈ tblG ∧ Jvm.Cond.selects y_X0_filled.cls y_X0_filled y_X0_filled ∈ tblG ∧ pl3 y_X0_filled 0 := ⟨tblG_of (i := 402) rfl rfl, tblG_of (i := 2) rfl rfl, tblG_of (i := 401) rfl rfl, tblG_sel (q := (y_X0_filled, 15)) (List.mem_of_getElem? (i := 18) rfl), ⟨by decide +kernel, by decide +kernel, by decide +kernel⟩⟩
def y_X0_ofKind : MethodName := ⟨"BrookStones$Brook", "ofKind", "(I)I"⟩
set_option maxRecDepth 100000 in
theorem mi_X0_ofKind : Jvm.Cond.code y_X0_ofKind prog_2_method_18_code 4 (some .int) ∈ tblG ∧ Jvm.Cond.initialized y_X0_ofKind.cls ∈ tblG ∧ Jvm.Cond.instanceMethod y_X0_ofKind ∈ tblG ∧ Jvm.Cond.selects y_X0_ofKind.cls y_X0_ofKind y_X0_ofKind ∈ tblG ∧ pl3 y_X0_ofKind 1 := ⟨tblG_of (i := 406) rfl rfl, tblG_of (i := 2) rfl rfl, tblG_of (i := 405) rfl rfl, tblG_sel (q := (y_X0_ofKind, 15)) (List.mem_of_getElem? (i := 19) rfl), ⟨by decide +kernel, by decide +kernel, by decide +kernel⟩⟩
def y_X0_dry : MethodName := ⟨"BrookStones$Brook", "dry", "(I)I"⟩
set_option maxRecDepth 100000 in
theorem mi_X0_dry : Jvm.Cond.code y_X0_dry prog_2_method_19_code 4 (some .int) ∈ tblG ∧ Jvm.Cond.initialized y_X0_dry.cls ∈ tblG ∧ Jvm.Cond.instanceMethod y_X0_dry ∈ tblG ∧ Jvm.Cond.selects y_X0_dry.cls y_X0_dry y_X0_dry ∈ tblG ∧ pl3 y_X0_dry 1 := ⟨tblG_of (i := 418) rfl rfl, tblG_of (i := 2) rfl rfl, tblG_of (i := 417) rfl rfl, tblG_sel (q := (y_X0_dry, 15)) (List.mem_of_getElem? (i := 22) rfl), ⟨by decide +kernel, by decide +kernel, by decide +kernel⟩⟩
def y_X0_isCrossed : MethodName := ⟨"BrookStones$Brook", "isCrossed", "(III)Z"⟩
set_option maxRecDepth 100000 in
theorem mi_X0_isCrossed : Jvm.Cond.code y_X0_isCrossed prog_2_method_20_code 4 (some .boolean) ∈ tblG ∧ Jvm.Cond.initialized y_X0_isCrossed.cls ∈ tblG ∧ Jvm.Cond.instanceMethod y_X0_isCrossed ∈ tblG ∧ Jvm.Cond.selects y_X0_isCrossed.cls y_X0_isCrossed y_X0_isCrossed ∈ tblG ∧ pl3 y_X0_isCrossed 3 := ⟨tblG_of (i := 414) rfl rfl, tblG_of (i := 2) rfl rfl, tblG_of (i := 413) rfl rfl, tblG_sel (q := (y_X0_isCrossed, 15)) (List.mem_of_getElem? (i := 21) rfl), ⟨by decide +kernel, by decide +kernel, by decide +kernel⟩⟩
def y_X1_init : MethodName := ⟨"BrookStones$Flood", "<init>", "()V"⟩
set_option maxRecDepth 100000 in
theorem mi_X1_init : Jvm.Cond.code y_X1_init prog_3_method_1_code 1 (none) ∈ tblG ∧ Jvm.Cond.initialized y_X1_init.cls ∈ tblG ∧ Jvm.Cond.instanceMethod y_X1_init ∈ tblG ∧ pl3 y_X1_init 0 := ⟨tblG_of (i := 157) rfl rfl, tblG_of (i := 6) rfl rfl, tblG_of (i := 156) rfl rfl, ⟨by decide +kernel, by decide +kernel, by decide +kernel⟩⟩
def y_X1_run : MethodName := ⟨"BrookStones$Flood", "run", "(LBrookStones$Brook;III)V"⟩
set_option maxRecDepth 100000 in
theorem mi_X1_run : Jvm.Cond.code y_X1_run prog_3_method_2_code 7 (none) ∈ tblG ∧ Jvm.Cond.initialized y_X1_run.cls ∈ tblG ∧ Jvm.Cond.instanceMethod y_X1_run ∈ tblG ∧ Jvm.Cond.selects y_X1_run.cls y_X1_run y_X1_run ∈ tblG ∧ pl3 y_X1_run 4 := ⟨tblG_of (i := 478) rfl rfl, tblG_of (i := 6) rfl rfl, tblG_of (i := 477) rfl rfl, tblG_sel (q := (y_X1_run, 3)) (List.mem_of_getElem? (i := 28) rfl), ⟨by decide +kernel, by decide +kernel, by decide +kernel⟩⟩
def y_X1_goRound : MethodName := ⟨"BrookStones$Flood", "goRound", "(LBrookStones$Brook;III)Z"⟩
set_option maxRecDepth 100000 in
theorem mi_X1_goRound : Jvm.Cond.code y_X1_goRound prog_3_method_3_code 9 (some .boolean) ∈ tblG ∧ Jvm.Cond.initialized y_X1_goRound.cls ∈ tblG ∧ Jvm.Cond.instanceMethod y_X1_goRound ∈ tblG ∧ Jvm.Cond.selects y_X1_goRound.cls y_X1_goRound y_X1_goRound ∈ tblG ∧ pl3 y_X1_goRound 4 := ⟨tblG_of (i := 484) rfl rfl, tblG_of (i := 6) rfl rfl, tblG_of (i := 483) rfl rfl, tblG_sel (q := (y_X1_goRound, 3)) (List.mem_of_getElem? (i := 29) rfl), ⟨by decide +kernel, by decide +kernel, by decide +kernel⟩⟩
def y_X1_digging : MethodName := ⟨"BrookStones$Flood", "digging", "(LBrookStones$Brook;IIII)I"⟩
set_option maxRecDepth 100000 in
theorem mi_X1_digging : Jvm.Cond.code y_X1_digging prog_3_method_4_code 9 (some .int) ∈ tblG ∧ Jvm.Cond.initialized y_X1_digging.cls ∈ tblG ∧ Jvm.Cond.static y_X1_digging ∈ tblG ∧ pl3 y_X1_digging 5 := ⟨tblG_of (i := 488) rfl rfl, tblG_of (i := 6) rfl rfl, tblG_of (i := 487) rfl rfl, ⟨by decide +kernel, by decide +kernel, by decide +kernel⟩⟩
def y_X2_init : MethodName := ⟨"BrookStones$Layings", "<init>", "()V"⟩
set_option maxRecDepth 100000 in
theorem mi_X2_init : Jvm.Cond.code y_X2_init prog_4_method_1_code 1 (none) ∈ tblG ∧ Jvm.Cond.initialized y_X2_init.cls ∈ tblG ∧ Jvm.Cond.instanceMethod y_X2_init ∈ tblG ∧ pl3 y_X2_init 0 := ⟨tblG_of (i := 210) rfl rfl, tblG_of (i := 8) rfl rfl, tblG_of (i := 209) rfl rfl, ⟨by decide +kernel, by decide +kernel, by decide +kernel⟩⟩
def y_X2_count : MethodName := ⟨"BrookStones$Layings", "count", "(LBrookStones$Brook;I)I"⟩
set_option maxRecDepth 100000 in
theorem mi_X2_count : Jvm.Cond.code y_X2_count prog_4_method_2_code 4 (some .int) ∈ tblG ∧ Jvm.Cond.initialized y_X2_count.cls ∈ tblG ∧ Jvm.Cond.instanceMethod y_X2_count ∈ tblG ∧ Jvm.Cond.selects y_X2_count.cls y_X2_count y_X2_count ∈ tblG ∧ pl3 y_X2_count 2 := ⟨tblG_of (i := 599) rfl rfl, tblG_of (i := 8) rfl rfl, tblG_of (i := 598) rfl rfl, tblG_sel (q := (y_X2_count, 2)) (List.mem_of_getElem? (i := 44) rfl), ⟨by decide +kernel, by decide +kernel, by decide +kernel⟩⟩
def y_X2_waysFrom : MethodName := ⟨"BrookStones$Layings", "waysFrom", "(LBrookStones$Brook;II)I"⟩
set_option maxRecDepth 100000 in
theorem mi_X2_waysFrom : Jvm.Cond.code y_X2_waysFrom prog_4_method_3_code 7 (some .int) ∈ tblG ∧ Jvm.Cond.initialized y_X2_waysFrom.cls ∈ tblG ∧ Jvm.Cond.instanceMethod y_X2_waysFrom ∈ tblG ∧ Jvm.Cond.selects y_X2_waysFrom.cls y_X2_waysFrom y_X2_waysFrom ∈ tblG ∧ pl3 y_X2_waysFrom 3 := ⟨tblG_of (i := 604) rfl rfl, tblG_of (i := 8) rfl rfl, tblG_of (i := 603) rfl rfl, tblG_sel (q := (y_X2_waysFrom, 2)) (List.mem_of_getElem? (i := 45) rfl), ⟨by decide +kernel, by decide +kernel, by decide +kernel⟩⟩
def y_X2_layable : MethodName := ⟨"BrookStones$Layings", "layable", "(LBrookStones$Brook;II)I"⟩
set_option maxRecDepth 100000 in
theorem mi_X2_layable : Jvm.Cond.code y_X2_layable prog_4_method_4_code 9 (some .int) ∈ tblG ∧ Jvm.Cond.initialized y_X2_layable.cls ∈ tblG ∧ Jvm.Cond.instanceMethod y_X2_layable ∈ tblG ∧ Jvm.Cond.selects y_X2_layable.cls y_X2_layable y_X2_layable ∈ tblG ∧ pl3 y_X2_layable 3 := ⟨tblG_of (i := 608) rfl rfl, tblG_of (i := 8) rfl rfl, tblG_of (i := 607) rfl rfl, tblG_sel (q := (y_X2_layable, 2)) (List.mem_of_getElem? (i := 46) rfl), ⟨by decide +kernel, by decide +kernel, by decide +kernel⟩⟩
def y_X2_cellOfFirst : MethodName := ⟨"BrookStones$Layings", "cellOfFirst", "(LBrookStones$Brook;II)I"⟩
set_option maxRecDepth 100000 in
theorem mi_X2_cellOfFirst : Jvm.Cond.code y_X2_cellOfFirst prog_4_method_5_code 7 (some .int) ∈ tblG ∧ Jvm.Cond.initialized y_X2_cellOfFirst.cls ∈ tblG ∧ Jvm.Cond.instanceMethod y_X2_cellOfFirst ∈ tblG ∧ Jvm.Cond.selects y_X2_cellOfFirst.cls y_X2_cellOfFirst y_X2_cellOfFirst ∈ tblG ∧ pl3 y_X2_cellOfFirst 3 := ⟨tblG_of (i := 620) rfl rfl, tblG_of (i := 8) rfl rfl, tblG_of (i := 619) rfl rfl, tblG_sel (q := (y_X2_cellOfFirst, 2)) (List.mem_of_getElem? (i := 47) rfl), ⟨by decide +kernel, by decide +kernel, by decide +kernel⟩⟩
def y_X2_firstThatGoesOn : MethodName := ⟨"BrookStones$Layings", "firstThatGoesOn", "(LBrookStones$Brook;II)I"⟩
set_option maxRecDepth 100000 in
theorem mi_X2_firstThatGoesOn : Jvm.Cond.code y_X2_firstThatGoesOn prog_4_method_6_code 6 (some .int) ∈ tblG ∧ Jvm.Cond.initialized y_X2_firstThatGoesOn.cls ∈ tblG ∧ Jvm.Cond.instanceMethod y_X2_firstThatGoesOn ∈ tblG ∧ Jvm.Cond.selects y_X2_firstThatGoesOn.cls y_X2_firstThatGoesOn y_X2_firstThatGoesOn ∈ tblG ∧ pl3 y_X2_firstThatGoesOn 3 := ⟨tblG_of (i := 626) rfl rfl, tblG_of (i := 8) rfl rfl, tblG_of (i := 625) rfl rfl, tblG_sel (q := (y_X2_firstThatGoesOn, 2)) (List.mem_of_getElem? (i := 48) rfl), ⟨by decide +kernel, by decide +kernel, by decide +kernel⟩⟩
def y_X3_init : MethodName := ⟨"BrookStones$Planner", "<init>", "()V"⟩
set_option maxRecDepth 100000 in
theorem mi_X3_init : Jvm.Cond.code y_X3_init prog_5_method_1_code 1 (none) ∈ tblG ∧ Jvm.Cond.initialized y_X3_init.cls ∈ tblG ∧ Jvm.Cond.instanceMethod y_X3_init ∈ tblG ∧ pl3 y_X3_init 0 := ⟨tblG_of (i := 176) rfl rfl, tblG_of (i := 7) rfl rfl, tblG_of (i := 175) rfl rfl, ⟨by decide +kernel, by decide +kernel, by decide +kernel⟩⟩
def y_X3_find : MethodName := ⟨"BrookStones$Planner", "find", "(LBrookStones$Brook;III)V"⟩
set_option maxRecDepth 100000 in
theorem mi_X3_find : Jvm.Cond.code y_X3_find prog_5_method_2_code 6 (none) ∈ tblG ∧ Jvm.Cond.initialized y_X3_find.cls ∈ tblG ∧ Jvm.Cond.instanceMethod y_X3_find ∈ tblG ∧ Jvm.Cond.selects y_X3_find.cls y_X3_find y_X3_find ∈ tblG ∧ pl3 y_X3_find 4 := ⟨tblG_of (i := 524) rfl rfl, tblG_of (i := 7) rfl rfl, tblG_of (i := 523) rfl rfl, tblG_sel (q := (y_X3_find, 8)) (List.mem_of_getElem? (i := 31) rfl), ⟨by decide +kernel, by decide +kernel, by decide +kernel⟩⟩
def y_X3_isFound : MethodName := ⟨"BrookStones$Planner", "isFound", "()Z"⟩
set_option maxRecDepth 100000 in
theorem mi_X3_isFound : Jvm.Cond.code y_X3_isFound prog_5_method_3_code 1 (some .boolean) ∈ tblG ∧ Jvm.Cond.initialized y_X3_isFound.cls ∈ tblG ∧ Jvm.Cond.instanceMethod y_X3_isFound ∈ tblG ∧ Jvm.Cond.selects y_X3_isFound.cls y_X3_isFound y_X3_isFound ∈ tblG ∧ pl3 y_X3_isFound 0 := ⟨tblG_of (i := 583) rfl rfl, tblG_of (i := 7) rfl rfl, tblG_of (i := 582) rfl rfl, tblG_sel (q := (y_X3_isFound, 8)) (List.mem_of_getElem? (i := 41) rfl), ⟨by decide +kernel, by decide +kernel, by decide +kernel⟩⟩
def y_X3_bestWork : MethodName := ⟨"BrookStones$Planner", "bestWork", "()I"⟩
set_option maxRecDepth 100000 in
theorem mi_X3_bestWork : Jvm.Cond.code y_X3_bestWork prog_5_method_4_code 1 (some .int) ∈ tblG ∧ Jvm.Cond.initialized y_X3_bestWork.cls ∈ tblG ∧ Jvm.Cond.instanceMethod y_X3_bestWork ∈ tblG ∧ Jvm.Cond.selects y_X3_bestWork.cls y_X3_bestWork y_X3_bestWork ∈ tblG ∧ pl3 y_X3_bestWork 0 := ⟨tblG_of (i := 591) rfl rfl, tblG_of (i := 7) rfl rfl, tblG_of (i := 590) rfl rfl, tblG_sel (q := (y_X3_bestWork, 8)) (List.mem_of_getElem? (i := 43) rfl), ⟨by decide +kernel, by decide +kernel, by decide +kernel⟩⟩
def y_X3_bestMany : MethodName := ⟨"BrookStones$Planner", "bestMany", "()I"⟩
set_option maxRecDepth 100000 in
theorem mi_X3_bestMany : Jvm.Cond.code y_X3_bestMany prog_5_method_5_code 1 (some .int) ∈ tblG ∧ Jvm.Cond.initialized y_X3_bestMany.cls ∈ tblG ∧ Jvm.Cond.instanceMethod y_X3_bestMany ∈ tblG ∧ Jvm.Cond.selects y_X3_bestMany.cls y_X3_bestMany y_X3_bestMany ∈ tblG ∧ pl3 y_X3_bestMany 0 := ⟨tblG_of (i := 587) rfl rfl, tblG_of (i := 7) rfl rfl, tblG_of (i := 586) rfl rfl, tblG_sel (q := (y_X3_bestMany, 8)) (List.mem_of_getElem? (i := 42) rfl), ⟨by decide +kernel, by decide +kernel, by decide +kernel⟩⟩
def y_X3_usesOf : MethodName := ⟨"BrookStones$Planner", "usesOf", "(LBrookStones$Brook;I)I"⟩
set_option maxRecDepth 100000 in
theorem mi_X3_usesOf : Jvm.Cond.code y_X3_usesOf prog_5_method_6_code 5 (some .int) ∈ tblG ∧ Jvm.Cond.initialized y_X3_usesOf.cls ∈ tblG ∧ Jvm.Cond.instanceMethod y_X3_usesOf ∈ tblG ∧ Jvm.Cond.selects y_X3_usesOf.cls y_X3_usesOf y_X3_usesOf ∈ tblG ∧ pl3 y_X3_usesOf 2 := ⟨tblG_of (i := 530) rfl rfl, tblG_of (i := 7) rfl rfl, tblG_of (i := 529) rfl rfl, tblG_sel (q := (y_X3_usesOf, 8)) (List.mem_of_getElem? (i := 32) rfl), ⟨by decide +kernel, by decide +kernel, by decide +kernel⟩⟩
def y_X3_lookAhead : MethodName := ⟨"BrookStones$Planner", "lookAhead", "(LBrookStones$Brook;)V"⟩
set_option maxRecDepth 100000 in
theorem mi_X3_lookAhead : Jvm.Cond.code y_X3_lookAhead prog_5_method_7_code 4 (none) ∈ tblG ∧ Jvm.Cond.initialized y_X3_lookAhead.cls ∈ tblG ∧ Jvm.Cond.instanceMethod y_X3_lookAhead ∈ tblG ∧ Jvm.Cond.selects y_X3_lookAhead.cls y_X3_lookAhead y_X3_lookAhead ∈ tblG ∧ pl3 y_X3_lookAhead 1 := ⟨tblG_of (i := 541) rfl rfl, tblG_of (i := 7) rfl rfl, tblG_of (i := 540) rfl rfl, tblG_sel (q := (y_X3_lookAhead, 8)) (List.mem_of_getElem? (i := 34) rfl), ⟨by decide +kernel, by decide +kernel, by decide +kernel⟩⟩
def y_X3_leastFrom : MethodName := ⟨"BrookStones$Planner", "leastFrom", "(LBrookStones$Brook;II)I"⟩
set_option maxRecDepth 100000 in
theorem mi_X3_leastFrom : Jvm.Cond.code y_X3_leastFrom prog_5_method_8_code 7 (some .int) ∈ tblG ∧ Jvm.Cond.initialized y_X3_leastFrom.cls ∈ tblG ∧ Jvm.Cond.instanceMethod y_X3_leastFrom ∈ tblG ∧ Jvm.Cond.selects y_X3_leastFrom.cls y_X3_leastFrom y_X3_leastFrom ∈ tblG ∧ pl3 y_X3_leastFrom 3 := ⟨tblG_of (i := 547) rfl rfl, tblG_of (i := 7) rfl rfl, tblG_of (i := 546) rfl rfl, tblG_sel (q := (y_X3_leastFrom, 8)) (List.mem_of_getElem? (i := 35) rfl), ⟨by decide +kernel, by decide +kernel, by decide +kernel⟩⟩
def y_X3_layFrom : MethodName := ⟨"BrookStones$Planner", "layFrom", "(LBrookStones$Planner;LBrookStones$Brook;IIIII)V"⟩
set_option maxRecDepth 100000 in
theorem mi_X3_layFrom : Jvm.Cond.code y_X3_layFrom prog_5_method_9_code 10 (none) ∈ tblG ∧ Jvm.Cond.initialized y_X3_layFrom.cls ∈ tblG ∧ Jvm.Cond.static y_X3_layFrom ∈ tblG ∧ pl3 y_X3_layFrom 7 := ⟨tblG_of (i := 567) rfl rfl, tblG_of (i := 7) rfl rfl, tblG_of (i := 566) rfl rfl, ⟨by decide +kernel, by decide +kernel, by decide +kernel⟩⟩
def y_X3_take : MethodName := ⟨"BrookStones$Planner", "take", "(I)V"⟩
set_option maxRecDepth 100000 in
theorem mi_X3_take : Jvm.Cond.code y_X3_take prog_5_method_10_code 2 (none) ∈ tblG ∧ Jvm.Cond.initialized y_X3_take.cls ∈ tblG ∧ Jvm.Cond.instanceMethod y_X3_take ∈ tblG ∧ Jvm.Cond.selects y_X3_take.cls y_X3_take y_X3_take ∈ tblG ∧ pl3 y_X3_take 1 := ⟨tblG_of (i := 576) rfl rfl, tblG_of (i := 7) rfl rfl, tblG_of (i := 575) rfl rfl, tblG_sel (q := (y_X3_take, 8)) (List.mem_of_getElem? (i := 40) rfl), ⟨by decide +kernel, by decide +kernel, by decide +kernel⟩⟩
def y_X3_lastOnesStand : MethodName := ⟨"BrookStones$Planner", "lastOnesStand", "(LBrookStones$Brook;II)Z"⟩
set_option maxRecDepth 100000 in
theorem mi_X3_lastOnesStand : Jvm.Cond.code y_X3_lastOnesStand prog_5_method_11_code 5 (some .boolean) ∈ tblG ∧ Jvm.Cond.initialized y_X3_lastOnesStand.cls ∈ tblG ∧ Jvm.Cond.instanceMethod y_X3_lastOnesStand ∈ tblG ∧ Jvm.Cond.selects y_X3_lastOnesStand.cls y_X3_lastOnesStand y_X3_lastOnesStand ∈ tblG ∧ pl3 y_X3_lastOnesStand 3 := ⟨tblG_of (i := 571) rfl rfl, tblG_of (i := 7) rfl rfl, tblG_of (i := 570) rfl rfl, tblG_sel (q := (y_X3_lastOnesStand, 8)) (List.mem_of_getElem? (i := 39) rfl), ⟨by decide +kernel, by decide +kernel, by decide +kernel⟩⟩
def y_X3_helps : MethodName := ⟨"BrookStones$Planner", "helps", "(LBrookStones$Brook;III)Z"⟩
set_option maxRecDepth 100000 in
theorem mi_X3_helps : Jvm.Cond.code y_X3_helps prog_5_method_12_code 5 (some .boolean) ∈ tblG ∧ Jvm.Cond.initialized y_X3_helps.cls ∈ tblG ∧ Jvm.Cond.instanceMethod y_X3_helps ∈ tblG ∧ Jvm.Cond.selects y_X3_helps.cls y_X3_helps y_X3_helps ∈ tblG ∧ pl3 y_X3_helps 4 := ⟨tblG_of (i := 551) rfl rfl, tblG_of (i := 7) rfl rfl, tblG_of (i := 550) rfl rfl, tblG_sel (q := (y_X3_helps, 8)) (List.mem_of_getElem? (i := 36) rfl), ⟨by decide +kernel, by decide +kernel, by decide +kernel⟩⟩
def y_X3_farBehind : MethodName := ⟨"BrookStones$Planner", "farBehind", "(LBrookStones$Brook;II)I"⟩
set_option maxRecDepth 100000 in
theorem mi_X3_farBehind : Jvm.Cond.code y_X3_farBehind prog_5_method_13_code 4 (some .int) ∈ tblG ∧ Jvm.Cond.initialized y_X3_farBehind.cls ∈ tblG ∧ Jvm.Cond.instanceMethod y_X3_farBehind ∈ tblG ∧ Jvm.Cond.selects y_X3_farBehind.cls y_X3_farBehind y_X3_farBehind ∈ tblG ∧ pl3 y_X3_farBehind 3 := ⟨tblG_of (i := 559) rfl rfl, tblG_of (i := 7) rfl rfl, tblG_of (i := 558) rfl rfl, tblG_sel (q := (y_X3_farBehind, 8)) (List.mem_of_getElem? (i := 38) rfl), ⟨by decide +kernel, by decide +kernel, by decide +kernel⟩⟩
def y_X3_costOf : MethodName := ⟨"BrookStones$Planner", "costOf", "(LBrookStones$Brook;II)I"⟩
set_option maxRecDepth 100000 in
theorem mi_X3_costOf : Jvm.Cond.code y_X3_costOf prog_5_method_14_code 3 (some .int) ∈ tblG ∧ Jvm.Cond.initialized y_X3_costOf.cls ∈ tblG ∧ Jvm.Cond.static y_X3_costOf ∈ tblG ∧ pl3 y_X3_costOf 3 := ⟨tblG_of (i := 563) rfl rfl, tblG_of (i := 7) rfl rfl, tblG_of (i := 562) rfl rfl, ⟨by decide +kernel, by decide +kernel, by decide +kernel⟩⟩
def y_X3_outlasts : MethodName := ⟨"BrookStones$Planner", "outlasts", "(LBrookStones$Brook;III)Z"⟩
set_option maxRecDepth 100000 in
theorem mi_X3_outlasts : Jvm.Cond.code y_X3_outlasts prog_5_method_15_code 5 (some .boolean) ∈ tblG ∧ Jvm.Cond.initialized y_X3_outlasts.cls ∈ tblG ∧ Jvm.Cond.instanceMethod y_X3_outlasts ∈ tblG ∧ Jvm.Cond.selects y_X3_outlasts.cls y_X3_outlasts y_X3_outlasts ∈ tblG ∧ pl3 y_X3_outlasts 4 := ⟨tblG_of (i := 535) rfl rfl, tblG_of (i := 7) rfl rfl, tblG_of (i := 534) rfl rfl, tblG_sel (q := (y_X3_outlasts, 8)) (List.mem_of_getElem? (i := 33) rfl), ⟨by decide +kernel, by decide +kernel, by decide +kernel⟩⟩
def y_X4_init : MethodName := ⟨"BrookStones$Sheets", "<init>", "()V"⟩
set_option maxRecDepth 100000 in
theorem mi_X4_init : Jvm.Cond.code y_X4_init prog_6_method_1_code 1 (none) ∈ tblG ∧ Jvm.Cond.initialized y_X4_init.cls ∈ tblG ∧ Jvm.Cond.instanceMethod y_X4_init ∈ tblG ∧ pl3 y_X4_init 0 := ⟨tblG_of (i := 112) rfl rfl, tblG_of (i := 4) rfl rfl, tblG_of (i := 111) rfl rfl, ⟨by decide +kernel, by decide +kernel, by decide +kernel⟩⟩
def y_X4_isSheet : MethodName := ⟨"BrookStones$Sheets", "isSheet", "(I)Z"⟩
set_option maxRecDepth 100000 in
theorem mi_X4_isSheet : Jvm.Cond.code y_X4_isSheet prog_6_method_2_code 1 (some .boolean) ∈ tblG ∧ Jvm.Cond.initialized y_X4_isSheet.cls ∈ tblG ∧ Jvm.Cond.static y_X4_isSheet ∈ tblG ∧ pl3 y_X4_isSheet 1 := ⟨tblG_of (i := 254) rfl rfl, tblG_of (i := 4) rfl rfl, tblG_of (i := 253) rfl rfl, ⟨by decide +kernel, by decide +kernel, by decide +kernel⟩⟩
def y_X4_isSort : MethodName := ⟨"BrookStones$Sheets", "isSort", "(I)Z"⟩
set_option maxRecDepth 100000 in
theorem mi_X4_isSort : Jvm.Cond.code y_X4_isSort prog_6_method_3_code 1 (some .boolean) ∈ tblG ∧ Jvm.Cond.initialized y_X4_isSort.cls ∈ tblG ∧ Jvm.Cond.static y_X4_isSort ∈ tblG ∧ pl3 y_X4_isSort 1 := ⟨tblG_of (i := 260) rfl rfl, tblG_of (i := 4) rfl rfl, tblG_of (i := 259) rfl rfl, ⟨by decide +kernel, by decide +kernel, by decide +kernel⟩⟩
def y_X4_isThere : MethodName := ⟨"BrookStones$Sheets", "isThere", "(I)Z"⟩
set_option maxRecDepth 100000 in
theorem mi_X4_isThere : Jvm.Cond.code y_X4_isThere prog_6_method_4_code 2 (some .boolean) ∈ tblG ∧ Jvm.Cond.initialized y_X4_isThere.cls ∈ tblG ∧ Jvm.Cond.instanceMethod y_X4_isThere ∈ tblG ∧ Jvm.Cond.selects y_X4_isThere.cls y_X4_isThere y_X4_isThere ∈ tblG ∧ pl3 y_X4_isThere 1 := ⟨tblG_of (i := 268) rfl rfl, tblG_of (i := 4) rfl rfl, tblG_of (i := 267) rfl rfl, tblG_sel (q := (y_X4_isThere, 3)) (List.mem_of_getElem? (i := 2) rfl), ⟨by decide +kernel, by decide +kernel, by decide +kernel⟩⟩
def y_X4_clear : MethodName := ⟨"BrookStones$Sheets", "clear", "(I)V"⟩
set_option maxRecDepth 100000 in
theorem mi_X4_clear : Jvm.Cond.code y_X4_clear prog_6_method_5_code 2 (none) ∈ tblG ∧ Jvm.Cond.initialized y_X4_clear.cls ∈ tblG ∧ Jvm.Cond.instanceMethod y_X4_clear ∈ tblG ∧ Jvm.Cond.selects y_X4_clear.cls y_X4_clear y_X4_clear ∈ tblG ∧ pl3 y_X4_clear 1 := ⟨tblG_of (i := 669) rfl rfl, tblG_of (i := 4) rfl rfl, tblG_of (i := 668) rfl rfl, tblG_sel (q := (y_X4_clear, 3)) (List.mem_of_getElem? (i := 52) rfl), ⟨by decide +kernel, by decide +kernel, by decide +kernel⟩⟩
def y_X4_renew : MethodName := ⟨"BrookStones$Sheets", "renew", "(III)V"⟩
set_option maxRecDepth 100000 in
theorem mi_X4_renew : Jvm.Cond.code y_X4_renew prog_6_method_6_code 5 (none) ∈ tblG ∧ Jvm.Cond.initialized y_X4_renew.cls ∈ tblG ∧ Jvm.Cond.instanceMethod y_X4_renew ∈ tblG ∧ Jvm.Cond.selects y_X4_renew.cls y_X4_renew y_X4_renew ∈ tblG ∧ pl3 y_X4_renew 3 := ⟨tblG_of (i := 654) rfl rfl, tblG_of (i := 4) rfl rfl, tblG_of (i := 653) rfl rfl, tblG_sel (q := (y_X4_renew, 3)) (List.mem_of_getElem? (i := 51) rfl), ⟨by decide +kernel, by decide +kernel, by decide +kernel⟩⟩
def y_X4_at : MethodName := ⟨"BrookStones$Sheets", "at", "(II)I"⟩
set_option maxRecDepth 100000 in
theorem mi_X4_at : Jvm.Cond.code y_X4_at prog_6_method_7_code 3 (some .int) ∈ tblG ∧ Jvm.Cond.initialized y_X4_at.cls ∈ tblG ∧ Jvm.Cond.instanceMethod y_X4_at ∈ tblG ∧ Jvm.Cond.selects y_X4_at.cls y_X4_at y_X4_at ∈ tblG ∧ pl3 y_X4_at 2 := ⟨tblG_of (i := 286) rfl rfl, tblG_of (i := 4) rfl rfl, tblG_of (i := 285) rfl rfl, tblG_sel (q := (y_X4_at, 3)) (List.mem_of_getElem? (i := 5) rfl), ⟨by decide +kernel, by decide +kernel, by decide +kernel⟩⟩
def y_X4_write : MethodName := ⟨"BrookStones$Sheets", "write", "(III)V"⟩
set_option maxRecDepth 100000 in
theorem mi_X4_write : Jvm.Cond.code y_X4_write prog_6_method_8_code 4 (none) ∈ tblG ∧ Jvm.Cond.initialized y_X4_write.cls ∈ tblG ∧ Jvm.Cond.instanceMethod y_X4_write ∈ tblG ∧ Jvm.Cond.selects y_X4_write.cls y_X4_write y_X4_write ∈ tblG ∧ pl3 y_X4_write 3 := ⟨tblG_of (i := 677) rfl rfl, tblG_of (i := 4) rfl rfl, tblG_of (i := 676) rfl rfl, tblG_sel (q := (y_X4_write, 3)) (List.mem_of_getElem? (i := 53) rfl), ⟨by decide +kernel, by decide +kernel, by decide +kernel⟩⟩
def y_X4_cut : MethodName := ⟨"BrookStones$Sheets", "cut", "(II)I"⟩
set_option maxRecDepth 100000 in
theorem mi_X4_cut : Jvm.Cond.code y_X4_cut prog_6_method_9_code 2 (some .int) ∈ tblG ∧ Jvm.Cond.initialized y_X4_cut.cls ∈ tblG ∧ Jvm.Cond.static y_X4_cut ∈ tblG ∧ pl3 y_X4_cut 2 := ⟨tblG_of (i := 680) rfl rfl, tblG_of (i := 4) rfl rfl, tblG_of (i := 679) rfl rfl, ⟨by decide +kernel, by decide +kernel, by decide +kernel⟩⟩
def y_X4_move : MethodName := ⟨"BrookStones$Sheets", "move", "(IIIII)V"⟩
set_option maxRecDepth 100000 in
theorem mi_X4_move : Jvm.Cond.code y_X4_move prog_6_method_10_code 6 (none) ∈ tblG ∧ Jvm.Cond.initialized y_X4_move.cls ∈ tblG ∧ Jvm.Cond.instanceMethod y_X4_move ∈ tblG ∧ Jvm.Cond.selects y_X4_move.cls y_X4_move y_X4_move ∈ tblG ∧ pl3 y_X4_move 5 := ⟨tblG_of (i := 693) rfl rfl, tblG_of (i := 4) rfl rfl, tblG_of (i := 692) rfl rfl, tblG_sel (q := (y_X4_move, 3)) (List.mem_of_getElem? (i := 54) rfl), ⟨by decide +kernel, by decide +kernel, by decide +kernel⟩⟩
def y_X4_reaches : MethodName := ⟨"BrookStones$Sheets", "reaches", "(III)Z"⟩
set_option maxRecDepth 100000 in
theorem mi_X4_reaches : Jvm.Cond.code y_X4_reaches prog_6_method_11_code 4 (some .boolean) ∈ tblG ∧ Jvm.Cond.initialized y_X4_reaches.cls ∈ tblG ∧ Jvm.Cond.instanceMethod y_X4_reaches ∈ tblG ∧ Jvm.Cond.selects y_X4_reaches.cls y_X4_reaches y_X4_reaches ∈ tblG ∧ pl3 y_X4_reaches 3 := ⟨tblG_of (i := 272) rfl rfl, tblG_of (i := 4) rfl rfl, tblG_of (i := 271) rfl rfl, tblG_sel (q := (y_X4_reaches, 3)) (List.mem_of_getElem? (i := 3) rfl), ⟨by decide +kernel, by decide +kernel, by decide +kernel⟩⟩
def y_X4_faultOfCells : MethodName := ⟨"BrookStones$Sheets", "faultOfCells", "(IIII)I"⟩
set_option maxRecDepth 100000 in
theorem mi_X4_faultOfCells : Jvm.Cond.code y_X4_faultOfCells prog_6_method_12_code 5 (some .int) ∈ tblG ∧ Jvm.Cond.initialized y_X4_faultOfCells.cls ∈ tblG ∧ Jvm.Cond.instanceMethod y_X4_faultOfCells ∈ tblG ∧ Jvm.Cond.selects y_X4_faultOfCells.cls y_X4_faultOfCells y_X4_faultOfCells ∈ tblG ∧ pl3 y_X4_faultOfCells 4 := ⟨tblG_of (i := 264) rfl rfl, tblG_of (i := 4) rfl rfl, tblG_of (i := 263) rfl rfl, tblG_sel (q := (y_X4_faultOfCells, 3)) (List.mem_of_getElem? (i := 1) rfl), ⟨by decide +kernel, by decide +kernel, by decide +kernel⟩⟩
def y_X4_areWithin : MethodName := ⟨"BrookStones$Sheets", "areWithin", "(IIII)Z"⟩
set_option maxRecDepth 100000 in
theorem mi_X4_areWithin : Jvm.Cond.code y_X4_areWithin prog_6_method_13_code 6 (some .boolean) ∈ tblG ∧ Jvm.Cond.initialized y_X4_areWithin.cls ∈ tblG ∧ Jvm.Cond.instanceMethod y_X4_areWithin ∈ tblG ∧ Jvm.Cond.selects y_X4_areWithin.cls y_X4_areWithin y_X4_areWithin ∈ tblG ∧ pl3 y_X4_areWithin 4 := ⟨tblG_of (i := 465) rfl rfl, tblG_of (i := 4) rfl rfl, tblG_of (i := 464) rfl rfl, tblG_sel (q := (y_X4_areWithin, 3)) (List.mem_of_getElem? (i := 27) rfl), ⟨by decide +kernel, by decide +kernel, by decide +kernel⟩⟩
def y_X4_sum : MethodName := ⟨"BrookStones$Sheets", "sum", "(III)I"⟩
set_option maxRecDepth 100000 in
theorem mi_X4_sum : Jvm.Cond.code y_X4_sum prog_6_method_14_code 6 (some .int) ∈ tblG ∧ Jvm.Cond.initialized y_X4_sum.cls ∈ tblG ∧ Jvm.Cond.instanceMethod y_X4_sum ∈ tblG ∧ Jvm.Cond.selects y_X4_sum.cls y_X4_sum y_X4_sum ∈ tblG ∧ pl3 y_X4_sum 3 := ⟨tblG_of (i := 639) rfl rfl, tblG_of (i := 4) rfl rfl, tblG_of (i := 638) rfl rfl, tblG_sel (q := (y_X4_sum, 3)) (List.mem_of_getElem? (i := 49) rfl), ⟨by decide +kernel, by decide +kernel, by decide +kernel⟩⟩
def y_X5_firstFault : MethodName := ⟨"BrookStones$Text", "firstFault", "(LBrookStones$Sheets;III)I"⟩
set_option maxRecDepth 100000 in
theorem mi_X5_firstFault : Jvm.Cond.code y_X5_firstFault prog_7_method_2_code 7 (some .int) ∈ tblG ∧ Jvm.Cond.initialized y_X5_firstFault.cls ∈ tblG ∧ Jvm.Cond.static y_X5_firstFault ∈ tblG ∧ pl3 y_X5_firstFault 4 := ⟨tblG_of (i := 279) rfl rfl, tblG_of (i := 10) rfl rfl, tblG_of (i := 278) rfl rfl, ⟨by decide +kernel, by decide +kernel, by decide +kernel⟩⟩
def y_X5_readInto : MethodName := ⟨"BrookStones$Text", "readInto", "(LBrookStones$Brook;LBrookStones$Sheets;III)V"⟩
set_option maxRecDepth 100000 in
theorem mi_X5_readInto : Jvm.Cond.code y_X5_readInto prog_7_method_3_code 7 (none) ∈ tblG ∧ Jvm.Cond.initialized y_X5_readInto.cls ∈ tblG ∧ Jvm.Cond.static y_X5_readInto ∈ tblG ∧ pl3 y_X5_readInto 5 := ⟨tblG_of (i := 309) rfl rfl, tblG_of (i := 10) rfl rfl, tblG_of (i := 308) rfl rfl, ⟨by decide +kernel, by decide +kernel, by decide +kernel⟩⟩
def y_X5_length : MethodName := ⟨"BrookStones$Text", "length", "(I)I"⟩
set_option maxRecDepth 100000 in
theorem mi_X5_length : Jvm.Cond.code y_X5_length prog_7_method_4_code 1 (some .int) ∈ tblG ∧ Jvm.Cond.initialized y_X5_length.cls ∈ tblG ∧ Jvm.Cond.static y_X5_length ∈ tblG ∧ pl3 y_X5_length 1 := ⟨tblG_of (i := 296) rfl rfl, tblG_of (i := 10) rfl rfl, tblG_of (i := 295) rfl rfl, ⟨by decide +kernel, by decide +kernel, by decide +kernel⟩⟩
def y_X5_cellsTold : MethodName := ⟨"BrookStones$Text", "cellsTold", "(LBrookStones$Sheets;III)I"⟩
set_option maxRecDepth 100000 in
theorem mi_X5_cellsTold : Jvm.Cond.code y_X5_cellsTold prog_7_method_5_code 5 (some .int) ∈ tblG ∧ Jvm.Cond.initialized y_X5_cellsTold.cls ∈ tblG ∧ Jvm.Cond.static y_X5_cellsTold ∈ tblG ∧ pl3 y_X5_cellsTold 4 := ⟨tblG_of (i := 282) rfl rfl, tblG_of (i := 10) rfl rfl, tblG_of (i := 281) rfl rfl, ⟨by decide +kernel, by decide +kernel, by decide +kernel⟩⟩
def y_X5_goesOn : MethodName := ⟨"BrookStones$Text", "goesOn", "(III)Z"⟩
set_option maxRecDepth 100000 in
theorem mi_X5_goesOn : Jvm.Cond.code y_X5_goesOn prog_7_method_6_code 3 (some .boolean) ∈ tblG ∧ Jvm.Cond.initialized y_X5_goesOn.cls ∈ tblG ∧ Jvm.Cond.static y_X5_goesOn ∈ tblG ∧ pl3 y_X5_goesOn 3 := ⟨tblG_of (i := 299) rfl rfl, tblG_of (i := 10) rfl rfl, tblG_of (i := 298) rfl rfl, ⟨by decide +kernel, by decide +kernel, by decide +kernel⟩⟩
def y_X5_isDigit : MethodName := ⟨"BrookStones$Text", "isDigit", "(I)Z"⟩
set_option maxRecDepth 100000 in
theorem mi_X5_isDigit : Jvm.Cond.code y_X5_isDigit prog_7_method_7_code 1 (some .boolean) ∈ tblG ∧ Jvm.Cond.initialized y_X5_isDigit.cls ∈ tblG ∧ Jvm.Cond.static y_X5_isDigit ∈ tblG ∧ pl3 y_X5_isDigit 1 := ⟨tblG_of (i := 289) rfl rfl, tblG_of (i := 10) rfl rfl, tblG_of (i := 288) rfl rfl, ⟨by decide +kernel, by decide +kernel, by decide +kernel⟩⟩
def y_X6_init : MethodName := ⟨"BrookStones$Way", "<init>", "()V"⟩
set_option maxRecDepth 100000 in
theorem mi_X6_init : Jvm.Cond.code y_X6_init prog_8_method_1_code 1 (none) ∈ tblG ∧ Jvm.Cond.initialized y_X6_init.cls ∈ tblG ∧ Jvm.Cond.instanceMethod y_X6_init ∈ tblG ∧ pl3 y_X6_init 0 := ⟨tblG_of (i := 131) rfl rfl, tblG_of (i := 5) rfl rfl, tblG_of (i := 130) rfl rfl, ⟨by decide +kernel, by decide +kernel, by decide +kernel⟩⟩
def y_X6_find : MethodName := ⟨"BrookStones$Way", "find", "(LBrookStones$Brook;I)I"⟩
set_option maxRecDepth 100000 in
theorem mi_X6_find : Jvm.Cond.code y_X6_find prog_8_method_2_code 5 (some .int) ∈ tblG ∧ Jvm.Cond.initialized y_X6_find.cls ∈ tblG ∧ Jvm.Cond.instanceMethod y_X6_find ∈ tblG ∧ Jvm.Cond.selects y_X6_find.cls y_X6_find y_X6_find ∈ tblG ∧ pl3 y_X6_find 2 := ⟨tblG_of (i := 430) rfl rfl, tblG_of (i := 5) rfl rfl, tblG_of (i := 429) rfl rfl, tblG_sel (q := (y_X6_find, 6)) (List.mem_of_getElem? (i := 23) rfl), ⟨by decide +kernel, by decide +kernel, by decide +kernel⟩⟩
def y_X6_fewestFrom : MethodName := ⟨"BrookStones$Way", "fewestFrom", "(I)I"⟩
set_option maxRecDepth 100000 in
theorem mi_X6_fewestFrom : Jvm.Cond.code y_X6_fewestFrom prog_8_method_3_code 4 (some .int) ∈ tblG ∧ Jvm.Cond.initialized y_X6_fewestFrom.cls ∈ tblG ∧ Jvm.Cond.instanceMethod y_X6_fewestFrom ∈ tblG ∧ Jvm.Cond.selects y_X6_fewestFrom.cls y_X6_fewestFrom y_X6_fewestFrom ∈ tblG ∧ pl3 y_X6_fewestFrom 1 := ⟨tblG_of (i := 436) rfl rfl, tblG_of (i := 5) rfl rfl, tblG_of (i := 435) rfl rfl, tblG_sel (q := (y_X6_fewestFrom, 6)) (List.mem_of_getElem? (i := 24) rfl), ⟨by decide +kernel, by decide +kernel, by decide +kernel⟩⟩
def y_X6_firstBehind : MethodName := ⟨"BrookStones$Way", "firstBehind", "(I)I"⟩
set_option maxRecDepth 100000 in
theorem mi_X6_firstBehind : Jvm.Cond.code y_X6_firstBehind prog_8_method_4_code 3 (some .int) ∈ tblG ∧ Jvm.Cond.initialized y_X6_firstBehind.cls ∈ tblG ∧ Jvm.Cond.instanceMethod y_X6_firstBehind ∈ tblG ∧ Jvm.Cond.selects y_X6_firstBehind.cls y_X6_firstBehind y_X6_firstBehind ∈ tblG ∧ pl3 y_X6_firstBehind 1 := ⟨tblG_of (i := 446) rfl rfl, tblG_of (i := 5) rfl rfl, tblG_of (i := 445) rfl rfl, tblG_sel (q := (y_X6_firstBehind, 6)) (List.mem_of_getElem? (i := 26) rfl), ⟨by decide +kernel, by decide +kernel, by decide +kernel⟩⟩
def y_X6_isStride : MethodName := ⟨"BrookStones$Way", "isStride", "(II)Z"⟩
set_option maxRecDepth 100000 in
theorem mi_X6_isStride : Jvm.Cond.code y_X6_isStride prog_8_method_5_code 4 (some .boolean) ∈ tblG ∧ Jvm.Cond.initialized y_X6_isStride.cls ∈ tblG ∧ Jvm.Cond.instanceMethod y_X6_isStride ∈ tblG ∧ Jvm.Cond.selects y_X6_isStride.cls y_X6_isStride y_X6_isStride ∈ tblG ∧ pl3 y_X6_isStride 2 := ⟨tblG_of (i := 440) rfl rfl, tblG_of (i := 5) rfl rfl, tblG_of (i := 439) rfl rfl, tblG_sel (q := (y_X6_isStride, 6)) (List.mem_of_getElem? (i := 25) rfl), ⟨by decide +kernel, by decide +kernel, by decide +kernel⟩⟩
def y_X7_init : MethodName := ⟨"BrookStones", "<init>", "()V"⟩
set_option maxRecDepth 100000 in
theorem mi_X7_init : Jvm.Cond.code y_X7_init prog_1_method_1_code 1 (none) ∈ tblG ∧ Jvm.Cond.initialized y_X7_init.cls ∈ tblG ∧ Jvm.Cond.instanceMethod y_X7_init ∈ tblG ∧ pl3 y_X7_init 0 := ⟨tblG_of (i := 18) rfl rfl, tblG_of (i := 1) rfl rfl, tblG_of (i := 17) rfl rfl, ⟨by decide +kernel, by decide +kernel, by decide +kernel⟩⟩
def y_X7_brook : MethodName := ⟨"BrookStones", "brook", "(IIII)I"⟩
set_option maxRecDepth 100000 in
theorem mi_X7_brook : Jvm.Cond.code y_X7_brook prog_1_method_2_code 7 (some .int) ∈ tblG ∧ Jvm.Cond.initialized y_X7_brook.cls ∈ tblG ∧ Jvm.Cond.instanceMethod y_X7_brook ∈ tblG ∧ Jvm.Cond.selects y_X7_brook.cls y_X7_brook y_X7_brook ∈ tblG ∧ pl3 y_X7_brook 4 := ⟨tblG_of (i := 247) rfl rfl, tblG_of (i := 1) rfl rfl, tblG_of (i := 245) rfl rfl, tblG_of (i := 246) rfl rfl, ⟨by decide +kernel, by decide +kernel, by decide +kernel⟩⟩
def y_X7_ofCell : MethodName := ⟨"BrookStones", "ofCell", "(II)I"⟩
set_option maxRecDepth 100000 in
theorem mi_X7_ofCell : Jvm.Cond.code y_X7_ofCell prog_1_method_3_code 4 (some .int) ∈ tblG ∧ Jvm.Cond.initialized y_X7_ofCell.cls ∈ tblG ∧ Jvm.Cond.instanceMethod y_X7_ofCell ∈ tblG ∧ Jvm.Cond.selects y_X7_ofCell.cls y_X7_ofCell y_X7_ofCell ∈ tblG ∧ pl3 y_X7_ofCell 2 := ⟨tblG_of (i := 313) rfl rfl, tblG_of (i := 1) rfl rfl, tblG_of (i := 311) rfl rfl, tblG_of (i := 312) rfl rfl, ⟨by decide +kernel, by decide +kernel, by decide +kernel⟩⟩
def y_X7_guard : MethodName := ⟨"BrookStones", "guard", "(IZ)I"⟩
set_option maxRecDepth 100000 in
theorem mi_X7_guard : Jvm.Cond.code y_X7_guard prog_1_method_4_code 3 (some .int) ∈ tblG ∧ Jvm.Cond.initialized y_X7_guard.cls ∈ tblG ∧ Jvm.Cond.instanceMethod y_X7_guard ∈ tblG ∧ Jvm.Cond.selects y_X7_guard.cls y_X7_guard y_X7_guard ∈ tblG ∧ pl3 y_X7_guard 2 := ⟨tblG_of (i := 328) rfl rfl, tblG_of (i := 1) rfl rfl, tblG_of (i := 326) rfl rfl, tblG_of (i := 327) rfl rfl, ⟨by decide +kernel, by decide +kernel, by decide +kernel⟩⟩
def y_X7_water : MethodName := ⟨"BrookStones", "water", "(I)I"⟩
set_option maxRecDepth 100000 in
theorem mi_X7_water : Jvm.Cond.code y_X7_water prog_1_method_5_code 3 (some .int) ∈ tblG ∧ Jvm.Cond.initialized y_X7_water.cls ∈ tblG ∧ Jvm.Cond.instanceMethod y_X7_water ∈ tblG ∧ Jvm.Cond.selects y_X7_water.cls y_X7_water y_X7_water ∈ tblG ∧ pl3 y_X7_water 1 := ⟨tblG_of (i := 332) rfl rfl, tblG_of (i := 1) rfl rfl, tblG_of (i := 330) rfl rfl, tblG_of (i := 331) rfl rfl, ⟨by decide +kernel, by decide +kernel, by decide +kernel⟩⟩
def y_X7_stone : MethodName := ⟨"BrookStones", "stone", "(IIII)I"⟩
set_option maxRecDepth 100000 in
theorem mi_X7_stone : Jvm.Cond.code y_X7_stone prog_1_method_6_code 5 (some .int) ∈ tblG ∧ Jvm.Cond.initialized y_X7_stone.cls ∈ tblG ∧ Jvm.Cond.instanceMethod y_X7_stone ∈ tblG ∧ Jvm.Cond.selects y_X7_stone.cls y_X7_stone y_X7_stone ∈ tblG ∧ pl3 y_X7_stone 4 := ⟨tblG_of (i := 341) rfl rfl, tblG_of (i := 1) rfl rfl, tblG_of (i := 339) rfl rfl, tblG_of (i := 340) rfl rfl, ⟨by decide +kernel, by decide +kernel, by decide +kernel⟩⟩
def y_X7_ofStone : MethodName := ⟨"BrookStones", "ofStone", "(II)I"⟩
set_option maxRecDepth 100000 in
theorem mi_X7_ofStone : Jvm.Cond.code y_X7_ofStone prog_1_method_7_code 3 (some .int) ∈ tblG ∧ Jvm.Cond.initialized y_X7_ofStone.cls ∈ tblG ∧ Jvm.Cond.instanceMethod y_X7_ofStone ∈ tblG ∧ Jvm.Cond.selects y_X7_ofStone.cls y_X7_ofStone y_X7_ofStone ∈ tblG ∧ pl3 y_X7_ofStone 2 := ⟨tblG_of (i := 349) rfl rfl, tblG_of (i := 1) rfl rfl, tblG_of (i := 347) rfl rfl, tblG_of (i := 348) rfl rfl, ⟨by decide +kernel, by decide +kernel, by decide +kernel⟩⟩
def y_X7_set : MethodName := ⟨"BrookStones", "set", "(II)I"⟩
set_option maxRecDepth 100000 in
theorem mi_X7_set : Jvm.Cond.code y_X7_set prog_1_method_8_code 3 (some .int) ∈ tblG ∧ Jvm.Cond.initialized y_X7_set.cls ∈ tblG ∧ Jvm.Cond.instanceMethod y_X7_set ∈ tblG ∧ Jvm.Cond.selects y_X7_set.cls y_X7_set y_X7_set ∈ tblG ∧ pl3 y_X7_set 2 := ⟨tblG_of (i := 365) rfl rfl, tblG_of (i := 1) rfl rfl, tblG_of (i := 363) rfl rfl, tblG_of (i := 364) rfl rfl, ⟨by decide +kernel, by decide +kernel, by decide +kernel⟩⟩
def y_X7_work : MethodName := ⟨"BrookStones", "work", "(II)I"⟩
set_option maxRecDepth 100000 in
theorem mi_X7_work : Jvm.Cond.code y_X7_work prog_1_method_9_code 3 (some .int) ∈ tblG ∧ Jvm.Cond.initialized y_X7_work.cls ∈ tblG ∧ Jvm.Cond.instanceMethod y_X7_work ∈ tblG ∧ Jvm.Cond.selects y_X7_work.cls y_X7_work y_X7_work ∈ tblG ∧ pl3 y_X7_work 2 := ⟨tblG_of (i := 374) rfl rfl, tblG_of (i := 1) rfl rfl, tblG_of (i := 372) rfl rfl, tblG_of (i := 373) rfl rfl, ⟨by decide +kernel, by decide +kernel, by decide +kernel⟩⟩
def y_X7_walker : MethodName := ⟨"BrookStones", "walker", "(I)I"⟩
set_option maxRecDepth 100000 in
theorem mi_X7_walker : Jvm.Cond.code y_X7_walker prog_1_method_10_code 2 (some .int) ∈ tblG ∧ Jvm.Cond.initialized y_X7_walker.cls ∈ tblG ∧ Jvm.Cond.instanceMethod y_X7_walker ∈ tblG ∧ Jvm.Cond.selects y_X7_walker.cls y_X7_walker y_X7_walker ∈ tblG ∧ pl3 y_X7_walker 1 := ⟨tblG_of (i := 382) rfl rfl, tblG_of (i := 1) rfl rfl, tblG_of (i := 380) rfl rfl, tblG_of (i := 381) rfl rfl, ⟨by decide +kernel, by decide +kernel, by decide +kernel⟩⟩
def y_X7_stride : MethodName := ⟨"BrookStones", "stride", "(I)I"⟩
set_option maxRecDepth 100000 in
theorem mi_X7_stride : Jvm.Cond.code y_X7_stride prog_1_method_11_code 2 (some .int) ∈ tblG ∧ Jvm.Cond.initialized y_X7_stride.cls ∈ tblG ∧ Jvm.Cond.instanceMethod y_X7_stride ∈ tblG ∧ Jvm.Cond.selects y_X7_stride.cls y_X7_stride y_X7_stride ∈ tblG ∧ pl3 y_X7_stride 1 := ⟨tblG_of (i := 390) rfl rfl, tblG_of (i := 1) rfl rfl, tblG_of (i := 388) rfl rfl, tblG_of (i := 389) rfl rfl, ⟨by decide +kernel, by decide +kernel, by decide +kernel⟩⟩
def y_X7_can : MethodName := ⟨"BrookStones", "can", "(IZ)I"⟩
set_option maxRecDepth 100000 in
theorem mi_X7_can : Jvm.Cond.code y_X7_can prog_1_method_12_code 3 (some .int) ∈ tblG ∧ Jvm.Cond.initialized y_X7_can.cls ∈ tblG ∧ Jvm.Cond.instanceMethod y_X7_can ∈ tblG ∧ Jvm.Cond.selects y_X7_can.cls y_X7_can y_X7_can ∈ tblG ∧ pl3 y_X7_can 2 := ⟨tblG_of (i := 398) rfl rfl, tblG_of (i := 1) rfl rfl, tblG_of (i := 396) rfl rfl, tblG_of (i := 397) rfl rfl, ⟨by decide +kernel, by decide +kernel, by decide +kernel⟩⟩
def y_X7_way : MethodName := ⟨"BrookStones", "way", "(II)I"⟩
set_option maxRecDepth 100000 in
theorem mi_X7_way : Jvm.Cond.code y_X7_way prog_1_method_13_code 4 (some .int) ∈ tblG ∧ Jvm.Cond.initialized y_X7_way.cls ∈ tblG ∧ Jvm.Cond.instanceMethod y_X7_way ∈ tblG ∧ Jvm.Cond.selects y_X7_way.cls y_X7_way y_X7_way ∈ tblG ∧ pl3 y_X7_way 2 := ⟨tblG_of (i := 426) rfl rfl, tblG_of (i := 1) rfl rfl, tblG_of (i := 424) rfl rfl, tblG_of (i := 425) rfl rfl, ⟨by decide +kernel, by decide +kernel, by decide +kernel⟩⟩
def y_X7_highest : MethodName := ⟨"BrookStones", "highest", "(IZ)I"⟩
set_option maxRecDepth 100000 in
theorem mi_X7_highest : Jvm.Cond.code y_X7_highest prog_1_method_14_code 4 (some .int) ∈ tblG ∧ Jvm.Cond.initialized y_X7_highest.cls ∈ tblG ∧ Jvm.Cond.instanceMethod y_X7_highest ∈ tblG ∧ Jvm.Cond.selects y_X7_highest.cls y_X7_highest y_X7_highest ∈ tblG ∧ pl3 y_X7_highest 2 := ⟨tblG_of (i := 450) rfl rfl, tblG_of (i := 1) rfl rfl, tblG_of (i := 448) rfl rfl, tblG_of (i := 449) rfl rfl, ⟨by decide +kernel, by decide +kernel, by decide +kernel⟩⟩
def y_X7_pass : MethodName := ⟨"BrookStones", "pass", "(II)I"⟩
set_option maxRecDepth 100000 in
theorem mi_X7_pass : Jvm.Cond.code y_X7_pass prog_1_method_15_code 4 (some .int) ∈ tblG ∧ Jvm.Cond.initialized y_X7_pass.cls ∈ tblG ∧ Jvm.Cond.instanceMethod y_X7_pass ∈ tblG ∧ Jvm.Cond.selects y_X7_pass.cls y_X7_pass y_X7_pass ∈ tblG ∧ pl3 y_X7_pass 2 := ⟨tblG_of (i := 454) rfl rfl, tblG_of (i := 1) rfl rfl, tblG_of (i := 452) rfl rfl, tblG_of (i := 453) rfl rfl, ⟨by decide +kernel, by decide +kernel, by decide +kernel⟩⟩
def y_X7_days : MethodName := ⟨"BrookStones", "days", "(IIIII)I"⟩
set_option maxRecDepth 100000 in
theorem mi_X7_days : Jvm.Cond.code y_X7_days prog_1_method_16_code 10 (some .int) ∈ tblG ∧ Jvm.Cond.initialized y_X7_days.cls ∈ tblG ∧ Jvm.Cond.instanceMethod y_X7_days ∈ tblG ∧ Jvm.Cond.selects y_X7_days.cls y_X7_days y_X7_days ∈ tblG ∧ pl3 y_X7_days 5 := ⟨tblG_of (i := 461) rfl rfl, tblG_of (i := 1) rfl rfl, tblG_of (i := 459) rfl rfl, tblG_of (i := 460) rfl rfl, ⟨by decide +kernel, by decide +kernel, by decide +kernel⟩⟩
def y_X7_stands : MethodName := ⟨"BrookStones", "stands", "(II)I"⟩
set_option maxRecDepth 100000 in
theorem mi_X7_stands : Jvm.Cond.code y_X7_stands prog_1_method_17_code 3 (some .int) ∈ tblG ∧ Jvm.Cond.initialized y_X7_stands.cls ∈ tblG ∧ Jvm.Cond.instanceMethod y_X7_stands ∈ tblG ∧ Jvm.Cond.selects y_X7_stands.cls y_X7_stands y_X7_stands ∈ tblG ∧ pl3 y_X7_stands 2 := ⟨tblG_of (i := 471) rfl rfl, tblG_of (i := 1) rfl rfl, tblG_of (i := 469) rfl rfl, tblG_of (i := 470) rfl rfl, ⟨by decide +kernel, by decide +kernel, by decide +kernel⟩⟩
def y_X7_goes : MethodName := ⟨"BrookStones", "goes", "(II)I"⟩
set_option maxRecDepth 100000 in
theorem mi_X7_goes : Jvm.Cond.code y_X7_goes prog_1_method_18_code 3 (some .int) ∈ tblG ∧ Jvm.Cond.initialized y_X7_goes.cls ∈ tblG ∧ Jvm.Cond.instanceMethod y_X7_goes ∈ tblG ∧ Jvm.Cond.selects y_X7_goes.cls y_X7_goes y_X7_goes ∈ tblG ∧ pl3 y_X7_goes 2 := ⟨tblG_of (i := 493) rfl rfl, tblG_of (i := 1) rfl rfl, tblG_of (i := 491) rfl rfl, tblG_of (i := 492) rfl rfl, ⟨by decide +kernel, by decide +kernel, by decide +kernel⟩⟩
def y_X7_dug : MethodName := ⟨"BrookStones", "dug", "(III)I"⟩
set_option maxRecDepth 100000 in
theorem mi_X7_dug : Jvm.Cond.code y_X7_dug prog_1_method_19_code 4 (some .int) ∈ tblG ∧ Jvm.Cond.initialized y_X7_dug.cls ∈ tblG ∧ Jvm.Cond.instanceMethod y_X7_dug ∈ tblG ∧ Jvm.Cond.selects y_X7_dug.cls y_X7_dug y_X7_dug ∈ tblG ∧ pl3 y_X7_dug 3 := ⟨tblG_of (i := 497) rfl rfl, tblG_of (i := 1) rfl rfl, tblG_of (i := 495) rfl rfl, tblG_of (i := 496) rfl rfl, ⟨by decide +kernel, by decide +kernel, by decide +kernel⟩⟩
def y_X7_flood : MethodName := ⟨"BrookStones", "flood", "(II)I"⟩
set_option maxRecDepth 100000 in
theorem mi_X7_flood : Jvm.Cond.code y_X7_flood prog_1_method_20_code 4 (some .int) ∈ tblG ∧ Jvm.Cond.initialized y_X7_flood.cls ∈ tblG ∧ Jvm.Cond.instanceMethod y_X7_flood ∈ tblG ∧ Jvm.Cond.selects y_X7_flood.cls y_X7_flood y_X7_flood ∈ tblG ∧ pl3 y_X7_flood 2 := ⟨tblG_of (i := 501) rfl rfl, tblG_of (i := 1) rfl rfl, tblG_of (i := 499) rfl rfl, tblG_of (i := 500) rfl rfl, ⟨by decide +kernel, by decide +kernel, by decide +kernel⟩⟩
def y_X7_save : MethodName := ⟨"BrookStones", "save", "(III)I"⟩
set_option maxRecDepth 100000 in
theorem mi_X7_save : Jvm.Cond.code y_X7_save prog_1_method_21_code 8 (some .int) ∈ tblG ∧ Jvm.Cond.initialized y_X7_save.cls ∈ tblG ∧ Jvm.Cond.instanceMethod y_X7_save ∈ tblG ∧ Jvm.Cond.selects y_X7_save.cls y_X7_save y_X7_save ∈ tblG ∧ pl3 y_X7_save 3 := ⟨tblG_of (i := 516) rfl rfl, tblG_of (i := 1) rfl rfl, tblG_of (i := 514) rfl rfl, tblG_of (i := 515) rfl rfl, ⟨by decide +kernel, by decide +kernel, by decide +kernel⟩⟩
def y_X7_plan : MethodName := ⟨"BrookStones", "plan", "(IIII)I"⟩
set_option maxRecDepth 100000 in
theorem mi_X7_plan : Jvm.Cond.code y_X7_plan prog_1_method_22_code 5 (some .int) ∈ tblG ∧ Jvm.Cond.initialized y_X7_plan.cls ∈ tblG ∧ Jvm.Cond.instanceMethod y_X7_plan ∈ tblG ∧ Jvm.Cond.selects y_X7_plan.cls y_X7_plan y_X7_plan ∈ tblG ∧ pl3 y_X7_plan 4 := ⟨tblG_of (i := 520) rfl rfl, tblG_of (i := 1) rfl rfl, tblG_of (i := 518) rfl rfl, tblG_of (i := 519) rfl rfl, ⟨by decide +kernel, by decide +kernel, by decide +kernel⟩⟩
def y_X7_orders : MethodName := ⟨"BrookStones", "orders", "(I)I"⟩
set_option maxRecDepth 100000 in
theorem mi_X7_orders : Jvm.Cond.code y_X7_orders prog_1_method_23_code 2 (some .int) ∈ tblG ∧ Jvm.Cond.initialized y_X7_orders.cls ∈ tblG ∧ Jvm.Cond.instanceMethod y_X7_orders ∈ tblG ∧ Jvm.Cond.selects y_X7_orders.cls y_X7_orders y_X7_orders ∈ tblG ∧ pl3 y_X7_orders 1 := ⟨tblG_of (i := 595) rfl rfl, tblG_of (i := 1) rfl rfl, tblG_of (i := 593) rfl rfl, tblG_of (i := 594) rfl rfl, ⟨by decide +kernel, by decide +kernel, by decide +kernel⟩⟩
def y_X7_order : MethodName := ⟨"BrookStones", "order", "(II)I"⟩
set_option maxRecDepth 100000 in
theorem mi_X7_order : Jvm.Cond.code y_X7_order prog_1_method_24_code 3 (some .int) ∈ tblG ∧ Jvm.Cond.initialized y_X7_order.cls ∈ tblG ∧ Jvm.Cond.instanceMethod y_X7_order ∈ tblG ∧ Jvm.Cond.selects y_X7_order.cls y_X7_order y_X7_order ∈ tblG ∧ pl3 y_X7_order 2 := ⟨tblG_of (i := 616) rfl rfl, tblG_of (i := 1) rfl rfl, tblG_of (i := 614) rfl rfl, tblG_of (i := 615) rfl rfl, ⟨by decide +kernel, by decide +kernel, by decide +kernel⟩⟩
def y_X7_fits : MethodName := ⟨"BrookStones", "fits", "(II)I"⟩
set_option maxRecDepth 100000 in
theorem mi_X7_fits : Jvm.Cond.code y_X7_fits prog_1_method_25_code 5 (some .int) ∈ tblG ∧ Jvm.Cond.initialized y_X7_fits.cls ∈ tblG ∧ Jvm.Cond.instanceMethod y_X7_fits ∈ tblG ∧ Jvm.Cond.selects y_X7_fits.cls y_X7_fits y_X7_fits ∈ tblG ∧ pl3 y_X7_fits 2 := ⟨tblG_of (i := 630) rfl rfl, tblG_of (i := 1) rfl rfl, tblG_of (i := 628) rfl rfl, tblG_of (i := 629) rfl rfl, ⟨by decide +kernel, by decide +kernel, by decide +kernel⟩⟩
def y_X7_odds : MethodName := ⟨"BrookStones", "odds", "(IIIIII)J"⟩
set_option maxRecDepth 100000 in
theorem mi_X7_odds : Jvm.Cond.code y_X7_odds prog_1_method_26_code 10 (some .long) ∈ tblG ∧ Jvm.Cond.initialized y_X7_odds.cls ∈ tblG ∧ Jvm.Cond.instanceMethod y_X7_odds ∈ tblG ∧ Jvm.Cond.selects y_X7_odds.cls y_X7_odds y_X7_odds ∈ tblG ∧ pl3 y_X7_odds 6 := ⟨tblG_of (i := 634) rfl rfl, tblG_of (i := 1) rfl rfl, tblG_of (i := 632) rfl rfl, tblG_of (i := 633) rfl rfl, ⟨by decide +kernel, by decide +kernel, by decide +kernel⟩⟩
def y_X7_weightAcross : MethodName := ⟨"BrookStones", "weightAcross", "(IIII)I"⟩
set_option maxRecDepth 100000 in
theorem mi_X7_weightAcross : Jvm.Cond.code y_X7_weightAcross prog_1_method_27_code 7 (some .int) ∈ tblG ∧ Jvm.Cond.initialized y_X7_weightAcross.cls ∈ tblG ∧ Jvm.Cond.instanceMethod y_X7_weightAcross ∈ tblG ∧ Jvm.Cond.selects y_X7_weightAcross.cls y_X7_weightAcross y_X7_weightAcross ∈ tblG ∧ pl3 y_X7_weightAcross 4 := ⟨tblG_of (i := 643) rfl rfl, tblG_of (i := 1) rfl rfl, tblG_of (i := 642) rfl rfl, tblG_sel (q := (y_X7_weightAcross, 8)) (List.mem_of_getElem? (i := 50) rfl), ⟨by decide +kernel, by decide +kernel, by decide +kernel⟩⟩
def y_X7_sheet : MethodName := ⟨"BrookStones", "sheet", "(III)I"⟩
set_option maxRecDepth 100000 in
theorem mi_X7_sheet : Jvm.Cond.code y_X7_sheet prog_1_method_28_code 4 (some .int) ∈ tblG ∧ Jvm.Cond.initialized y_X7_sheet.cls ∈ tblG ∧ Jvm.Cond.instanceMethod y_X7_sheet ∈ tblG ∧ Jvm.Cond.selects y_X7_sheet.cls y_X7_sheet y_X7_sheet ∈ tblG ∧ pl3 y_X7_sheet 3 := ⟨tblG_of (i := 650) rfl rfl, tblG_of (i := 1) rfl rfl, tblG_of (i := 648) rfl rfl, tblG_of (i := 649) rfl rfl, ⟨by decide +kernel, by decide +kernel, by decide +kernel⟩⟩
def y_X7_lose : MethodName := ⟨"BrookStones", "lose", "(I)I"⟩
set_option maxRecDepth 100000 in
theorem mi_X7_lose : Jvm.Cond.code y_X7_lose prog_1_method_29_code 2 (some .int) ∈ tblG ∧ Jvm.Cond.initialized y_X7_lose.cls ∈ tblG ∧ Jvm.Cond.instanceMethod y_X7_lose ∈ tblG ∧ Jvm.Cond.selects y_X7_lose.cls y_X7_lose y_X7_lose ∈ tblG ∧ pl3 y_X7_lose 1 := ⟨tblG_of (i := 664) rfl rfl, tblG_of (i := 1) rfl rfl, tblG_of (i := 662) rfl rfl, tblG_of (i := 663) rfl rfl, ⟨by decide +kernel, by decide +kernel, by decide +kernel⟩⟩
def y_X7_put : MethodName := ⟨"BrookStones", "put", "(III)I"⟩
set_option maxRecDepth 100000 in
theorem mi_X7_put : Jvm.Cond.code y_X7_put prog_1_method_30_code 4 (some .int) ∈ tblG ∧ Jvm.Cond.initialized y_X7_put.cls ∈ tblG ∧ Jvm.Cond.instanceMethod y_X7_put ∈ tblG ∧ Jvm.Cond.selects y_X7_put.cls y_X7_put y_X7_put ∈ tblG ∧ pl3 y_X7_put 3 := ⟨tblG_of (i := 673) rfl rfl, tblG_of (i := 1) rfl rfl, tblG_of (i := 671) rfl rfl, tblG_of (i := 672) rfl rfl, ⟨by decide +kernel, by decide +kernel, by decide +kernel⟩⟩
def y_X7_cell : MethodName := ⟨"BrookStones", "cell", "(III)J"⟩
set_option maxRecDepth 100000 in
theorem mi_X7_cell : Jvm.Cond.code y_X7_cell prog_1_method_31_code 4 (some .long) ∈ tblG ∧ Jvm.Cond.initialized y_X7_cell.cls ∈ tblG ∧ Jvm.Cond.instanceMethod y_X7_cell ∈ tblG ∧ Jvm.Cond.selects y_X7_cell.cls y_X7_cell y_X7_cell ∈ tblG ∧ pl3 y_X7_cell 3 := ⟨tblG_of (i := 684) rfl rfl, tblG_of (i := 1) rfl rfl, tblG_of (i := 682) rfl rfl, tblG_of (i := 683) rfl rfl, ⟨by decide +kernel, by decide +kernel, by decide +kernel⟩⟩
def y_X7_copy : MethodName := ⟨"BrookStones", "copy", "(IIIII)I"⟩
set_option maxRecDepth 100000 in
theorem mi_X7_copy : Jvm.Cond.code y_X7_copy prog_1_method_32_code 6 (some .int) ∈ tblG ∧ Jvm.Cond.initialized y_X7_copy.cls ∈ tblG ∧ Jvm.Cond.instanceMethod y_X7_copy ∈ tblG ∧ Jvm.Cond.selects y_X7_copy.cls y_X7_copy y_X7_copy ∈ tblG ∧ pl3 y_X7_copy 5 := ⟨tblG_of (i := 688) rfl rfl, tblG_of (i := 1) rfl rfl, tblG_of (i := 686) rfl rfl, tblG_of (i := 687) rfl rfl, ⟨by decide +kernel, by decide +kernel, by decide +kernel⟩⟩
def y_X7_tell : MethodName := ⟨"BrookStones", "tell", "(I)I"⟩
set_option maxRecDepth 100000 in
theorem mi_X7_tell : Jvm.Cond.code y_X7_tell prog_1_method_33_code 2 (some .int) ∈ tblG ∧ Jvm.Cond.initialized y_X7_tell.cls ∈ tblG ∧ Jvm.Cond.instanceMethod y_X7_tell ∈ tblG ∧ Jvm.Cond.selects y_X7_tell.cls y_X7_tell y_X7_tell ∈ tblG ∧ pl3 y_X7_tell 1 := ⟨tblG_of (i := 698) rfl rfl, tblG_of (i := 1) rfl rfl, tblG_of (i := 696) rfl rfl, tblG_of (i := 697) rfl rfl, ⟨by decide +kernel, by decide +kernel, by decide +kernel⟩⟩
def y_X7_tread : MethodName := ⟨"BrookStones", "tread", "(I)I"⟩
set_option maxRecDepth 100000 in
theorem mi_X7_tread : Jvm.Cond.code y_X7_tread prog_1_method_34_code 2 (some .int) ∈ tblG ∧ Jvm.Cond.initialized y_X7_tread.cls ∈ tblG ∧ Jvm.Cond.instanceMethod y_X7_tread ∈ tblG ∧ Jvm.Cond.selects y_X7_tread.cls y_X7_tread y_X7_tread ∈ tblG ∧ pl3 y_X7_tread 1 := ⟨tblG_of (i := 718) rfl rfl, tblG_of (i := 1) rfl rfl, tblG_of (i := 716) rfl rfl, tblG_of (i := 717) rfl rfl, ⟨by decide +kernel, by decide +kernel, by decide +kernel⟩⟩
def y_X7_as : MethodName := ⟨"BrookStones", "as", "(II)I"⟩
set_option maxRecDepth 100000 in
theorem mi_X7_as : Jvm.Cond.code y_X7_as prog_1_method_35_code 3 (some .int) ∈ tblG ∧ Jvm.Cond.initialized y_X7_as.cls ∈ tblG ∧ Jvm.Cond.instanceMethod y_X7_as ∈ tblG ∧ Jvm.Cond.selects y_X7_as.cls y_X7_as y_X7_as ∈ tblG ∧ pl3 y_X7_as 2 := ⟨tblG_of (i := 722) rfl rfl, tblG_of (i := 1) rfl rfl, tblG_of (i := 720) rfl rfl, tblG_of (i := 721) rfl rfl, ⟨by decide +kernel, by decide +kernel, by decide +kernel⟩⟩
def y_X7_trace : MethodName := ⟨"BrookStones", "trace", "()I"⟩
set_option maxRecDepth 100000 in
theorem mi_X7_trace : Jvm.Cond.code y_X7_trace prog_1_method_36_code 1 (some .int) ∈ tblG ∧ Jvm.Cond.initialized y_X7_trace.cls ∈ tblG ∧ Jvm.Cond.instanceMethod y_X7_trace ∈ tblG ∧ Jvm.Cond.selects y_X7_trace.cls y_X7_trace y_X7_trace ∈ tblG ∧ pl3 y_X7_trace 0 := ⟨tblG_of (i := 726) rfl rfl, tblG_of (i := 1) rfl rfl, tblG_of (i := 724) rfl rfl, tblG_of (i := 725) rfl rfl, ⟨by decide +kernel, by decide +kernel, by decide +kernel⟩⟩
def y_X7_fault : MethodName := ⟨"BrookStones", "fault", "()I"⟩
set_option maxRecDepth 100000 in
theorem mi_X7_fault : Jvm.Cond.code y_X7_fault prog_1_method_37_code 1 (some .int) ∈ tblG ∧ Jvm.Cond.initialized y_X7_fault.cls ∈ tblG ∧ Jvm.Cond.instanceMethod y_X7_fault ∈ tblG ∧ Jvm.Cond.selects y_X7_fault.cls y_X7_fault y_X7_fault ∈ tblG ∧ pl3 y_X7_fault 0 := ⟨tblG_of (i := 730) rfl rfl, tblG_of (i := 1) rfl rfl, tblG_of (i := 728) rfl rfl, tblG_of (i := 729) rfl rfl, ⟨by decide +kernel, by decide +kernel, by decide +kernel⟩⟩
def y_X7_many : MethodName := ⟨"BrookStones", "many", "(I)I"⟩
set_option maxRecDepth 100000 in
theorem mi_X7_many : Jvm.Cond.code y_X7_many prog_1_method_38_code 2 (some .int) ∈ tblG ∧ Jvm.Cond.initialized y_X7_many.cls ∈ tblG ∧ Jvm.Cond.instanceMethod y_X7_many ∈ tblG ∧ Jvm.Cond.selects y_X7_many.cls y_X7_many y_X7_many ∈ tblG ∧ pl3 y_X7_many 1 := ⟨tblG_of (i := 734) rfl rfl, tblG_of (i := 1) rfl rfl, tblG_of (i := 732) rfl rfl, tblG_of (i := 733) rfl rfl, ⟨by decide +kernel, by decide +kernel, by decide +kernel⟩⟩
def y_X7_refusalOfCells : MethodName := ⟨"BrookStones", "refusalOfCells", "(IIII)I"⟩
set_option maxRecDepth 100000 in
theorem mi_X7_refusalOfCells : Jvm.Cond.code y_X7_refusalOfCells prog_1_method_39_code 6 (some .int) ∈ tblG ∧ Jvm.Cond.initialized y_X7_refusalOfCells.cls ∈ tblG ∧ Jvm.Cond.instanceMethod y_X7_refusalOfCells ∈ tblG ∧ Jvm.Cond.selects y_X7_refusalOfCells.cls y_X7_refusalOfCells y_X7_refusalOfCells ∈ tblG ∧ pl3 y_X7_refusalOfCells 4 := ⟨tblG_of (i := 251) rfl rfl, tblG_of (i := 1) rfl rfl, tblG_of (i := 250) rfl rfl, tblG_sel (q := (y_X7_refusalOfCells, 8)) (List.mem_of_getElem? (i := 0) rfl), ⟨by decide +kernel, by decide +kernel, by decide +kernel⟩⟩
def y_X7_failBy : MethodName := ⟨"BrookStones", "failBy", "(I)I"⟩
set_option maxRecDepth 100000 in
theorem mi_X7_failBy : Jvm.Cond.code y_X7_failBy prog_1_method_40_code 2 (some .int) ∈ tblG ∧ Jvm.Cond.initialized y_X7_failBy.cls ∈ tblG ∧ Jvm.Cond.instanceMethod y_X7_failBy ∈ tblG ∧ Jvm.Cond.selects y_X7_failBy.cls y_X7_failBy y_X7_failBy ∈ tblG ∧ pl3 y_X7_failBy 1 := ⟨tblG_of (i := 276) rfl rfl, tblG_of (i := 1) rfl rfl, tblG_of (i := 275) rfl rfl, tblG_sel (q := (y_X7_failBy, 8)) (List.mem_of_getElem? (i := 4) rfl), ⟨by decide +kernel, by decide +kernel, by decide +kernel⟩⟩
def y_X7_tellAsStone : MethodName := ⟨"BrookStones", "tellAsStone", "(I)I"⟩
set_option maxRecDepth 100000 in
theorem mi_X7_tellAsStone : Jvm.Cond.code y_X7_tellAsStone prog_1_method_41_code 2 (some .int) ∈ tblG ∧ Jvm.Cond.initialized y_X7_tellAsStone.cls ∈ tblG ∧ Jvm.Cond.instanceMethod y_X7_tellAsStone ∈ tblG ∧ Jvm.Cond.selects y_X7_tellAsStone.cls y_X7_tellAsStone y_X7_tellAsStone ∈ tblG ∧ pl3 y_X7_tellAsStone 1 := ⟨tblG_of (i := 714) rfl rfl, tblG_of (i := 1) rfl rfl, tblG_of (i := 713) rfl rfl, tblG_sel (q := (y_X7_tellAsStone, 8)) (List.mem_of_getElem? (i := 58) rfl), ⟨by decide +kernel, by decide +kernel, by decide +kernel⟩⟩
def y_X7_tellAsFlat : MethodName := ⟨"BrookStones", "tellAsFlat", "(I)I"⟩
set_option maxRecDepth 100000 in
theorem mi_X7_tellAsFlat : Jvm.Cond.code y_X7_tellAsFlat prog_1_method_42_code 2 (some .int) ∈ tblG ∧ Jvm.Cond.initialized y_X7_tellAsFlat.cls ∈ tblG ∧ Jvm.Cond.instanceMethod y_X7_tellAsFlat ∈ tblG ∧ Jvm.Cond.selects y_X7_tellAsFlat.cls y_X7_tellAsFlat y_X7_tellAsFlat ∈ tblG ∧ pl3 y_X7_tellAsFlat 1 := ⟨tblG_of (i := 710) rfl rfl, tblG_of (i := 1) rfl rfl, tblG_of (i := 709) rfl rfl, tblG_sel (q := (y_X7_tellAsFlat, 8)) (List.mem_of_getElem? (i := 57) rfl), ⟨by decide +kernel, by decide +kernel, by decide +kernel⟩⟩
def y_X7_tellAsTable : MethodName := ⟨"BrookStones", "tellAsTable", "(I)I"⟩
set_option maxRecDepth 100000 in
theorem mi_X7_tellAsTable : Jvm.Cond.code y_X7_tellAsTable prog_1_method_43_code 3 (some .int) ∈ tblG ∧ Jvm.Cond.initialized y_X7_tellAsTable.cls ∈ tblG ∧ Jvm.Cond.instanceMethod y_X7_tellAsTable ∈ tblG ∧ Jvm.Cond.selects y_X7_tellAsTable.cls y_X7_tellAsTable y_X7_tellAsTable ∈ tblG ∧ pl3 y_X7_tellAsTable 1 := ⟨tblG_of (i := 702) rfl rfl, tblG_of (i := 1) rfl rfl, tblG_of (i := 701) rfl rfl, tblG_sel (q := (y_X7_tellAsTable, 8)) (List.mem_of_getElem? (i := 55) rfl), ⟨by decide +kernel, by decide +kernel, by decide +kernel⟩⟩
def y_X7_leave : MethodName := ⟨"BrookStones", "leave", "(I)V"⟩
set_option maxRecDepth 100000 in
theorem mi_X7_leave : Jvm.Cond.code y_X7_leave prog_1_method_44_code 2 (none) ∈ tblG ∧ Jvm.Cond.initialized y_X7_leave.cls ∈ tblG ∧ Jvm.Cond.instanceMethod y_X7_leave ∈ tblG ∧ Jvm.Cond.selects y_X7_leave.cls y_X7_leave y_X7_leave ∈ tblG ∧ pl3 y_X7_leave 1 := ⟨tblG_of (i := 706) rfl rfl, tblG_of (i := 1) rfl rfl, tblG_of (i := 705) rfl rfl, tblG_sel (q := (y_X7_leave, 8)) (List.mem_of_getElem? (i := 56) rfl), ⟨by decide +kernel, by decide +kernel, by decide +kernel⟩⟩
def y_X7_isFlood : MethodName := ⟨"BrookStones", "isFlood", "(II)Z"⟩
set_option maxRecDepth 100000 in
theorem mi_X7_isFlood : Jvm.Cond.code y_X7_isFlood prog_1_method_45_code 2 (some .boolean) ∈ tblG ∧ Jvm.Cond.initialized y_X7_isFlood.cls ∈ tblG ∧ Jvm.Cond.static y_X7_isFlood ∈ tblG ∧ pl3 y_X7_isFlood 2 := ⟨tblG_of (i := 474) rfl rfl, tblG_of (i := 1) rfl rfl, tblG_of (i := 473) rfl rfl, ⟨by decide +kernel, by decide +kernel, by decide +kernel⟩⟩
def y_X7_isWithin : MethodName := ⟨"BrookStones", "isWithin", "(III)Z"⟩
set_option maxRecDepth 100000 in
theorem mi_X7_isWithin : Jvm.Cond.code y_X7_isWithin prog_1_method_46_code 3 (some .boolean) ∈ tblG ∧ Jvm.Cond.initialized y_X7_isWithin.cls ∈ tblG ∧ Jvm.Cond.static y_X7_isWithin ∈ tblG ∧ pl3 y_X7_isWithin 3 := ⟨tblG_of (i := 257) rfl rfl, tblG_of (i := 1) rfl rfl, tblG_of (i := 256) rfl rfl, ⟨by decide +kernel, by decide +kernel, by decide +kernel⟩⟩
def y_X7_has : MethodName := ⟨"BrookStones", "has", "(II)Z"⟩
set_option maxRecDepth 100000 in
theorem mi_X7_has : Jvm.Cond.code y_X7_has prog_1_method_47_code 2 (some .boolean) ∈ tblG ∧ Jvm.Cond.initialized y_X7_has.cls ∈ tblG ∧ Jvm.Cond.static y_X7_has ∈ tblG ∧ pl3 y_X7_has 2 := ⟨tblG_of (i := 320) rfl rfl, tblG_of (i := 1) rfl rfl, tblG_of (i := 319) rfl rfl, ⟨by decide +kernel, by decide +kernel, by decide +kernel⟩⟩
def y_X7_commonDivisor : MethodName := ⟨"BrookStones", "commonDivisor", "(II)I"⟩
set_option maxRecDepth 100000 in
theorem mi_X7_commonDivisor : Jvm.Cond.code y_X7_commonDivisor prog_1_method_48_code 6 (some .int) ∈ tblG ∧ Jvm.Cond.initialized y_X7_commonDivisor.cls ∈ tblG ∧ Jvm.Cond.static y_X7_commonDivisor ∈ tblG ∧ pl3 y_X7_commonDivisor 2 := ⟨tblG_of (i := 646) rfl rfl, tblG_of (i := 1) rfl rfl, tblG_of (i := 645) rfl rfl, ⟨by decide +kernel, by decide +kernel, by decide +kernel⟩⟩
def y_X7_farthest : MethodName := ⟨"BrookStones", "farthest", "(IIII)I"⟩
set_option maxRecDepth 100000 in
theorem mi_X7_farthest : Jvm.Cond.code y_X7_farthest prog_1_method_49_code 7 (some .int) ∈ tblG ∧ Jvm.Cond.initialized y_X7_farthest.cls ∈ tblG ∧ Jvm.Cond.static y_X7_farthest ∈ tblG ∧ pl3 y_X7_farthest 4 := ⟨tblG_of (i := 422) rfl rfl, tblG_of (i := 1) rfl rfl, tblG_of (i := 421) rfl rfl, ⟨by decide +kernel, by decide +kernel, by decide +kernel⟩⟩
def y_X8_init : MethodName := ⟨"BrookStonesModel", "<init>", "()V"⟩
set_option maxRecDepth 100000 in
theorem mi_X8_init : Jvm.Cond.code y_X8_init prog_10_method_1_code 1 (none) ∈ tblG ∧ Jvm.Cond.initialized y_X8_init.cls ∈ tblG ∧ Jvm.Cond.instanceMethod y_X8_init ∈ tblG ∧ pl3 y_X8_init 0 := ⟨tblG_of (i := 739) rfl rfl, tblG_of (i := 9) rfl rfl, tblG_of (i := 738) rfl rfl, ⟨by decide +kernel, by decide +kernel, by decide +kernel⟩⟩
def y_X8_fails : MethodName := ⟨"BrookStonesModel", "fails", "(I)I"⟩
set_option maxRecDepth 100000 in
theorem mi_X8_fails : Jvm.Cond.code y_X8_fails prog_10_method_3_code 2 (some .int) ∈ tblG ∧ Jvm.Cond.initialized y_X8_fails.cls ∈ tblG ∧ Jvm.Cond.instanceMethod y_X8_fails ∈ tblG ∧ Jvm.Cond.selects y_X8_fails.cls y_X8_fails y_X8_fails ∈ tblG ∧ pl3 y_X8_fails 1 := ⟨tblG_of (i := 874) rfl rfl, tblG_of (i := 9) rfl rfl, tblG_of (i := 873) rfl rfl, tblG_sel (q := (y_X8_fails, 37)) (List.mem_of_getElem? (i := 60) rfl), ⟨by decide +kernel, by decide +kernel, by decide +kernel⟩⟩
def y_X8_lost : MethodName := ⟨"BrookStonesModel", "lost", "(I)J"⟩
set_option maxRecDepth 100000 in
theorem mi_X8_lost : Jvm.Cond.code y_X8_lost prog_10_method_4_code 2 (some .long) ∈ tblG ∧ Jvm.Cond.initialized y_X8_lost.cls ∈ tblG ∧ Jvm.Cond.instanceMethod y_X8_lost ∈ tblG ∧ Jvm.Cond.selects y_X8_lost.cls y_X8_lost y_X8_lost ∈ tblG ∧ pl3 y_X8_lost 1 := ⟨tblG_of (i := 1097) rfl rfl, tblG_of (i := 9) rfl rfl, tblG_of (i := 1096) rfl rfl, tblG_sel (q := (y_X8_lost, 37)) (List.mem_of_getElem? (i := 89) rfl), ⟨by decide +kernel, by decide +kernel, by decide +kernel⟩⟩
def y_X8_within : MethodName := ⟨"BrookStonesModel", "within", "(III)Z"⟩
set_option maxRecDepth 100000 in
theorem mi_X8_within : Jvm.Cond.code y_X8_within prog_10_method_5_code 3 (some .boolean) ∈ tblG ∧ Jvm.Cond.initialized y_X8_within.cls ∈ tblG ∧ Jvm.Cond.static y_X8_within ∈ tblG ∧ pl3 y_X8_within 3 := ⟨tblG_of (i := 863) rfl rfl, tblG_of (i := 9) rfl rfl, tblG_of (i := 862) rfl rfl, ⟨by decide +kernel, by decide +kernel, by decide +kernel⟩⟩
def y_X8_has : MethodName := ⟨"BrookStonesModel", "has", "(II)Z"⟩
set_option maxRecDepth 100000 in
theorem mi_X8_has : Jvm.Cond.code y_X8_has prog_10_method_6_code 2 (some .boolean) ∈ tblG ∧ Jvm.Cond.initialized y_X8_has.cls ∈ tblG ∧ Jvm.Cond.static y_X8_has ∈ tblG ∧ pl3 y_X8_has 2 := ⟨tblG_of (i := 1002) rfl rfl, tblG_of (i := 9) rfl rfl, tblG_of (i := 1001) rfl rfl, ⟨by decide +kernel, by decide +kernel, by decide +kernel⟩⟩
def y_X8_isSheet : MethodName := ⟨"BrookStonesModel", "isSheet", "(I)Z"⟩
set_option maxRecDepth 100000 in
theorem mi_X8_isSheet : Jvm.Cond.code y_X8_isSheet prog_10_method_7_code 1 (some .boolean) ∈ tblG ∧ Jvm.Cond.initialized y_X8_isSheet.cls ∈ tblG ∧ Jvm.Cond.static y_X8_isSheet ∈ tblG ∧ pl3 y_X8_isSheet 1 := ⟨tblG_of (i := 860) rfl rfl, tblG_of (i := 9) rfl rfl, tblG_of (i := 859) rfl rfl, ⟨by decide +kernel, by decide +kernel, by decide +kernel⟩⟩
def y_X8_isSort : MethodName := ⟨"BrookStonesModel", "isSort", "(I)Z"⟩
set_option maxRecDepth 100000 in
theorem mi_X8_isSort : Jvm.Cond.code y_X8_isSort prog_10_method_8_code 1 (some .boolean) ∈ tblG ∧ Jvm.Cond.initialized y_X8_isSort.cls ∈ tblG ∧ Jvm.Cond.static y_X8_isSort ∈ tblG ∧ pl3 y_X8_isSort 1 := ⟨tblG_of (i := 866) rfl rfl, tblG_of (i := 9) rfl rfl, tblG_of (i := 865) rfl rfl, ⟨by decide +kernel, by decide +kernel, by decide +kernel⟩⟩
def y_X8_against : MethodName := ⟨"BrookStonesModel", "against", "(IIII)I"⟩
set_option maxRecDepth 100000 in
theorem mi_X8_against : Jvm.Cond.code y_X8_against prog_10_method_9_code 5 (some .int) ∈ tblG ∧ Jvm.Cond.initialized y_X8_against.cls ∈ tblG ∧ Jvm.Cond.instanceMethod y_X8_against ∈ tblG ∧ Jvm.Cond.selects y_X8_against.cls y_X8_against y_X8_against ∈ tblG ∧ pl3 y_X8_against 4 := ⟨tblG_of (i := 870) rfl rfl, tblG_of (i := 9) rfl rfl, tblG_of (i := 869) rfl rfl, tblG_sel (q := (y_X8_against, 37)) (List.mem_of_getElem? (i := 59) rfl), ⟨by decide +kernel, by decide +kernel, by decide +kernel⟩⟩
def y_X8_isCell : MethodName := ⟨"BrookStonesModel", "isCell", "(I)Z"⟩
set_option maxRecDepth 100000 in
theorem mi_X8_isCell : Jvm.Cond.code y_X8_isCell prog_10_method_10_code 2 (some .boolean) ∈ tblG ∧ Jvm.Cond.initialized y_X8_isCell.cls ∈ tblG ∧ Jvm.Cond.instanceMethod y_X8_isCell ∈ tblG ∧ Jvm.Cond.selects y_X8_isCell.cls y_X8_isCell y_X8_isCell ∈ tblG ∧ pl3 y_X8_isCell 1 := ⟨tblG_of (i := 894) rfl rfl, tblG_of (i := 9) rfl rfl, tblG_of (i := 893) rfl rfl, tblG_sel (q := (y_X8_isCell, 37)) (List.mem_of_getElem? (i := 64) rfl), ⟨by decide +kernel, by decide +kernel, by decide +kernel⟩⟩
def y_X8_isCode : MethodName := ⟨"BrookStonesModel", "isCode", "(II)Z"⟩
set_option maxRecDepth 100000 in
theorem mi_X8_isCode : Jvm.Cond.code y_X8_isCode prog_10_method_11_code 3 (some .boolean) ∈ tblG ∧ Jvm.Cond.initialized y_X8_isCode.cls ∈ tblG ∧ Jvm.Cond.instanceMethod y_X8_isCode ∈ tblG ∧ Jvm.Cond.selects y_X8_isCode.cls y_X8_isCode y_X8_isCode ∈ tblG ∧ pl3 y_X8_isCode 2 := ⟨tblG_of (i := 882) rfl rfl, tblG_of (i := 9) rfl rfl, tblG_of (i := 881) rfl rfl, tblG_sel (q := (y_X8_isCode, 37)) (List.mem_of_getElem? (i := 62) rfl), ⟨by decide +kernel, by decide +kernel, by decide +kernel⟩⟩
def y_X8_isDigit : MethodName := ⟨"BrookStonesModel", "isDigit", "(I)Z"⟩
set_option maxRecDepth 100000 in
theorem mi_X8_isDigit : Jvm.Cond.code y_X8_isDigit prog_10_method_12_code 2 (some .boolean) ∈ tblG ∧ Jvm.Cond.initialized y_X8_isDigit.cls ∈ tblG ∧ Jvm.Cond.instanceMethod y_X8_isDigit ∈ tblG ∧ Jvm.Cond.selects y_X8_isDigit.cls y_X8_isDigit y_X8_isDigit ∈ tblG ∧ pl3 y_X8_isDigit 1 := ⟨tblG_of (i := 886) rfl rfl, tblG_of (i := 9) rfl rfl, tblG_of (i := 885) rfl rfl, tblG_sel (q := (y_X8_isDigit, 37)) (List.mem_of_getElem? (i := 63) rfl), ⟨by decide +kernel, by decide +kernel, by decide +kernel⟩⟩
def y_X8_brook : MethodName := ⟨"BrookStonesModel", "brook", "(IIII)I"⟩
set_option maxRecDepth 100000 in
theorem mi_X8_brook : Jvm.Cond.code y_X8_brook prog_10_method_13_code 8 (some .int) ∈ tblG ∧ Jvm.Cond.initialized y_X8_brook.cls ∈ tblG ∧ Jvm.Cond.instanceMethod y_X8_brook ∈ tblG ∧ Jvm.Cond.selects y_X8_brook.cls y_X8_brook y_X8_brook ∈ tblG ∧ pl3 y_X8_brook 4 := ⟨tblG_of (i := 857) rfl rfl, tblG_of (i := 9) rfl rfl, tblG_of (i := 855) rfl rfl, tblG_of (i := 856) rfl rfl, ⟨by decide +kernel, by decide +kernel, by decide +kernel⟩⟩
def y_X8_readBrook : MethodName := ⟨"BrookStonesModel", "readBrook", "(I)Z"⟩
set_option maxRecDepth 100000 in
theorem mi_X8_readBrook : Jvm.Cond.code y_X8_readBrook prog_10_method_14_code 3 (some .boolean) ∈ tblG ∧ Jvm.Cond.initialized y_X8_readBrook.cls ∈ tblG ∧ Jvm.Cond.instanceMethod y_X8_readBrook ∈ tblG ∧ Jvm.Cond.selects y_X8_readBrook.cls y_X8_readBrook y_X8_readBrook ∈ tblG ∧ pl3 y_X8_readBrook 1 := ⟨tblG_of (i := 878) rfl rfl, tblG_of (i := 9) rfl rfl, tblG_of (i := 877) rfl rfl, tblG_sel (q := (y_X8_readBrook, 37)) (List.mem_of_getElem? (i := 61) rfl), ⟨by decide +kernel, by decide +kernel, by decide +kernel⟩⟩
def y_X8_topOf : MethodName := ⟨"BrookStonesModel", "topOf", "(II)I"⟩
set_option maxRecDepth 100000 in
theorem mi_X8_topOf : Jvm.Cond.code y_X8_topOf prog_10_method_15_code 3 (some .int) ∈ tblG ∧ Jvm.Cond.initialized y_X8_topOf.cls ∈ tblG ∧ Jvm.Cond.instanceMethod y_X8_topOf ∈ tblG ∧ Jvm.Cond.selects y_X8_topOf.cls y_X8_topOf y_X8_topOf ∈ tblG ∧ pl3 y_X8_topOf 2 := ⟨tblG_of (i := 898) rfl rfl, tblG_of (i := 9) rfl rfl, tblG_of (i := 897) rfl rfl, tblG_sel (q := (y_X8_topOf, 37)) (List.mem_of_getElem? (i := 65) rfl), ⟨by decide +kernel, by decide +kernel, by decide +kernel⟩⟩
def y_X8_ofCell : MethodName := ⟨"BrookStonesModel", "ofCell", "(II)I"⟩
set_option maxRecDepth 100000 in
theorem mi_X8_ofCell : Jvm.Cond.code y_X8_ofCell prog_10_method_16_code 3 (some .int) ∈ tblG ∧ Jvm.Cond.initialized y_X8_ofCell.cls ∈ tblG ∧ Jvm.Cond.instanceMethod y_X8_ofCell ∈ tblG ∧ Jvm.Cond.selects y_X8_ofCell.cls y_X8_ofCell y_X8_ofCell ∈ tblG ∧ pl3 y_X8_ofCell 2 := ⟨tblG_of (i := 890) rfl rfl, tblG_of (i := 9) rfl rfl, tblG_of (i := 888) rfl rfl, tblG_of (i := 889) rfl rfl, ⟨by decide +kernel, by decide +kernel, by decide +kernel⟩⟩
def y_X8_guard : MethodName := ⟨"BrookStonesModel", "guard", "(IZ)I"⟩
set_option maxRecDepth 100000 in
theorem mi_X8_guard : Jvm.Cond.code y_X8_guard prog_10_method_17_code 3 (some .int) ∈ tblG ∧ Jvm.Cond.initialized y_X8_guard.cls ∈ tblG ∧ Jvm.Cond.instanceMethod y_X8_guard ∈ tblG ∧ Jvm.Cond.selects y_X8_guard.cls y_X8_guard y_X8_guard ∈ tblG ∧ pl3 y_X8_guard 2 := ⟨tblG_of (i := 902) rfl rfl, tblG_of (i := 9) rfl rfl, tblG_of (i := 900) rfl rfl, tblG_of (i := 901) rfl rfl, ⟨by decide +kernel, by decide +kernel, by decide +kernel⟩⟩
def y_X8_water : MethodName := ⟨"BrookStonesModel", "water", "(I)I"⟩
set_option maxRecDepth 100000 in
theorem mi_X8_water : Jvm.Cond.code y_X8_water prog_10_method_18_code 3 (some .int) ∈ tblG ∧ Jvm.Cond.initialized y_X8_water.cls ∈ tblG ∧ Jvm.Cond.instanceMethod y_X8_water ∈ tblG ∧ Jvm.Cond.selects y_X8_water.cls y_X8_water y_X8_water ∈ tblG ∧ pl3 y_X8_water 1 := ⟨tblG_of (i := 906) rfl rfl, tblG_of (i := 9) rfl rfl, tblG_of (i := 904) rfl rfl, tblG_of (i := 905) rfl rfl, ⟨by decide +kernel, by decide +kernel, by decide +kernel⟩⟩
def y_X8_isStone : MethodName := ⟨"BrookStonesModel", "isStone", "(I)Z"⟩
set_option maxRecDepth 100000 in
theorem mi_X8_isStone : Jvm.Cond.code y_X8_isStone prog_10_method_19_code 2 (some .boolean) ∈ tblG ∧ Jvm.Cond.initialized y_X8_isStone.cls ∈ tblG ∧ Jvm.Cond.instanceMethod y_X8_isStone ∈ tblG ∧ Jvm.Cond.selects y_X8_isStone.cls y_X8_isStone y_X8_isStone ∈ tblG ∧ pl3 y_X8_isStone 1 := ⟨tblG_of (i := 918) rfl rfl, tblG_of (i := 9) rfl rfl, tblG_of (i := 917) rfl rfl, tblG_sel (q := (y_X8_isStone, 37)) (List.mem_of_getElem? (i := 66) rfl), ⟨by decide +kernel, by decide +kernel, by decide +kernel⟩⟩
def y_X8_stone : MethodName := ⟨"BrookStonesModel", "stone", "(IIII)I"⟩
set_option maxRecDepth 100000 in
theorem mi_X8_stone : Jvm.Cond.code y_X8_stone prog_10_method_20_code 5 (some .int) ∈ tblG ∧ Jvm.Cond.initialized y_X8_stone.cls ∈ tblG ∧ Jvm.Cond.instanceMethod y_X8_stone ∈ tblG ∧ Jvm.Cond.selects y_X8_stone.cls y_X8_stone y_X8_stone ∈ tblG ∧ pl3 y_X8_stone 4 := ⟨tblG_of (i := 910) rfl rfl, tblG_of (i := 9) rfl rfl, tblG_of (i := 908) rfl rfl, tblG_of (i := 909) rfl rfl, ⟨by decide +kernel, by decide +kernel, by decide +kernel⟩⟩
def y_X8_holdOf : MethodName := ⟨"BrookStonesModel", "holdOf", "(I)I"⟩
set_option maxRecDepth 100000 in
theorem mi_X8_holdOf : Jvm.Cond.code y_X8_holdOf prog_10_method_21_code 2 (some .int) ∈ tblG ∧ Jvm.Cond.initialized y_X8_holdOf.cls ∈ tblG ∧ Jvm.Cond.instanceMethod y_X8_holdOf ∈ tblG ∧ Jvm.Cond.selects y_X8_holdOf.cls y_X8_holdOf y_X8_holdOf ∈ tblG ∧ pl3 y_X8_holdOf 1 := ⟨tblG_of (i := 922) rfl rfl, tblG_of (i := 9) rfl rfl, tblG_of (i := 921) rfl rfl, tblG_sel (q := (y_X8_holdOf, 37)) (List.mem_of_getElem? (i := 67) rfl), ⟨by decide +kernel, by decide +kernel, by decide +kernel⟩⟩
def y_X8_ofStone : MethodName := ⟨"BrookStonesModel", "ofStone", "(II)I"⟩
set_option maxRecDepth 100000 in
theorem mi_X8_ofStone : Jvm.Cond.code y_X8_ofStone prog_10_method_22_code 3 (some .int) ∈ tblG ∧ Jvm.Cond.initialized y_X8_ofStone.cls ∈ tblG ∧ Jvm.Cond.instanceMethod y_X8_ofStone ∈ tblG ∧ Jvm.Cond.selects y_X8_ofStone.cls y_X8_ofStone y_X8_ofStone ∈ tblG ∧ pl3 y_X8_ofStone 2 := ⟨tblG_of (i := 914) rfl rfl, tblG_of (i := 9) rfl rfl, tblG_of (i := 912) rfl rfl, tblG_of (i := 913) rfl rfl, ⟨by decide +kernel, by decide +kernel, by decide +kernel⟩⟩
def y_X8_set : MethodName := ⟨"BrookStonesModel", "set", "(II)I"⟩
set_option maxRecDepth 100000 in
theorem mi_X8_set : Jvm.Cond.code y_X8_set prog_10_method_23_code 3 (some .int) ∈ tblG ∧ Jvm.Cond.initialized y_X8_set.cls ∈ tblG ∧ Jvm.Cond.instanceMethod y_X8_set ∈ tblG ∧ Jvm.Cond.selects y_X8_set.cls y_X8_set y_X8_set ∈ tblG ∧ pl3 y_X8_set 2 := ⟨tblG_of (i := 926) rfl rfl, tblG_of (i := 9) rfl rfl, tblG_of (i := 924) rfl rfl, tblG_of (i := 925) rfl rfl, ⟨by decide +kernel, by decide +kernel, by decide +kernel⟩⟩
def y_X8_workOf : MethodName := ⟨"BrookStonesModel", "workOf", "(II)I"⟩
set_option maxRecDepth 100000 in
theorem mi_X8_workOf : Jvm.Cond.code y_X8_workOf prog_10_method_24_code 4 (some .int) ∈ tblG ∧ Jvm.Cond.initialized y_X8_workOf.cls ∈ tblG ∧ Jvm.Cond.instanceMethod y_X8_workOf ∈ tblG ∧ Jvm.Cond.selects y_X8_workOf.cls y_X8_workOf y_X8_workOf ∈ tblG ∧ pl3 y_X8_workOf 2 := ⟨tblG_of (i := 934) rfl rfl, tblG_of (i := 9) rfl rfl, tblG_of (i := 933) rfl rfl, tblG_sel (q := (y_X8_workOf, 37)) (List.mem_of_getElem? (i := 68) rfl), ⟨by decide +kernel, by decide +kernel, by decide +kernel⟩⟩
def y_X8_work : MethodName := ⟨"BrookStonesModel", "work", "(II)I"⟩
set_option maxRecDepth 100000 in
theorem mi_X8_work : Jvm.Cond.code y_X8_work prog_10_method_25_code 3 (some .int) ∈ tblG ∧ Jvm.Cond.initialized y_X8_work.cls ∈ tblG ∧ Jvm.Cond.instanceMethod y_X8_work ∈ tblG ∧ Jvm.Cond.selects y_X8_work.cls y_X8_work y_X8_work ∈ tblG ∧ pl3 y_X8_work 2 := ⟨tblG_of (i := 930) rfl rfl, tblG_of (i := 9) rfl rfl, tblG_of (i := 928) rfl rfl, tblG_of (i := 929) rfl rfl, ⟨by decide +kernel, by decide +kernel, by decide +kernel⟩⟩
def y_X8_isWalker : MethodName := ⟨"BrookStonesModel", "isWalker", "(I)Z"⟩
set_option maxRecDepth 100000 in
theorem mi_X8_isWalker : Jvm.Cond.code y_X8_isWalker prog_10_method_26_code 2 (some .boolean) ∈ tblG ∧ Jvm.Cond.initialized y_X8_isWalker.cls ∈ tblG ∧ Jvm.Cond.instanceMethod y_X8_isWalker ∈ tblG ∧ Jvm.Cond.selects y_X8_isWalker.cls y_X8_isWalker y_X8_isWalker ∈ tblG ∧ pl3 y_X8_isWalker 1 := ⟨tblG_of (i := 946) rfl rfl, tblG_of (i := 9) rfl rfl, tblG_of (i := 945) rfl rfl, tblG_sel (q := (y_X8_isWalker, 37)) (List.mem_of_getElem? (i := 69) rfl), ⟨by decide +kernel, by decide +kernel, by decide +kernel⟩⟩
def y_X8_walker : MethodName := ⟨"BrookStonesModel", "walker", "(I)I"⟩
set_option maxRecDepth 100000 in
theorem mi_X8_walker : Jvm.Cond.code y_X8_walker prog_10_method_27_code 2 (some .int) ∈ tblG ∧ Jvm.Cond.initialized y_X8_walker.cls ∈ tblG ∧ Jvm.Cond.instanceMethod y_X8_walker ∈ tblG ∧ Jvm.Cond.selects y_X8_walker.cls y_X8_walker y_X8_walker ∈ tblG ∧ pl3 y_X8_walker 1 := ⟨tblG_of (i := 938) rfl rfl, tblG_of (i := 9) rfl rfl, tblG_of (i := 936) rfl rfl, tblG_of (i := 937) rfl rfl, ⟨by decide +kernel, by decide +kernel, by decide +kernel⟩⟩
def y_X8_stride : MethodName := ⟨"BrookStonesModel", "stride", "(I)I"⟩
set_option maxRecDepth 100000 in
theorem mi_X8_stride : Jvm.Cond.code y_X8_stride prog_10_method_28_code 2 (some .int) ∈ tblG ∧ Jvm.Cond.initialized y_X8_stride.cls ∈ tblG ∧ Jvm.Cond.instanceMethod y_X8_stride ∈ tblG ∧ Jvm.Cond.selects y_X8_stride.cls y_X8_stride y_X8_stride ∈ tblG ∧ pl3 y_X8_stride 1 := ⟨tblG_of (i := 942) rfl rfl, tblG_of (i := 9) rfl rfl, tblG_of (i := 940) rfl rfl, tblG_of (i := 941) rfl rfl, ⟨by decide +kernel, by decide +kernel, by decide +kernel⟩⟩
def y_X8_layNow : MethodName := ⟨"BrookStonesModel", "layNow", "()V"⟩
set_option maxRecDepth 100000 in
theorem mi_X8_layNow : Jvm.Cond.code y_X8_layNow prog_10_method_29_code 2 (none) ∈ tblG ∧ Jvm.Cond.initialized y_X8_layNow.cls ∈ tblG ∧ Jvm.Cond.instanceMethod y_X8_layNow ∈ tblG ∧ Jvm.Cond.selects y_X8_layNow.cls y_X8_layNow y_X8_layNow ∈ tblG ∧ pl3 y_X8_layNow 0 := ⟨tblG_of (i := 954) rfl rfl, tblG_of (i := 9) rfl rfl, tblG_of (i := 953) rfl rfl, tblG_sel (q := (y_X8_layNow, 37)) (List.mem_of_getElem? (i := 70) rfl), ⟨by decide +kernel, by decide +kernel, by decide +kernel⟩⟩
def y_X8_isBank : MethodName := ⟨"BrookStonesModel", "isBank", "(I)Z"⟩
set_option maxRecDepth 100000 in
theorem mi_X8_isBank : Jvm.Cond.code y_X8_isBank prog_10_method_30_code 2 (some .boolean) ∈ tblG ∧ Jvm.Cond.initialized y_X8_isBank.cls ∈ tblG ∧ Jvm.Cond.instanceMethod y_X8_isBank ∈ tblG ∧ Jvm.Cond.selects y_X8_isBank.cls y_X8_isBank y_X8_isBank ∈ tblG ∧ pl3 y_X8_isBank 1 := ⟨tblG_of (i := 975) rfl rfl, tblG_of (i := 9) rfl rfl, tblG_of (i := 974) rfl rfl, tblG_sel (q := (y_X8_isBank, 37)) (List.mem_of_getElem? (i := 75) rfl), ⟨by decide +kernel, by decide +kernel, by decide +kernel⟩⟩
def y_X8_isStand : MethodName := ⟨"BrookStonesModel", "isStand", "(I)Z"⟩
set_option maxRecDepth 100000 in
theorem mi_X8_isStand : Jvm.Cond.code y_X8_isStand prog_10_method_31_code 3 (some .boolean) ∈ tblG ∧ Jvm.Cond.initialized y_X8_isStand.cls ∈ tblG ∧ Jvm.Cond.instanceMethod y_X8_isStand ∈ tblG ∧ Jvm.Cond.selects y_X8_isStand.cls y_X8_isStand y_X8_isStand ∈ tblG ∧ pl3 y_X8_isStand 1 := ⟨tblG_of (i := 971) rfl rfl, tblG_of (i := 9) rfl rfl, tblG_of (i := 970) rfl rfl, tblG_sel (q := (y_X8_isStand, 37)) (List.mem_of_getElem? (i := 74) rfl), ⟨by decide +kernel, by decide +kernel, by decide +kernel⟩⟩
def y_X8_easeAt : MethodName := ⟨"BrookStonesModel", "easeAt", "(I)I"⟩
set_option maxRecDepth 100000 in
theorem mi_X8_easeAt : Jvm.Cond.code y_X8_easeAt prog_10_method_32_code 2 (some .int) ∈ tblG ∧ Jvm.Cond.initialized y_X8_easeAt.cls ∈ tblG ∧ Jvm.Cond.instanceMethod y_X8_easeAt ∈ tblG ∧ Jvm.Cond.selects y_X8_easeAt.cls y_X8_easeAt y_X8_easeAt ∈ tblG ∧ pl3 y_X8_easeAt 1 := ⟨tblG_of (i := 983) rfl rfl, tblG_of (i := 9) rfl rfl, tblG_of (i := 982) rfl rfl, tblG_sel (q := (y_X8_easeAt, 37)) (List.mem_of_getElem? (i := 77) rfl), ⟨by decide +kernel, by decide +kernel, by decide +kernel⟩⟩
def y_X8_isStride : MethodName := ⟨"BrookStonesModel", "isStride", "(III)Z"⟩
set_option maxRecDepth 100000 in
theorem mi_X8_isStride : Jvm.Cond.code y_X8_isStride prog_10_method_33_code 5 (some .boolean) ∈ tblG ∧ Jvm.Cond.initialized y_X8_isStride.cls ∈ tblG ∧ Jvm.Cond.instanceMethod y_X8_isStride ∈ tblG ∧ Jvm.Cond.selects y_X8_isStride.cls y_X8_isStride y_X8_isStride ∈ tblG ∧ pl3 y_X8_isStride 3 := ⟨tblG_of (i := 979) rfl rfl, tblG_of (i := 9) rfl rfl, tblG_of (i := 978) rfl rfl, tblG_sel (q := (y_X8_isStride, 37)) (List.mem_of_getElem? (i := 76) rfl), ⟨by decide +kernel, by decide +kernel, by decide +kernel⟩⟩
def y_X8_layFar : MethodName := ⟨"BrookStonesModel", "layFar", "(II)V"⟩
set_option maxRecDepth 100000 in
theorem mi_X8_layFar : Jvm.Cond.code y_X8_layFar prog_10_method_34_code 6 (none) ∈ tblG ∧ Jvm.Cond.initialized y_X8_layFar.cls ∈ tblG ∧ Jvm.Cond.instanceMethod y_X8_layFar ∈ tblG ∧ Jvm.Cond.selects y_X8_layFar.cls y_X8_layFar y_X8_layFar ∈ tblG ∧ pl3 y_X8_layFar 2 := ⟨tblG_of (i := 966) rfl rfl, tblG_of (i := 9) rfl rfl, tblG_of (i := 965) rfl rfl, tblG_sel (q := (y_X8_layFar, 37)) (List.mem_of_getElem? (i := 73) rfl), ⟨by decide +kernel, by decide +kernel, by decide +kernel⟩⟩
def y_X8_comes : MethodName := ⟨"BrookStonesModel", "comes", "(I)Z"⟩
set_option maxRecDepth 100000 in
theorem mi_X8_comes : Jvm.Cond.code y_X8_comes prog_10_method_35_code 2 (some .boolean) ∈ tblG ∧ Jvm.Cond.initialized y_X8_comes.cls ∈ tblG ∧ Jvm.Cond.instanceMethod y_X8_comes ∈ tblG ∧ Jvm.Cond.selects y_X8_comes.cls y_X8_comes y_X8_comes ∈ tblG ∧ pl3 y_X8_comes 1 := ⟨tblG_of (i := 962) rfl rfl, tblG_of (i := 9) rfl rfl, tblG_of (i := 961) rfl rfl, tblG_sel (q := (y_X8_comes, 37)) (List.mem_of_getElem? (i := 72) rfl), ⟨by decide +kernel, by decide +kernel, by decide +kernel⟩⟩
def y_X8_strideOf : MethodName := ⟨"BrookStonesModel", "strideOf", "(IZ)I"⟩
set_option maxRecDepth 100000 in
theorem mi_X8_strideOf : Jvm.Cond.code y_X8_strideOf prog_10_method_36_code 3 (some .int) ∈ tblG ∧ Jvm.Cond.initialized y_X8_strideOf.cls ∈ tblG ∧ Jvm.Cond.instanceMethod y_X8_strideOf ∈ tblG ∧ Jvm.Cond.selects y_X8_strideOf.cls y_X8_strideOf y_X8_strideOf ∈ tblG ∧ pl3 y_X8_strideOf 2 := ⟨tblG_of (i := 958) rfl rfl, tblG_of (i := 9) rfl rfl, tblG_of (i := 957) rfl rfl, tblG_sel (q := (y_X8_strideOf, 37)) (List.mem_of_getElem? (i := 71) rfl), ⟨by decide +kernel, by decide +kernel, by decide +kernel⟩⟩
def y_X8_can : MethodName := ⟨"BrookStonesModel", "can", "(IZ)I"⟩
set_option maxRecDepth 100000 in
theorem mi_X8_can : Jvm.Cond.code y_X8_can prog_10_method_37_code 3 (some .int) ∈ tblG ∧ Jvm.Cond.initialized y_X8_can.cls ∈ tblG ∧ Jvm.Cond.instanceMethod y_X8_can ∈ tblG ∧ Jvm.Cond.selects y_X8_can.cls y_X8_can y_X8_can ∈ tblG ∧ pl3 y_X8_can 2 := ⟨tblG_of (i := 950) rfl rfl, tblG_of (i := 9) rfl rfl, tblG_of (i := 948) rfl rfl, tblG_of (i := 949) rfl rfl, ⟨by decide +kernel, by decide +kernel, by decide +kernel⟩⟩
def y_X8_way : MethodName := ⟨"BrookStonesModel", "way", "(II)I"⟩
set_option maxRecDepth 100000 in
theorem mi_X8_way : Jvm.Cond.code y_X8_way prog_10_method_38_code 7 (some .int) ∈ tblG ∧ Jvm.Cond.initialized y_X8_way.cls ∈ tblG ∧ Jvm.Cond.instanceMethod y_X8_way ∈ tblG ∧ Jvm.Cond.selects y_X8_way.cls y_X8_way y_X8_way ∈ tblG ∧ pl3 y_X8_way 2 := ⟨tblG_of (i := 987) rfl rfl, tblG_of (i := 9) rfl rfl, tblG_of (i := 985) rfl rfl, tblG_of (i := 986) rfl rfl, ⟨by decide +kernel, by decide +kernel, by decide +kernel⟩⟩
def y_X8_highest : MethodName := ⟨"BrookStonesModel", "highest", "(IZ)I"⟩
set_option maxRecDepth 100000 in
theorem mi_X8_highest : Jvm.Cond.code y_X8_highest prog_10_method_39_code 5 (some .int) ∈ tblG ∧ Jvm.Cond.initialized y_X8_highest.cls ∈ tblG ∧ Jvm.Cond.instanceMethod y_X8_highest ∈ tblG ∧ Jvm.Cond.selects y_X8_highest.cls y_X8_highest y_X8_highest ∈ tblG ∧ pl3 y_X8_highest 2 := ⟨tblG_of (i := 991) rfl rfl, tblG_of (i := 9) rfl rfl, tblG_of (i := 989) rfl rfl, tblG_of (i := 990) rfl rfl, ⟨by decide +kernel, by decide +kernel, by decide +kernel⟩⟩
def y_X8_fromBoth : MethodName := ⟨"BrookStonesModel", "fromBoth", "(I)I"⟩
set_option maxRecDepth 100000 in
theorem mi_X8_fromBoth : Jvm.Cond.code y_X8_fromBoth prog_10_method_40_code 5 (some .int) ∈ tblG ∧ Jvm.Cond.initialized y_X8_fromBoth.cls ∈ tblG ∧ Jvm.Cond.instanceMethod y_X8_fromBoth ∈ tblG ∧ Jvm.Cond.selects y_X8_fromBoth.cls y_X8_fromBoth y_X8_fromBoth ∈ tblG ∧ pl3 y_X8_fromBoth 1 := ⟨tblG_of (i := 999) rfl rfl, tblG_of (i := 9) rfl rfl, tblG_of (i := 998) rfl rfl, tblG_sel (q := (y_X8_fromBoth, 37)) (List.mem_of_getElem? (i := 78) rfl), ⟨by decide +kernel, by decide +kernel, by decide +kernel⟩⟩
def y_X8_pass : MethodName := ⟨"BrookStonesModel", "pass", "(II)I"⟩
set_option maxRecDepth 100000 in
theorem mi_X8_pass : Jvm.Cond.code y_X8_pass prog_10_method_41_code 6 (some .int) ∈ tblG ∧ Jvm.Cond.initialized y_X8_pass.cls ∈ tblG ∧ Jvm.Cond.instanceMethod y_X8_pass ∈ tblG ∧ Jvm.Cond.selects y_X8_pass.cls y_X8_pass y_X8_pass ∈ tblG ∧ pl3 y_X8_pass 2 := ⟨tblG_of (i := 995) rfl rfl, tblG_of (i := 9) rfl rfl, tblG_of (i := 993) rfl rfl, tblG_of (i := 994) rfl rfl, ⟨by decide +kernel, by decide +kernel, by decide +kernel⟩⟩
def y_X8_days : MethodName := ⟨"BrookStonesModel", "days", "(IIIII)I"⟩
set_option maxRecDepth 100000 in
theorem mi_X8_days : Jvm.Cond.code y_X8_days prog_10_method_42_code 10 (some .int) ∈ tblG ∧ Jvm.Cond.initialized y_X8_days.cls ∈ tblG ∧ Jvm.Cond.instanceMethod y_X8_days ∈ tblG ∧ Jvm.Cond.selects y_X8_days.cls y_X8_days y_X8_days ∈ tblG ∧ pl3 y_X8_days 5 := ⟨tblG_of (i := 1006) rfl rfl, tblG_of (i := 9) rfl rfl, tblG_of (i := 1004) rfl rfl, tblG_of (i := 1005) rfl rfl, ⟨by decide +kernel, by decide +kernel, by decide +kernel⟩⟩
def y_X8_isFlood : MethodName := ⟨"BrookStonesModel", "isFlood", "(II)Z"⟩
set_option maxRecDepth 100000 in
theorem mi_X8_isFlood : Jvm.Cond.code y_X8_isFlood prog_10_method_43_code 2 (some .boolean) ∈ tblG ∧ Jvm.Cond.initialized y_X8_isFlood.cls ∈ tblG ∧ Jvm.Cond.static y_X8_isFlood ∈ tblG ∧ pl3 y_X8_isFlood 2 := ⟨tblG_of (i := 1013) rfl rfl, tblG_of (i := 9) rfl rfl, tblG_of (i := 1012) rfl rfl, ⟨by decide +kernel, by decide +kernel, by decide +kernel⟩⟩
def y_X8_powerAt : MethodName := ⟨"BrookStonesModel", "powerAt", "(II)I"⟩
set_option maxRecDepth 100000 in
theorem mi_X8_powerAt : Jvm.Cond.code y_X8_powerAt prog_10_method_44_code 4 (some .int) ∈ tblG ∧ Jvm.Cond.initialized y_X8_powerAt.cls ∈ tblG ∧ Jvm.Cond.instanceMethod y_X8_powerAt ∈ tblG ∧ Jvm.Cond.selects y_X8_powerAt.cls y_X8_powerAt y_X8_powerAt ∈ tblG ∧ pl3 y_X8_powerAt 2 := ⟨tblG_of (i := 1021) rfl rfl, tblG_of (i := 9) rfl rfl, tblG_of (i := 1020) rfl rfl, tblG_sel (q := (y_X8_powerAt, 37)) (List.mem_of_getElem? (i := 80) rfl), ⟨by decide +kernel, by decide +kernel, by decide +kernel⟩⟩
def y_X8_goFlood : MethodName := ⟨"BrookStonesModel", "goFlood", "(II)V"⟩
set_option maxRecDepth 100000 in
theorem mi_X8_goFlood : Jvm.Cond.code y_X8_goFlood prog_10_method_45_code 6 (none) ∈ tblG ∧ Jvm.Cond.initialized y_X8_goFlood.cls ∈ tblG ∧ Jvm.Cond.instanceMethod y_X8_goFlood ∈ tblG ∧ Jvm.Cond.selects y_X8_goFlood.cls y_X8_goFlood y_X8_goFlood ∈ tblG ∧ pl3 y_X8_goFlood 2 := ⟨tblG_of (i := 1017) rfl rfl, tblG_of (i := 9) rfl rfl, tblG_of (i := 1016) rfl rfl, tblG_sel (q := (y_X8_goFlood, 37)) (List.mem_of_getElem? (i := 79) rfl), ⟨by decide +kernel, by decide +kernel, by decide +kernel⟩⟩
def y_X8_standing : MethodName := ⟨"BrookStonesModel", "standing", "()I"⟩
set_option maxRecDepth 100000 in
theorem mi_X8_standing : Jvm.Cond.code y_X8_standing prog_10_method_46_code 3 (some .int) ∈ tblG ∧ Jvm.Cond.initialized y_X8_standing.cls ∈ tblG ∧ Jvm.Cond.instanceMethod y_X8_standing ∈ tblG ∧ Jvm.Cond.selects y_X8_standing.cls y_X8_standing y_X8_standing ∈ tblG ∧ pl3 y_X8_standing 0 := ⟨tblG_of (i := 1025) rfl rfl, tblG_of (i := 9) rfl rfl, tblG_of (i := 1024) rfl rfl, tblG_sel (q := (y_X8_standing, 37)) (List.mem_of_getElem? (i := 81) rfl), ⟨by decide +kernel, by decide +kernel, by decide +kernel⟩⟩
def y_X8_bitsOf : MethodName := ⟨"BrookStonesModel", "bitsOf", "(I)I"⟩
set_option maxRecDepth 100000 in
theorem mi_X8_bitsOf : Jvm.Cond.code y_X8_bitsOf prog_10_method_47_code 3 (some .int) ∈ tblG ∧ Jvm.Cond.initialized y_X8_bitsOf.cls ∈ tblG ∧ Jvm.Cond.static y_X8_bitsOf ∈ tblG ∧ pl3 y_X8_bitsOf 1 := ⟨tblG_of (i := 1044) rfl rfl, tblG_of (i := 9) rfl rfl, tblG_of (i := 1043) rfl rfl, ⟨by decide +kernel, by decide +kernel, by decide +kernel⟩⟩
def y_X8_stands : MethodName := ⟨"BrookStonesModel", "stands", "(II)I"⟩
set_option maxRecDepth 100000 in
theorem mi_X8_stands : Jvm.Cond.code y_X8_stands prog_10_method_48_code 3 (some .int) ∈ tblG ∧ Jvm.Cond.initialized y_X8_stands.cls ∈ tblG ∧ Jvm.Cond.instanceMethod y_X8_stands ∈ tblG ∧ Jvm.Cond.selects y_X8_stands.cls y_X8_stands y_X8_stands ∈ tblG ∧ pl3 y_X8_stands 2 := ⟨tblG_of (i := 1010) rfl rfl, tblG_of (i := 9) rfl rfl, tblG_of (i := 1008) rfl rfl, tblG_of (i := 1009) rfl rfl, ⟨by decide +kernel, by decide +kernel, by decide +kernel⟩⟩
def y_X8_goes : MethodName := ⟨"BrookStonesModel", "goes", "(II)I"⟩
set_option maxRecDepth 100000 in
theorem mi_X8_goes : Jvm.Cond.code y_X8_goes prog_10_method_49_code 3 (some .int) ∈ tblG ∧ Jvm.Cond.initialized y_X8_goes.cls ∈ tblG ∧ Jvm.Cond.instanceMethod y_X8_goes ∈ tblG ∧ Jvm.Cond.selects y_X8_goes.cls y_X8_goes y_X8_goes ∈ tblG ∧ pl3 y_X8_goes 2 := ⟨tblG_of (i := 1029) rfl rfl, tblG_of (i := 9) rfl rfl, tblG_of (i := 1027) rfl rfl, tblG_of (i := 1028) rfl rfl, ⟨by decide +kernel, by decide +kernel, by decide +kernel⟩⟩
def y_X8_dug : MethodName := ⟨"BrookStonesModel", "dug", "(III)I"⟩
set_option maxRecDepth 100000 in
theorem mi_X8_dug : Jvm.Cond.code y_X8_dug prog_10_method_50_code 4 (some .int) ∈ tblG ∧ Jvm.Cond.initialized y_X8_dug.cls ∈ tblG ∧ Jvm.Cond.instanceMethod y_X8_dug ∈ tblG ∧ Jvm.Cond.selects y_X8_dug.cls y_X8_dug y_X8_dug ∈ tblG ∧ pl3 y_X8_dug 3 := ⟨tblG_of (i := 1033) rfl rfl, tblG_of (i := 9) rfl rfl, tblG_of (i := 1031) rfl rfl, tblG_of (i := 1032) rfl rfl, ⟨by decide +kernel, by decide +kernel, by decide +kernel⟩⟩
def y_X8_flood : MethodName := ⟨"BrookStonesModel", "flood", "(II)I"⟩
set_option maxRecDepth 100000 in
theorem mi_X8_flood : Jvm.Cond.code y_X8_flood prog_10_method_51_code 5 (some .int) ∈ tblG ∧ Jvm.Cond.initialized y_X8_flood.cls ∈ tblG ∧ Jvm.Cond.instanceMethod y_X8_flood ∈ tblG ∧ Jvm.Cond.selects y_X8_flood.cls y_X8_flood y_X8_flood ∈ tblG ∧ pl3 y_X8_flood 2 := ⟨tblG_of (i := 1037) rfl rfl, tblG_of (i := 9) rfl rfl, tblG_of (i := 1035) rfl rfl, tblG_of (i := 1036) rfl rfl, ⟨by decide +kernel, by decide +kernel, by decide +kernel⟩⟩
def y_X8_save : MethodName := ⟨"BrookStonesModel", "save", "(III)I"⟩
set_option maxRecDepth 100000 in
theorem mi_X8_save : Jvm.Cond.code y_X8_save prog_10_method_52_code 8 (some .int) ∈ tblG ∧ Jvm.Cond.initialized y_X8_save.cls ∈ tblG ∧ Jvm.Cond.instanceMethod y_X8_save ∈ tblG ∧ Jvm.Cond.selects y_X8_save.cls y_X8_save y_X8_save ∈ tblG ∧ pl3 y_X8_save 3 := ⟨tblG_of (i := 1041) rfl rfl, tblG_of (i := 9) rfl rfl, tblG_of (i := 1039) rfl rfl, tblG_of (i := 1040) rfl rfl, ⟨by decide +kernel, by decide +kernel, by decide +kernel⟩⟩
def y_X8_isFree : MethodName := ⟨"BrookStonesModel", "isFree", "(II)Z"⟩
set_option maxRecDepth 100000 in
theorem mi_X8_isFree : Jvm.Cond.code y_X8_isFree prog_10_method_53_code 4 (some .boolean) ∈ tblG ∧ Jvm.Cond.initialized y_X8_isFree.cls ∈ tblG ∧ Jvm.Cond.instanceMethod y_X8_isFree ∈ tblG ∧ Jvm.Cond.selects y_X8_isFree.cls y_X8_isFree y_X8_isFree ∈ tblG ∧ pl3 y_X8_isFree 2 := ⟨tblG_of (i := 1056) rfl rfl, tblG_of (i := 9) rfl rfl, tblG_of (i := 1055) rfl rfl, tblG_sel (q := (y_X8_isFree, 37)) (List.mem_of_getElem? (i := 83) rfl), ⟨by decide +kernel, by decide +kernel, by decide +kernel⟩⟩
def y_X8_isPlan : MethodName := ⟨"BrookStonesModel", "isPlan", "(III)Z"⟩
set_option maxRecDepth 100000 in
theorem mi_X8_isPlan : Jvm.Cond.code y_X8_isPlan prog_10_method_54_code 5 (some .boolean) ∈ tblG ∧ Jvm.Cond.initialized y_X8_isPlan.cls ∈ tblG ∧ Jvm.Cond.instanceMethod y_X8_isPlan ∈ tblG ∧ Jvm.Cond.selects y_X8_isPlan.cls y_X8_isPlan y_X8_isPlan ∈ tblG ∧ pl3 y_X8_isPlan 3 := ⟨tblG_of (i := 1068) rfl rfl, tblG_of (i := 9) rfl rfl, tblG_of (i := 1067) rfl rfl, tblG_sel (q := (y_X8_isPlan, 37)) (List.mem_of_getElem? (i := 86) rfl), ⟨by decide +kernel, by decide +kernel, by decide +kernel⟩⟩
def y_X8_offer : MethodName := ⟨"BrookStonesModel", "offer", "(III)V"⟩
set_option maxRecDepth 100000 in
theorem mi_X8_offer : Jvm.Cond.code y_X8_offer prog_10_method_55_code 8 (none) ∈ tblG ∧ Jvm.Cond.initialized y_X8_offer.cls ∈ tblG ∧ Jvm.Cond.instanceMethod y_X8_offer ∈ tblG ∧ Jvm.Cond.selects y_X8_offer.cls y_X8_offer y_X8_offer ∈ tblG ∧ pl3 y_X8_offer 3 := ⟨tblG_of (i := 1064) rfl rfl, tblG_of (i := 9) rfl rfl, tblG_of (i := 1063) rfl rfl, tblG_sel (q := (y_X8_offer, 37)) (List.mem_of_getElem? (i := 85) rfl), ⟨by decide +kernel, by decide +kernel, by decide +kernel⟩⟩
def y_X8_workAhead : MethodName := ⟨"BrookStonesModel", "workAhead", "(I)I"⟩
set_option maxRecDepth 100000 in
theorem mi_X8_workAhead : Jvm.Cond.code y_X8_workAhead prog_10_method_56_code 4 (some .int) ∈ tblG ∧ Jvm.Cond.initialized y_X8_workAhead.cls ∈ tblG ∧ Jvm.Cond.instanceMethod y_X8_workAhead ∈ tblG ∧ Jvm.Cond.selects y_X8_workAhead.cls y_X8_workAhead y_X8_workAhead ∈ tblG ∧ pl3 y_X8_workAhead 1 := ⟨tblG_of (i := 1060) rfl rfl, tblG_of (i := 9) rfl rfl, tblG_of (i := 1059) rfl rfl, tblG_sel (q := (y_X8_workAhead, 37)) (List.mem_of_getElem? (i := 84) rfl), ⟨by decide +kernel, by decide +kernel, by decide +kernel⟩⟩
def y_X8_findPlan : MethodName := ⟨"BrookStonesModel", "findPlan", "(III)V"⟩
set_option maxRecDepth 100000 in
theorem mi_X8_findPlan : Jvm.Cond.code y_X8_findPlan prog_10_method_57_code 5 (none) ∈ tblG ∧ Jvm.Cond.initialized y_X8_findPlan.cls ∈ tblG ∧ Jvm.Cond.instanceMethod y_X8_findPlan ∈ tblG ∧ Jvm.Cond.selects y_X8_findPlan.cls y_X8_findPlan y_X8_findPlan ∈ tblG ∧ pl3 y_X8_findPlan 3 := ⟨tblG_of (i := 1052) rfl rfl, tblG_of (i := 9) rfl rfl, tblG_of (i := 1051) rfl rfl, tblG_sel (q := (y_X8_findPlan, 37)) (List.mem_of_getElem? (i := 82) rfl), ⟨by decide +kernel, by decide +kernel, by decide +kernel⟩⟩
def y_X8_plan : MethodName := ⟨"BrookStonesModel", "plan", "(IIII)I"⟩
set_option maxRecDepth 100000 in
theorem mi_X8_plan : Jvm.Cond.code y_X8_plan prog_10_method_58_code 5 (some .int) ∈ tblG ∧ Jvm.Cond.initialized y_X8_plan.cls ∈ tblG ∧ Jvm.Cond.instanceMethod y_X8_plan ∈ tblG ∧ Jvm.Cond.selects y_X8_plan.cls y_X8_plan y_X8_plan ∈ tblG ∧ pl3 y_X8_plan 4 := ⟨tblG_of (i := 1048) rfl rfl, tblG_of (i := 9) rfl rfl, tblG_of (i := 1046) rfl rfl, tblG_of (i := 1047) rfl rfl, ⟨by decide +kernel, by decide +kernel, by decide +kernel⟩⟩
def y_X8_isLaid : MethodName := ⟨"BrookStonesModel", "isLaid", "(III)Z"⟩
set_option maxRecDepth 100000 in
theorem mi_X8_isLaid : Jvm.Cond.code y_X8_isLaid prog_10_method_59_code 5 (some .boolean) ∈ tblG ∧ Jvm.Cond.initialized y_X8_isLaid.cls ∈ tblG ∧ Jvm.Cond.instanceMethod y_X8_isLaid ∈ tblG ∧ Jvm.Cond.selects y_X8_isLaid.cls y_X8_isLaid y_X8_isLaid ∈ tblG ∧ pl3 y_X8_isLaid 3 := ⟨tblG_of (i := 1080) rfl rfl, tblG_of (i := 9) rfl rfl, tblG_of (i := 1079) rfl rfl, tblG_sel (q := (y_X8_isLaid, 37)) (List.mem_of_getElem? (i := 88) rfl), ⟨by decide +kernel, by decide +kernel, by decide +kernel⟩⟩
def y_X8_layWays : MethodName := ⟨"BrookStonesModel", "layWays", "(I)V"⟩
set_option maxRecDepth 100000 in
theorem mi_X8_layWays : Jvm.Cond.code y_X8_layWays prog_10_method_60_code 5 (none) ∈ tblG ∧ Jvm.Cond.initialized y_X8_layWays.cls ∈ tblG ∧ Jvm.Cond.instanceMethod y_X8_layWays ∈ tblG ∧ Jvm.Cond.selects y_X8_layWays.cls y_X8_layWays y_X8_layWays ∈ tblG ∧ pl3 y_X8_layWays 1 := ⟨tblG_of (i := 1076) rfl rfl, tblG_of (i := 9) rfl rfl, tblG_of (i := 1075) rfl rfl, tblG_sel (q := (y_X8_layWays, 37)) (List.mem_of_getElem? (i := 87) rfl), ⟨by decide +kernel, by decide +kernel, by decide +kernel⟩⟩
def y_X8_orders : MethodName := ⟨"BrookStonesModel", "orders", "(I)I"⟩
set_option maxRecDepth 100000 in
theorem mi_X8_orders : Jvm.Cond.code y_X8_orders prog_10_method_61_code 2 (some .int) ∈ tblG ∧ Jvm.Cond.initialized y_X8_orders.cls ∈ tblG ∧ Jvm.Cond.instanceMethod y_X8_orders ∈ tblG ∧ Jvm.Cond.selects y_X8_orders.cls y_X8_orders y_X8_orders ∈ tblG ∧ pl3 y_X8_orders 1 := ⟨tblG_of (i := 1072) rfl rfl, tblG_of (i := 9) rfl rfl, tblG_of (i := 1070) rfl rfl, tblG_of (i := 1071) rfl rfl, ⟨by decide +kernel, by decide +kernel, by decide +kernel⟩⟩
def y_X8_order : MethodName := ⟨"BrookStonesModel", "order", "(II)I"⟩
set_option maxRecDepth 100000 in
theorem mi_X8_order : Jvm.Cond.code y_X8_order prog_10_method_62_code 6 (some .int) ∈ tblG ∧ Jvm.Cond.initialized y_X8_order.cls ∈ tblG ∧ Jvm.Cond.instanceMethod y_X8_order ∈ tblG ∧ Jvm.Cond.selects y_X8_order.cls y_X8_order y_X8_order ∈ tblG ∧ pl3 y_X8_order 2 := ⟨tblG_of (i := 1084) rfl rfl, tblG_of (i := 9) rfl rfl, tblG_of (i := 1082) rfl rfl, tblG_of (i := 1083) rfl rfl, ⟨by decide +kernel, by decide +kernel, by decide +kernel⟩⟩
def y_X8_fits : MethodName := ⟨"BrookStonesModel", "fits", "(II)I"⟩
set_option maxRecDepth 100000 in
theorem mi_X8_fits : Jvm.Cond.code y_X8_fits prog_10_method_63_code 5 (some .int) ∈ tblG ∧ Jvm.Cond.initialized y_X8_fits.cls ∈ tblG ∧ Jvm.Cond.instanceMethod y_X8_fits ∈ tblG ∧ Jvm.Cond.selects y_X8_fits.cls y_X8_fits y_X8_fits ∈ tblG ∧ pl3 y_X8_fits 2 := ⟨tblG_of (i := 1088) rfl rfl, tblG_of (i := 9) rfl rfl, tblG_of (i := 1086) rfl rfl, tblG_of (i := 1087) rfl rfl, ⟨by decide +kernel, by decide +kernel, by decide +kernel⟩⟩
def y_X8_common : MethodName := ⟨"BrookStonesModel", "common", "(JJ)J"⟩
set_option maxRecDepth 100000 in
theorem mi_X8_common : Jvm.Cond.code y_X8_common prog_10_method_64_code 10 (some .long) ∈ tblG ∧ Jvm.Cond.initialized y_X8_common.cls ∈ tblG ∧ Jvm.Cond.static y_X8_common ∈ tblG ∧ pl3 y_X8_common 2 := ⟨tblG_of (i := 1100) rfl rfl, tblG_of (i := 9) rfl rfl, tblG_of (i := 1099) rfl rfl, ⟨by decide +kernel, by decide +kernel, by decide +kernel⟩⟩
def y_X8_odds : MethodName := ⟨"BrookStonesModel", "odds", "(IIIIII)J"⟩
set_option maxRecDepth 100000 in
theorem mi_X8_odds : Jvm.Cond.code y_X8_odds prog_10_method_65_code 13 (some .long) ∈ tblG ∧ Jvm.Cond.initialized y_X8_odds.cls ∈ tblG ∧ Jvm.Cond.instanceMethod y_X8_odds ∈ tblG ∧ Jvm.Cond.selects y_X8_odds.cls y_X8_odds y_X8_odds ∈ tblG ∧ pl3 y_X8_odds 6 := ⟨tblG_of (i := 1092) rfl rfl, tblG_of (i := 9) rfl rfl, tblG_of (i := 1090) rfl rfl, tblG_of (i := 1091) rfl rfl, ⟨by decide +kernel, by decide +kernel, by decide +kernel⟩⟩
def y_X8_sheet : MethodName := ⟨"BrookStonesModel", "sheet", "(III)I"⟩
set_option maxRecDepth 100000 in
theorem mi_X8_sheet : Jvm.Cond.code y_X8_sheet prog_10_method_66_code 5 (some .int) ∈ tblG ∧ Jvm.Cond.initialized y_X8_sheet.cls ∈ tblG ∧ Jvm.Cond.instanceMethod y_X8_sheet ∈ tblG ∧ Jvm.Cond.selects y_X8_sheet.cls y_X8_sheet y_X8_sheet ∈ tblG ∧ pl3 y_X8_sheet 3 := ⟨tblG_of (i := 1104) rfl rfl, tblG_of (i := 9) rfl rfl, tblG_of (i := 1102) rfl rfl, tblG_of (i := 1103) rfl rfl, ⟨by decide +kernel, by decide +kernel, by decide +kernel⟩⟩
def y_X8_lose : MethodName := ⟨"BrookStonesModel", "lose", "(I)I"⟩
set_option maxRecDepth 100000 in
theorem mi_X8_lose : Jvm.Cond.code y_X8_lose prog_10_method_67_code 3 (some .int) ∈ tblG ∧ Jvm.Cond.initialized y_X8_lose.cls ∈ tblG ∧ Jvm.Cond.instanceMethod y_X8_lose ∈ tblG ∧ Jvm.Cond.selects y_X8_lose.cls y_X8_lose y_X8_lose ∈ tblG ∧ pl3 y_X8_lose 1 := ⟨tblG_of (i := 1108) rfl rfl, tblG_of (i := 9) rfl rfl, tblG_of (i := 1106) rfl rfl, tblG_of (i := 1107) rfl rfl, ⟨by decide +kernel, by decide +kernel, by decide +kernel⟩⟩
def y_X8_put : MethodName := ⟨"BrookStonesModel", "put", "(III)I"⟩
set_option maxRecDepth 100000 in
theorem mi_X8_put : Jvm.Cond.code y_X8_put prog_10_method_68_code 4 (some .int) ∈ tblG ∧ Jvm.Cond.initialized y_X8_put.cls ∈ tblG ∧ Jvm.Cond.instanceMethod y_X8_put ∈ tblG ∧ Jvm.Cond.selects y_X8_put.cls y_X8_put y_X8_put ∈ tblG ∧ pl3 y_X8_put 3 := ⟨tblG_of (i := 1112) rfl rfl, tblG_of (i := 9) rfl rfl, tblG_of (i := 1110) rfl rfl, tblG_of (i := 1111) rfl rfl, ⟨by decide +kernel, by decide +kernel, by decide +kernel⟩⟩
def y_X8_cell : MethodName := ⟨"BrookStonesModel", "cell", "(III)J"⟩
set_option maxRecDepth 100000 in
theorem mi_X8_cell : Jvm.Cond.code y_X8_cell prog_10_method_69_code 4 (some .long) ∈ tblG ∧ Jvm.Cond.initialized y_X8_cell.cls ∈ tblG ∧ Jvm.Cond.instanceMethod y_X8_cell ∈ tblG ∧ Jvm.Cond.selects y_X8_cell.cls y_X8_cell y_X8_cell ∈ tblG ∧ pl3 y_X8_cell 3 := ⟨tblG_of (i := 1116) rfl rfl, tblG_of (i := 9) rfl rfl, tblG_of (i := 1114) rfl rfl, tblG_of (i := 1115) rfl rfl, ⟨by decide +kernel, by decide +kernel, by decide +kernel⟩⟩
def y_X8_copy : MethodName := ⟨"BrookStonesModel", "copy", "(IIIII)I"⟩
set_option maxRecDepth 100000 in
theorem mi_X8_copy : Jvm.Cond.code y_X8_copy prog_10_method_70_code 10 (some .int) ∈ tblG ∧ Jvm.Cond.initialized y_X8_copy.cls ∈ tblG ∧ Jvm.Cond.instanceMethod y_X8_copy ∈ tblG ∧ Jvm.Cond.selects y_X8_copy.cls y_X8_copy y_X8_copy ∈ tblG ∧ pl3 y_X8_copy 5 := ⟨tblG_of (i := 1120) rfl rfl, tblG_of (i := 9) rfl rfl, tblG_of (i := 1118) rfl rfl, tblG_of (i := 1119) rfl rfl, ⟨by decide +kernel, by decide +kernel, by decide +kernel⟩⟩
def y_X8_begins : MethodName := ⟨"BrookStonesModel", "begins", "(I)V"⟩
set_option maxRecDepth 100000 in
theorem mi_X8_begins : Jvm.Cond.code y_X8_begins prog_10_method_71_code 2 (none) ∈ tblG ∧ Jvm.Cond.initialized y_X8_begins.cls ∈ tblG ∧ Jvm.Cond.instanceMethod y_X8_begins ∈ tblG ∧ Jvm.Cond.selects y_X8_begins.cls y_X8_begins y_X8_begins ∈ tblG ∧ pl3 y_X8_begins 1 := ⟨tblG_of (i := 1128) rfl rfl, tblG_of (i := 9) rfl rfl, tblG_of (i := 1127) rfl rfl, tblG_sel (q := (y_X8_begins, 37)) (List.mem_of_getElem? (i := 90) rfl), ⟨by decide +kernel, by decide +kernel, by decide +kernel⟩⟩
def y_X8_tell : MethodName := ⟨"BrookStonesModel", "tell", "(I)I"⟩
set_option maxRecDepth 100000 in
theorem mi_X8_tell : Jvm.Cond.code y_X8_tell prog_10_method_72_code 3 (some .int) ∈ tblG ∧ Jvm.Cond.initialized y_X8_tell.cls ∈ tblG ∧ Jvm.Cond.instanceMethod y_X8_tell ∈ tblG ∧ Jvm.Cond.selects y_X8_tell.cls y_X8_tell y_X8_tell ∈ tblG ∧ pl3 y_X8_tell 1 := ⟨tblG_of (i := 1124) rfl rfl, tblG_of (i := 9) rfl rfl, tblG_of (i := 1122) rfl rfl, tblG_of (i := 1123) rfl rfl, ⟨by decide +kernel, by decide +kernel, by decide +kernel⟩⟩
def y_X8_tread : MethodName := ⟨"BrookStonesModel", "tread", "(I)I"⟩
set_option maxRecDepth 100000 in
theorem mi_X8_tread : Jvm.Cond.code y_X8_tread prog_10_method_73_code 2 (some .int) ∈ tblG ∧ Jvm.Cond.initialized y_X8_tread.cls ∈ tblG ∧ Jvm.Cond.instanceMethod y_X8_tread ∈ tblG ∧ Jvm.Cond.selects y_X8_tread.cls y_X8_tread y_X8_tread ∈ tblG ∧ pl3 y_X8_tread 1 := ⟨tblG_of (i := 1132) rfl rfl, tblG_of (i := 9) rfl rfl, tblG_of (i := 1130) rfl rfl, tblG_of (i := 1131) rfl rfl, ⟨by decide +kernel, by decide +kernel, by decide +kernel⟩⟩
def y_X8_as : MethodName := ⟨"BrookStonesModel", "as", "(II)I"⟩
set_option maxRecDepth 100000 in
theorem mi_X8_as : Jvm.Cond.code y_X8_as prog_10_method_74_code 3 (some .int) ∈ tblG ∧ Jvm.Cond.initialized y_X8_as.cls ∈ tblG ∧ Jvm.Cond.instanceMethod y_X8_as ∈ tblG ∧ Jvm.Cond.selects y_X8_as.cls y_X8_as y_X8_as ∈ tblG ∧ pl3 y_X8_as 2 := ⟨tblG_of (i := 1136) rfl rfl, tblG_of (i := 9) rfl rfl, tblG_of (i := 1134) rfl rfl, tblG_of (i := 1135) rfl rfl, ⟨by decide +kernel, by decide +kernel, by decide +kernel⟩⟩
def y_X8_trace : MethodName := ⟨"BrookStonesModel", "trace", "()I"⟩
set_option maxRecDepth 100000 in
theorem mi_X8_trace : Jvm.Cond.code y_X8_trace prog_10_method_75_code 1 (some .int) ∈ tblG ∧ Jvm.Cond.initialized y_X8_trace.cls ∈ tblG ∧ Jvm.Cond.instanceMethod y_X8_trace ∈ tblG ∧ Jvm.Cond.selects y_X8_trace.cls y_X8_trace y_X8_trace ∈ tblG ∧ pl3 y_X8_trace 0 := ⟨tblG_of (i := 1140) rfl rfl, tblG_of (i := 9) rfl rfl, tblG_of (i := 1138) rfl rfl, tblG_of (i := 1139) rfl rfl, ⟨by decide +kernel, by decide +kernel, by decide +kernel⟩⟩
def y_X8_fault : MethodName := ⟨"BrookStonesModel", "fault", "()I"⟩
set_option maxRecDepth 100000 in
theorem mi_X8_fault : Jvm.Cond.code y_X8_fault prog_10_method_76_code 1 (some .int) ∈ tblG ∧ Jvm.Cond.initialized y_X8_fault.cls ∈ tblG ∧ Jvm.Cond.instanceMethod y_X8_fault ∈ tblG ∧ Jvm.Cond.selects y_X8_fault.cls y_X8_fault y_X8_fault ∈ tblG ∧ pl3 y_X8_fault 0 := ⟨tblG_of (i := 1144) rfl rfl, tblG_of (i := 9) rfl rfl, tblG_of (i := 1142) rfl rfl, tblG_of (i := 1143) rfl rfl, ⟨by decide +kernel, by decide +kernel, by decide +kernel⟩⟩
def y_X8_stonesIn : MethodName := ⟨"BrookStonesModel", "stonesIn", "(Z)I"⟩
set_option maxRecDepth 100000 in
theorem mi_X8_stonesIn : Jvm.Cond.code y_X8_stonesIn prog_10_method_77_code 4 (some .int) ∈ tblG ∧ Jvm.Cond.initialized y_X8_stonesIn.cls ∈ tblG ∧ Jvm.Cond.instanceMethod y_X8_stonesIn ∈ tblG ∧ Jvm.Cond.selects y_X8_stonesIn.cls y_X8_stonesIn y_X8_stonesIn ∈ tblG ∧ pl3 y_X8_stonesIn 1 := ⟨tblG_of (i := 1152) rfl rfl, tblG_of (i := 9) rfl rfl, tblG_of (i := 1151) rfl rfl, tblG_sel (q := (y_X8_stonesIn, 37)) (List.mem_of_getElem? (i := 91) rfl), ⟨by decide +kernel, by decide +kernel, by decide +kernel⟩⟩
def y_X8_guards : MethodName := ⟨"BrookStonesModel", "guards", "()I"⟩
set_option maxRecDepth 100000 in
theorem mi_X8_guards : Jvm.Cond.code y_X8_guards prog_10_method_78_code 3 (some .int) ∈ tblG ∧ Jvm.Cond.initialized y_X8_guards.cls ∈ tblG ∧ Jvm.Cond.instanceMethod y_X8_guards ∈ tblG ∧ Jvm.Cond.selects y_X8_guards.cls y_X8_guards y_X8_guards ∈ tblG ∧ pl3 y_X8_guards 0 := ⟨tblG_of (i := 1156) rfl rfl, tblG_of (i := 9) rfl rfl, tblG_of (i := 1155) rfl rfl, tblG_sel (q := (y_X8_guards, 37)) (List.mem_of_getElem? (i := 92) rfl), ⟨by decide +kernel, by decide +kernel, by decide +kernel⟩⟩
def y_X8_many : MethodName := ⟨"BrookStonesModel", "many", "(I)I"⟩
set_option maxRecDepth 100000 in
theorem mi_X8_many : Jvm.Cond.code y_X8_many prog_10_method_79_code 2 (some .int) ∈ tblG ∧ Jvm.Cond.initialized y_X8_many.cls ∈ tblG ∧ Jvm.Cond.instanceMethod y_X8_many ∈ tblG ∧ Jvm.Cond.selects y_X8_many.cls y_X8_many y_X8_many ∈ tblG ∧ pl3 y_X8_many 1 := ⟨tblG_of (i := 1148) rfl rfl, tblG_of (i := 9) rfl rfl, tblG_of (i := 1146) rfl rfl, tblG_of (i := 1147) rfl rfl, ⟨by decide +kernel, by decide +kernel, by decide +kernel⟩⟩
def y_J6_bitCount_0f7a4 : MethodName := ⟨"java/lang/Integer", "bitCount", "(I)I"⟩
set_option maxRecDepth 100000 in
theorem mi_J6_bitCount_0f7a4 : Jvm.Cond.code y_J6_bitCount_0f7a4 prog_11_method_49_code 1 (some .int) ∈ tblG ∧ Jvm.Cond.initialized y_J6_bitCount_0f7a4.cls ∈ tblG ∧ Jvm.Cond.static y_J6_bitCount_0f7a4 ∈ tblG ∧ pl3 y_J6_bitCount_0f7a4 1 := ⟨tblG_of (i := 509) rfl rfl, tblG_of (i := 12) rfl rfl, tblG_of (i := 508) rfl rfl, ⟨by decide +kernel, by decide +kernel, by decide +kernel⟩⟩
def y_J9_max_7cf53 : MethodName := ⟨"java/lang/Math", "max", "(II)I"⟩
set_option maxRecDepth 100000 in
theorem mi_J9_max_7cf53 : Jvm.Cond.code y_J9_max_7cf53 prog_12_method_65_code 2 (some .int) ∈ tblG ∧ Jvm.Cond.initialized y_J9_max_7cf53.cls ∈ tblG ∧ Jvm.Cond.static y_J9_max_7cf53 ∈ tblG ∧ pl3 y_J9_max_7cf53 2 := ⟨tblG_of (i := 293) rfl rfl, tblG_of (i := 11) rfl rfl, tblG_of (i := 292) rfl rfl, ⟨by decide +kernel, by decide +kernel, by decide +kernel⟩⟩
def y_J9_min_7cf53 : MethodName := ⟨"java/lang/Math", "min", "(II)I"⟩
set_option maxRecDepth 100000 in
theorem mi_J9_min_7cf53 : Jvm.Cond.code y_J9_min_7cf53 prog_12_method_69_code 2 (some .int) ∈ tblG ∧ Jvm.Cond.initialized y_J9_min_7cf53.cls ∈ tblG ∧ Jvm.Cond.static y_J9_min_7cf53 ∈ tblG ∧ pl3 y_J9_min_7cf53 2 := ⟨tblG_of (i := 302) rfl rfl, tblG_of (i := 11) rfl rfl, tblG_of (i := 301) rfl rfl, ⟨by decide +kernel, by decide +kernel, by decide +kernel⟩⟩
def y_J7_rangeCheck_23922 : MethodName := ⟨"java/util/Arrays", "rangeCheck", "(III)V"⟩
set_option maxRecDepth 100000 in
theorem mi_J7_rangeCheck_23922 : Jvm.Cond.code y_J7_rangeCheck_23922 prog_14_method_30_code 3 (none) ∈ tblG ∧ Jvm.Cond.initialized y_J7_rangeCheck_23922.cls ∈ tblG ∧ Jvm.Cond.static y_J7_rangeCheck_23922 ∈ tblG ∧ pl3 y_J7_rangeCheck_23922 3 := ⟨tblG_of (i := 660) rfl rfl, tblG_of (i := 3) rfl rfl, tblG_of (i := 659) rfl rfl, ⟨by decide +kernel, by decide +kernel, by decide +kernel⟩⟩
def y_J7_fill_53178 : MethodName := ⟨"java/util/Arrays", "fill", "([II)V"⟩
set_option maxRecDepth 100000 in
theorem mi_J7_fill_53178 : Jvm.Cond.code y_J7_fill_53178 prog_14_method_103_code 4 (none) ∈ tblG ∧ Jvm.Cond.initialized y_J7_fill_53178.cls ∈ tblG ∧ Jvm.Cond.static y_J7_fill_53178 ∈ tblG ∧ pl3 y_J7_fill_53178 2 := ⟨tblG_of (i := 30) rfl rfl, tblG_of (i := 3) rfl rfl, tblG_of (i := 29) rfl rfl, ⟨by decide +kernel, by decide +kernel, by decide +kernel⟩⟩
def y_J7_fill_fda19 : MethodName := ⟨"java/util/Arrays", "fill", "([IIII)V"⟩
set_option maxRecDepth 100000 in
theorem mi_J7_fill_fda19 : Jvm.Cond.code y_J7_fill_fda19 prog_14_method_104_code 5 (none) ∈ tblG ∧ Jvm.Cond.initialized y_J7_fill_fda19.cls ∈ tblG ∧ Jvm.Cond.static y_J7_fill_fda19 ∈ tblG ∧ pl3 y_J7_fill_fda19 4 := ⟨tblG_of (i := 657) rfl rfl, tblG_of (i := 3) rfl rfl, tblG_of (i := 656) rfl rfl, ⟨by decide +kernel, by decide +kernel, by decide +kernel⟩⟩
set_option maxRecDepth 100000 in
theorem fk_BrookStones_12 : fOK "BrookStones" false (12, 6, 0, 10) := ⟨RX7, TX7, 8, tyX7, "BrookStones", rfl, by decide, uw_X7, tyX7_ok, nmX7, rfl, Or.inl (tblG_of (i := 219) rfl rfl), fun h => absurd h (by decide), fun h => absurd h (by decide)⟩
set_option maxRecDepth 100000 in
theorem fk_BrookStones_21 : fOK "BrookStones" false (21, 6, 1, 10) := ⟨RX7, TX7, 8, tyX7, "BrookStones", rfl, by decide, uw_X7, tyX7_ok, nmX7, rfl, Or.inl (tblG_of (i := 220) rfl rfl), fun h => absurd h (by decide), fun h => absurd h (by decide)⟩
set_option maxRecDepth 100000 in
theorem fk_BrookStones_28 : fOK "BrookStones" false (28, 6, 2, 10) := ⟨RX7, TX7, 8, tyX7, "BrookStones", rfl, by decide, uw_X7, tyX7_ok, nmX7, rfl, Or.inl (tblG_of (i := 221) rfl rfl), fun h => absurd h (by decide), fun h => absurd h (by decide)⟩
set_option maxRecDepth 100000 in
theorem fk_BrookStones_35 : fOK "BrookStones" false (35, 6, 3, 10) := ⟨RX7, TX7, 8, tyX7, "BrookStones", rfl, by decide, uw_X7, tyX7_ok, nmX7, rfl, Or.inl (tblG_of (i := 222) rfl rfl), fun h => absurd h (by decide), fun h => absurd h (by decide)⟩
set_option maxRecDepth 100000 in
theorem fk_BrookStones_42 : fOK "BrookStones" false (42, 6, 4, 10) := ⟨RX7, TX7, 8, tyX7, "BrookStones", rfl, by decide, uw_X7, tyX7_ok, nmX7, rfl, Or.inl (tblG_of (i := 223) rfl rfl), fun h => absurd h (by decide), fun h => absurd h (by decide)⟩
set_option maxRecDepth 100000 in
theorem fk_BrookStones_49 : fOK "BrookStones" false (49, 6, 5, 10) := ⟨RX7, TX7, 8, tyX7, "BrookStones", rfl, by decide, uw_X7, tyX7_ok, nmX7, rfl, Or.inl (tblG_of (i := 224) rfl rfl), fun h => absurd h (by decide), fun h => absurd h (by decide)⟩
set_option maxRecDepth 100000 in
theorem fk_BrookStones_53 : fOK "BrookStones" false (53, 6, 7, 1) := ⟨RX7, TX7, 8, tyX7, "BrookStones", rfl, by decide, uw_X7, tyX7_ok, nmX7, rfl, Or.inl (tblG_of (i := 226) rfl rfl), fun _ => ⟨rfl, rfl⟩, fun h => absurd h (by decide)⟩
set_option maxRecDepth 100000 in
theorem fk_BrookStones_74 : fOK "BrookStones" false (74, 0, 8, 1) := ⟨RX0, TX0, 15, tyX0, "BrookStones", rfl, by decide, uw_X0, tyX0_ok, nmX0, rfl, Or.inr (tblN_of (i := 52) rfl rfl), fun _ => ⟨rfl, rfl⟩, fun h => absurd h (by decide)⟩
set_option maxRecDepth 100000 in
theorem fk_BrookStones_81 : fOK "BrookStones" false (81, 0, 2, 10) := ⟨RX0, TX0, 15, tyX0, "BrookStones", rfl, by decide, uw_X0, tyX0_ok, nmX0, rfl, Or.inr (tblN_of (i := 39) rfl rfl), fun h => absurd h (by decide), fun h => absurd h (by decide)⟩
set_option maxRecDepth 100000 in
theorem fk_BrookStones_85 : fOK "BrookStones" false (85, 0, 0, 10) := ⟨RX0, TX0, 15, tyX0, "BrookStones", rfl, by decide, uw_X0, tyX0_ok, nmX0, rfl, Or.inr (tblN_of (i := 33) rfl rfl), fun h => absurd h (by decide), fun h => absurd h (by decide)⟩
set_option maxRecDepth 100000 in
theorem fk_BrookStones_88 : fOK "BrookStones" false (88, 0, 1, 10) := ⟨RX0, TX0, 15, tyX0, "BrookStones", rfl, by decide, uw_X0, tyX0_ok, nmX0, rfl, Or.inr (tblN_of (i := 36) rfl rfl), fun h => absurd h (by decide), fun h => absurd h (by decide)⟩
set_option maxRecDepth 100000 in
theorem fk_BrookStones_91 : fOK "BrookStones" false (91, 0, 10, 1) := ⟨RX0, TX0, 15, tyX0, "BrookStones", rfl, by decide, uw_X0, tyX0_ok, nmX0, rfl, Or.inr (tblN_of (i := 61) rfl rfl), fun _ => ⟨rfl, rfl⟩, fun h => absurd h (by decide)⟩
set_option maxRecDepth 100000 in
theorem fk_BrookStones_98 : fOK "BrookStones" false (98, 0, 11, 1) := ⟨RX0, TX0, 15, tyX0, "BrookStones", rfl, by decide, uw_X0, tyX0_ok, nmX0, rfl, Or.inr (tblN_of (i := 65) rfl rfl), fun _ => ⟨rfl, rfl⟩, fun h => absurd h (by decide)⟩
set_option maxRecDepth 100000 in
theorem fk_BrookStones_113 : fOK "BrookStones" false (113, 0, 12, 1) := ⟨RX0, TX0, 15, tyX0, "BrookStones", rfl, by decide, uw_X0, tyX0_ok, nmX0, rfl, Or.inr (tblN_of (i := 70) rfl rfl), fun _ => ⟨rfl, rfl⟩, fun h => absurd h (by decide)⟩
set_option maxRecDepth 100000 in
theorem fk_BrookStones_122 : fOK "BrookStones" false (122, 0, 3, 10) := ⟨RX0, TX0, 15, tyX0, "BrookStones", rfl, by decide, uw_X0, tyX0_ok, nmX0, rfl, Or.inr (tblN_of (i := 42) rfl rfl), fun h => absurd h (by decide), fun h => absurd h (by decide)⟩
set_option maxRecDepth 100000 in
theorem fk_BrookStones_125 : fOK "BrookStones" false (125, 0, 4, 10) := ⟨RX0, TX0, 15, tyX0, "BrookStones", rfl, by decide, uw_X0, tyX0_ok, nmX0, rfl, Or.inr (tblN_of (i := 44) rfl rfl), fun h => absurd h (by decide), fun h => absurd h (by decide)⟩
set_option maxRecDepth 100000 in
theorem fk_BrookStones_128 : fOK "BrookStones" false (128, 0, 5, 10) := ⟨RX0, TX0, 15, tyX0, "BrookStones", rfl, by decide, uw_X0, tyX0_ok, nmX0, rfl, Or.inr (tblN_of (i := 46) rfl rfl), fun h => absurd h (by decide), fun h => absurd h (by decide)⟩
set_option maxRecDepth 100000 in
theorem fk_BrookStones_131 : fOK "BrookStones" false (131, 0, 6, 10) := ⟨RX0, TX0, 15, tyX0, "BrookStones", rfl, by decide, uw_X0, tyX0_ok, nmX0, rfl, Or.inr (tblN_of (i := 48) rfl rfl), fun h => absurd h (by decide), fun h => absurd h (by decide)⟩
set_option maxRecDepth 100000 in
theorem fk_BrookStones_138 : fOK "BrookStones" false (138, 0, 13, 1) := ⟨RX0, TX0, 15, tyX0, "BrookStones", rfl, by decide, uw_X0, tyX0_ok, nmX0, rfl, Or.inr (tblN_of (i := 73) rfl rfl), fun _ => ⟨rfl, rfl⟩, fun h => absurd h (by decide)⟩
set_option maxRecDepth 100000 in
theorem fk_BrookStones_152 : fOK "BrookStones" false (152, 0, 14, 1) := ⟨RX0, TX0, 15, tyX0, "BrookStones", rfl, by decide, uw_X0, tyX0_ok, nmX0, rfl, Or.inr (tblN_of (i := 75) rfl rfl), fun _ => ⟨rfl, rfl⟩, fun h => absurd h (by decide)⟩
set_option maxRecDepth 100000 in
theorem fk_BrookStones_161 : fOK "BrookStones" false (161, 0, 7, 10) := ⟨RX0, TX0, 15, tyX0, "BrookStones", rfl, by decide, uw_X0, tyX0_ok, nmX0, rfl, Or.inr (tblN_of (i := 50) rfl rfl), fun h => absurd h (by decide), fun h => absurd h (by decide)⟩
set_option maxRecDepth 100000 in
theorem fk_BrookStones_179 : fOK "BrookStones" false (179, 5, 0, 10) := ⟨RX6, TX6, 6, tyX6, "BrookStones", rfl, by decide, uw_X6, tyX6_ok, nmX6, rfl, Or.inr (tblN_of (i := 134) rfl rfl), fun h => absurd h (by decide), fun h => absurd h (by decide)⟩
set_option maxRecDepth 100000 in
theorem fk_BrookStones_207 : fOK "BrookStones" false (207, 1, 2, 1) := ⟨RX1, TX1, 3, tyX1, "BrookStones", rfl, by decide, uw_X1, tyX1_ok, nmX1, rfl, Or.inr (tblN_of (i := 164) rfl rfl), fun _ => ⟨rfl, rfl⟩, fun h => absurd h (by decide)⟩
set_option maxRecDepth 100000 in
theorem fk_BrookStones_210 : fOK "BrookStones" false (210, 1, 1, 10) := ⟨RX1, TX1, 3, tyX1, "BrookStones", rfl, by decide, uw_X1, tyX1_ok, nmX1, rfl, Or.inr (tblN_of (i := 162) rfl rfl), fun h => absurd h (by decide), fun h => absurd h (by decide)⟩
set_option maxRecDepth 100000 in
theorem fk_BrookStones_213 : fOK "BrookStones" false (213, 1, 0, 10) := ⟨RX1, TX1, 3, tyX1, "BrookStones", rfl, by decide, uw_X1, tyX1_ok, nmX1, rfl, Or.inr (tblN_of (i := 160) rfl rfl), fun h => absurd h (by decide), fun h => absurd h (by decide)⟩
set_option maxRecDepth 100000 in
theorem fk_BrookStones_235 : fOK "BrookStones" false (235, 3, 1, 10) := ⟨RX3, TX3, 8, tyX3, "BrookStones", rfl, by decide, uw_X3, tyX3_ok, nmX3, rfl, Or.inr (tblN_of (i := 182) rfl rfl), fun h => absurd h (by decide), fun h => absurd h (by decide)⟩
set_option maxRecDepth 100000 in
theorem fk_BrookStones_274 : fOK "BrookStones" false (274, 4, 1, 10) := ⟨RX4, TX4, 3, tyX4, "BrookStones", rfl, by decide, uw_X4, tyX4_ok, nmX4, rfl, Or.inr (tblN_of (i := 118) rfl rfl), fun h => absurd h (by decide), fun h => absurd h (by decide)⟩
set_option maxRecDepth 100000 in
theorem fk_BrookStones_280 : fOK "BrookStones" false (280, 4, 0, 10) := ⟨RX4, TX4, 3, tyX4, "BrookStones", rfl, by decide, uw_X4, tyX4_ok, nmX4, rfl, Or.inr (tblN_of (i := 116) rfl rfl), fun h => absurd h (by decide), fun h => absurd h (by decide)⟩
set_option maxRecDepth 100000 in
theorem fk_BrookStones_302 : fOK "BrookStones" false (302, 6, 6, 1) := ⟨RX7, TX7, 8, tyX7, "BrookStones", rfl, by decide, uw_X7, tyX7_ok, nmX7, rfl, Or.inl (tblG_of (i := 225) rfl rfl), fun _ => ⟨rfl, rfl⟩, fun h => absurd h (by decide)⟩
def fl_BrookStones : List (Nat × Nat × Nat × Nat) := [(12, 6, 0, 10), (21, 6, 1, 10), (28, 6, 2, 10), (35, 6, 3, 10), (42, 6, 4, 10), (49, 6, 5, 10), (53, 6, 7, 1), (74, 0, 8, 1), (81, 0, 2, 10), (85, 0, 0, 10), (88, 0, 1, 10), (91, 0, 10, 1), (98, 0, 11, 1), (113, 0, 12, 1), (122, 0, 3, 10), (125, 0, 4, 10), (128, 0, 5, 10), (131, 0, 6, 10), (138, 0, 13, 1), (152, 0, 14, 1), (161, 0, 7, 10), (179, 5, 0, 10), (207, 1, 2, 1), (210, 1, 1, 10), (213, 1, 0, 10), (235, 3, 1, 10), (274, 4, 1, 10), (280, 4, 0, 10), (302, 6, 6, 1)]
set_option maxRecDepth 100000 in
theorem fl_BrookStones_ok : ∀ q ∈ fl_BrookStones, fOK "BrookStones" false q := List.forall_mem_cons.mpr ⟨fk_BrookStones_12, List.forall_mem_cons.mpr ⟨fk_BrookStones_21, List.forall_mem_cons.mpr ⟨fk_BrookStones_28, List.forall_mem_cons.mpr ⟨fk_BrookStones_35, List.forall_mem_cons.mpr ⟨fk_BrookStones_42, List.forall_mem_cons.mpr ⟨fk_BrookStones_49, List.forall_mem_cons.mpr ⟨fk_BrookStones_53, List.forall_mem_cons.mpr ⟨fk_BrookStones_74, List.forall_mem_cons.mpr ⟨fk_BrookStones_81, List.forall_mem_cons.mpr ⟨fk_BrookStones_85, List.forall_mem_cons.mpr ⟨fk_BrookStones_88, List.forall_mem_cons.mpr ⟨fk_BrookStones_91, List.forall_mem_cons.mpr ⟨fk_BrookStones_98, List.forall_mem_cons.mpr ⟨fk_BrookStones_113, List.forall_mem_cons.mpr ⟨fk_BrookStones_122, List.forall_mem_cons.mpr ⟨fk_BrookStones_125, List.forall_mem_cons.mpr ⟨fk_BrookStones_128, List.forall_mem_cons.mpr ⟨fk_BrookStones_131, List.forall_mem_cons.mpr ⟨fk_BrookStones_138, List.forall_mem_cons.mpr ⟨fk_BrookStones_152, List.forall_mem_cons.mpr ⟨fk_BrookStones_161, List.forall_mem_cons.mpr ⟨fk_BrookStones_179, List.forall_mem_cons.mpr ⟨fk_BrookStones_207, List.forall_mem_cons.mpr ⟨fk_BrookStones_210, List.forall_mem_cons.mpr ⟨fk_BrookStones_213, List.forall_mem_cons.mpr ⟨fk_BrookStones_235, List.forall_mem_cons.mpr ⟨fk_BrookStones_274, List.forall_mem_cons.mpr ⟨fk_BrookStones_280, List.forall_mem_cons.mpr ⟨fk_BrookStones_302, fun _ h => absurd h List.not_mem_nil⟩⟩⟩⟩⟩⟩⟩⟩⟩⟩⟩⟩⟩⟩⟩⟩⟩⟩⟩⟩⟩⟩⟩⟩⟩⟩⟩⟩⟩
set_option maxRecDepth 100000 in
theorem fk_BrookStones_i_12 : fOK "BrookStones" true (12, 6, 0, 12) := ⟨RX7, TX7, 8, tyX7, "BrookStones", rfl, by decide, uw_X7, tyX7_ok, nmX7, rfl, Or.inl (tblG_of (i := 219) rfl rfl), fun h => absurd h (by decide), fun _ => ⟨rfl, rfl, rfl, Or.inl ⟨_, rfl⟩, tblG_of (i := 219) rfl rfl⟩⟩
set_option maxRecDepth 100000 in
theorem fk_BrookStones_i_21 : fOK "BrookStones" true (21, 6, 1, 12) := ⟨RX7, TX7, 8, tyX7, "BrookStones", rfl, by decide, uw_X7, tyX7_ok, nmX7, rfl, Or.inl (tblG_of (i := 220) rfl rfl), fun h => absurd h (by decide), fun _ => ⟨rfl, rfl, rfl, Or.inl ⟨_, rfl⟩, tblG_of (i := 220) rfl rfl⟩⟩
set_option maxRecDepth 100000 in
theorem fk_BrookStones_i_28 : fOK "BrookStones" true (28, 6, 2, 12) := ⟨RX7, TX7, 8, tyX7, "BrookStones", rfl, by decide, uw_X7, tyX7_ok, nmX7, rfl, Or.inl (tblG_of (i := 221) rfl rfl), fun h => absurd h (by decide), fun _ => ⟨rfl, rfl, rfl, Or.inl ⟨_, rfl⟩, tblG_of (i := 221) rfl rfl⟩⟩
set_option maxRecDepth 100000 in
theorem fk_BrookStones_i_35 : fOK "BrookStones" true (35, 6, 3, 12) := ⟨RX7, TX7, 8, tyX7, "BrookStones", rfl, by decide, uw_X7, tyX7_ok, nmX7, rfl, Or.inl (tblG_of (i := 222) rfl rfl), fun h => absurd h (by decide), fun _ => ⟨rfl, rfl, rfl, Or.inl ⟨_, rfl⟩, tblG_of (i := 222) rfl rfl⟩⟩
set_option maxRecDepth 100000 in
theorem fk_BrookStones_i_42 : fOK "BrookStones" true (42, 6, 4, 12) := ⟨RX7, TX7, 8, tyX7, "BrookStones", rfl, by decide, uw_X7, tyX7_ok, nmX7, rfl, Or.inl (tblG_of (i := 223) rfl rfl), fun h => absurd h (by decide), fun _ => ⟨rfl, rfl, rfl, Or.inl ⟨_, rfl⟩, tblG_of (i := 223) rfl rfl⟩⟩
set_option maxRecDepth 100000 in
theorem fk_BrookStones_i_49 : fOK "BrookStones" true (49, 6, 5, 12) := ⟨RX7, TX7, 8, tyX7, "BrookStones", rfl, by decide, uw_X7, tyX7_ok, nmX7, rfl, Or.inl (tblG_of (i := 224) rfl rfl), fun h => absurd h (by decide), fun _ => ⟨rfl, rfl, rfl, Or.inl ⟨_, rfl⟩, tblG_of (i := 224) rfl rfl⟩⟩
set_option maxRecDepth 100000 in
theorem fk_BrookStones_i_53 : fOK "BrookStones" true (53, 6, 7, 1) := ⟨RX7, TX7, 8, tyX7, "BrookStones", rfl, by decide, uw_X7, tyX7_ok, nmX7, rfl, Or.inl (tblG_of (i := 226) rfl rfl), fun _ => ⟨rfl, rfl⟩, fun h => absurd h (by decide)⟩
set_option maxRecDepth 100000 in
theorem fk_BrookStones_i_74 : fOK "BrookStones" true (74, 0, 8, 1) := ⟨RX0, TX0, 15, tyX0, "BrookStones", rfl, by decide, uw_X0, tyX0_ok, nmX0, rfl, Or.inr (tblN_of (i := 52) rfl rfl), fun _ => ⟨rfl, rfl⟩, fun h => absurd h (by decide)⟩
set_option maxRecDepth 100000 in
theorem fk_BrookStones_i_81 : fOK "BrookStones" true (81, 0, 2, 10) := ⟨RX0, TX0, 15, tyX0, "BrookStones", rfl, by decide, uw_X0, tyX0_ok, nmX0, rfl, Or.inr (tblN_of (i := 39) rfl rfl), fun h => absurd h (by decide), fun h => absurd h (by decide)⟩
set_option maxRecDepth 100000 in
theorem fk_BrookStones_i_85 : fOK "BrookStones" true (85, 0, 0, 10) := ⟨RX0, TX0, 15, tyX0, "BrookStones", rfl, by decide, uw_X0, tyX0_ok, nmX0, rfl, Or.inr (tblN_of (i := 33) rfl rfl), fun h => absurd h (by decide), fun h => absurd h (by decide)⟩
set_option maxRecDepth 100000 in
theorem fk_BrookStones_i_88 : fOK "BrookStones" true (88, 0, 1, 10) := ⟨RX0, TX0, 15, tyX0, "BrookStones", rfl, by decide, uw_X0, tyX0_ok, nmX0, rfl, Or.inr (tblN_of (i := 36) rfl rfl), fun h => absurd h (by decide), fun h => absurd h (by decide)⟩
set_option maxRecDepth 100000 in
theorem fk_BrookStones_i_91 : fOK "BrookStones" true (91, 0, 10, 1) := ⟨RX0, TX0, 15, tyX0, "BrookStones", rfl, by decide, uw_X0, tyX0_ok, nmX0, rfl, Or.inr (tblN_of (i := 61) rfl rfl), fun _ => ⟨rfl, rfl⟩, fun h => absurd h (by decide)⟩
set_option maxRecDepth 100000 in
theorem fk_BrookStones_i_98 : fOK "BrookStones" true (98, 0, 11, 1) := ⟨RX0, TX0, 15, tyX0, "BrookStones", rfl, by decide, uw_X0, tyX0_ok, nmX0, rfl, Or.inr (tblN_of (i := 65) rfl rfl), fun _ => ⟨rfl, rfl⟩, fun h => absurd h (by decide)⟩
set_option maxRecDepth 100000 in
theorem fk_BrookStones_i_113 : fOK "BrookStones" true (113, 0, 12, 1) := ⟨RX0, TX0, 15, tyX0, "BrookStones", rfl, by decide, uw_X0, tyX0_ok, nmX0, rfl, Or.inr (tblN_of (i := 70) rfl rfl), fun _ => ⟨rfl, rfl⟩, fun h => absurd h (by decide)⟩
set_option maxRecDepth 100000 in
theorem fk_BrookStones_i_122 : fOK "BrookStones" true (122, 0, 3, 10) := ⟨RX0, TX0, 15, tyX0, "BrookStones", rfl, by decide, uw_X0, tyX0_ok, nmX0, rfl, Or.inr (tblN_of (i := 42) rfl rfl), fun h => absurd h (by decide), fun h => absurd h (by decide)⟩
set_option maxRecDepth 100000 in
theorem fk_BrookStones_i_125 : fOK "BrookStones" true (125, 0, 4, 10) := ⟨RX0, TX0, 15, tyX0, "BrookStones", rfl, by decide, uw_X0, tyX0_ok, nmX0, rfl, Or.inr (tblN_of (i := 44) rfl rfl), fun h => absurd h (by decide), fun h => absurd h (by decide)⟩
set_option maxRecDepth 100000 in
theorem fk_BrookStones_i_128 : fOK "BrookStones" true (128, 0, 5, 10) := ⟨RX0, TX0, 15, tyX0, "BrookStones", rfl, by decide, uw_X0, tyX0_ok, nmX0, rfl, Or.inr (tblN_of (i := 46) rfl rfl), fun h => absurd h (by decide), fun h => absurd h (by decide)⟩
set_option maxRecDepth 100000 in
theorem fk_BrookStones_i_131 : fOK "BrookStones" true (131, 0, 6, 10) := ⟨RX0, TX0, 15, tyX0, "BrookStones", rfl, by decide, uw_X0, tyX0_ok, nmX0, rfl, Or.inr (tblN_of (i := 48) rfl rfl), fun h => absurd h (by decide), fun h => absurd h (by decide)⟩
set_option maxRecDepth 100000 in
theorem fk_BrookStones_i_138 : fOK "BrookStones" true (138, 0, 13, 1) := ⟨RX0, TX0, 15, tyX0, "BrookStones", rfl, by decide, uw_X0, tyX0_ok, nmX0, rfl, Or.inr (tblN_of (i := 73) rfl rfl), fun _ => ⟨rfl, rfl⟩, fun h => absurd h (by decide)⟩
set_option maxRecDepth 100000 in
theorem fk_BrookStones_i_152 : fOK "BrookStones" true (152, 0, 14, 1) := ⟨RX0, TX0, 15, tyX0, "BrookStones", rfl, by decide, uw_X0, tyX0_ok, nmX0, rfl, Or.inr (tblN_of (i := 75) rfl rfl), fun _ => ⟨rfl, rfl⟩, fun h => absurd h (by decide)⟩
set_option maxRecDepth 100000 in
theorem fk_BrookStones_i_161 : fOK "BrookStones" true (161, 0, 7, 10) := ⟨RX0, TX0, 15, tyX0, "BrookStones", rfl, by decide, uw_X0, tyX0_ok, nmX0, rfl, Or.inr (tblN_of (i := 50) rfl rfl), fun h => absurd h (by decide), fun h => absurd h (by decide)⟩
set_option maxRecDepth 100000 in
theorem fk_BrookStones_i_179 : fOK "BrookStones" true (179, 5, 0, 10) := ⟨RX6, TX6, 6, tyX6, "BrookStones", rfl, by decide, uw_X6, tyX6_ok, nmX6, rfl, Or.inr (tblN_of (i := 134) rfl rfl), fun h => absurd h (by decide), fun h => absurd h (by decide)⟩
set_option maxRecDepth 100000 in
theorem fk_BrookStones_i_207 : fOK "BrookStones" true (207, 1, 2, 1) := ⟨RX1, TX1, 3, tyX1, "BrookStones", rfl, by decide, uw_X1, tyX1_ok, nmX1, rfl, Or.inr (tblN_of (i := 164) rfl rfl), fun _ => ⟨rfl, rfl⟩, fun h => absurd h (by decide)⟩
set_option maxRecDepth 100000 in
theorem fk_BrookStones_i_210 : fOK "BrookStones" true (210, 1, 1, 10) := ⟨RX1, TX1, 3, tyX1, "BrookStones", rfl, by decide, uw_X1, tyX1_ok, nmX1, rfl, Or.inr (tblN_of (i := 162) rfl rfl), fun h => absurd h (by decide), fun h => absurd h (by decide)⟩
set_option maxRecDepth 100000 in
theorem fk_BrookStones_i_213 : fOK "BrookStones" true (213, 1, 0, 10) := ⟨RX1, TX1, 3, tyX1, "BrookStones", rfl, by decide, uw_X1, tyX1_ok, nmX1, rfl, Or.inr (tblN_of (i := 160) rfl rfl), fun h => absurd h (by decide), fun h => absurd h (by decide)⟩
set_option maxRecDepth 100000 in
theorem fk_BrookStones_i_235 : fOK "BrookStones" true (235, 3, 1, 10) := ⟨RX3, TX3, 8, tyX3, "BrookStones", rfl, by decide, uw_X3, tyX3_ok, nmX3, rfl, Or.inr (tblN_of (i := 182) rfl rfl), fun h => absurd h (by decide), fun h => absurd h (by decide)⟩
set_option maxRecDepth 100000 in
theorem fk_BrookStones_i_274 : fOK "BrookStones" true (274, 4, 1, 10) := ⟨RX4, TX4, 3, tyX4, "BrookStones", rfl, by decide, uw_X4, tyX4_ok, nmX4, rfl, Or.inr (tblN_of (i := 118) rfl rfl), fun h => absurd h (by decide), fun h => absurd h (by decide)⟩
set_option maxRecDepth 100000 in
theorem fk_BrookStones_i_280 : fOK "BrookStones" true (280, 4, 0, 10) := ⟨RX4, TX4, 3, tyX4, "BrookStones", rfl, by decide, uw_X4, tyX4_ok, nmX4, rfl, Or.inr (tblN_of (i := 116) rfl rfl), fun h => absurd h (by decide), fun h => absurd h (by decide)⟩
set_option maxRecDepth 100000 in
theorem fk_BrookStones_i_302 : fOK "BrookStones" true (302, 6, 6, 1) := ⟨RX7, TX7, 8, tyX7, "BrookStones", rfl, by decide, uw_X7, tyX7_ok, nmX7, rfl, Or.inl (tblG_of (i := 225) rfl rfl), fun _ => ⟨rfl, rfl⟩, fun h => absurd h (by decide)⟩
def fl_BrookStones_i : List (Nat × Nat × Nat × Nat) := [(12, 6, 0, 12), (21, 6, 1, 12), (28, 6, 2, 12), (35, 6, 3, 12), (42, 6, 4, 12), (49, 6, 5, 12), (53, 6, 7, 1), (74, 0, 8, 1), (81, 0, 2, 10), (85, 0, 0, 10), (88, 0, 1, 10), (91, 0, 10, 1), (98, 0, 11, 1), (113, 0, 12, 1), (122, 0, 3, 10), (125, 0, 4, 10), (128, 0, 5, 10), (131, 0, 6, 10), (138, 0, 13, 1), (152, 0, 14, 1), (161, 0, 7, 10), (179, 5, 0, 10), (207, 1, 2, 1), (210, 1, 1, 10), (213, 1, 0, 10), (235, 3, 1, 10), (274, 4, 1, 10), (280, 4, 0, 10), (302, 6, 6, 1)]
set_option maxRecDepth 100000 in
theorem fl_BrookStones_i_ok : ∀ q ∈ fl_BrookStones_i, fOK "BrookStones" true q := List.forall_mem_cons.mpr ⟨fk_BrookStones_i_12, List.forall_mem_cons.mpr ⟨fk_BrookStones_i_21, List.forall_mem_cons.mpr ⟨fk_BrookStones_i_28, List.forall_mem_cons.mpr ⟨fk_BrookStones_i_35, List.forall_mem_cons.mpr ⟨fk_BrookStones_i_42, List.forall_mem_cons.mpr ⟨fk_BrookStones_i_49, List.forall_mem_cons.mpr ⟨fk_BrookStones_i_53, List.forall_mem_cons.mpr ⟨fk_BrookStones_i_74, List.forall_mem_cons.mpr ⟨fk_BrookStones_i_81, List.forall_mem_cons.mpr ⟨fk_BrookStones_i_85, List.forall_mem_cons.mpr ⟨fk_BrookStones_i_88, List.forall_mem_cons.mpr ⟨fk_BrookStones_i_91, List.forall_mem_cons.mpr ⟨fk_BrookStones_i_98, List.forall_mem_cons.mpr ⟨fk_BrookStones_i_113, List.forall_mem_cons.mpr ⟨fk_BrookStones_i_122, List.forall_mem_cons.mpr ⟨fk_BrookStones_i_125, List.forall_mem_cons.mpr ⟨fk_BrookStones_i_128, List.forall_mem_cons.mpr ⟨fk_BrookStones_i_131, List.forall_mem_cons.mpr ⟨fk_BrookStones_i_138, List.forall_mem_cons.mpr ⟨fk_BrookStones_i_152, List.forall_mem_cons.mpr ⟨fk_BrookStones_i_161, List.forall_mem_cons.mpr ⟨fk_BrookStones_i_179, List.forall_mem_cons.mpr ⟨fk_BrookStones_i_207, List.forall_mem_cons.mpr ⟨fk_BrookStones_i_210, List.forall_mem_cons.mpr ⟨fk_BrookStones_i_213, List.forall_mem_cons.mpr ⟨fk_BrookStones_i_235, List.forall_mem_cons.mpr ⟨fk_BrookStones_i_274, List.forall_mem_cons.mpr ⟨fk_BrookStones_i_280, List.forall_mem_cons.mpr ⟨fk_BrookStones_i_302, fun _ h => absurd h List.not_mem_nil⟩⟩⟩⟩⟩⟩⟩⟩⟩⟩⟩⟩⟩⟩⟩⟩⟩⟩⟩⟩⟩⟩⟩⟩⟩⟩⟩⟩⟩
set_option maxRecDepth 100000 in
theorem fk_BrookStones_Brook_9 : fOK "BrookStones$Brook" false (9, 0, 0, 10) := ⟨RX0, TX0, 15, tyX0, "BrookStones", rfl, by decide, uw_X0, tyX0_ok, nmX0, rfl, Or.inl (tblG_of (i := 31) rfl rfl), fun h => absurd h (by decide), fun h => absurd h (by decide)⟩
set_option maxRecDepth 100000 in
theorem fk_BrookStones_Brook_15 : fOK "BrookStones$Brook" false (15, 0, 1, 10) := ⟨RX0, TX0, 15, tyX0, "BrookStones", rfl, by decide, uw_X0, tyX0_ok, nmX0, rfl, Or.inl (tblG_of (i := 34) rfl rfl), fun h => absurd h (by decide), fun h => absurd h (by decide)⟩
set_option maxRecDepth 100000 in
theorem fk_BrookStones_Brook_18 : fOK "BrookStones$Brook" false (18, 0, 2, 10) := ⟨RX0, TX0, 15, tyX0, "BrookStones", rfl, by decide, uw_X0, tyX0_ok, nmX0, rfl, Or.inl (tblG_of (i := 38) rfl rfl), fun h => absurd h (by decide), fun h => absurd h (by decide)⟩
set_option maxRecDepth 100000 in
theorem fk_BrookStones_Brook_21 : fOK "BrookStones$Brook" false (21, 0, 3, 10) := ⟨RX0, TX0, 15, tyX0, "BrookStones", rfl, by decide, uw_X0, tyX0_ok, nmX0, rfl, Or.inl (tblG_of (i := 41) rfl rfl), fun h => absurd h (by decide), fun h => absurd h (by decide)⟩
set_option maxRecDepth 100000 in
theorem fk_BrookStones_Brook_24 : fOK "BrookStones$Brook" false (24, 0, 4, 10) := ⟨RX0, TX0, 15, tyX0, "BrookStones", rfl, by decide, uw_X0, tyX0_ok, nmX0, rfl, Or.inl (tblG_of (i := 43) rfl rfl), fun h => absurd h (by decide), fun h => absurd h (by decide)⟩
set_option maxRecDepth 100000 in
theorem fk_BrookStones_Brook_27 : fOK "BrookStones$Brook" false (27, 0, 5, 10) := ⟨RX0, TX0, 15, tyX0, "BrookStones", rfl, by decide, uw_X0, tyX0_ok, nmX0, rfl, Or.inl (tblG_of (i := 45) rfl rfl), fun h => absurd h (by decide), fun h => absurd h (by decide)⟩
set_option maxRecDepth 100000 in
theorem fk_BrookStones_Brook_30 : fOK "BrookStones$Brook" false (30, 0, 6, 10) := ⟨RX0, TX0, 15, tyX0, "BrookStones", rfl, by decide, uw_X0, tyX0_ok, nmX0, rfl, Or.inl (tblG_of (i := 47) rfl rfl), fun h => absurd h (by decide), fun h => absurd h (by decide)⟩
set_option maxRecDepth 100000 in
theorem fk_BrookStones_Brook_33 : fOK "BrookStones$Brook" false (33, 0, 7, 10) := ⟨RX0, TX0, 15, tyX0, "BrookStones", rfl, by decide, uw_X0, tyX0_ok, nmX0, rfl, Or.inl (tblG_of (i := 49) rfl rfl), fun h => absurd h (by decide), fun h => absurd h (by decide)⟩
set_option maxRecDepth 100000 in
theorem fk_BrookStones_Brook_42 : fOK "BrookStones$Brook" false (42, 0, 10, 1) := ⟨RX0, TX0, 15, tyX0, "BrookStones", rfl, by decide, uw_X0, tyX0_ok, nmX0, rfl, Or.inl (tblG_of (i := 60) rfl rfl), fun _ => ⟨rfl, rfl⟩, fun h => absurd h (by decide)⟩
set_option maxRecDepth 100000 in
theorem fk_BrookStones_Brook_46 : fOK "BrookStones$Brook" false (46, 0, 11, 1) := ⟨RX0, TX0, 15, tyX0, "BrookStones", rfl, by decide, uw_X0, tyX0_ok, nmX0, rfl, Or.inl (tblG_of (i := 63) rfl rfl), fun _ => ⟨rfl, rfl⟩, fun h => absurd h (by decide)⟩
set_option maxRecDepth 100000 in
theorem fk_BrookStones_Brook_49 : fOK "BrookStones$Brook" false (49, 0, 12, 1) := ⟨RX0, TX0, 15, tyX0, "BrookStones", rfl, by decide, uw_X0, tyX0_ok, nmX0, rfl, Or.inl (tblG_of (i := 68) rfl rfl), fun _ => ⟨rfl, rfl⟩, fun h => absurd h (by decide)⟩
set_option maxRecDepth 100000 in
theorem fk_BrookStones_Brook_52 : fOK "BrookStones$Brook" false (52, 0, 13, 1) := ⟨RX0, TX0, 15, tyX0, "BrookStones", rfl, by decide, uw_X0, tyX0_ok, nmX0, rfl, Or.inl (tblG_of (i := 71) rfl rfl), fun _ => ⟨rfl, rfl⟩, fun h => absurd h (by decide)⟩
set_option maxRecDepth 100000 in
theorem fk_BrookStones_Brook_55 : fOK "BrookStones$Brook" false (55, 0, 14, 1) := ⟨RX0, TX0, 15, tyX0, "BrookStones", rfl, by decide, uw_X0, tyX0_ok, nmX0, rfl, Or.inl (tblG_of (i := 74) rfl rfl), fun _ => ⟨rfl, rfl⟩, fun h => absurd h (by decide)⟩
set_option maxRecDepth 100000 in
theorem fk_BrookStones_Brook_58 : fOK "BrookStones$Brook" false (58, 0, 8, 1) := ⟨RX0, TX0, 15, tyX0, "BrookStones", rfl, by decide, uw_X0, tyX0_ok, nmX0, rfl, Or.inl (tblG_of (i := 54) rfl rfl), fun _ => ⟨rfl, rfl⟩, fun h => absurd h (by decide)⟩
def fl_BrookStones_Brook : List (Nat × Nat × Nat × Nat) := [(9, 0, 0, 10), (15, 0, 1, 10), (18, 0, 2, 10), (21, 0, 3, 10), (24, 0, 4, 10), (27, 0, 5, 10), (30, 0, 6, 10), (33, 0, 7, 10), (42, 0, 10, 1), (46, 0, 11, 1), (49, 0, 12, 1), (52, 0, 13, 1), (55, 0, 14, 1), (58, 0, 8, 1)]
set_option maxRecDepth 100000 in
theorem fl_BrookStones_Brook_ok : ∀ q ∈ fl_BrookStones_Brook, fOK "BrookStones$Brook" false q := List.forall_mem_cons.mpr ⟨fk_BrookStones_Brook_9, List.forall_mem_cons.mpr ⟨fk_BrookStones_Brook_15, List.forall_mem_cons.mpr ⟨fk_BrookStones_Brook_18, List.forall_mem_cons.mpr ⟨fk_BrookStones_Brook_21, List.forall_mem_cons.mpr ⟨fk_BrookStones_Brook_24, List.forall_mem_cons.mpr ⟨fk_BrookStones_Brook_27, List.forall_mem_cons.mpr ⟨fk_BrookStones_Brook_30, List.forall_mem_cons.mpr ⟨fk_BrookStones_Brook_33, List.forall_mem_cons.mpr ⟨fk_BrookStones_Brook_42, List.forall_mem_cons.mpr ⟨fk_BrookStones_Brook_46, List.forall_mem_cons.mpr ⟨fk_BrookStones_Brook_49, List.forall_mem_cons.mpr ⟨fk_BrookStones_Brook_52, List.forall_mem_cons.mpr ⟨fk_BrookStones_Brook_55, List.forall_mem_cons.mpr ⟨fk_BrookStones_Brook_58, fun _ h => absurd h List.not_mem_nil⟩⟩⟩⟩⟩⟩⟩⟩⟩⟩⟩⟩⟩⟩
set_option maxRecDepth 100000 in
theorem fk_BrookStones_Brook_i_9 : fOK "BrookStones$Brook" true (9, 0, 0, 12) := ⟨RX0, TX0, 15, tyX0, "BrookStones", rfl, by decide, uw_X0, tyX0_ok, nmX0, rfl, Or.inl (tblG_of (i := 31) rfl rfl), fun h => absurd h (by decide), fun _ => ⟨rfl, rfl, rfl, Or.inr ⟨_, rfl⟩, tblG_of (i := 31) rfl rfl⟩⟩
set_option maxRecDepth 100000 in
theorem fk_BrookStones_Brook_i_15 : fOK "BrookStones$Brook" true (15, 0, 1, 12) := ⟨RX0, TX0, 15, tyX0, "BrookStones", rfl, by decide, uw_X0, tyX0_ok, nmX0, rfl, Or.inl (tblG_of (i := 34) rfl rfl), fun h => absurd h (by decide), fun _ => ⟨rfl, rfl, rfl, Or.inr ⟨_, rfl⟩, tblG_of (i := 34) rfl rfl⟩⟩
set_option maxRecDepth 100000 in
theorem fk_BrookStones_Brook_i_18 : fOK "BrookStones$Brook" true (18, 0, 2, 12) := ⟨RX0, TX0, 15, tyX0, "BrookStones", rfl, by decide, uw_X0, tyX0_ok, nmX0, rfl, Or.inl (tblG_of (i := 38) rfl rfl), fun h => absurd h (by decide), fun _ => ⟨rfl, rfl, rfl, Or.inr ⟨_, rfl⟩, tblG_of (i := 38) rfl rfl⟩⟩
set_option maxRecDepth 100000 in
theorem fk_BrookStones_Brook_i_21 : fOK "BrookStones$Brook" true (21, 0, 3, 12) := ⟨RX0, TX0, 15, tyX0, "BrookStones", rfl, by decide, uw_X0, tyX0_ok, nmX0, rfl, Or.inl (tblG_of (i := 41) rfl rfl), fun h => absurd h (by decide), fun _ => ⟨rfl, rfl, rfl, Or.inr ⟨_, rfl⟩, tblG_of (i := 41) rfl rfl⟩⟩
set_option maxRecDepth 100000 in
theorem fk_BrookStones_Brook_i_24 : fOK "BrookStones$Brook" true (24, 0, 4, 12) := ⟨RX0, TX0, 15, tyX0, "BrookStones", rfl, by decide, uw_X0, tyX0_ok, nmX0, rfl, Or.inl (tblG_of (i := 43) rfl rfl), fun h => absurd h (by decide), fun _ => ⟨rfl, rfl, rfl, Or.inr ⟨_, rfl⟩, tblG_of (i := 43) rfl rfl⟩⟩
set_option maxRecDepth 100000 in
theorem fk_BrookStones_Brook_i_27 : fOK "BrookStones$Brook" true (27, 0, 5, 12) := ⟨RX0, TX0, 15, tyX0, "BrookStones", rfl, by decide, uw_X0, tyX0_ok, nmX0, rfl, Or.inl (tblG_of (i := 45) rfl rfl), fun h => absurd h (by decide), fun _ => ⟨rfl, rfl, rfl, Or.inr ⟨_, rfl⟩, tblG_of (i := 45) rfl rfl⟩⟩
set_option maxRecDepth 100000 in
theorem fk_BrookStones_Brook_i_30 : fOK "BrookStones$Brook" true (30, 0, 6, 12) := ⟨RX0, TX0, 15, tyX0, "BrookStones", rfl, by decide, uw_X0, tyX0_ok, nmX0, rfl, Or.inl (tblG_of (i := 47) rfl rfl), fun h => absurd h (by decide), fun _ => ⟨rfl, rfl, rfl, Or.inr ⟨_, rfl⟩, tblG_of (i := 47) rfl rfl⟩⟩
set_option maxRecDepth 100000 in
theorem fk_BrookStones_Brook_i_33 : fOK "BrookStones$Brook" true (33, 0, 7, 12) := ⟨RX0, TX0, 15, tyX0, "BrookStones", rfl, by decide, uw_X0, tyX0_ok, nmX0, rfl, Or.inl (tblG_of (i := 49) rfl rfl), fun h => absurd h (by decide), fun _ => ⟨rfl, rfl, rfl, Or.inr ⟨_, rfl⟩, tblG_of (i := 49) rfl rfl⟩⟩
set_option maxRecDepth 100000 in
theorem fk_BrookStones_Brook_i_42 : fOK "BrookStones$Brook" true (42, 0, 10, 1) := ⟨RX0, TX0, 15, tyX0, "BrookStones", rfl, by decide, uw_X0, tyX0_ok, nmX0, rfl, Or.inl (tblG_of (i := 60) rfl rfl), fun _ => ⟨rfl, rfl⟩, fun h => absurd h (by decide)⟩
set_option maxRecDepth 100000 in
theorem fk_BrookStones_Brook_i_46 : fOK "BrookStones$Brook" true (46, 0, 11, 1) := ⟨RX0, TX0, 15, tyX0, "BrookStones", rfl, by decide, uw_X0, tyX0_ok, nmX0, rfl, Or.inl (tblG_of (i := 63) rfl rfl), fun _ => ⟨rfl, rfl⟩, fun h => absurd h (by decide)⟩
set_option maxRecDepth 100000 in
theorem fk_BrookStones_Brook_i_49 : fOK "BrookStones$Brook" true (49, 0, 12, 1) := ⟨RX0, TX0, 15, tyX0, "BrookStones", rfl, by decide, uw_X0, tyX0_ok, nmX0, rfl, Or.inl (tblG_of (i := 68) rfl rfl), fun _ => ⟨rfl, rfl⟩, fun h => absurd h (by decide)⟩
set_option maxRecDepth 100000 in
theorem fk_BrookStones_Brook_i_52 : fOK "BrookStones$Brook" true (52, 0, 13, 1) := ⟨RX0, TX0, 15, tyX0, "BrookStones", rfl, by decide, uw_X0, tyX0_ok, nmX0, rfl, Or.inl (tblG_of (i := 71) rfl rfl), fun _ => ⟨rfl, rfl⟩, fun h => absurd h (by decide)⟩
set_option maxRecDepth 100000 in
theorem fk_BrookStones_Brook_i_55 : fOK "BrookStones$Brook" true (55, 0, 14, 1) := ⟨RX0, TX0, 15, tyX0, "BrookStones", rfl, by decide, uw_X0, tyX0_ok, nmX0, rfl, Or.inl (tblG_of (i := 74) rfl rfl), fun _ => ⟨rfl, rfl⟩, fun h => absurd h (by decide)⟩
set_option maxRecDepth 100000 in
theorem fk_BrookStones_Brook_i_58 : fOK "BrookStones$Brook" true (58, 0, 8, 1) := ⟨RX0, TX0, 15, tyX0, "BrookStones", rfl, by decide, uw_X0, tyX0_ok, nmX0, rfl, Or.inl (tblG_of (i := 54) rfl rfl), fun _ => ⟨rfl, rfl⟩, fun h => absurd h (by decide)⟩
def fl_BrookStones_Brook_i : List (Nat × Nat × Nat × Nat) := [(9, 0, 0, 12), (15, 0, 1, 12), (18, 0, 2, 12), (21, 0, 3, 12), (24, 0, 4, 12), (27, 0, 5, 12), (30, 0, 6, 12), (33, 0, 7, 12), (42, 0, 10, 1), (46, 0, 11, 1), (49, 0, 12, 1), (52, 0, 13, 1), (55, 0, 14, 1), (58, 0, 8, 1)]
set_option maxRecDepth 100000 in
theorem fl_BrookStones_Brook_i_ok : ∀ q ∈ fl_BrookStones_Brook_i, fOK "BrookStones$Brook" true q := List.forall_mem_cons.mpr ⟨fk_BrookStones_Brook_i_9, List.forall_mem_cons.mpr ⟨fk_BrookStones_Brook_i_15, List.forall_mem_cons.mpr ⟨fk_BrookStones_Brook_i_18, List.forall_mem_cons.mpr ⟨fk_BrookStones_Brook_i_21, List.forall_mem_cons.mpr ⟨fk_BrookStones_Brook_i_24, List.forall_mem_cons.mpr ⟨fk_BrookStones_Brook_i_27, List.forall_mem_cons.mpr ⟨fk_BrookStones_Brook_i_30, List.forall_mem_cons.mpr ⟨fk_BrookStones_Brook_i_33, List.forall_mem_cons.mpr ⟨fk_BrookStones_Brook_i_42, List.forall_mem_cons.mpr ⟨fk_BrookStones_Brook_i_46, List.forall_mem_cons.mpr ⟨fk_BrookStones_Brook_i_49, List.forall_mem_cons.mpr ⟨fk_BrookStones_Brook_i_52, List.forall_mem_cons.mpr ⟨fk_BrookStones_Brook_i_55, List.forall_mem_cons.mpr ⟨fk_BrookStones_Brook_i_58, fun _ h => absurd h List.not_mem_nil⟩⟩⟩⟩⟩⟩⟩⟩⟩⟩⟩⟩⟩⟩
set_option maxRecDepth 100000 in
theorem fk_BrookStones_Flood_9 : fOK "BrookStones$Flood" false (9, 1, 0, 10) := ⟨RX1, TX1, 3, tyX1, "BrookStones", rfl, by decide, uw_X1, tyX1_ok, nmX1, rfl, Or.inl (tblG_of (i := 159) rfl rfl), fun h => absurd h (by decide), fun h => absurd h (by decide)⟩
set_option maxRecDepth 100000 in
theorem fk_BrookStones_Flood_15 : fOK "BrookStones$Flood" false (15, 1, 1, 10) := ⟨RX1, TX1, 3, tyX1, "BrookStones", rfl, by decide, uw_X1, tyX1_ok, nmX1, rfl, Or.inl (tblG_of (i := 161) rfl rfl), fun h => absurd h (by decide), fun h => absurd h (by decide)⟩
set_option maxRecDepth 100000 in
theorem fk_BrookStones_Flood_24 : fOK "BrookStones$Flood" false (24, 1, 2, 1) := ⟨RX1, TX1, 3, tyX1, "BrookStones", rfl, by decide, uw_X1, tyX1_ok, nmX1, rfl, Or.inl (tblG_of (i := 163) rfl rfl), fun _ => ⟨rfl, rfl⟩, fun h => absurd h (by decide)⟩
set_option maxRecDepth 100000 in
theorem fk_BrookStones_Flood_38 : fOK "BrookStones$Flood" false (38, 0, 8, 1) := ⟨RX0, TX0, 15, tyX0, "BrookStones", rfl, by decide, uw_X0, tyX0_ok, nmX0, rfl, Or.inr (tblN_of (i := 55) rfl rfl), fun _ => ⟨rfl, rfl⟩, fun h => absurd h (by decide)⟩
set_option maxRecDepth 100000 in
theorem fk_BrookStones_Flood_49 : fOK "BrookStones$Flood" false (49, 0, 2, 10) := ⟨RX0, TX0, 15, tyX0, "BrookStones", rfl, by decide, uw_X0, tyX0_ok, nmX0, rfl, Or.inr (tblN_of (i := 40) rfl rfl), fun h => absurd h (by decide), fun h => absurd h (by decide)⟩
set_option maxRecDepth 100000 in
theorem fk_BrookStones_Flood_56 : fOK "BrookStones$Flood" false (56, 0, 9, 1) := ⟨RX0, TX0, 15, tyX0, "BrookStones", rfl, by decide, uw_X0, tyX0_ok, nmX0, rfl, Or.inr (tblN_of (i := 59) rfl rfl), fun _ => ⟨rfl, rfl⟩, fun h => absurd h (by decide)⟩
set_option maxRecDepth 100000 in
theorem fk_BrookStones_Flood_59 : fOK "BrookStones$Flood" false (59, 0, 1, 10) := ⟨RX0, TX0, 15, tyX0, "BrookStones", rfl, by decide, uw_X0, tyX0_ok, nmX0, rfl, Or.inr (tblN_of (i := 37) rfl rfl), fun h => absurd h (by decide), fun h => absurd h (by decide)⟩
def fl_BrookStones_Flood : List (Nat × Nat × Nat × Nat) := [(9, 1, 0, 10), (15, 1, 1, 10), (24, 1, 2, 1), (38, 0, 8, 1), (49, 0, 2, 10), (56, 0, 9, 1), (59, 0, 1, 10)]
set_option maxRecDepth 100000 in
theorem fl_BrookStones_Flood_ok : ∀ q ∈ fl_BrookStones_Flood, fOK "BrookStones$Flood" false q := List.forall_mem_cons.mpr ⟨fk_BrookStones_Flood_9, List.forall_mem_cons.mpr ⟨fk_BrookStones_Flood_15, List.forall_mem_cons.mpr ⟨fk_BrookStones_Flood_24, List.forall_mem_cons.mpr ⟨fk_BrookStones_Flood_38, List.forall_mem_cons.mpr ⟨fk_BrookStones_Flood_49, List.forall_mem_cons.mpr ⟨fk_BrookStones_Flood_56, List.forall_mem_cons.mpr ⟨fk_BrookStones_Flood_59, fun _ h => absurd h List.not_mem_nil⟩⟩⟩⟩⟩⟩⟩
set_option maxRecDepth 100000 in
theorem fk_BrookStones_Flood_i_9 : fOK "BrookStones$Flood" true (9, 1, 0, 12) := ⟨RX1, TX1, 3, tyX1, "BrookStones", rfl, by decide, uw_X1, tyX1_ok, nmX1, rfl, Or.inl (tblG_of (i := 159) rfl rfl), fun h => absurd h (by decide), fun _ => ⟨rfl, rfl, rfl, Or.inr ⟨_, rfl⟩, tblG_of (i := 159) rfl rfl⟩⟩
set_option maxRecDepth 100000 in
theorem fk_BrookStones_Flood_i_15 : fOK "BrookStones$Flood" true (15, 1, 1, 12) := ⟨RX1, TX1, 3, tyX1, "BrookStones", rfl, by decide, uw_X1, tyX1_ok, nmX1, rfl, Or.inl (tblG_of (i := 161) rfl rfl), fun h => absurd h (by decide), fun _ => ⟨rfl, rfl, rfl, Or.inr ⟨_, rfl⟩, tblG_of (i := 161) rfl rfl⟩⟩
set_option maxRecDepth 100000 in
theorem fk_BrookStones_Flood_i_24 : fOK "BrookStones$Flood" true (24, 1, 2, 1) := ⟨RX1, TX1, 3, tyX1, "BrookStones", rfl, by decide, uw_X1, tyX1_ok, nmX1, rfl, Or.inl (tblG_of (i := 163) rfl rfl), fun _ => ⟨rfl, rfl⟩, fun h => absurd h (by decide)⟩
set_option maxRecDepth 100000 in
theorem fk_BrookStones_Flood_i_38 : fOK "BrookStones$Flood" true (38, 0, 8, 1) := ⟨RX0, TX0, 15, tyX0, "BrookStones", rfl, by decide, uw_X0, tyX0_ok, nmX0, rfl, Or.inr (tblN_of (i := 55) rfl rfl), fun _ => ⟨rfl, rfl⟩, fun h => absurd h (by decide)⟩
set_option maxRecDepth 100000 in
theorem fk_BrookStones_Flood_i_49 : fOK "BrookStones$Flood" true (49, 0, 2, 10) := ⟨RX0, TX0, 15, tyX0, "BrookStones", rfl, by decide, uw_X0, tyX0_ok, nmX0, rfl, Or.inr (tblN_of (i := 40) rfl rfl), fun h => absurd h (by decide), fun h => absurd h (by decide)⟩
set_option maxRecDepth 100000 in
theorem fk_BrookStones_Flood_i_56 : fOK "BrookStones$Flood" true (56, 0, 9, 1) := ⟨RX0, TX0, 15, tyX0, "BrookStones", rfl, by decide, uw_X0, tyX0_ok, nmX0, rfl, Or.inr (tblN_of (i := 59) rfl rfl), fun _ => ⟨rfl, rfl⟩, fun h => absurd h (by decide)⟩
set_option maxRecDepth 100000 in
theorem fk_BrookStones_Flood_i_59 : fOK "BrookStones$Flood" true (59, 0, 1, 10) := ⟨RX0, TX0, 15, tyX0, "BrookStones", rfl, by decide, uw_X0, tyX0_ok, nmX0, rfl, Or.inr (tblN_of (i := 37) rfl rfl), fun h => absurd h (by decide), fun h => absurd h (by decide)⟩
def fl_BrookStones_Flood_i : List (Nat × Nat × Nat × Nat) := [(9, 1, 0, 12), (15, 1, 1, 12), (24, 1, 2, 1), (38, 0, 8, 1), (49, 0, 2, 10), (56, 0, 9, 1), (59, 0, 1, 10)]
set_option maxRecDepth 100000 in
theorem fl_BrookStones_Flood_i_ok : ∀ q ∈ fl_BrookStones_Flood_i, fOK "BrookStones$Flood" true q := List.forall_mem_cons.mpr ⟨fk_BrookStones_Flood_i_9, List.forall_mem_cons.mpr ⟨fk_BrookStones_Flood_i_15, List.forall_mem_cons.mpr ⟨fk_BrookStones_Flood_i_24, List.forall_mem_cons.mpr ⟨fk_BrookStones_Flood_i_38, List.forall_mem_cons.mpr ⟨fk_BrookStones_Flood_i_49, List.forall_mem_cons.mpr ⟨fk_BrookStones_Flood_i_56, List.forall_mem_cons.mpr ⟨fk_BrookStones_Flood_i_59, fun _ h => absurd h List.not_mem_nil⟩⟩⟩⟩⟩⟩⟩
set_option maxRecDepth 100000 in
theorem fk_BrookStones_Layings_9 : fOK "BrookStones$Layings" false (9, 2, 0, 10) := ⟨RX2, TX2, 2, tyX2, "BrookStones", rfl, by decide, uw_X2, tyX2_ok, nmX2, rfl, Or.inl (tblG_of (i := 212) rfl rfl), fun h => absurd h (by decide), fun h => absurd h (by decide)⟩
set_option maxRecDepth 100000 in
theorem fk_BrookStones_Layings_21 : fOK "BrookStones$Layings" false (21, 2, 1, 1) := ⟨RX2, TX2, 2, tyX2, "BrookStones", rfl, by decide, uw_X2, tyX2_ok, nmX2, rfl, Or.inl (tblG_of (i := 213) rfl rfl), fun _ => ⟨rfl, rfl⟩, fun h => absurd h (by decide)⟩
set_option maxRecDepth 100000 in
theorem fk_BrookStones_Layings_32 : fOK "BrookStones$Layings" false (32, 0, 8, 1) := ⟨RX0, TX0, 15, tyX0, "BrookStones", rfl, by decide, uw_X0, tyX0_ok, nmX0, rfl, Or.inr (tblN_of (i := 56) rfl rfl), fun _ => ⟨rfl, rfl⟩, fun h => absurd h (by decide)⟩
set_option maxRecDepth 100000 in
theorem fk_BrookStones_Layings_43 : fOK "BrookStones$Layings" false (43, 0, 11, 1) := ⟨RX0, TX0, 15, tyX0, "BrookStones", rfl, by decide, uw_X0, tyX0_ok, nmX0, rfl, Or.inr (tblN_of (i := 66) rfl rfl), fun _ => ⟨rfl, rfl⟩, fun h => absurd h (by decide)⟩
def fl_BrookStones_Layings : List (Nat × Nat × Nat × Nat) := [(9, 2, 0, 10), (21, 2, 1, 1), (32, 0, 8, 1), (43, 0, 11, 1)]
set_option maxRecDepth 100000 in
theorem fl_BrookStones_Layings_ok : ∀ q ∈ fl_BrookStones_Layings, fOK "BrookStones$Layings" false q := List.forall_mem_cons.mpr ⟨fk_BrookStones_Layings_9, List.forall_mem_cons.mpr ⟨fk_BrookStones_Layings_21, List.forall_mem_cons.mpr ⟨fk_BrookStones_Layings_32, List.forall_mem_cons.mpr ⟨fk_BrookStones_Layings_43, fun _ h => absurd h List.not_mem_nil⟩⟩⟩⟩
set_option maxRecDepth 100000 in
theorem fk_BrookStones_Layings_i_9 : fOK "BrookStones$Layings" true (9, 2, 0, 12) := ⟨RX2, TX2, 2, tyX2, "BrookStones", rfl, by decide, uw_X2, tyX2_ok, nmX2, rfl, Or.inl (tblG_of (i := 212) rfl rfl), fun h => absurd h (by decide), fun _ => ⟨rfl, rfl, rfl, Or.inr ⟨_, rfl⟩, tblG_of (i := 212) rfl rfl⟩⟩
set_option maxRecDepth 100000 in
theorem fk_BrookStones_Layings_i_21 : fOK "BrookStones$Layings" true (21, 2, 1, 1) := ⟨RX2, TX2, 2, tyX2, "BrookStones", rfl, by decide, uw_X2, tyX2_ok, nmX2, rfl, Or.inl (tblG_of (i := 213) rfl rfl), fun _ => ⟨rfl, rfl⟩, fun h => absurd h (by decide)⟩
set_option maxRecDepth 100000 in
theorem fk_BrookStones_Layings_i_32 : fOK "BrookStones$Layings" true (32, 0, 8, 1) := ⟨RX0, TX0, 15, tyX0, "BrookStones", rfl, by decide, uw_X0, tyX0_ok, nmX0, rfl, Or.inr (tblN_of (i := 56) rfl rfl), fun _ => ⟨rfl, rfl⟩, fun h => absurd h (by decide)⟩
set_option maxRecDepth 100000 in
theorem fk_BrookStones_Layings_i_43 : fOK "BrookStones$Layings" true (43, 0, 11, 1) := ⟨RX0, TX0, 15, tyX0, "BrookStones", rfl, by decide, uw_X0, tyX0_ok, nmX0, rfl, Or.inr (tblN_of (i := 66) rfl rfl), fun _ => ⟨rfl, rfl⟩, fun h => absurd h (by decide)⟩
def fl_BrookStones_Layings_i : List (Nat × Nat × Nat × Nat) := [(9, 2, 0, 12), (21, 2, 1, 1), (32, 0, 8, 1), (43, 0, 11, 1)]
set_option maxRecDepth 100000 in
theorem fl_BrookStones_Layings_i_ok : ∀ q ∈ fl_BrookStones_Layings_i, fOK "BrookStones$Layings" true q := List.forall_mem_cons.mpr ⟨fk_BrookStones_Layings_i_9, List.forall_mem_cons.mpr ⟨fk_BrookStones_Layings_i_21, List.forall_mem_cons.mpr ⟨fk_BrookStones_Layings_i_32, List.forall_mem_cons.mpr ⟨fk_BrookStones_Layings_i_43, fun _ h => absurd h List.not_mem_nil⟩⟩⟩⟩
set_option maxRecDepth 100000 in
theorem fk_BrookStones_Planner_11 : fOK "BrookStones$Planner" false (11, 3, 0, 10) := ⟨RX3, TX3, 8, tyX3, "BrookStones", rfl, by decide, uw_X3, tyX3_ok, nmX3, rfl, Or.inl (tblG_of (i := 180) rfl rfl), fun h => absurd h (by decide), fun h => absurd h (by decide)⟩
set_option maxRecDepth 100000 in
theorem fk_BrookStones_Planner_15 : fOK "BrookStones$Planner" false (15, 3, 1, 10) := ⟨RX3, TX3, 8, tyX3, "BrookStones", rfl, by decide, uw_X3, tyX3_ok, nmX3, rfl, Or.inl (tblG_of (i := 181) rfl rfl), fun h => absurd h (by decide), fun h => absurd h (by decide)⟩
set_option maxRecDepth 100000 in
theorem fk_BrookStones_Planner_18 : fOK "BrookStones$Planner" false (18, 3, 2, 10) := ⟨RX3, TX3, 8, tyX3, "BrookStones", rfl, by decide, uw_X3, tyX3_ok, nmX3, rfl, Or.inl (tblG_of (i := 183) rfl rfl), fun h => absurd h (by decide), fun h => absurd h (by decide)⟩
set_option maxRecDepth 100000 in
theorem fk_BrookStones_Planner_23 : fOK "BrookStones$Planner" false (23, 3, 3, 10) := ⟨RX3, TX3, 8, tyX3, "BrookStones", rfl, by decide, uw_X3, tyX3_ok, nmX3, rfl, Or.inl (tblG_of (i := 184) rfl rfl), fun h => absurd h (by decide), fun h => absurd h (by decide)⟩
set_option maxRecDepth 100000 in
theorem fk_BrookStones_Planner_26 : fOK "BrookStones$Planner" false (26, 3, 5, 1) := ⟨RX3, TX3, 8, tyX3, "BrookStones", rfl, by decide, uw_X3, tyX3_ok, nmX3, rfl, Or.inl (tblG_of (i := 186) rfl rfl), fun _ => ⟨rfl, rfl⟩, fun h => absurd h (by decide)⟩
set_option maxRecDepth 100000 in
theorem fk_BrookStones_Planner_30 : fOK "BrookStones$Planner" false (30, 3, 6, 1) := ⟨RX3, TX3, 8, tyX3, "BrookStones", rfl, by decide, uw_X3, tyX3_ok, nmX3, rfl, Or.inl (tblG_of (i := 187) rfl rfl), fun _ => ⟨rfl, rfl⟩, fun h => absurd h (by decide)⟩
set_option maxRecDepth 100000 in
theorem fk_BrookStones_Planner_33 : fOK "BrookStones$Planner" false (33, 3, 7, 1) := ⟨RX3, TX3, 8, tyX3, "BrookStones", rfl, by decide, uw_X3, tyX3_ok, nmX3, rfl, Or.inl (tblG_of (i := 188) rfl rfl), fun _ => ⟨rfl, rfl⟩, fun h => absurd h (by decide)⟩
set_option maxRecDepth 100000 in
theorem fk_BrookStones_Planner_37 : fOK "BrookStones$Planner" false (37, 3, 4, 1) := ⟨RX3, TX3, 8, tyX3, "BrookStones", rfl, by decide, uw_X3, tyX3_ok, nmX3, rfl, Or.inl (tblG_of (i := 185) rfl rfl), fun _ => ⟨rfl, rfl⟩, fun h => absurd h (by decide)⟩
set_option maxRecDepth 100000 in
theorem fk_BrookStones_Planner_40 : fOK "BrookStones$Planner" false (40, 0, 12, 1) := ⟨RX0, TX0, 15, tyX0, "BrookStones", rfl, by decide, uw_X0, tyX0_ok, nmX0, rfl, Or.inr (tblN_of (i := 69) rfl rfl), fun _ => ⟨rfl, rfl⟩, fun h => absurd h (by decide)⟩
set_option maxRecDepth 100000 in
theorem fk_BrookStones_Planner_45 : fOK "BrookStones$Planner" false (45, 0, 13, 1) := ⟨RX0, TX0, 15, tyX0, "BrookStones", rfl, by decide, uw_X0, tyX0_ok, nmX0, rfl, Or.inr (tblN_of (i := 72) rfl rfl), fun _ => ⟨rfl, rfl⟩, fun h => absurd h (by decide)⟩
set_option maxRecDepth 100000 in
theorem fk_BrookStones_Planner_66 : fOK "BrookStones$Planner" false (66, 0, 8, 1) := ⟨RX0, TX0, 15, tyX0, "BrookStones", rfl, by decide, uw_X0, tyX0_ok, nmX0, rfl, Or.inr (tblN_of (i := 53) rfl rfl), fun _ => ⟨rfl, rfl⟩, fun h => absurd h (by decide)⟩
set_option maxRecDepth 100000 in
theorem fk_BrookStones_Planner_79 : fOK "BrookStones$Planner" false (79, 0, 11, 1) := ⟨RX0, TX0, 15, tyX0, "BrookStones", rfl, by decide, uw_X0, tyX0_ok, nmX0, rfl, Or.inr (tblN_of (i := 67) rfl rfl), fun _ => ⟨rfl, rfl⟩, fun h => absurd h (by decide)⟩
set_option maxRecDepth 100000 in
theorem fk_BrookStones_Planner_128 : fOK "BrookStones$Planner" false (128, 0, 10, 1) := ⟨RX0, TX0, 15, tyX0, "BrookStones", rfl, by decide, uw_X0, tyX0_ok, nmX0, rfl, Or.inr (tblN_of (i := 62) rfl rfl), fun _ => ⟨rfl, rfl⟩, fun h => absurd h (by decide)⟩
def fl_BrookStones_Planner : List (Nat × Nat × Nat × Nat) := [(11, 3, 0, 10), (15, 3, 1, 10), (18, 3, 2, 10), (23, 3, 3, 10), (26, 3, 5, 1), (30, 3, 6, 1), (33, 3, 7, 1), (37, 3, 4, 1), (40, 0, 12, 1), (45, 0, 13, 1), (66, 0, 8, 1), (79, 0, 11, 1), (128, 0, 10, 1)]
set_option maxRecDepth 100000 in
theorem fl_BrookStones_Planner_ok : ∀ q ∈ fl_BrookStones_Planner, fOK "BrookStones$Planner" false q := List.forall_mem_cons.mpr ⟨fk_BrookStones_Planner_11, List.forall_mem_cons.mpr ⟨fk_BrookStones_Planner_15, List.forall_mem_cons.mpr ⟨fk_BrookStones_Planner_18, List.forall_mem_cons.mpr ⟨fk_BrookStones_Planner_23, List.forall_mem_cons.mpr ⟨fk_BrookStones_Planner_26, List.forall_mem_cons.mpr ⟨fk_BrookStones_Planner_30, List.forall_mem_cons.mpr ⟨fk_BrookStones_Planner_33, List.forall_mem_cons.mpr ⟨fk_BrookStones_Planner_37, List.forall_mem_cons.mpr ⟨fk_BrookStones_Planner_40, List.forall_mem_cons.mpr ⟨fk_BrookStones_Planner_45, List.forall_mem_cons.mpr ⟨fk_BrookStones_Planner_66, List.forall_mem_cons.mpr ⟨fk_BrookStones_Planner_79, List.forall_mem_cons.mpr ⟨fk_BrookStones_Planner_128, fun _ h => absurd h List.not_mem_nil⟩⟩⟩⟩⟩⟩⟩⟩⟩⟩⟩⟩⟩
set_option maxRecDepth 100000 in
theorem fk_BrookStones_Planner_i_11 : fOK "BrookStones$Planner" true (11, 3, 0, 12) := ⟨RX3, TX3, 8, tyX3, "BrookStones", rfl, by decide, uw_X3, tyX3_ok, nmX3, rfl, Or.inl (tblG_of (i := 180) rfl rfl), fun h => absurd h (by decide), fun _ => ⟨rfl, rfl, rfl, Or.inr ⟨_, rfl⟩, tblG_of (i := 180) rfl rfl⟩⟩
set_option maxRecDepth 100000 in
theorem fk_BrookStones_Planner_i_15 : fOK "BrookStones$Planner" true (15, 3, 1, 12) := ⟨RX3, TX3, 8, tyX3, "BrookStones", rfl, by decide, uw_X3, tyX3_ok, nmX3, rfl, Or.inl (tblG_of (i := 181) rfl rfl), fun h => absurd h (by decide), fun _ => ⟨rfl, rfl, rfl, Or.inr ⟨_, rfl⟩, tblG_of (i := 181) rfl rfl⟩⟩
set_option maxRecDepth 100000 in
theorem fk_BrookStones_Planner_i_18 : fOK "BrookStones$Planner" true (18, 3, 2, 12) := ⟨RX3, TX3, 8, tyX3, "BrookStones", rfl, by decide, uw_X3, tyX3_ok, nmX3, rfl, Or.inl (tblG_of (i := 183) rfl rfl), fun h => absurd h (by decide), fun _ => ⟨rfl, rfl, rfl, Or.inr ⟨_, rfl⟩, tblG_of (i := 183) rfl rfl⟩⟩
set_option maxRecDepth 100000 in
theorem fk_BrookStones_Planner_i_23 : fOK "BrookStones$Planner" true (23, 3, 3, 12) := ⟨RX3, TX3, 8, tyX3, "BrookStones", rfl, by decide, uw_X3, tyX3_ok, nmX3, rfl, Or.inl (tblG_of (i := 184) rfl rfl), fun h => absurd h (by decide), fun _ => ⟨rfl, rfl, rfl, Or.inr ⟨_, rfl⟩, tblG_of (i := 184) rfl rfl⟩⟩
set_option maxRecDepth 100000 in
theorem fk_BrookStones_Planner_i_26 : fOK "BrookStones$Planner" true (26, 3, 5, 1) := ⟨RX3, TX3, 8, tyX3, "BrookStones", rfl, by decide, uw_X3, tyX3_ok, nmX3, rfl, Or.inl (tblG_of (i := 186) rfl rfl), fun _ => ⟨rfl, rfl⟩, fun h => absurd h (by decide)⟩
set_option maxRecDepth 100000 in
theorem fk_BrookStones_Planner_i_30 : fOK "BrookStones$Planner" true (30, 3, 6, 1) := ⟨RX3, TX3, 8, tyX3, "BrookStones", rfl, by decide, uw_X3, tyX3_ok, nmX3, rfl, Or.inl (tblG_of (i := 187) rfl rfl), fun _ => ⟨rfl, rfl⟩, fun h => absurd h (by decide)⟩
set_option maxRecDepth 100000 in
theorem fk_BrookStones_Planner_i_33 : fOK "BrookStones$Planner" true (33, 3, 7, 1) := ⟨RX3, TX3, 8, tyX3, "BrookStones", rfl, by decide, uw_X3, tyX3_ok, nmX3, rfl, Or.inl (tblG_of (i := 188) rfl rfl), fun _ => ⟨rfl, rfl⟩, fun h => absurd h (by decide)⟩
set_option maxRecDepth 100000 in
theorem fk_BrookStones_Planner_i_37 : fOK "BrookStones$Planner" true (37, 3, 4, 1) := ⟨RX3, TX3, 8, tyX3, "BrookStones", rfl, by decide, uw_X3, tyX3_ok, nmX3, rfl, Or.inl (tblG_of (i := 185) rfl rfl), fun _ => ⟨rfl, rfl⟩, fun h => absurd h (by decide)⟩
set_option maxRecDepth 100000 in
theorem fk_BrookStones_Planner_i_40 : fOK "BrookStones$Planner" true (40, 0, 12, 1) := ⟨RX0, TX0, 15, tyX0, "BrookStones", rfl, by decide, uw_X0, tyX0_ok, nmX0, rfl, Or.inr (tblN_of (i := 69) rfl rfl), fun _ => ⟨rfl, rfl⟩, fun h => absurd h (by decide)⟩
set_option maxRecDepth 100000 in
theorem fk_BrookStones_Planner_i_45 : fOK "BrookStones$Planner" true (45, 0, 13, 1) := ⟨RX0, TX0, 15, tyX0, "BrookStones", rfl, by decide, uw_X0, tyX0_ok, nmX0, rfl, Or.inr (tblN_of (i := 72) rfl rfl), fun _ => ⟨rfl, rfl⟩, fun h => absurd h (by decide)⟩
set_option maxRecDepth 100000 in
theorem fk_BrookStones_Planner_i_66 : fOK "BrookStones$Planner" true (66, 0, 8, 1) := ⟨RX0, TX0, 15, tyX0, "BrookStones", rfl, by decide, uw_X0, tyX0_ok, nmX0, rfl, Or.inr (tblN_of (i := 53) rfl rfl), fun _ => ⟨rfl, rfl⟩, fun h => absurd h (by decide)⟩
set_option maxRecDepth 100000 in
theorem fk_BrookStones_Planner_i_79 : fOK "BrookStones$Planner" true (79, 0, 11, 1) := ⟨RX0, TX0, 15, tyX0, "BrookStones", rfl, by decide, uw_X0, tyX0_ok, nmX0, rfl, Or.inr (tblN_of (i := 67) rfl rfl), fun _ => ⟨rfl, rfl⟩, fun h => absurd h (by decide)⟩
set_option maxRecDepth 100000 in
theorem fk_BrookStones_Planner_i_128 : fOK "BrookStones$Planner" true (128, 0, 10, 1) := ⟨RX0, TX0, 15, tyX0, "BrookStones", rfl, by decide, uw_X0, tyX0_ok, nmX0, rfl, Or.inr (tblN_of (i := 62) rfl rfl), fun _ => ⟨rfl, rfl⟩, fun h => absurd h (by decide)⟩
def fl_BrookStones_Planner_i : List (Nat × Nat × Nat × Nat) := [(11, 3, 0, 12), (15, 3, 1, 12), (18, 3, 2, 12), (23, 3, 3, 12), (26, 3, 5, 1), (30, 3, 6, 1), (33, 3, 7, 1), (37, 3, 4, 1), (40, 0, 12, 1), (45, 0, 13, 1), (66, 0, 8, 1), (79, 0, 11, 1), (128, 0, 10, 1)]
set_option maxRecDepth 100000 in
theorem fl_BrookStones_Planner_i_ok : ∀ q ∈ fl_BrookStones_Planner_i, fOK "BrookStones$Planner" true q := List.forall_mem_cons.mpr ⟨fk_BrookStones_Planner_i_11, List.forall_mem_cons.mpr ⟨fk_BrookStones_Planner_i_15, List.forall_mem_cons.mpr ⟨fk_BrookStones_Planner_i_18, List.forall_mem_cons.mpr ⟨fk_BrookStones_Planner_i_23, List.forall_mem_cons.mpr ⟨fk_BrookStones_Planner_i_26, List.forall_mem_cons.mpr ⟨fk_BrookStones_Planner_i_30, List.forall_mem_cons.mpr ⟨fk_BrookStones_Planner_i_33, List.forall_mem_cons.mpr ⟨fk_BrookStones_Planner_i_37, List.forall_mem_cons.mpr ⟨fk_BrookStones_Planner_i_40, List.forall_mem_cons.mpr ⟨fk_BrookStones_Planner_i_45, List.forall_mem_cons.mpr ⟨fk_BrookStones_Planner_i_66, List.forall_mem_cons.mpr ⟨fk_BrookStones_Planner_i_79, List.forall_mem_cons.mpr ⟨fk_BrookStones_Planner_i_128, fun _ h => absurd h List.not_mem_nil⟩⟩⟩⟩⟩⟩⟩⟩⟩⟩⟩⟩⟩
set_option maxRecDepth 100000 in
theorem fk_BrookStones_Sheets_9 : fOK "BrookStones$Sheets" false (9, 4, 0, 10) := ⟨RX4, TX4, 3, tyX4, "BrookStones", rfl, by decide, uw_X4, tyX4_ok, nmX4, rfl, Or.inl (tblG_of (i := 115) rfl rfl), fun h => absurd h (by decide), fun h => absurd h (by decide)⟩
set_option maxRecDepth 100000 in
theorem fk_BrookStones_Sheets_15 : fOK "BrookStones$Sheets" false (15, 4, 1, 10) := ⟨RX4, TX4, 3, tyX4, "BrookStones", rfl, by decide, uw_X4, tyX4_ok, nmX4, rfl, Or.inl (tblG_of (i := 117) rfl rfl), fun h => absurd h (by decide), fun h => absurd h (by decide)⟩
set_option maxRecDepth 100000 in
theorem fk_BrookStones_Sheets_18 : fOK "BrookStones$Sheets" false (18, 4, 2, 10) := ⟨RX4, TX4, 3, tyX4, "BrookStones", rfl, by decide, uw_X4, tyX4_ok, nmX4, rfl, Or.inl (tblG_of (i := 119) rfl rfl), fun h => absurd h (by decide), fun h => absurd h (by decide)⟩
def fl_BrookStones_Sheets : List (Nat × Nat × Nat × Nat) := [(9, 4, 0, 10), (15, 4, 1, 10), (18, 4, 2, 10)]
set_option maxRecDepth 100000 in
theorem fl_BrookStones_Sheets_ok : ∀ q ∈ fl_BrookStones_Sheets, fOK "BrookStones$Sheets" false q := List.forall_mem_cons.mpr ⟨fk_BrookStones_Sheets_9, List.forall_mem_cons.mpr ⟨fk_BrookStones_Sheets_15, List.forall_mem_cons.mpr ⟨fk_BrookStones_Sheets_18, fun _ h => absurd h List.not_mem_nil⟩⟩⟩
set_option maxRecDepth 100000 in
theorem fk_BrookStones_Sheets_i_9 : fOK "BrookStones$Sheets" true (9, 4, 0, 12) := ⟨RX4, TX4, 3, tyX4, "BrookStones", rfl, by decide, uw_X4, tyX4_ok, nmX4, rfl, Or.inl (tblG_of (i := 115) rfl rfl), fun h => absurd h (by decide), fun _ => ⟨rfl, rfl, rfl, Or.inr ⟨_, rfl⟩, tblG_of (i := 115) rfl rfl⟩⟩
set_option maxRecDepth 100000 in
theorem fk_BrookStones_Sheets_i_15 : fOK "BrookStones$Sheets" true (15, 4, 1, 12) := ⟨RX4, TX4, 3, tyX4, "BrookStones", rfl, by decide, uw_X4, tyX4_ok, nmX4, rfl, Or.inl (tblG_of (i := 117) rfl rfl), fun h => absurd h (by decide), fun _ => ⟨rfl, rfl, rfl, Or.inr ⟨_, rfl⟩, tblG_of (i := 117) rfl rfl⟩⟩
set_option maxRecDepth 100000 in
theorem fk_BrookStones_Sheets_i_18 : fOK "BrookStones$Sheets" true (18, 4, 2, 12) := ⟨RX4, TX4, 3, tyX4, "BrookStones", rfl, by decide, uw_X4, tyX4_ok, nmX4, rfl, Or.inl (tblG_of (i := 119) rfl rfl), fun h => absurd h (by decide), fun _ => ⟨rfl, rfl, rfl, Or.inr ⟨_, rfl⟩, tblG_of (i := 119) rfl rfl⟩⟩
def fl_BrookStones_Sheets_i : List (Nat × Nat × Nat × Nat) := [(9, 4, 0, 12), (15, 4, 1, 12), (18, 4, 2, 12)]
set_option maxRecDepth 100000 in
theorem fl_BrookStones_Sheets_i_ok : ∀ q ∈ fl_BrookStones_Sheets_i, fOK "BrookStones$Sheets" true q := List.forall_mem_cons.mpr ⟨fk_BrookStones_Sheets_i_9, List.forall_mem_cons.mpr ⟨fk_BrookStones_Sheets_i_15, List.forall_mem_cons.mpr ⟨fk_BrookStones_Sheets_i_18, fun _ h => absurd h List.not_mem_nil⟩⟩⟩
set_option maxRecDepth 100000 in
theorem fk_BrookStones_Text_34 : fOK "BrookStones$Text" false (34, 0, 0, 10) := ⟨RX0, TX0, 15, tyX0, "BrookStones", rfl, by decide, uw_X0, tyX0_ok, nmX0, rfl, Or.inr (tblN_of (i := 32) rfl rfl), fun h => absurd h (by decide), fun h => absurd h (by decide)⟩
set_option maxRecDepth 100000 in
theorem fk_BrookStones_Text_40 : fOK "BrookStones$Text" false (40, 0, 1, 10) := ⟨RX0, TX0, 15, tyX0, "BrookStones", rfl, by decide, uw_X0, tyX0_ok, nmX0, rfl, Or.inr (tblN_of (i := 35) rfl rfl), fun h => absurd h (by decide), fun h => absurd h (by decide)⟩
set_option maxRecDepth 100000 in
theorem fk_BrookStones_Text_43 : fOK "BrookStones$Text" false (43, 0, 9, 1) := ⟨RX0, TX0, 15, tyX0, "BrookStones", rfl, by decide, uw_X0, tyX0_ok, nmX0, rfl, Or.inr (tblN_of (i := 58) rfl rfl), fun _ => ⟨rfl, rfl⟩, fun h => absurd h (by decide)⟩
set_option maxRecDepth 100000 in
theorem fk_BrookStones_Text_47 : fOK "BrookStones$Text" false (47, 0, 8, 1) := ⟨RX0, TX0, 15, tyX0, "BrookStones", rfl, by decide, uw_X0, tyX0_ok, nmX0, rfl, Or.inr (tblN_of (i := 57) rfl rfl), fun _ => ⟨rfl, rfl⟩, fun h => absurd h (by decide)⟩
def fl_BrookStones_Text : List (Nat × Nat × Nat × Nat) := [(34, 0, 0, 10), (40, 0, 1, 10), (43, 0, 9, 1), (47, 0, 8, 1)]
set_option maxRecDepth 100000 in
theorem fl_BrookStones_Text_ok : ∀ q ∈ fl_BrookStones_Text, fOK "BrookStones$Text" false q := List.forall_mem_cons.mpr ⟨fk_BrookStones_Text_34, List.forall_mem_cons.mpr ⟨fk_BrookStones_Text_40, List.forall_mem_cons.mpr ⟨fk_BrookStones_Text_43, List.forall_mem_cons.mpr ⟨fk_BrookStones_Text_47, fun _ h => absurd h List.not_mem_nil⟩⟩⟩⟩
set_option maxRecDepth 100000 in
theorem fk_BrookStones_Text_i_34 : fOK "BrookStones$Text" true (34, 0, 0, 10) := ⟨RX0, TX0, 15, tyX0, "BrookStones", rfl, by decide, uw_X0, tyX0_ok, nmX0, rfl, Or.inr (tblN_of (i := 32) rfl rfl), fun h => absurd h (by decide), fun h => absurd h (by decide)⟩
set_option maxRecDepth 100000 in
theorem fk_BrookStones_Text_i_40 : fOK "BrookStones$Text" true (40, 0, 1, 10) := ⟨RX0, TX0, 15, tyX0, "BrookStones", rfl, by decide, uw_X0, tyX0_ok, nmX0, rfl, Or.inr (tblN_of (i := 35) rfl rfl), fun h => absurd h (by decide), fun h => absurd h (by decide)⟩
set_option maxRecDepth 100000 in
theorem fk_BrookStones_Text_i_43 : fOK "BrookStones$Text" true (43, 0, 9, 1) := ⟨RX0, TX0, 15, tyX0, "BrookStones", rfl, by decide, uw_X0, tyX0_ok, nmX0, rfl, Or.inr (tblN_of (i := 58) rfl rfl), fun _ => ⟨rfl, rfl⟩, fun h => absurd h (by decide)⟩
set_option maxRecDepth 100000 in
theorem fk_BrookStones_Text_i_47 : fOK "BrookStones$Text" true (47, 0, 8, 1) := ⟨RX0, TX0, 15, tyX0, "BrookStones", rfl, by decide, uw_X0, tyX0_ok, nmX0, rfl, Or.inr (tblN_of (i := 57) rfl rfl), fun _ => ⟨rfl, rfl⟩, fun h => absurd h (by decide)⟩
def fl_BrookStones_Text_i : List (Nat × Nat × Nat × Nat) := [(34, 0, 0, 10), (40, 0, 1, 10), (43, 0, 9, 1), (47, 0, 8, 1)]
set_option maxRecDepth 100000 in
theorem fl_BrookStones_Text_i_ok : ∀ q ∈ fl_BrookStones_Text_i, fOK "BrookStones$Text" true q := List.forall_mem_cons.mpr ⟨fk_BrookStones_Text_i_34, List.forall_mem_cons.mpr ⟨fk_BrookStones_Text_i_40, List.forall_mem_cons.mpr ⟨fk_BrookStones_Text_i_43, List.forall_mem_cons.mpr ⟨fk_BrookStones_Text_i_47, fun _ h => absurd h List.not_mem_nil⟩⟩⟩⟩
set_option maxRecDepth 100000 in
theorem fk_BrookStones_Way_9 : fOK "BrookStones$Way" false (9, 5, 0, 10) := ⟨RX6, TX6, 6, tyX6, "BrookStones", rfl, by decide, uw_X6, tyX6_ok, nmX6, rfl, Or.inl (tblG_of (i := 133) rfl rfl), fun h => absurd h (by decide), fun h => absurd h (by decide)⟩
set_option maxRecDepth 100000 in
theorem fk_BrookStones_Way_15 : fOK "BrookStones$Way" false (15, 5, 1, 10) := ⟨RX6, TX6, 6, tyX6, "BrookStones", rfl, by decide, uw_X6, tyX6_ok, nmX6, rfl, Or.inl (tblG_of (i := 135) rfl rfl), fun h => absurd h (by decide), fun h => absurd h (by decide)⟩
set_option maxRecDepth 100000 in
theorem fk_BrookStones_Way_18 : fOK "BrookStones$Way" false (18, 5, 5, 1) := ⟨RX6, TX6, 6, tyX6, "BrookStones", rfl, by decide, uw_X6, tyX6_ok, nmX6, rfl, Or.inl (tblG_of (i := 139) rfl rfl), fun _ => ⟨rfl, rfl⟩, fun h => absurd h (by decide)⟩
set_option maxRecDepth 100000 in
theorem fk_BrookStones_Way_22 : fOK "BrookStones$Way" false (22, 0, 8, 1) := ⟨RX0, TX0, 15, tyX0, "BrookStones", rfl, by decide, uw_X0, tyX0_ok, nmX0, rfl, Or.inr (tblN_of (i := 51) rfl rfl), fun _ => ⟨rfl, rfl⟩, fun h => absurd h (by decide)⟩
set_option maxRecDepth 100000 in
theorem fk_BrookStones_Way_27 : fOK "BrookStones$Way" false (27, 5, 4, 1) := ⟨RX6, TX6, 6, tyX6, "BrookStones", rfl, by decide, uw_X6, tyX6_ok, nmX6, rfl, Or.inl (tblG_of (i := 138) rfl rfl), fun _ => ⟨rfl, rfl⟩, fun h => absurd h (by decide)⟩
set_option maxRecDepth 100000 in
theorem fk_BrookStones_Way_30 : fOK "BrookStones$Way" false (30, 0, 11, 1) := ⟨RX0, TX0, 15, tyX0, "BrookStones", rfl, by decide, uw_X0, tyX0_ok, nmX0, rfl, Or.inr (tblN_of (i := 64) rfl rfl), fun _ => ⟨rfl, rfl⟩, fun h => absurd h (by decide)⟩
set_option maxRecDepth 100000 in
theorem fk_BrookStones_Way_37 : fOK "BrookStones$Way" false (37, 5, 2, 1) := ⟨RX6, TX6, 6, tyX6, "BrookStones", rfl, by decide, uw_X6, tyX6_ok, nmX6, rfl, Or.inl (tblG_of (i := 136) rfl rfl), fun _ => ⟨rfl, rfl⟩, fun h => absurd h (by decide)⟩
set_option maxRecDepth 100000 in
theorem fk_BrookStones_Way_43 : fOK "BrookStones$Way" false (43, 5, 3, 1) := ⟨RX6, TX6, 6, tyX6, "BrookStones", rfl, by decide, uw_X6, tyX6_ok, nmX6, rfl, Or.inl (tblG_of (i := 137) rfl rfl), fun _ => ⟨rfl, rfl⟩, fun h => absurd h (by decide)⟩
def fl_BrookStones_Way : List (Nat × Nat × Nat × Nat) := [(9, 5, 0, 10), (15, 5, 1, 10), (18, 5, 5, 1), (22, 0, 8, 1), (27, 5, 4, 1), (30, 0, 11, 1), (37, 5, 2, 1), (43, 5, 3, 1)]
set_option maxRecDepth 100000 in
theorem fl_BrookStones_Way_ok : ∀ q ∈ fl_BrookStones_Way, fOK "BrookStones$Way" false q := List.forall_mem_cons.mpr ⟨fk_BrookStones_Way_9, List.forall_mem_cons.mpr ⟨fk_BrookStones_Way_15, List.forall_mem_cons.mpr ⟨fk_BrookStones_Way_18, List.forall_mem_cons.mpr ⟨fk_BrookStones_Way_22, List.forall_mem_cons.mpr ⟨fk_BrookStones_Way_27, List.forall_mem_cons.mpr ⟨fk_BrookStones_Way_30, List.forall_mem_cons.mpr ⟨fk_BrookStones_Way_37, List.forall_mem_cons.mpr ⟨fk_BrookStones_Way_43, fun _ h => absurd h List.not_mem_nil⟩⟩⟩⟩⟩⟩⟩⟩
set_option maxRecDepth 100000 in
theorem fk_BrookStones_Way_i_9 : fOK "BrookStones$Way" true (9, 5, 0, 12) := ⟨RX6, TX6, 6, tyX6, "BrookStones", rfl, by decide, uw_X6, tyX6_ok, nmX6, rfl, Or.inl (tblG_of (i := 133) rfl rfl), fun h => absurd h (by decide), fun _ => ⟨rfl, rfl, rfl, Or.inr ⟨_, rfl⟩, tblG_of (i := 133) rfl rfl⟩⟩
set_option maxRecDepth 100000 in
theorem fk_BrookStones_Way_i_15 : fOK "BrookStones$Way" true (15, 5, 1, 12) := ⟨RX6, TX6, 6, tyX6, "BrookStones", rfl, by decide, uw_X6, tyX6_ok, nmX6, rfl, Or.inl (tblG_of (i := 135) rfl rfl), fun h => absurd h (by decide), fun _ => ⟨rfl, rfl, rfl, Or.inr ⟨_, rfl⟩, tblG_of (i := 135) rfl rfl⟩⟩
set_option maxRecDepth 100000 in
theorem fk_BrookStones_Way_i_18 : fOK "BrookStones$Way" true (18, 5, 5, 1) := ⟨RX6, TX6, 6, tyX6, "BrookStones", rfl, by decide, uw_X6, tyX6_ok, nmX6, rfl, Or.inl (tblG_of (i := 139) rfl rfl), fun _ => ⟨rfl, rfl⟩, fun h => absurd h (by decide)⟩
set_option maxRecDepth 100000 in
theorem fk_BrookStones_Way_i_22 : fOK "BrookStones$Way" true (22, 0, 8, 1) := ⟨RX0, TX0, 15, tyX0, "BrookStones", rfl, by decide, uw_X0, tyX0_ok, nmX0, rfl, Or.inr (tblN_of (i := 51) rfl rfl), fun _ => ⟨rfl, rfl⟩, fun h => absurd h (by decide)⟩
set_option maxRecDepth 100000 in
theorem fk_BrookStones_Way_i_27 : fOK "BrookStones$Way" true (27, 5, 4, 1) := ⟨RX6, TX6, 6, tyX6, "BrookStones", rfl, by decide, uw_X6, tyX6_ok, nmX6, rfl, Or.inl (tblG_of (i := 138) rfl rfl), fun _ => ⟨rfl, rfl⟩, fun h => absurd h (by decide)⟩
set_option maxRecDepth 100000 in
theorem fk_BrookStones_Way_i_30 : fOK "BrookStones$Way" true (30, 0, 11, 1) := ⟨RX0, TX0, 15, tyX0, "BrookStones", rfl, by decide, uw_X0, tyX0_ok, nmX0, rfl, Or.inr (tblN_of (i := 64) rfl rfl), fun _ => ⟨rfl, rfl⟩, fun h => absurd h (by decide)⟩
set_option maxRecDepth 100000 in
theorem fk_BrookStones_Way_i_37 : fOK "BrookStones$Way" true (37, 5, 2, 1) := ⟨RX6, TX6, 6, tyX6, "BrookStones", rfl, by decide, uw_X6, tyX6_ok, nmX6, rfl, Or.inl (tblG_of (i := 136) rfl rfl), fun _ => ⟨rfl, rfl⟩, fun h => absurd h (by decide)⟩
set_option maxRecDepth 100000 in
theorem fk_BrookStones_Way_i_43 : fOK "BrookStones$Way" true (43, 5, 3, 1) := ⟨RX6, TX6, 6, tyX6, "BrookStones", rfl, by decide, uw_X6, tyX6_ok, nmX6, rfl, Or.inl (tblG_of (i := 137) rfl rfl), fun _ => ⟨rfl, rfl⟩, fun h => absurd h (by decide)⟩
def fl_BrookStones_Way_i : List (Nat × Nat × Nat × Nat) := [(9, 5, 0, 12), (15, 5, 1, 12), (18, 5, 5, 1), (22, 0, 8, 1), (27, 5, 4, 1), (30, 0, 11, 1), (37, 5, 2, 1), (43, 5, 3, 1)]
set_option maxRecDepth 100000 in
theorem fl_BrookStones_Way_i_ok : ∀ q ∈ fl_BrookStones_Way_i, fOK "BrookStones$Way" true q := List.forall_mem_cons.mpr ⟨fk_BrookStones_Way_i_9, List.forall_mem_cons.mpr ⟨fk_BrookStones_Way_i_15, List.forall_mem_cons.mpr ⟨fk_BrookStones_Way_i_18, List.forall_mem_cons.mpr ⟨fk_BrookStones_Way_i_22, List.forall_mem_cons.mpr ⟨fk_BrookStones_Way_i_27, List.forall_mem_cons.mpr ⟨fk_BrookStones_Way_i_30, List.forall_mem_cons.mpr ⟨fk_BrookStones_Way_i_37, List.forall_mem_cons.mpr ⟨fk_BrookStones_Way_i_43, fun _ h => absurd h List.not_mem_nil⟩⟩⟩⟩⟩⟩⟩⟩
set_option maxRecDepth 100000 in
theorem fk_BrookStonesModel_9 : fOK "BrookStonesModel" false (9, 7, 2, 10) := ⟨RX8, TX8, 37, tyX8, "BrookStones", rfl, by decide, uw_X8, tyX8_ok, nmX8, rfl, Or.inl (tblG_of (i := 743) rfl rfl), fun h => absurd h (by decide), fun h => absurd h (by decide)⟩
set_option maxRecDepth 100000 in
theorem fk_BrookStonesModel_13 : fOK "BrookStonesModel" false (13, 7, 3, 10) := ⟨RX8, TX8, 37, tyX8, "BrookStones", rfl, by decide, uw_X8, tyX8_ok, nmX8, rfl, Or.inl (tblG_of (i := 744) rfl rfl), fun h => absurd h (by decide), fun h => absurd h (by decide)⟩
set_option maxRecDepth 100000 in
theorem fk_BrookStonesModel_16 : fOK "BrookStonesModel" false (16, 7, 4, 10) := ⟨RX8, TX8, 37, tyX8, "BrookStones", rfl, by decide, uw_X8, tyX8_ok, nmX8, rfl, Or.inl (tblG_of (i := 745) rfl rfl), fun h => absurd h (by decide), fun h => absurd h (by decide)⟩
set_option maxRecDepth 100000 in
theorem fk_BrookStonesModel_19 : fOK "BrookStonesModel" false (19, 7, 8, 10) := ⟨RX8, TX8, 37, tyX8, "BrookStones", rfl, by decide, uw_X8, tyX8_ok, nmX8, rfl, Or.inl (tblG_of (i := 749) rfl rfl), fun h => absurd h (by decide), fun h => absurd h (by decide)⟩
set_option maxRecDepth 100000 in
theorem fk_BrookStonesModel_22 : fOK "BrookStonesModel" false (22, 7, 9, 10) := ⟨RX8, TX8, 37, tyX8, "BrookStones", rfl, by decide, uw_X8, tyX8_ok, nmX8, rfl, Or.inl (tblG_of (i := 750) rfl rfl), fun h => absurd h (by decide), fun h => absurd h (by decide)⟩
set_option maxRecDepth 100000 in
theorem fk_BrookStonesModel_25 : fOK "BrookStonesModel" false (25, 7, 10, 10) := ⟨RX8, TX8, 37, tyX8, "BrookStones", rfl, by decide, uw_X8, tyX8_ok, nmX8, rfl, Or.inl (tblG_of (i := 751) rfl rfl), fun h => absurd h (by decide), fun h => absurd h (by decide)⟩
set_option maxRecDepth 100000 in
theorem fk_BrookStonesModel_29 : fOK "BrookStonesModel" false (29, 7, 11, 10) := ⟨RX8, TX8, 37, tyX8, "BrookStones", rfl, by decide, uw_X8, tyX8_ok, nmX8, rfl, Or.inl (tblG_of (i := 752) rfl rfl), fun h => absurd h (by decide), fun h => absurd h (by decide)⟩
set_option maxRecDepth 100000 in
theorem fk_BrookStonesModel_32 : fOK "BrookStonesModel" false (32, 7, 15, 10) := ⟨RX8, TX8, 37, tyX8, "BrookStones", rfl, by decide, uw_X8, tyX8_ok, nmX8, rfl, Or.inl (tblG_of (i := 756) rfl rfl), fun h => absurd h (by decide), fun h => absurd h (by decide)⟩
set_option maxRecDepth 100000 in
theorem fk_BrookStonesModel_35 : fOK "BrookStonesModel" false (35, 7, 16, 10) := ⟨RX8, TX8, 37, tyX8, "BrookStones", rfl, by decide, uw_X8, tyX8_ok, nmX8, rfl, Or.inl (tblG_of (i := 757) rfl rfl), fun h => absurd h (by decide), fun h => absurd h (by decide)⟩
set_option maxRecDepth 100000 in
theorem fk_BrookStonesModel_38 : fOK "BrookStonesModel" false (38, 7, 18, 10) := ⟨RX8, TX8, 37, tyX8, "BrookStones", rfl, by decide, uw_X8, tyX8_ok, nmX8, rfl, Or.inl (tblG_of (i := 759) rfl rfl), fun h => absurd h (by decide), fun h => absurd h (by decide)⟩
set_option maxRecDepth 100000 in
theorem fk_BrookStonesModel_41 : fOK "BrookStonesModel" false (41, 7, 19, 10) := ⟨RX8, TX8, 37, tyX8, "BrookStones", rfl, by decide, uw_X8, tyX8_ok, nmX8, rfl, Or.inl (tblG_of (i := 760) rfl rfl), fun h => absurd h (by decide), fun h => absurd h (by decide)⟩
set_option maxRecDepth 100000 in
theorem fk_BrookStonesModel_44 : fOK "BrookStonesModel" false (44, 7, 20, 10) := ⟨RX8, TX8, 37, tyX8, "BrookStones", rfl, by decide, uw_X8, tyX8_ok, nmX8, rfl, Or.inl (tblG_of (i := 761) rfl rfl), fun h => absurd h (by decide), fun h => absurd h (by decide)⟩
set_option maxRecDepth 100000 in
theorem fk_BrookStonesModel_47 : fOK "BrookStonesModel" false (47, 7, 21, 10) := ⟨RX8, TX8, 37, tyX8, "BrookStones", rfl, by decide, uw_X8, tyX8_ok, nmX8, rfl, Or.inl (tblG_of (i := 762) rfl rfl), fun h => absurd h (by decide), fun h => absurd h (by decide)⟩
set_option maxRecDepth 100000 in
theorem fk_BrookStonesModel_50 : fOK "BrookStonesModel" false (50, 7, 22, 10) := ⟨RX8, TX8, 37, tyX8, "BrookStones", rfl, by decide, uw_X8, tyX8_ok, nmX8, rfl, Or.inl (tblG_of (i := 763) rfl rfl), fun h => absurd h (by decide), fun h => absurd h (by decide)⟩
set_option maxRecDepth 100000 in
theorem fk_BrookStonesModel_53 : fOK "BrookStonesModel" false (53, 7, 24, 10) := ⟨RX8, TX8, 37, tyX8, "BrookStones", rfl, by decide, uw_X8, tyX8_ok, nmX8, rfl, Or.inl (tblG_of (i := 765) rfl rfl), fun h => absurd h (by decide), fun h => absurd h (by decide)⟩
set_option maxRecDepth 100000 in
theorem fk_BrookStonesModel_56 : fOK "BrookStonesModel" false (56, 7, 25, 10) := ⟨RX8, TX8, 37, tyX8, "BrookStones", rfl, by decide, uw_X8, tyX8_ok, nmX8, rfl, Or.inl (tblG_of (i := 766) rfl rfl), fun h => absurd h (by decide), fun h => absurd h (by decide)⟩
set_option maxRecDepth 100000 in
theorem fk_BrookStonesModel_59 : fOK "BrookStonesModel" false (59, 7, 27, 10) := ⟨RX8, TX8, 37, tyX8, "BrookStones", rfl, by decide, uw_X8, tyX8_ok, nmX8, rfl, Or.inl (tblG_of (i := 768) rfl rfl), fun h => absurd h (by decide), fun h => absurd h (by decide)⟩
set_option maxRecDepth 100000 in
theorem fk_BrookStonesModel_62 : fOK "BrookStonesModel" false (62, 7, 28, 10) := ⟨RX8, TX8, 37, tyX8, "BrookStones", rfl, by decide, uw_X8, tyX8_ok, nmX8, rfl, Or.inl (tblG_of (i := 769) rfl rfl), fun h => absurd h (by decide), fun h => absurd h (by decide)⟩
set_option maxRecDepth 100000 in
theorem fk_BrookStonesModel_65 : fOK "BrookStonesModel" false (65, 7, 29, 10) := ⟨RX8, TX8, 37, tyX8, "BrookStones", rfl, by decide, uw_X8, tyX8_ok, nmX8, rfl, Or.inl (tblG_of (i := 770) rfl rfl), fun h => absurd h (by decide), fun h => absurd h (by decide)⟩
set_option maxRecDepth 100000 in
theorem fk_BrookStonesModel_68 : fOK "BrookStonesModel" false (68, 7, 30, 10) := ⟨RX8, TX8, 37, tyX8, "BrookStones", rfl, by decide, uw_X8, tyX8_ok, nmX8, rfl, Or.inl (tblG_of (i := 771) rfl rfl), fun h => absurd h (by decide), fun h => absurd h (by decide)⟩
set_option maxRecDepth 100000 in
theorem fk_BrookStonesModel_71 : fOK "BrookStonesModel" false (71, 7, 31, 1) := ⟨RX8, TX8, 37, tyX8, "BrookStones", rfl, by decide, uw_X8, tyX8_ok, nmX8, rfl, Or.inl (tblG_of (i := 772) rfl rfl), fun _ => ⟨rfl, rfl⟩, fun h => absurd h (by decide)⟩
set_option maxRecDepth 100000 in
theorem fk_BrookStonesModel_75 : fOK "BrookStonesModel" false (75, 7, 32, 10) := ⟨RX8, TX8, 37, tyX8, "BrookStones", rfl, by decide, uw_X8, tyX8_ok, nmX8, rfl, Or.inl (tblG_of (i := 773) rfl rfl), fun h => absurd h (by decide), fun h => absurd h (by decide)⟩
set_option maxRecDepth 100000 in
theorem fk_BrookStonesModel_78 : fOK "BrookStonesModel" false (78, 7, 33, 10) := ⟨RX8, TX8, 37, tyX8, "BrookStones", rfl, by decide, uw_X8, tyX8_ok, nmX8, rfl, Or.inl (tblG_of (i := 774) rfl rfl), fun h => absurd h (by decide), fun h => absurd h (by decide)⟩
set_option maxRecDepth 100000 in
theorem fk_BrookStonesModel_81 : fOK "BrookStonesModel" false (81, 7, 36, 10) := ⟨RX8, TX8, 37, tyX8, "BrookStones", rfl, by decide, uw_X8, tyX8_ok, nmX8, rfl, Or.inl (tblG_of (i := 777) rfl rfl), fun h => absurd h (by decide), fun h => absurd h (by decide)⟩
set_option maxRecDepth 100000 in
theorem fk_BrookStonesModel_84 : fOK "BrookStonesModel" false (84, 7, 0, 1) := ⟨RX8, TX8, 37, tyX8, "BrookStones", rfl, by decide, uw_X8, tyX8_ok, nmX8, rfl, Or.inl (tblG_of (i := 741) rfl rfl), fun _ => ⟨rfl, rfl⟩, fun h => absurd h (by decide)⟩
set_option maxRecDepth 100000 in
theorem fk_BrookStonesModel_93 : fOK "BrookStonesModel" false (93, 7, 5, 1) := ⟨RX8, TX8, 37, tyX8, "BrookStones", rfl, by decide, uw_X8, tyX8_ok, nmX8, rfl, Or.inl (tblG_of (i := 746) rfl rfl), fun _ => ⟨rfl, rfl⟩, fun h => absurd h (by decide)⟩
set_option maxRecDepth 100000 in
theorem fk_BrookStonesModel_96 : fOK "BrookStonesModel" false (96, 7, 12, 1) := ⟨RX8, TX8, 37, tyX8, "BrookStones", rfl, by decide, uw_X8, tyX8_ok, nmX8, rfl, Or.inl (tblG_of (i := 753) rfl rfl), fun _ => ⟨rfl, rfl⟩, fun h => absurd h (by decide)⟩
set_option maxRecDepth 100000 in
theorem fk_BrookStonesModel_117 : fOK "BrookStonesModel" false (117, 7, 13, 1) := ⟨RX8, TX8, 37, tyX8, "BrookStones", rfl, by decide, uw_X8, tyX8_ok, nmX8, rfl, Or.inl (tblG_of (i := 754) rfl rfl), fun _ => ⟨rfl, rfl⟩, fun h => absurd h (by decide)⟩
set_option maxRecDepth 100000 in
theorem fk_BrookStonesModel_120 : fOK "BrookStonesModel" false (120, 7, 14, 1) := ⟨RX8, TX8, 37, tyX8, "BrookStones", rfl, by decide, uw_X8, tyX8_ok, nmX8, rfl, Or.inl (tblG_of (i := 755) rfl rfl), fun _ => ⟨rfl, rfl⟩, fun h => absurd h (by decide)⟩
set_option maxRecDepth 100000 in
theorem fk_BrookStonesModel_123 : fOK "BrookStonesModel" false (123, 7, 6, 1) := ⟨RX8, TX8, 37, tyX8, "BrookStones", rfl, by decide, uw_X8, tyX8_ok, nmX8, rfl, Or.inl (tblG_of (i := 747) rfl rfl), fun _ => ⟨rfl, rfl⟩, fun h => absurd h (by decide)⟩
set_option maxRecDepth 100000 in
theorem fk_BrookStonesModel_126 : fOK "BrookStonesModel" false (126, 7, 7, 1) := ⟨RX8, TX8, 37, tyX8, "BrookStones", rfl, by decide, uw_X8, tyX8_ok, nmX8, rfl, Or.inl (tblG_of (i := 748) rfl rfl), fun _ => ⟨rfl, rfl⟩, fun h => absurd h (by decide)⟩
set_option maxRecDepth 100000 in
theorem fk_BrookStonesModel_129 : fOK "BrookStonesModel" false (129, 7, 17, 1) := ⟨RX8, TX8, 37, tyX8, "BrookStones", rfl, by decide, uw_X8, tyX8_ok, nmX8, rfl, Or.inl (tblG_of (i := 758) rfl rfl), fun _ => ⟨rfl, rfl⟩, fun h => absurd h (by decide)⟩
set_option maxRecDepth 100000 in
theorem fk_BrookStonesModel_132 : fOK "BrookStonesModel" false (132, 7, 23, 1) := ⟨RX8, TX8, 37, tyX8, "BrookStones", rfl, by decide, uw_X8, tyX8_ok, nmX8, rfl, Or.inl (tblG_of (i := 764) rfl rfl), fun _ => ⟨rfl, rfl⟩, fun h => absurd h (by decide)⟩
set_option maxRecDepth 100000 in
theorem fk_BrookStonesModel_161 : fOK "BrookStonesModel" false (161, 7, 26, 1) := ⟨RX8, TX8, 37, tyX8, "BrookStones", rfl, by decide, uw_X8, tyX8_ok, nmX8, rfl, Or.inl (tblG_of (i := 767) rfl rfl), fun _ => ⟨rfl, rfl⟩, fun h => absurd h (by decide)⟩
set_option maxRecDepth 100000 in
theorem fk_BrookStonesModel_213 : fOK "BrookStonesModel" false (213, 7, 34, 1) := ⟨RX8, TX8, 37, tyX8, "BrookStones", rfl, by decide, uw_X8, tyX8_ok, nmX8, rfl, Or.inl (tblG_of (i := 775) rfl rfl), fun _ => ⟨rfl, rfl⟩, fun h => absurd h (by decide)⟩
set_option maxRecDepth 100000 in
theorem fk_BrookStonesModel_216 : fOK "BrookStonesModel" false (216, 7, 35, 1) := ⟨RX8, TX8, 37, tyX8, "BrookStones", rfl, by decide, uw_X8, tyX8_ok, nmX8, rfl, Or.inl (tblG_of (i := 776) rfl rfl), fun _ => ⟨rfl, rfl⟩, fun h => absurd h (by decide)⟩
set_option maxRecDepth 100000 in
theorem fk_BrookStonesModel_250 : fOK "BrookStonesModel" false (250, 7, 1, 1) := ⟨RX8, TX8, 37, tyX8, "BrookStones", rfl, by decide, uw_X8, tyX8_ok, nmX8, rfl, Or.inl (tblG_of (i := 742) rfl rfl), fun _ => ⟨rfl, rfl⟩, fun h => absurd h (by decide)⟩
def fl_BrookStonesModel : List (Nat × Nat × Nat × Nat) := [(9, 7, 2, 10), (13, 7, 3, 10), (16, 7, 4, 10), (19, 7, 8, 10), (22, 7, 9, 10), (25, 7, 10, 10), (29, 7, 11, 10), (32, 7, 15, 10), (35, 7, 16, 10), (38, 7, 18, 10), (41, 7, 19, 10), (44, 7, 20, 10), (47, 7, 21, 10), (50, 7, 22, 10), (53, 7, 24, 10), (56, 7, 25, 10), (59, 7, 27, 10), (62, 7, 28, 10), (65, 7, 29, 10), (68, 7, 30, 10), (71, 7, 31, 1), (75, 7, 32, 10), (78, 7, 33, 10), (81, 7, 36, 10), (84, 7, 0, 1), (93, 7, 5, 1), (96, 7, 12, 1), (117, 7, 13, 1), (120, 7, 14, 1), (123, 7, 6, 1), (126, 7, 7, 1), (129, 7, 17, 1), (132, 7, 23, 1), (161, 7, 26, 1), (213, 7, 34, 1), (216, 7, 35, 1), (250, 7, 1, 1)]
set_option maxRecDepth 100000 in
theorem fl_BrookStonesModel_ok : ∀ q ∈ fl_BrookStonesModel, fOK "BrookStonesModel" false q := List.forall_mem_cons.mpr ⟨fk_BrookStonesModel_9, List.forall_mem_cons.mpr ⟨fk_BrookStonesModel_13, List.forall_mem_cons.mpr ⟨fk_BrookStonesModel_16, List.forall_mem_cons.mpr ⟨fk_BrookStonesModel_19, List.forall_mem_cons.mpr ⟨fk_BrookStonesModel_22, List.forall_mem_cons.mpr ⟨fk_BrookStonesModel_25, List.forall_mem_cons.mpr ⟨fk_BrookStonesModel_29, List.forall_mem_cons.mpr ⟨fk_BrookStonesModel_32, List.forall_mem_cons.mpr ⟨fk_BrookStonesModel_35, List.forall_mem_cons.mpr ⟨fk_BrookStonesModel_38, List.forall_mem_cons.mpr ⟨fk_BrookStonesModel_41, List.forall_mem_cons.mpr ⟨fk_BrookStonesModel_44, List.forall_mem_cons.mpr ⟨fk_BrookStonesModel_47, List.forall_mem_cons.mpr ⟨fk_BrookStonesModel_50, List.forall_mem_cons.mpr ⟨fk_BrookStonesModel_53, List.forall_mem_cons.mpr ⟨fk_BrookStonesModel_56, List.forall_mem_cons.mpr ⟨fk_BrookStonesModel_59, List.forall_mem_cons.mpr ⟨fk_BrookStonesModel_62, List.forall_mem_cons.mpr ⟨fk_BrookStonesModel_65, List.forall_mem_cons.mpr ⟨fk_BrookStonesModel_68, List.forall_mem_cons.mpr ⟨fk_BrookStonesModel_71, List.forall_mem_cons.mpr ⟨fk_BrookStonesModel_75, List.forall_mem_cons.mpr ⟨fk_BrookStonesModel_78, List.forall_mem_cons.mpr ⟨fk_BrookStonesModel_81, List.forall_mem_cons.mpr ⟨fk_BrookStonesModel_84, List.forall_mem_cons.mpr ⟨fk_BrookStonesModel_93, List.forall_mem_cons.mpr ⟨fk_BrookStonesModel_96, List.forall_mem_cons.mpr ⟨fk_BrookStonesModel_117, List.forall_mem_cons.mpr ⟨fk_BrookStonesModel_120, List.forall_mem_cons.mpr ⟨fk_BrookStonesModel_123, List.forall_mem_cons.mpr ⟨fk_BrookStonesModel_126, List.forall_mem_cons.mpr ⟨fk_BrookStonesModel_129, List.forall_mem_cons.mpr ⟨fk_BrookStonesModel_132, List.forall_mem_cons.mpr ⟨fk_BrookStonesModel_161, List.forall_mem_cons.mpr ⟨fk_BrookStonesModel_213, List.forall_mem_cons.mpr ⟨fk_BrookStonesModel_216, List.forall_mem_cons.mpr ⟨fk_BrookStonesModel_250, fun _ h => absurd h List.not_mem_nil⟩⟩⟩⟩⟩⟩⟩⟩⟩⟩⟩⟩⟩⟩⟩⟩⟩⟩⟩⟩⟩⟩⟩⟩⟩⟩⟩⟩⟩⟩⟩⟩⟩⟩⟩⟩⟩
set_option maxRecDepth 100000 in
theorem fk_BrookStonesModel_i_9 : fOK "BrookStonesModel" true (9, 7, 2, 12) := ⟨RX8, TX8, 37, tyX8, "BrookStones", rfl, by decide, uw_X8, tyX8_ok, nmX8, rfl, Or.inl (tblG_of (i := 743) rfl rfl), fun h => absurd h (by decide), fun _ => ⟨rfl, rfl, rfl, Or.inr ⟨_, rfl⟩, tblG_of (i := 743) rfl rfl⟩⟩
set_option maxRecDepth 100000 in
theorem fk_BrookStonesModel_i_13 : fOK "BrookStonesModel" true (13, 7, 3, 12) := ⟨RX8, TX8, 37, tyX8, "BrookStones", rfl, by decide, uw_X8, tyX8_ok, nmX8, rfl, Or.inl (tblG_of (i := 744) rfl rfl), fun h => absurd h (by decide), fun _ => ⟨rfl, rfl, rfl, Or.inr ⟨_, rfl⟩, tblG_of (i := 744) rfl rfl⟩⟩
set_option maxRecDepth 100000 in
theorem fk_BrookStonesModel_i_16 : fOK "BrookStonesModel" true (16, 7, 4, 12) := ⟨RX8, TX8, 37, tyX8, "BrookStones", rfl, by decide, uw_X8, tyX8_ok, nmX8, rfl, Or.inl (tblG_of (i := 745) rfl rfl), fun h => absurd h (by decide), fun _ => ⟨rfl, rfl, rfl, Or.inr ⟨_, rfl⟩, tblG_of (i := 745) rfl rfl⟩⟩
set_option maxRecDepth 100000 in
theorem fk_BrookStonesModel_i_19 : fOK "BrookStonesModel" true (19, 7, 8, 12) := ⟨RX8, TX8, 37, tyX8, "BrookStones", rfl, by decide, uw_X8, tyX8_ok, nmX8, rfl, Or.inl (tblG_of (i := 749) rfl rfl), fun h => absurd h (by decide), fun _ => ⟨rfl, rfl, rfl, Or.inr ⟨_, rfl⟩, tblG_of (i := 749) rfl rfl⟩⟩
set_option maxRecDepth 100000 in
theorem fk_BrookStonesModel_i_22 : fOK "BrookStonesModel" true (22, 7, 9, 12) := ⟨RX8, TX8, 37, tyX8, "BrookStones", rfl, by decide, uw_X8, tyX8_ok, nmX8, rfl, Or.inl (tblG_of (i := 750) rfl rfl), fun h => absurd h (by decide), fun _ => ⟨rfl, rfl, rfl, Or.inr ⟨_, rfl⟩, tblG_of (i := 750) rfl rfl⟩⟩
set_option maxRecDepth 100000 in
theorem fk_BrookStonesModel_i_25 : fOK "BrookStonesModel" true (25, 7, 10, 12) := ⟨RX8, TX8, 37, tyX8, "BrookStones", rfl, by decide, uw_X8, tyX8_ok, nmX8, rfl, Or.inl (tblG_of (i := 751) rfl rfl), fun h => absurd h (by decide), fun _ => ⟨rfl, rfl, rfl, Or.inr ⟨_, rfl⟩, tblG_of (i := 751) rfl rfl⟩⟩
set_option maxRecDepth 100000 in
theorem fk_BrookStonesModel_i_29 : fOK "BrookStonesModel" true (29, 7, 11, 12) := ⟨RX8, TX8, 37, tyX8, "BrookStones", rfl, by decide, uw_X8, tyX8_ok, nmX8, rfl, Or.inl (tblG_of (i := 752) rfl rfl), fun h => absurd h (by decide), fun _ => ⟨rfl, rfl, rfl, Or.inr ⟨_, rfl⟩, tblG_of (i := 752) rfl rfl⟩⟩
set_option maxRecDepth 100000 in
theorem fk_BrookStonesModel_i_32 : fOK "BrookStonesModel" true (32, 7, 15, 12) := ⟨RX8, TX8, 37, tyX8, "BrookStones", rfl, by decide, uw_X8, tyX8_ok, nmX8, rfl, Or.inl (tblG_of (i := 756) rfl rfl), fun h => absurd h (by decide), fun _ => ⟨rfl, rfl, rfl, Or.inr ⟨_, rfl⟩, tblG_of (i := 756) rfl rfl⟩⟩
set_option maxRecDepth 100000 in
theorem fk_BrookStonesModel_i_35 : fOK "BrookStonesModel" true (35, 7, 16, 12) := ⟨RX8, TX8, 37, tyX8, "BrookStones", rfl, by decide, uw_X8, tyX8_ok, nmX8, rfl, Or.inl (tblG_of (i := 757) rfl rfl), fun h => absurd h (by decide), fun _ => ⟨rfl, rfl, rfl, Or.inr ⟨_, rfl⟩, tblG_of (i := 757) rfl rfl⟩⟩
set_option maxRecDepth 100000 in
theorem fk_BrookStonesModel_i_38 : fOK "BrookStonesModel" true (38, 7, 18, 12) := ⟨RX8, TX8, 37, tyX8, "BrookStones", rfl, by decide, uw_X8, tyX8_ok, nmX8, rfl, Or.inl (tblG_of (i := 759) rfl rfl), fun h => absurd h (by decide), fun _ => ⟨rfl, rfl, rfl, Or.inr ⟨_, rfl⟩, tblG_of (i := 759) rfl rfl⟩⟩
set_option maxRecDepth 100000 in
theorem fk_BrookStonesModel_i_41 : fOK "BrookStonesModel" true (41, 7, 19, 12) := ⟨RX8, TX8, 37, tyX8, "BrookStones", rfl, by decide, uw_X8, tyX8_ok, nmX8, rfl, Or.inl (tblG_of (i := 760) rfl rfl), fun h => absurd h (by decide), fun _ => ⟨rfl, rfl, rfl, Or.inr ⟨_, rfl⟩, tblG_of (i := 760) rfl rfl⟩⟩
set_option maxRecDepth 100000 in
theorem fk_BrookStonesModel_i_44 : fOK "BrookStonesModel" true (44, 7, 20, 12) := ⟨RX8, TX8, 37, tyX8, "BrookStones", rfl, by decide, uw_X8, tyX8_ok, nmX8, rfl, Or.inl (tblG_of (i := 761) rfl rfl), fun h => absurd h (by decide), fun _ => ⟨rfl, rfl, rfl, Or.inr ⟨_, rfl⟩, tblG_of (i := 761) rfl rfl⟩⟩
set_option maxRecDepth 100000 in
theorem fk_BrookStonesModel_i_47 : fOK "BrookStonesModel" true (47, 7, 21, 12) := ⟨RX8, TX8, 37, tyX8, "BrookStones", rfl, by decide, uw_X8, tyX8_ok, nmX8, rfl, Or.inl (tblG_of (i := 762) rfl rfl), fun h => absurd h (by decide), fun _ => ⟨rfl, rfl, rfl, Or.inr ⟨_, rfl⟩, tblG_of (i := 762) rfl rfl⟩⟩
set_option maxRecDepth 100000 in
theorem fk_BrookStonesModel_i_50 : fOK "BrookStonesModel" true (50, 7, 22, 12) := ⟨RX8, TX8, 37, tyX8, "BrookStones", rfl, by decide, uw_X8, tyX8_ok, nmX8, rfl, Or.inl (tblG_of (i := 763) rfl rfl), fun h => absurd h (by decide), fun _ => ⟨rfl, rfl, rfl, Or.inr ⟨_, rfl⟩, tblG_of (i := 763) rfl rfl⟩⟩
set_option maxRecDepth 100000 in
theorem fk_BrookStonesModel_i_53 : fOK "BrookStonesModel" true (53, 7, 24, 12) := ⟨RX8, TX8, 37, tyX8, "BrookStones", rfl, by decide, uw_X8, tyX8_ok, nmX8, rfl, Or.inl (tblG_of (i := 765) rfl rfl), fun h => absurd h (by decide), fun _ => ⟨rfl, rfl, rfl, Or.inr ⟨_, rfl⟩, tblG_of (i := 765) rfl rfl⟩⟩
set_option maxRecDepth 100000 in
theorem fk_BrookStonesModel_i_56 : fOK "BrookStonesModel" true (56, 7, 25, 12) := ⟨RX8, TX8, 37, tyX8, "BrookStones", rfl, by decide, uw_X8, tyX8_ok, nmX8, rfl, Or.inl (tblG_of (i := 766) rfl rfl), fun h => absurd h (by decide), fun _ => ⟨rfl, rfl, rfl, Or.inr ⟨_, rfl⟩, tblG_of (i := 766) rfl rfl⟩⟩
set_option maxRecDepth 100000 in
theorem fk_BrookStonesModel_i_59 : fOK "BrookStonesModel" true (59, 7, 27, 12) := ⟨RX8, TX8, 37, tyX8, "BrookStones", rfl, by decide, uw_X8, tyX8_ok, nmX8, rfl, Or.inl (tblG_of (i := 768) rfl rfl), fun h => absurd h (by decide), fun _ => ⟨rfl, rfl, rfl, Or.inr ⟨_, rfl⟩, tblG_of (i := 768) rfl rfl⟩⟩
set_option maxRecDepth 100000 in
theorem fk_BrookStonesModel_i_62 : fOK "BrookStonesModel" true (62, 7, 28, 12) := ⟨RX8, TX8, 37, tyX8, "BrookStones", rfl, by decide, uw_X8, tyX8_ok, nmX8, rfl, Or.inl (tblG_of (i := 769) rfl rfl), fun h => absurd h (by decide), fun _ => ⟨rfl, rfl, rfl, Or.inr ⟨_, rfl⟩, tblG_of (i := 769) rfl rfl⟩⟩
set_option maxRecDepth 100000 in
theorem fk_BrookStonesModel_i_65 : fOK "BrookStonesModel" true (65, 7, 29, 12) := ⟨RX8, TX8, 37, tyX8, "BrookStones", rfl, by decide, uw_X8, tyX8_ok, nmX8, rfl, Or.inl (tblG_of (i := 770) rfl rfl), fun h => absurd h (by decide), fun _ => ⟨rfl, rfl, rfl, Or.inr ⟨_, rfl⟩, tblG_of (i := 770) rfl rfl⟩⟩
set_option maxRecDepth 100000 in
theorem fk_BrookStonesModel_i_68 : fOK "BrookStonesModel" true (68, 7, 30, 12) := ⟨RX8, TX8, 37, tyX8, "BrookStones", rfl, by decide, uw_X8, tyX8_ok, nmX8, rfl, Or.inl (tblG_of (i := 771) rfl rfl), fun h => absurd h (by decide), fun _ => ⟨rfl, rfl, rfl, Or.inr ⟨_, rfl⟩, tblG_of (i := 771) rfl rfl⟩⟩
set_option maxRecDepth 100000 in
theorem fk_BrookStonesModel_i_71 : fOK "BrookStonesModel" true (71, 7, 31, 1) := ⟨RX8, TX8, 37, tyX8, "BrookStones", rfl, by decide, uw_X8, tyX8_ok, nmX8, rfl, Or.inl (tblG_of (i := 772) rfl rfl), fun _ => ⟨rfl, rfl⟩, fun h => absurd h (by decide)⟩
set_option maxRecDepth 100000 in
theorem fk_BrookStonesModel_i_75 : fOK "BrookStonesModel" true (75, 7, 32, 12) := ⟨RX8, TX8, 37, tyX8, "BrookStones", rfl, by decide, uw_X8, tyX8_ok, nmX8, rfl, Or.inl (tblG_of (i := 773) rfl rfl), fun h => absurd h (by decide), fun _ => ⟨rfl, rfl, rfl, Or.inr ⟨_, rfl⟩, tblG_of (i := 773) rfl rfl⟩⟩
set_option maxRecDepth 100000 in
theorem fk_BrookStonesModel_i_78 : fOK "BrookStonesModel" true (78, 7, 33, 12) := ⟨RX8, TX8, 37, tyX8, "BrookStones", rfl, by decide, uw_X8, tyX8_ok, nmX8, rfl, Or.inl (tblG_of (i := 774) rfl rfl), fun h => absurd h (by decide), fun _ => ⟨rfl, rfl, rfl, Or.inr ⟨_, rfl⟩, tblG_of (i := 774) rfl rfl⟩⟩
set_option maxRecDepth 100000 in
theorem fk_BrookStonesModel_i_81 : fOK "BrookStonesModel" true (81, 7, 36, 12) := ⟨RX8, TX8, 37, tyX8, "BrookStones", rfl, by decide, uw_X8, tyX8_ok, nmX8, rfl, Or.inl (tblG_of (i := 777) rfl rfl), fun h => absurd h (by decide), fun _ => ⟨rfl, rfl, rfl, Or.inr ⟨_, rfl⟩, tblG_of (i := 777) rfl rfl⟩⟩
set_option maxRecDepth 100000 in
theorem fk_BrookStonesModel_i_84 : fOK "BrookStonesModel" true (84, 7, 0, 1) := ⟨RX8, TX8, 37, tyX8, "BrookStones", rfl, by decide, uw_X8, tyX8_ok, nmX8, rfl, Or.inl (tblG_of (i := 741) rfl rfl), fun _ => ⟨rfl, rfl⟩, fun h => absurd h (by decide)⟩
set_option maxRecDepth 100000 in
theorem fk_BrookStonesModel_i_93 : fOK "BrookStonesModel" true (93, 7, 5, 1) := ⟨RX8, TX8, 37, tyX8, "BrookStones", rfl, by decide, uw_X8, tyX8_ok, nmX8, rfl, Or.inl (tblG_of (i := 746) rfl rfl), fun _ => ⟨rfl, rfl⟩, fun h => absurd h (by decide)⟩
set_option maxRecDepth 100000 in
theorem fk_BrookStonesModel_i_96 : fOK "BrookStonesModel" true (96, 7, 12, 1) := ⟨RX8, TX8, 37, tyX8, "BrookStones", rfl, by decide, uw_X8, tyX8_ok, nmX8, rfl, Or.inl (tblG_of (i := 753) rfl rfl), fun _ => ⟨rfl, rfl⟩, fun h => absurd h (by decide)⟩
set_option maxRecDepth 100000 in
theorem fk_BrookStonesModel_i_117 : fOK "BrookStonesModel" true (117, 7, 13, 1) := ⟨RX8, TX8, 37, tyX8, "BrookStones", rfl, by decide, uw_X8, tyX8_ok, nmX8, rfl, Or.inl (tblG_of (i := 754) rfl rfl), fun _ => ⟨rfl, rfl⟩, fun h => absurd h (by decide)⟩
set_option maxRecDepth 100000 in
theorem fk_BrookStonesModel_i_120 : fOK "BrookStonesModel" true (120, 7, 14, 1) := ⟨RX8, TX8, 37, tyX8, "BrookStones", rfl, by decide, uw_X8, tyX8_ok, nmX8, rfl, Or.inl (tblG_of (i := 755) rfl rfl), fun _ => ⟨rfl, rfl⟩, fun h => absurd h (by decide)⟩
set_option maxRecDepth 100000 in
theorem fk_BrookStonesModel_i_123 : fOK "BrookStonesModel" true (123, 7, 6, 1) := ⟨RX8, TX8, 37, tyX8, "BrookStones", rfl, by decide, uw_X8, tyX8_ok, nmX8, rfl, Or.inl (tblG_of (i := 747) rfl rfl), fun _ => ⟨rfl, rfl⟩, fun h => absurd h (by decide)⟩
set_option maxRecDepth 100000 in
theorem fk_BrookStonesModel_i_126 : fOK "BrookStonesModel" true (126, 7, 7, 1) := ⟨RX8, TX8, 37, tyX8, "BrookStones", rfl, by decide, uw_X8, tyX8_ok, nmX8, rfl, Or.inl (tblG_of (i := 748) rfl rfl), fun _ => ⟨rfl, rfl⟩, fun h => absurd h (by decide)⟩
set_option maxRecDepth 100000 in
theorem fk_BrookStonesModel_i_129 : fOK "BrookStonesModel" true (129, 7, 17, 1) := ⟨RX8, TX8, 37, tyX8, "BrookStones", rfl, by decide, uw_X8, tyX8_ok, nmX8, rfl, Or.inl (tblG_of (i := 758) rfl rfl), fun _ => ⟨rfl, rfl⟩, fun h => absurd h (by decide)⟩
set_option maxRecDepth 100000 in
theorem fk_BrookStonesModel_i_132 : fOK "BrookStonesModel" true (132, 7, 23, 1) := ⟨RX8, TX8, 37, tyX8, "BrookStones", rfl, by decide, uw_X8, tyX8_ok, nmX8, rfl, Or.inl (tblG_of (i := 764) rfl rfl), fun _ => ⟨rfl, rfl⟩, fun h => absurd h (by decide)⟩
set_option maxRecDepth 100000 in
theorem fk_BrookStonesModel_i_161 : fOK "BrookStonesModel" true (161, 7, 26, 1) := ⟨RX8, TX8, 37, tyX8, "BrookStones", rfl, by decide, uw_X8, tyX8_ok, nmX8, rfl, Or.inl (tblG_of (i := 767) rfl rfl), fun _ => ⟨rfl, rfl⟩, fun h => absurd h (by decide)⟩
set_option maxRecDepth 100000 in
theorem fk_BrookStonesModel_i_213 : fOK "BrookStonesModel" true (213, 7, 34, 1) := ⟨RX8, TX8, 37, tyX8, "BrookStones", rfl, by decide, uw_X8, tyX8_ok, nmX8, rfl, Or.inl (tblG_of (i := 775) rfl rfl), fun _ => ⟨rfl, rfl⟩, fun h => absurd h (by decide)⟩
set_option maxRecDepth 100000 in
theorem fk_BrookStonesModel_i_216 : fOK "BrookStonesModel" true (216, 7, 35, 1) := ⟨RX8, TX8, 37, tyX8, "BrookStones", rfl, by decide, uw_X8, tyX8_ok, nmX8, rfl, Or.inl (tblG_of (i := 776) rfl rfl), fun _ => ⟨rfl, rfl⟩, fun h => absurd h (by decide)⟩
set_option maxRecDepth 100000 in
theorem fk_BrookStonesModel_i_250 : fOK "BrookStonesModel" true (250, 7, 1, 1) := ⟨RX8, TX8, 37, tyX8, "BrookStones", rfl, by decide, uw_X8, tyX8_ok, nmX8, rfl, Or.inl (tblG_of (i := 742) rfl rfl), fun _ => ⟨rfl, rfl⟩, fun h => absurd h (by decide)⟩
def fl_BrookStonesModel_i : List (Nat × Nat × Nat × Nat) := [(9, 7, 2, 12), (13, 7, 3, 12), (16, 7, 4, 12), (19, 7, 8, 12), (22, 7, 9, 12), (25, 7, 10, 12), (29, 7, 11, 12), (32, 7, 15, 12), (35, 7, 16, 12), (38, 7, 18, 12), (41, 7, 19, 12), (44, 7, 20, 12), (47, 7, 21, 12), (50, 7, 22, 12), (53, 7, 24, 12), (56, 7, 25, 12), (59, 7, 27, 12), (62, 7, 28, 12), (65, 7, 29, 12), (68, 7, 30, 12), (71, 7, 31, 1), (75, 7, 32, 12), (78, 7, 33, 12), (81, 7, 36, 12), (84, 7, 0, 1), (93, 7, 5, 1), (96, 7, 12, 1), (117, 7, 13, 1), (120, 7, 14, 1), (123, 7, 6, 1), (126, 7, 7, 1), (129, 7, 17, 1), (132, 7, 23, 1), (161, 7, 26, 1), (213, 7, 34, 1), (216, 7, 35, 1), (250, 7, 1, 1)]
set_option maxRecDepth 100000 in
theorem fl_BrookStonesModel_i_ok : ∀ q ∈ fl_BrookStonesModel_i, fOK "BrookStonesModel" true q := List.forall_mem_cons.mpr ⟨fk_BrookStonesModel_i_9, List.forall_mem_cons.mpr ⟨fk_BrookStonesModel_i_13, List.forall_mem_cons.mpr ⟨fk_BrookStonesModel_i_16, List.forall_mem_cons.mpr ⟨fk_BrookStonesModel_i_19, List.forall_mem_cons.mpr ⟨fk_BrookStonesModel_i_22, List.forall_mem_cons.mpr ⟨fk_BrookStonesModel_i_25, List.forall_mem_cons.mpr ⟨fk_BrookStonesModel_i_29, List.forall_mem_cons.mpr ⟨fk_BrookStonesModel_i_32, List.forall_mem_cons.mpr ⟨fk_BrookStonesModel_i_35, List.forall_mem_cons.mpr ⟨fk_BrookStonesModel_i_38, List.forall_mem_cons.mpr ⟨fk_BrookStonesModel_i_41, List.forall_mem_cons.mpr ⟨fk_BrookStonesModel_i_44, List.forall_mem_cons.mpr ⟨fk_BrookStonesModel_i_47, List.forall_mem_cons.mpr ⟨fk_BrookStonesModel_i_50, List.forall_mem_cons.mpr ⟨fk_BrookStonesModel_i_53, List.forall_mem_cons.mpr ⟨fk_BrookStonesModel_i_56, List.forall_mem_cons.mpr ⟨fk_BrookStonesModel_i_59, List.forall_mem_cons.mpr ⟨fk_BrookStonesModel_i_62, List.forall_mem_cons.mpr ⟨fk_BrookStonesModel_i_65, List.forall_mem_cons.mpr ⟨fk_BrookStonesModel_i_68, List.forall_mem_cons.mpr ⟨fk_BrookStonesModel_i_71, List.forall_mem_cons.mpr ⟨fk_BrookStonesModel_i_75, List.forall_mem_cons.mpr ⟨fk_BrookStonesModel_i_78, List.forall_mem_cons.mpr ⟨fk_BrookStonesModel_i_81, List.forall_mem_cons.mpr ⟨fk_BrookStonesModel_i_84, List.forall_mem_cons.mpr ⟨fk_BrookStonesModel_i_93, List.forall_mem_cons.mpr ⟨fk_BrookStonesModel_i_96, List.forall_mem_cons.mpr ⟨fk_BrookStonesModel_i_117, List.forall_mem_cons.mpr ⟨fk_BrookStonesModel_i_120, List.forall_mem_cons.mpr ⟨fk_BrookStonesModel_i_123, List.forall_mem_cons.mpr ⟨fk_BrookStonesModel_i_126, List.forall_mem_cons.mpr ⟨fk_BrookStonesModel_i_129, List.forall_mem_cons.mpr ⟨fk_BrookStonesModel_i_132, List.forall_mem_cons.mpr ⟨fk_BrookStonesModel_i_161, List.forall_mem_cons.mpr ⟨fk_BrookStonesModel_i_213, List.forall_mem_cons.mpr ⟨fk_BrookStonesModel_i_216, List.forall_mem_cons.mpr ⟨fk_BrookStonesModel_i_250, fun _ h => absurd h List.not_mem_nil⟩⟩⟩⟩⟩⟩⟩⟩⟩⟩⟩⟩⟩⟩⟩⟩⟩⟩⟩⟩⟩⟩⟩⟩⟩⟩⟩⟩⟩⟩⟩⟩⟩⟩⟩⟩⟩
set_option maxRecDepth 100000 in
theorem nk_BrookStones_9 : nOK "BrookStones" (9, 0, [.null, .null, .null, .null, .null, .null, .null, .null, .int 0, .int 0, .int 0, .int 0, .int 0, .int 0, .int 0]) := Or.inr ⟨RX0, TX0, 15, tyX0, rfl, uw_X0, tyX0_ok, tblG_of (i := 22) rfl rfl, tblG_of (i := 23) rfl rfl, tblG_of (i := 2) rfl rfl, rfl, by decide +kernel, by decide +kernel⟩
set_option maxRecDepth 100000 in
theorem nk_BrookStones_18 : nOK "BrookStones" (18, 4, [.null, .null, .null]) := Or.inr ⟨RX4, TX4, 3, tyX4, rfl, uw_X4, tyX4_ok, tblG_of (i := 108) rfl rfl, tblG_of (i := 109) rfl rfl, tblG_of (i := 4) rfl rfl, rfl, by decide +kernel, by decide +kernel⟩
set_option maxRecDepth 100000 in
theorem nk_BrookStones_25 : nOK "BrookStones" (25, 5, [.null, .null, .int 0, .int 0, .int 0, .int 0]) := Or.inr ⟨RX6, TX6, 6, tyX6, rfl, uw_X6, tyX6_ok, tblG_of (i := 127) rfl rfl, tblG_of (i := 128) rfl rfl, tblG_of (i := 5) rfl rfl, rfl, by decide +kernel, by decide +kernel⟩
set_option maxRecDepth 100000 in
theorem nk_BrookStones_32 : nOK "BrookStones" (32, 1, [.null, .null, .int 0]) := Or.inr ⟨RX1, TX1, 3, tyX1, rfl, uw_X1, tyX1_ok, tblG_of (i := 153) rfl rfl, tblG_of (i := 154) rfl rfl, tblG_of (i := 6) rfl rfl, rfl, by decide +kernel, by decide +kernel⟩
set_option maxRecDepth 100000 in
theorem nk_BrookStones_39 : nOK "BrookStones" (39, 3, [.null, .null, .null, .null, .int 0, .int 0, .int 0, .int 0]) := Or.inr ⟨RX3, TX3, 8, tyX3, rfl, uw_X3, tyX3_ok, tblG_of (i := 172) rfl rfl, tblG_of (i := 173) rfl rfl, tblG_of (i := 7) rfl rfl, rfl, by decide +kernel, by decide +kernel⟩
set_option maxRecDepth 100000 in
theorem nk_BrookStones_46 : nOK "BrookStones" (46, 2, [.null, .int 0]) := Or.inr ⟨RX2, TX2, 2, tyX2, rfl, uw_X2, tyX2_ok, tblG_of (i := 206) rfl rfl, tblG_of (i := 207) rfl rfl, tblG_of (i := 8) rfl rfl, rfl, by decide +kernel, by decide +kernel⟩
def nl_BrookStones : List (Nat × Nat × List Value) := [(9, 0, [.null, .null, .null, .null, .null, .null, .null, .null, .int 0, .int 0, .int 0, .int 0, .int 0, .int 0, .int 0]), (18, 4, [.null, .null, .null]), (25, 5, [.null, .null, .int 0, .int 0, .int 0, .int 0]), (32, 1, [.null, .null, .int 0]), (39, 3, [.null, .null, .null, .null, .int 0, .int 0, .int 0, .int 0]), (46, 2, [.null, .int 0])]
set_option maxRecDepth 100000 in
theorem nl_BrookStones_ok : ∀ q ∈ nl_BrookStones, nOK "BrookStones" q := List.forall_mem_cons.mpr ⟨nk_BrookStones_9, List.forall_mem_cons.mpr ⟨nk_BrookStones_18, List.forall_mem_cons.mpr ⟨nk_BrookStones_25, List.forall_mem_cons.mpr ⟨nk_BrookStones_32, List.forall_mem_cons.mpr ⟨nk_BrookStones_39, List.forall_mem_cons.mpr ⟨nk_BrookStones_46, fun _ h => absurd h List.not_mem_nil⟩⟩⟩⟩⟩⟩
def k2_BrookStones : List (Nat × Int64) := [(245, -9223372036854775808)]
set_option maxRecDepth 100000 in
theorem k2_BrookStones_ok : ∀ q ∈ k2_BrookStones, Jvm.Cond.constantLong "BrookStones" q.1 q.2 ∈ tblG := List.forall_mem_cons.mpr ⟨tblG_of (i := 635) rfl rfl, fun _ h => absurd h List.not_mem_nil⟩
set_option maxRecDepth 100000 in
theorem nk_BrookStones_Planner_21 : nOK "BrookStones$Planner" (21, 99, []) := Or.inl ⟨rfl, tblG_of (i := 178) rfl rfl, tblN_of (i := 179) rfl rfl⟩
def nl_BrookStones_Planner : List (Nat × Nat × List Value) := [(21, 99, [])]
set_option maxRecDepth 100000 in
theorem nl_BrookStones_Planner_ok : ∀ q ∈ nl_BrookStones_Planner, nOK "BrookStones$Planner" q := List.forall_mem_cons.mpr ⟨nk_BrookStones_Planner_21, fun _ h => absurd h List.not_mem_nil⟩
def kl_BrookStones_Planner : List (Nat × Int32) := [(36, 1000000), (90, 1000001)]
set_option maxRecDepth 100000 in
theorem kl_BrookStones_Planner_ok : ∀ q ∈ kl_BrookStones_Planner, Jvm.Cond.constant "BrookStones$Planner" q.1 q.2 ∈ tblG := List.forall_mem_cons.mpr ⟨tblG_of (i := 525) rfl rfl, List.forall_mem_cons.mpr ⟨tblG_of (i := 542) rfl rfl, fun _ h => absurd h List.not_mem_nil⟩⟩
set_option maxRecDepth 100000 in
theorem nk_BrookStonesLaw_7 : nOK "BrookStonesLaw" (7, 6, [.null, .null, .null, .null, .null, .null, .int 0, .int 0]) := Or.inr ⟨RX7, TX7, 8, tyX7, rfl, uw_X7, tyX7_ok, tblG_of (i := 14) rfl rfl, tblG_of (i := 15) rfl rfl, tblG_of (i := 1) rfl rfl, rfl, by decide +kernel, by decide +kernel⟩
set_option maxRecDepth 100000 in
theorem nk_BrookStonesLaw_10 : nOK "BrookStonesLaw" (10, 7, [.int 0, .int 0, .null, .null, .null, .int 0, .int 0, .int 0, .null, .null, .null, .null, .int 0, .int 0, .int 0, .null, .null, .int 0, .null, .null, .null, .null, .null, .int 0, .null, .null, .int 0, .null, .null, .null, .null, .int 0, .null, .null, .int 0, .int 0, .null]) := Or.inr ⟨RX8, TX8, 37, tyX8, rfl, uw_X8, tyX8_ok, tblG_of (i := 735) rfl rfl, tblG_of (i := 736) rfl rfl, tblG_of (i := 9) rfl rfl, rfl, by decide +kernel, by decide +kernel⟩
def nl_BrookStonesLaw : List (Nat × Nat × List Value) := [(7, 6, [.null, .null, .null, .null, .null, .null, .int 0, .int 0]), (10, 7, [.int 0, .int 0, .null, .null, .null, .int 0, .int 0, .int 0, .null, .null, .null, .null, .int 0, .int 0, .int 0, .null, .null, .int 0, .null, .null, .null, .null, .null, .int 0, .null, .null, .int 0, .null, .null, .null, .null, .int 0, .null, .null, .int 0, .int 0, .null])]
set_option maxRecDepth 100000 in
theorem nl_BrookStonesLaw_ok : ∀ q ∈ nl_BrookStonesLaw, nOK "BrookStonesLaw" q := List.forall_mem_cons.mpr ⟨nk_BrookStonesLaw_7, List.forall_mem_cons.mpr ⟨nk_BrookStonesLaw_10, fun _ h => absurd h List.not_mem_nil⟩⟩
def kl_BrookStonesModel : List (Nat × Int32) := [(170, 1000000)]
set_option maxRecDepth 100000 in
theorem kl_BrookStonesModel_ok : ∀ q ∈ kl_BrookStonesModel, Jvm.Cond.constant "BrookStonesModel" q.1 q.2 ∈ tblG := List.forall_mem_cons.mpr ⟨tblG_of (i := 967) rfl rfl, fun _ h => absurd h List.not_mem_nil⟩
def k2_BrookStonesModel : List (Nat × Int64) := [(87, -9223372036854775808)]
set_option maxRecDepth 100000 in
theorem k2_BrookStonesModel_ok : ∀ q ∈ k2_BrookStonesModel, Jvm.Cond.constantLong "BrookStonesModel" q.1 q.2 ∈ tblG := List.forall_mem_cons.mpr ⟨tblG_of (i := 1093) rfl rfl, fun _ h => absurd h List.not_mem_nil⟩
def kl_java_lang_Integer : List (Nat × Int32) := [(265, 1431655765), (266, 858993459), (267, 252645135)]
set_option maxRecDepth 100000 in
theorem kl_java_lang_Integer_ok : ∀ q ∈ kl_java_lang_Integer, Jvm.Cond.constant "java/lang/Integer" q.1 q.2 ∈ tblG := List.forall_mem_cons.mpr ⟨tblG_of (i := 510) rfl rfl, List.forall_mem_cons.mpr ⟨tblG_of (i := 511) rfl rfl, List.forall_mem_cons.mpr ⟨tblG_of (i := 512) rfl rfl, fun _ h => absurd h List.not_mem_nil⟩⟩⟩
