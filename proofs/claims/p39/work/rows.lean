section
-- ===== PART A: goes FIRST, ahead of the names: the tables' words, and 'selects' of the private methods out of them =====
/-- a private method of a class that the tables say can be made, by its rows of tables_1 -/
def lw_okq (q : MethodName × Nat) : Prop := (q.1.cls ≠ "java/lang/invoke/MethodHandle" ∧ q.1.cls ≠ "java/lang/invoke/VarHandle") ∧ Cond.instantiable q.1.cls q.2 ∈ tables_1 ∧ Cond.privateMethod q.1 ∈ tables_1 ∧ Cond.instanceMethod q.1 ∈ tables_1
theorem lw_p0 : lw_okq (⟨"BrookStones", "refusalOfCells", "(IIII)I"⟩, 8) := ⟨⟨by decide +kernel, by decide +kernel⟩, List.mem_of_getElem? (i := 13) (by decide +kernel), List.mem_of_getElem? (i := 224) (by decide +kernel), List.mem_of_getElem? (i := 225) (by decide +kernel)⟩
theorem lw_p1 : lw_okq (⟨"BrookStones$Sheets", "faultOfCells", "(IIII)I"⟩, 3) := ⟨⟨by decide +kernel, by decide +kernel⟩, List.mem_of_getElem? (i := 96) (by decide +kernel), List.mem_of_getElem? (i := 237) (by decide +kernel), List.mem_of_getElem? (i := 238) (by decide +kernel)⟩
theorem lw_p2 : lw_okq (⟨"BrookStones$Sheets", "isThere", "(I)Z"⟩, 3) := ⟨⟨by decide +kernel, by decide +kernel⟩, List.mem_of_getElem? (i := 96) (by decide +kernel), List.mem_of_getElem? (i := 241) (by decide +kernel), List.mem_of_getElem? (i := 242) (by decide +kernel)⟩
theorem lw_p3 : lw_okq (⟨"BrookStones$Sheets", "reaches", "(III)Z"⟩, 3) := ⟨⟨by decide +kernel, by decide +kernel⟩, List.mem_of_getElem? (i := 96) (by decide +kernel), List.mem_of_getElem? (i := 245) (by decide +kernel), List.mem_of_getElem? (i := 246) (by decide +kernel)⟩
theorem lw_p4 : lw_okq (⟨"BrookStones", "failBy", "(I)I"⟩, 8) := ⟨⟨by decide +kernel, by decide +kernel⟩, List.mem_of_getElem? (i := 13) (by decide +kernel), List.mem_of_getElem? (i := 249) (by decide +kernel), List.mem_of_getElem? (i := 250) (by decide +kernel)⟩
theorem lw_p5 : lw_okq (⟨"BrookStones$Sheets", "at", "(II)I"⟩, 3) := ⟨⟨by decide +kernel, by decide +kernel⟩, List.mem_of_getElem? (i := 96) (by decide +kernel), List.mem_of_getElem? (i := 259) (by decide +kernel), List.mem_of_getElem? (i := 260) (by decide +kernel)⟩
theorem lw_p6 : lw_okq (⟨"BrookStones$Brook", "makeAnew", "()V"⟩, 15) := ⟨⟨by decide +kernel, by decide +kernel⟩, List.mem_of_getElem? (i := 21) (by decide +kernel), List.mem_of_getElem? (i := 279) (by decide +kernel), List.mem_of_getElem? (i := 280) (by decide +kernel)⟩
theorem lw_p7 : lw_okq (⟨"BrookStones$Brook", "isCell", "(I)Z"⟩, 15) := ⟨⟨by decide +kernel, by decide +kernel⟩, List.mem_of_getElem? (i := 21) (by decide +kernel), List.mem_of_getElem? (i := 290) (by decide +kernel), List.mem_of_getElem? (i := 291) (by decide +kernel)⟩
theorem lw_p8 : lw_okq (⟨"BrookStones$Brook", "topOf", "(III)I"⟩, 15) := ⟨⟨by decide +kernel, by decide +kernel⟩, List.mem_of_getElem? (i := 21) (by decide +kernel), List.mem_of_getElem? (i := 297) (by decide +kernel), List.mem_of_getElem? (i := 298) (by decide +kernel)⟩
theorem lw_p9 : lw_okq (⟨"BrookStones$Brook", "isThere", "()Z"⟩, 15) := ⟨⟨by decide +kernel, by decide +kernel⟩, List.mem_of_getElem? (i := 21) (by decide +kernel), List.mem_of_getElem? (i := 306) (by decide +kernel), List.mem_of_getElem? (i := 307) (by decide +kernel)⟩
theorem lw_p10 : lw_okq (⟨"BrookStones$Brook", "isStone", "(I)Z"⟩, 15) := ⟨⟨by decide +kernel, by decide +kernel⟩, List.mem_of_getElem? (i := 21) (by decide +kernel), List.mem_of_getElem? (i := 314) (by decide +kernel), List.mem_of_getElem? (i := 315) (by decide +kernel)⟩
theorem lw_p11 : lw_okq (⟨"BrookStones$Brook", "holdOf", "(I)I"⟩, 15) := ⟨⟨by decide +kernel, by decide +kernel⟩, List.mem_of_getElem? (i := 21) (by decide +kernel), List.mem_of_getElem? (i := 318) (by decide +kernel), List.mem_of_getElem? (i := 319) (by decide +kernel)⟩
theorem lw_p12 : lw_okq (⟨"BrookStones$Brook", "cellOf", "(I)I"⟩, 15) := ⟨⟨by decide +kernel, by decide +kernel⟩, List.mem_of_getElem? (i := 21) (by decide +kernel), List.mem_of_getElem? (i := 322) (by decide +kernel), List.mem_of_getElem? (i := 323) (by decide +kernel)⟩
theorem lw_p13 : lw_okq (⟨"BrookStones$Brook", "takeUp", "(I)V"⟩, 15) := ⟨⟨by decide +kernel, by decide +kernel⟩, List.mem_of_getElem? (i := 21) (by decide +kernel), List.mem_of_getElem? (i := 330) (by decide +kernel), List.mem_of_getElem? (i := 331) (by decide +kernel)⟩
theorem lw_p14 : lw_okq (⟨"BrookStones$Brook", "addWalker", "(I)I"⟩, 15) := ⟨⟨by decide +kernel, by decide +kernel⟩, List.mem_of_getElem? (i := 21) (by decide +kernel), List.mem_of_getElem? (i := 339) (by decide +kernel), List.mem_of_getElem? (i := 340) (by decide +kernel)⟩
theorem lw_p15 : lw_okq (⟨"BrookStones$Brook", "isWalker", "(I)Z"⟩, 15) := ⟨⟨by decide +kernel, by decide +kernel⟩, List.mem_of_getElem? (i := 21) (by decide +kernel), List.mem_of_getElem? (i := 347) (by decide +kernel), List.mem_of_getElem? (i := 348) (by decide +kernel)⟩
def lw_privs_1 : List (MethodName × Nat) := [(⟨"BrookStones", "refusalOfCells", "(IIII)I"⟩, 8), (⟨"BrookStones$Sheets", "faultOfCells", "(IIII)I"⟩, 3), (⟨"BrookStones$Sheets", "isThere", "(I)Z"⟩, 3), (⟨"BrookStones$Sheets", "reaches", "(III)Z"⟩, 3), (⟨"BrookStones", "failBy", "(I)I"⟩, 8), (⟨"BrookStones$Sheets", "at", "(II)I"⟩, 3), (⟨"BrookStones$Brook", "makeAnew", "()V"⟩, 15), (⟨"BrookStones$Brook", "isCell", "(I)Z"⟩, 15), (⟨"BrookStones$Brook", "topOf", "(III)I"⟩, 15), (⟨"BrookStones$Brook", "isThere", "()Z"⟩, 15), (⟨"BrookStones$Brook", "isStone", "(I)Z"⟩, 15), (⟨"BrookStones$Brook", "holdOf", "(I)I"⟩, 15), (⟨"BrookStones$Brook", "cellOf", "(I)I"⟩, 15), (⟨"BrookStones$Brook", "takeUp", "(I)V"⟩, 15), (⟨"BrookStones$Brook", "addWalker", "(I)I"⟩, 15), (⟨"BrookStones$Brook", "isWalker", "(I)Z"⟩, 15)]
theorem lw_r1 : ∀ q ∈ lw_privs_1, lw_okq q := List.forall_mem_cons.mpr ⟨lw_p0, List.forall_mem_cons.mpr ⟨lw_p1, List.forall_mem_cons.mpr ⟨lw_p2, List.forall_mem_cons.mpr ⟨lw_p3, List.forall_mem_cons.mpr ⟨lw_p4, List.forall_mem_cons.mpr ⟨lw_p5, List.forall_mem_cons.mpr ⟨lw_p6, List.forall_mem_cons.mpr ⟨lw_p7, List.forall_mem_cons.mpr ⟨lw_p8, List.forall_mem_cons.mpr ⟨lw_p9, List.forall_mem_cons.mpr ⟨lw_p10, List.forall_mem_cons.mpr ⟨lw_p11, List.forall_mem_cons.mpr ⟨lw_p12, List.forall_mem_cons.mpr ⟨lw_p13, List.forall_mem_cons.mpr ⟨lw_p14, List.forall_mem_cons.mpr ⟨lw_p15, fun _ h => absurd h List.not_mem_nil⟩⟩⟩⟩⟩⟩⟩⟩⟩⟩⟩⟩⟩⟩⟩⟩
theorem lw_p16 : lw_okq (⟨"BrookStones$Brook", "filled", "()I"⟩, 15) := ⟨⟨by decide +kernel, by decide +kernel⟩, List.mem_of_getElem? (i := 21) (by decide +kernel), List.mem_of_getElem? (i := 355) (by decide +kernel), List.mem_of_getElem? (i := 356) (by decide +kernel)⟩
theorem lw_p17 : lw_okq (⟨"BrookStones$Brook", "ofKind", "(I)I"⟩, 15) := ⟨⟨by decide +kernel, by decide +kernel⟩, List.mem_of_getElem? (i := 21) (by decide +kernel), List.mem_of_getElem? (i := 359) (by decide +kernel), List.mem_of_getElem? (i := 360) (by decide +kernel)⟩
theorem lw_p18 : lw_okq (⟨"BrookStones$Brook", "reachOf", "(IZ)I"⟩, 15) := ⟨⟨by decide +kernel, by decide +kernel⟩, List.mem_of_getElem? (i := 21) (by decide +kernel), List.mem_of_getElem? (i := 363) (by decide +kernel), List.mem_of_getElem? (i := 364) (by decide +kernel)⟩
theorem lw_p19 : lw_okq (⟨"BrookStones$Brook", "isCrossed", "(III)Z"⟩, 15) := ⟨⟨by decide +kernel, by decide +kernel⟩, List.mem_of_getElem? (i := 21) (by decide +kernel), List.mem_of_getElem? (i := 367) (by decide +kernel), List.mem_of_getElem? (i := 368) (by decide +kernel)⟩
theorem lw_p20 : lw_okq (⟨"BrookStones$Brook", "dry", "(I)I"⟩, 15) := ⟨⟨by decide +kernel, by decide +kernel⟩, List.mem_of_getElem? (i := 21) (by decide +kernel), List.mem_of_getElem? (i := 371) (by decide +kernel), List.mem_of_getElem? (i := 372) (by decide +kernel)⟩
theorem lw_p21 : lw_okq (⟨"BrookStones$Way", "find", "(LBrookStones$Brook;I)I"⟩, 6) := ⟨⟨by decide +kernel, by decide +kernel⟩, List.mem_of_getElem? (i := 114) (by decide +kernel), List.mem_of_getElem? (i := 383) (by decide +kernel), List.mem_of_getElem? (i := 384) (by decide +kernel)⟩
theorem lw_p22 : lw_okq (⟨"BrookStones$Way", "fewestFrom", "(I)I"⟩, 6) := ⟨⟨by decide +kernel, by decide +kernel⟩, List.mem_of_getElem? (i := 114) (by decide +kernel), List.mem_of_getElem? (i := 389) (by decide +kernel), List.mem_of_getElem? (i := 390) (by decide +kernel)⟩
theorem lw_p23 : lw_okq (⟨"BrookStones$Way", "isStride", "(II)Z"⟩, 6) := ⟨⟨by decide +kernel, by decide +kernel⟩, List.mem_of_getElem? (i := 114) (by decide +kernel), List.mem_of_getElem? (i := 393) (by decide +kernel), List.mem_of_getElem? (i := 394) (by decide +kernel)⟩
theorem lw_p24 : lw_okq (⟨"BrookStones$Way", "firstBehind", "(I)I"⟩, 6) := ⟨⟨by decide +kernel, by decide +kernel⟩, List.mem_of_getElem? (i := 114) (by decide +kernel), List.mem_of_getElem? (i := 399) (by decide +kernel), List.mem_of_getElem? (i := 400) (by decide +kernel)⟩
theorem lw_p25 : lw_okq (⟨"BrookStones$Sheets", "areWithin", "(IIII)Z"⟩, 3) := ⟨⟨by decide +kernel, by decide +kernel⟩, List.mem_of_getElem? (i := 96) (by decide +kernel), List.mem_of_getElem? (i := 418) (by decide +kernel), List.mem_of_getElem? (i := 419) (by decide +kernel)⟩
theorem lw_p26 : lw_okq (⟨"BrookStones$Sheets", "renew", "(III)V"⟩, 3) := ⟨⟨by decide +kernel, by decide +kernel⟩, List.mem_of_getElem? (i := 96) (by decide +kernel), List.mem_of_getElem? (i := 428) (by decide +kernel), List.mem_of_getElem? (i := 429) (by decide +kernel)⟩
theorem lw_p27 : lw_okq (⟨"BrookStones$Sheets", "write", "(III)V"⟩, 3) := ⟨⟨by decide +kernel, by decide +kernel⟩, List.mem_of_getElem? (i := 96) (by decide +kernel), List.mem_of_getElem? (i := 443) (by decide +kernel), List.mem_of_getElem? (i := 444) (by decide +kernel)⟩
theorem lw_p28 : lw_okq (⟨"BrookStones$Brook", "addStone", "(IIII)I"⟩, 15) := ⟨⟨by decide +kernel, by decide +kernel⟩, List.mem_of_getElem? (i := 21) (by decide +kernel), List.mem_of_getElem? (i := 478) (by decide +kernel), List.mem_of_getElem? (i := 479) (by decide +kernel)⟩
def lw_privs_2 : List (MethodName × Nat) := [(⟨"BrookStones$Brook", "filled", "()I"⟩, 15), (⟨"BrookStones$Brook", "ofKind", "(I)I"⟩, 15), (⟨"BrookStones$Brook", "reachOf", "(IZ)I"⟩, 15), (⟨"BrookStones$Brook", "isCrossed", "(III)Z"⟩, 15), (⟨"BrookStones$Brook", "dry", "(I)I"⟩, 15), (⟨"BrookStones$Way", "find", "(LBrookStones$Brook;I)I"⟩, 6), (⟨"BrookStones$Way", "fewestFrom", "(I)I"⟩, 6), (⟨"BrookStones$Way", "isStride", "(II)Z"⟩, 6), (⟨"BrookStones$Way", "firstBehind", "(I)I"⟩, 6), (⟨"BrookStones$Sheets", "areWithin", "(IIII)Z"⟩, 3), (⟨"BrookStones$Sheets", "renew", "(III)V"⟩, 3), (⟨"BrookStones$Sheets", "write", "(III)V"⟩, 3), (⟨"BrookStones$Brook", "addStone", "(IIII)I"⟩, 15)]
theorem lw_r2 : ∀ q ∈ lw_privs_2, lw_okq q := List.forall_mem_cons.mpr ⟨lw_p16, List.forall_mem_cons.mpr ⟨lw_p17, List.forall_mem_cons.mpr ⟨lw_p18, List.forall_mem_cons.mpr ⟨lw_p19, List.forall_mem_cons.mpr ⟨lw_p20, List.forall_mem_cons.mpr ⟨lw_p21, List.forall_mem_cons.mpr ⟨lw_p22, List.forall_mem_cons.mpr ⟨lw_p23, List.forall_mem_cons.mpr ⟨lw_p24, List.forall_mem_cons.mpr ⟨lw_p25, List.forall_mem_cons.mpr ⟨lw_p26, List.forall_mem_cons.mpr ⟨lw_p27, List.forall_mem_cons.mpr ⟨lw_p28, fun _ h => absurd h List.not_mem_nil⟩⟩⟩⟩⟩⟩⟩⟩⟩⟩⟩⟩⟩
def lw_privs : List (MethodName × Nat) := lw_privs_1 ++ (lw_privs_2)
def lw_tbl : List Cond := k2_sels lw_privs ++ tables_1
theorem lw_privs_ok : ∀ q ∈ lw_privs, lw_okq q := by
  show ∀ q ∈ lw_privs_1 ++ (lw_privs_2), lw_okq q
  exact List.forall_mem_append.mpr ⟨lw_r1, lw_r2⟩
def RX0 : String := "BrookStones$Brook"
def TX0 : u_T := fun k => match k with
  | 0 => ("BrookStones$Brook", "depth", "[I", true)
  | 1 => ("BrookStones$Brook", "bed", "[I", true)
  | 2 => ("BrookStones$Brook", "row", "[I", true)
  | 3 => ("BrookStones$Brook", "kind", "[I", true)
  | 4 => ("BrookStones$Brook", "height", "[I", true)
  | 5 => ("BrookStones$Brook", "weight", "[I", true)
  | 6 => ("BrookStones$Brook", "lies", "[I", true)
  | 7 => ("BrookStones$Brook", "strides", "[I", true)
  | 8 => ("BrookStones$Brook", "cells", "I", false)
  | 9 => ("BrookStones$Brook", "pace", "I", false)
  | 10 => ("BrookStones$Brook", "guarded", "I", false)
  | 11 => ("BrookStones$Brook", "water", "I", false)
  | 12 => ("BrookStones$Brook", "stones", "I", false)
  | 13 => ("BrookStones$Brook", "gone", "I", false)
  | _ => ("BrookStones$Brook", "walkers", "I", false)
def tyX0 : Nat → FieldType := fun k => match k with
  | 0 => .array .int
  | 1 => .array .int
  | 2 => .array .int
  | 3 => .array .int
  | 4 => .array .int
  | 5 => .array .int
  | 6 => .array .int
  | 7 => .array .int
  | 8 => .int
  | 9 => .int
  | 10 => .int
  | 11 => .int
  | 12 => .int
  | 13 => .int
  | _ => .int
theorem nmX0 : ∀ a, a < 15 → ∀ b, b < 15 → a ≠ b → (TX0 a).2.1 ≠ (TX0 b).2.1 := by decide +kernel
theorem tyX0_ok : ∀ k, k < 15 → parseFieldDescriptor (TX0 k).2.2.1 = some (tyX0 k) := by decide +kernel
def RX1 : String := "BrookStones$Flood"
def TX1 : u_T := fun k => match k with
  | 0 => ("BrookStones$Flood", "dug", "[I", true)
  | 1 => ("BrookStones$Flood", "went", "[I", true)
  | _ => ("BrookStones$Flood", "standing", "I", false)
def tyX1 : Nat → FieldType := fun k => match k with
  | 0 => .array .int
  | 1 => .array .int
  | _ => .int
theorem nmX1 : ∀ a, a < 3 → ∀ b, b < 3 → a ≠ b → (TX1 a).2.1 ≠ (TX1 b).2.1 := by decide +kernel
theorem tyX1_ok : ∀ k, k < 3 → parseFieldDescriptor (TX1 k).2.2.1 = some (tyX1 k) := by decide +kernel
def RX2 : String := "BrookStones$Layings"
def TX2 : u_T := fun k => match k with
  | 0 => ("BrookStones$Layings", "ways", "[I", true)
  | _ => ("BrookStones$Layings", "all", "I", false)
def tyX2 : Nat → FieldType := fun k => match k with
  | 0 => .array .int
  | _ => .int
theorem nmX2 : ∀ a, a < 2 → ∀ b, b < 2 → a ≠ b → (TX2 a).2.1 ≠ (TX2 b).2.1 := by decide +kernel
theorem tyX2_ok : ∀ k, k < 2 → parseFieldDescriptor (TX2 k).2.2.1 = some (tyX2 k) := by decide +kernel
def RX3 : String := "BrookStones$Planner"
def TX3 : u_T := fun k => match k with
  | 0 => ("BrookStones$Planner", "row", "[I", true)
  | 1 => ("BrookStones$Planner", "best", "[I", true)
  | 2 => ("BrookStones$Planner", "uses", "[I", true)
  | 3 => ("BrookStones$Planner", "least", "[[I", true)
  | 4 => ("BrookStones$Planner", "bestCost", "I", false)
  | 5 => ("BrookStones$Planner", "stride", "I", false)
  | 6 => ("BrookStones$Planner", "f", "I", false)
  | _ => ("BrookStones$Planner", "rounds", "I", false)
def tyX3 : Nat → FieldType := fun k => match k with
  | 0 => .array .int
  | 1 => .array .int
  | 2 => .array .int
  | 3 => .array (.array .int)
  | 4 => .int
  | 5 => .int
  | 6 => .int
  | _ => .int
theorem nmX3 : ∀ a, a < 8 → ∀ b, b < 8 → a ≠ b → (TX3 a).2.1 ≠ (TX3 b).2.1 := by decide +kernel
theorem tyX3_ok : ∀ k, k < 8 → parseFieldDescriptor (TX3 k).2.2.1 = some (tyX3 k) := by decide +kernel
def RX4 : String := "BrookStones$Sheets"
def TX4 : u_T := fun k => match k with
  | 0 => ("BrookStones$Sheets", "sort", "[I", true)
  | 1 => ("BrookStones$Sheets", "many", "[I", true)
  | _ => ("BrookStones$Sheets", "cells", "[I", true)
def tyX4 : Nat → FieldType := fun k => match k with
  | 0 => .array .int
  | 1 => .array .int
  | _ => .array .int
theorem nmX4 : ∀ a, a < 3 → ∀ b, b < 3 → a ≠ b → (TX4 a).2.1 ≠ (TX4 b).2.1 := by decide +kernel
theorem tyX4_ok : ∀ k, k < 3 → parseFieldDescriptor (TX4 k).2.2.1 = some (tyX4 k) := by decide +kernel
def RX5 : String := "BrookStones$Text"
def TX5 : u_T := fun k => match k with
  | _ => ("", "", "", false)
def tyX5 : Nat → FieldType := fun k => match k with
  | _ => .int
theorem nmX5 : ∀ a, a < 0 → ∀ b, b < 0 → a ≠ b → (TX5 a).2.1 ≠ (TX5 b).2.1 := by decide +kernel
theorem tyX5_ok : ∀ k, k < 0 → parseFieldDescriptor (TX5 k).2.2.1 = some (tyX5 k) := by decide +kernel
def RX6 : String := "BrookStones$Way"
def TX6 : u_T := fun k => match k with
  | 0 => ("BrookStones$Way", "places", "[I", true)
  | 1 => ("BrookStones$Way", "left", "[I", true)
  | 2 => ("BrookStones$Way", "stops", "I", false)
  | 3 => ("BrookStones$Way", "eases", "I", false)
  | 4 => ("BrookStones$Way", "last", "I", false)
  | _ => ("BrookStones$Way", "reach", "I", false)
def tyX6 : Nat → FieldType := fun k => match k with
  | 0 => .array .int
  | 1 => .array .int
  | 2 => .int
  | 3 => .int
  | 4 => .int
  | _ => .int
theorem nmX6 : ∀ a, a < 6 → ∀ b, b < 6 → a ≠ b → (TX6 a).2.1 ≠ (TX6 b).2.1 := by decide +kernel
theorem tyX6_ok : ∀ k, k < 6 → parseFieldDescriptor (TX6 k).2.2.1 = some (tyX6 k) := by decide +kernel
def RX7 : String := "BrookStones"
def TX7 : u_T := fun k => match k with
  | 0 => ("BrookStones", "brook", "LBrookStones$Brook;", true)
  | 1 => ("BrookStones", "sheets", "LBrookStones$Sheets;", true)
  | 2 => ("BrookStones", "way", "LBrookStones$Way;", true)
  | 3 => ("BrookStones", "flood", "LBrookStones$Flood;", true)
  | 4 => ("BrookStones", "planner", "LBrookStones$Planner;", true)
  | 5 => ("BrookStones", "layings", "LBrookStones$Layings;", true)
  | 6 => ("BrookStones", "trace", "I", false)
  | _ => ("BrookStones", "fault", "I", false)
def tyX7 : Nat → FieldType := fun k => match k with
  | 0 => .object "BrookStones$Brook"
  | 1 => .object "BrookStones$Sheets"
  | 2 => .object "BrookStones$Way"
  | 3 => .object "BrookStones$Flood"
  | 4 => .object "BrookStones$Planner"
  | 5 => .object "BrookStones$Layings"
  | 6 => .int
  | _ => .int
theorem nmX7 : ∀ a, a < 8 → ∀ b, b < 8 → a ≠ b → (TX7 a).2.1 ≠ (TX7 b).2.1 := by decide +kernel
theorem tyX7_ok : ∀ k, k < 8 → parseFieldDescriptor (TX7 k).2.2.1 = some (tyX7 k) := by decide +kernel
def RX8 : String := "BrookStonesModel"
def TX8 : u_T := fun k => match k with
  | _ => ("", "", "", false)
def tyX8 : Nat → FieldType := fun k => match k with
  | _ => .int
theorem nmX8 : ∀ a, a < 0 → ∀ b, b < 0 → a ≠ b → (TX8 a).2.1 ≠ (TX8 b).2.1 := by decide +kernel
theorem tyX8_ok : ∀ k, k < 0 → parseFieldDescriptor (TX8 k).2.2.1 = some (tyX8 k) := by decide +kernel
def RL : String := "BrookStonesLaw"
abbrev vwCl : List vw_C := [(RX0, TX0, 15), (RX1, TX1, 3), (RX2, TX2, 2), (RX3, TX3, 8), (RX4, TX4, 3), (RX6, TX6, 6), (RX7, TX7, 8)]
end
section
/-! ===== small worlds: cells by number (number 0 is the script), values whose references are numbers ===== -/
abbrev XC : Type := (Nat × List Value) ⊕ (Nat × List Int32)
abbrev XW : Type := List XC
abbrev XL : Type := List (Nat × Value)
abbrev XO : Type := Option Value × XW
abbrev Kont : Type := Nat → XL → List Value → XW → Option XO
abbrev Orc : Type := List Value → XW → Option XO
def xa (base b : Nat) : Nat → Nat
  | 0 => b
  | k + 1 => base + k
def xv (base b : Nat) : Value → Value
  | .ref k => .ref (xa base b k)
  | .int x => .int x
  | .long x => .long x
  | .float x => .float x
  | .double x => .double x
  | .null => .null
  | .retAddr x => .retAddr x
def xe (base b : Nat) (cA : Nat → ClassId) : XC → va_E
  | .inl (ci, fs) => .inr (ci, fs.map (xv base b))
  | .inr (t, xs) => bif t == 3 then .inl (cA 3, xs.length, .inr (.inr (.inr (.inr (fun j => some (xa base b (xs.getD j 0).toNatClampNeg)))))) else .inl (cA t, xs.length, .inl (fun j => xs.getD j 0))
def xw (base b : Nat) (cA : Nat → ClassId) (w : XW) : va_W := w.tail.mapIdx fun k c => (base + k, xe base b cA c)
def xsz : XC → Nat
  | .inl (_, fs) => fs.length
  | .inr (_, xs) => xs.length
def gs (w : XW) : Nat := (w.map xsz).sum
/-! what is read and written -/
def gF (w : XW) (o ci k : Nat) : Option Value := match w[o]? with
  | some (.inl (c, fs)) => if c = ci then fs[k]? else none
  | _ => none
def gI (w : XW) (o ci k : Nat) : Option Int32 := match gF w o ci k with
  | some (.int x) => some x
  | _ => none
def gR (w : XW) (o ci k : Nat) : Option Nat := match gF w o ci k with
  | some (.ref x) => some x
  | _ => none
def pF (w : XW) (o ci k : Nat) (v : Value) : Option XW := match w[o]? with
  | some (.inl (c, fs)) => if c = ci ∧ k < fs.length ∧ o ≠ 0 then some (w.set o (.inl (c, fs.set k v))) else none
  | _ => none
def aI (w : XW) (o : Nat) (i : Int32) : Option Int32 := match w[o]? with
  | some (.inr (t, xs)) => if (t = 0 ∨ o = 0) ∧ 0 ≤ i then xs[i.toNatClampNeg]? else none
  | _ => none
def aZ (w : XW) (o : Nat) (i : Int32) : Option Int32 := match w[o]? with
  | some (.inr (t, xs)) => if t = 1 ∧ o ≠ 0 ∧ 0 ≤ i then xs[i.toNatClampNeg]? else none
  | _ => none
def aL (w : XW) (o : Nat) : Option Int32 := match w[o]? with
  | some (.inr (t, xs)) => if t = 0 ∨ o = 0 then some (Int32.ofNat xs.length) else none
  | _ => none
def sI (w : XW) (o : Nat) (i x : Int32) : Option XW := match w[o]? with
  | some (.inr (t, xs)) => if t = 0 ∧ o ≠ 0 ∧ 0 ≤ i ∧ i.toNatClampNeg < xs.length then some (w.set o (.inr (0, xs.set i.toNatClampNeg x))) else none
  | _ => none
def sZ (w : XW) (o : Nat) (i x : Int32) : Option XW := match w[o]? with
  | some (.inr (t, xs)) => if t = 1 ∧ o ≠ 0 ∧ 0 ≤ i ∧ i.toNatClampNeg < xs.length then some (w.set o (.inr (1, xs.set i.toNatClampNeg (x &&& 1)))) else none
  | _ => none
/-- n cells from i on of an int array go to another one from j on -/
def sC (w : XW) (o : Nat) (i : Int32) (o2 : Nat) (j n : Int32) : Option XW := match w[o]?, w[o2]? with
  | some (.inr (t, xs)), some (.inr (t2, ys)) => if t = 0 ∧ t2 = 0 ∧ o ≠ 0 ∧ o2 ≠ 0 ∧ 0 ≤ i ∧ 0 ≤ j ∧ 0 ≤ n ∧ i.toNatClampNeg + n.toNatClampNeg ≤ xs.length ∧ j.toNatClampNeg + n.toNatClampNeg ≤ ys.length then
      some (w.set o2 (.inr (0, ys.take j.toNatClampNeg ++ ((xs.drop i.toNatClampNeg).take n.toNatClampNeg ++ ys.drop (j.toNatClampNeg + n.toNatClampNeg))))) else none
  | _, _ => none
/-- an array of arrays: its cells' numbers; how two dimensions are made -/
def aR (w : XW) (o : Nat) (i : Int32) : Option Nat := match w[o]? with
  | some (.inr (t, xs)) => if t = 3 ∧ o ≠ 0 ∧ 0 ≤ i then (xs[i.toNatClampNeg]?).map (fun x => x.toNatClampNeg) else none
  | _ => none
def mkA (L : Nat) (n k : Int32) : XW := .inr (3, (List.range n.toNatClampNeg).map (fun j => Int32.ofNat (L + 1 + j))) :: List.replicate n.toNatClampNeg (.inr (0, List.replicate k.toNatClampNeg 0))
def isO (w : XW) (o ci : Nat) : Bool := match w[o]? with
  | some (.inl (c, _)) => c == ci
  | _ => false
/-! what an answer is -/
def cI (m : Option XO) (k : Int32 → XW → Option XO) : Option XO := match m with
  | some (some (.int x), w) => k x w
  | _ => none
def cL (m : Option XO) (k : Int64 → XW → Option XO) : Option XO := match m with
  | some (some (.long x), w) => k x w
  | _ => none
def cV (m : Option XO) (k : XW → Option XO) : Option XO := match m with
  | some (none, w) => k w
  | _ => none
/-! ===== how they stand for the machine's ===== -/
theorem xw_get {base b : Nat} {cA : Nat → ClassId} {w : XW} {o : Nat} {c : XC} (h : w[o + 1]? = some c) : (xw base b cA w)[o]? = some (base + o, xe base b cA c) := by
  unfold xw
  rw [List.getElem?_mapIdx]
  have : w.tail[o]? = some c := by rw [List.getElem?_tail]; exact h
  rw [this]; rfl
theorem xw_of {base b : Nat} {cA : Nat → ClassId} {w : XW} {k : Nat} {q : Nat × va_E} (h : (xw base b cA w)[k]? = some q) : q.1 = base + k ∧ k + 1 < w.length := by
  unfold xw at h
  rw [List.getElem?_mapIdx] at h
  cases hc : w.tail[k]? with
  | none => rw [hc] at h; cases h
  | some c =>
    rw [hc] at h
    cases h
    refine ⟨rfl, ?_⟩
    have := (List.getElem?_eq_some_iff.mp hc).1
    rw [List.length_tail] at this
    omega
theorem xw_set {base b : Nat} {cA : Nat → ClassId} {w : XW} {o : Nat} {c : XC} : xw base b cA (w.set (o + 1) c) = (xw base b cA w).set o (base + o, xe base b cA c) := by
  unfold xw
  cases w with
  | nil => rfl
  | cons a r => simp [List.mapIdx_set]
theorem xw_push {base b : Nat} {cA : Nat → ClassId} {w : XW} {c : XC} (h : 0 < w.length) : xw base b cA (w ++ [c]) = xw base b cA w ++ [(base + (w.length - 1), xe base b cA c)] := by
  unfold xw
  cases w with
  | nil => simp at h
  | cons a r => simp [List.mapIdx_append]
theorem xw_D {base b : Nat} {cA : Nat → ClassId} (w : XW) : va_D (fun q => base ≤ q) (xw base b cA w) := by
  refine ⟨fun i j p q hi hj hpq => ?_, fun k q hk => ?_⟩
  · have h1 := (xw_of hi).1
    have h2 := (xw_of hj).1
    omega
  · rw [(xw_of hk).1]; omega
theorem gs_set {w : XW} {o : Nat} {c d : XC} (h : w[o]? = some c) (hs : xsz c = xsz d) : gs (w.set o d) = gs w := by
  unfold gs
  rw [List.map_set]
  congr 1
  apply List.ext_getElem?
  intro k
  rw [List.getElem?_set]
  split
  next hk =>
    subst hk
    split
    next => rw [List.getElem?_map, h]; simp [hs]
    next hl => rw [List.length_map] at hl; exact absurd (List.getElem?_eq_some_iff.mp h).1 hl
  next => rfl
theorem gs_push (w : XW) (c : XC) : gs (w ++ [c]) = gs w + xsz c := by simp [gs]
theorem xv_cat (base b : Nat) (v : Value) : (xv base b v).category = v.category := by cases v <;> rfl
theorem xv_sum (base b : Nat) (st : List Value) : ((st.map (xv base b)).map fun v => v.category).sum = (st.map fun v => v.category).sum := by
  rw [List.map_map]; congr 1; apply List.map_congr_left; intro v _; exact xv_cat base b v
theorem cat_le (st : List Value) : (st.map fun v => v.category).sum ≤ 2 * st.length := by
  induction st with
  | nil => simp
  | cons v r ih =>
    have : v.category ≤ 2 := by rcases lv_cat v with h | h <;> omega
    simp only [List.map_cons, List.sum_cons, List.length_cons]; omega
/-! locals -/
def xl (base b : Nat) (ls : XL) : List (Nat × Value) := ls.map fun q => (q.1, xv base b q.2)
def xL : XL → Nat → Option Value
  | [], _ => none
  | (j, v) :: r, i => bif j == i then some v else xL r i
def xst (ls : XL) (i : Nat) (v : Value) : XL := (i, v) :: ls.filter (fun q => !(q.1 == i) && !(q.1 + 1 == i && q.2.category == 2))
def xst2 (ls : XL) (i : Nat) (v : Value) : XL := (i, v) :: ls.filter (fun q => !(q.1 == i) && (!(q.1 == i + 1) && !(q.1 + 1 == i && q.2.category == 2)))
theorem xL_mem {ls : XL} {i : Nat} {v : Value} (h : xL ls i = some v) : (i, v) ∈ ls := by
  induction ls with
  | nil => cases h
  | cons q r ih =>
    obtain ⟨j, u⟩ := q
    unfold xL at h
    cases hj : j == i with
    | true =>
      rw [hj] at h
      cases h
      rw [eq_of_beq hj]
      exact List.mem_cons_self
    | false =>
      rw [hj] at h
      exact List.mem_cons_of_mem _ (ih h)
theorem xL_at {base b nL : Nat} {LS : Array Slot} {ls : XL} {i : Nat} {v : Value} (h : lv_has LS nL (xl base b ls)) (hv : xL ls i = some v) : LS[i]? = some (.val (xv base b v)) :=
  h.2.2 (i, xv base b v) (List.mem_map.mpr ⟨(i, v), xL_mem hv, rfl⟩)
theorem xL_place {base b : Nat} {ls : XL} {i : Nat} {v : Value} (hv : xL ls i = some v) : ∃ k : Nat, (xl base b ls)[k]? = some (i, xv base b v) :=
  List.getElem?_of_mem (List.mem_map.mpr ⟨(i, v), xL_mem hv, rfl⟩)
theorem xst_map (base b : Nat) (ls : XL) (i : Nat) (v : Value) : (i, xv base b v) :: (xl base b ls).filter (fun q => !(q.1 == i) && !(q.1 + 1 == i && q.2.category == 2)) = xl base b (xst ls i v) := by
  unfold xl xst
  rw [List.map_cons, List.filter_map]
  congr 2
  apply List.filter_congr
  intro q _
  simp [xv_cat]
theorem xst2_map (base b : Nat) (ls : XL) (i : Nat) (v : Value) : (i, xv base b v) :: (xl base b ls).filter (fun q => !(q.1 == i) && (!(q.1 == i + 1) && !(q.1 + 1 == i && q.2.category == 2))) = xl base b (xst2 ls i v) := by
  unfold xl xst2
  rw [List.map_cons, List.filter_map]
  congr 2
  apply List.filter_congr
  intro q _
  simp [xv_cat]
theorem xl_sub {base b nL : Nat} {LS : Array Slot} {ls ks : XL} (h : lv_has LS nL (xl base b ls)) (hk : ∀ q ∈ ks, xL ls q.1 = some q.2) : lv_has LS nL (xl base b ks) := by
  refine ⟨h.1, h.2.1, fun q hq => ?_⟩
  obtain ⟨p, hp, rfl⟩ := List.mem_map.mp hq
  exact xL_at h (hk p hp)
/-! words that are good at every state, and those of nest mates -/
def isNest : Jvm.Cond → Bool
  | .methodLinkNest .. => true
  | .fieldLinkNest .. => true
  | .arrayOver _ => true
  | _ => false
def tblN : List Jvm.Cond := tables_1.filter isNest
def tblG : List Jvm.Cond := lw_tbl.filter goodWord
theorem tblG_good {w : Jvm.Cond} (h : w ∈ tblG) : (w.onTables && w.keeps) = true ∨ ∃ ty, w = .arrayClass ty := good_of_word (List.mem_filter.mp h).2
theorem tblG_of {i : Nat} {w : Jvm.Cond} (h : tables_1[i]? = some w) (hg : goodWord w = true) : w ∈ tblG :=
  List.mem_filter.mpr ⟨List.mem_append_right _ (List.mem_of_getElem? h), hg⟩
theorem tblG_sel {q : MethodName × Nat} (h : q ∈ lw_privs) : Jvm.Cond.selects q.1.cls q.1 q.1 ∈ tblG :=
  List.mem_filter.mpr ⟨List.mem_append_left _ (List.mem_map.mpr ⟨q, h, rfl⟩), rfl⟩
theorem tblN_of {i : Nat} {w : Jvm.Cond} (h : tables_1[i]? = some w) (hg : isNest w = true) : w ∈ tblN := List.mem_filter.mpr ⟨List.mem_of_getElem? h, hg⟩
theorem tblN_warm {s U : State} (hW : s.WarmedH U.vm) {n : Jvm.Cond} (hn : n ∈ tblN) (h : va_Nw n s) : va_Nw n U := by
  have h1 := (List.mem_filter.mp hn).2
  cases n with
  | arrayOver ty =>
    have e : (s.setVm U.vm).vm = U.vm := rfl
    have h2 : (Jvm.Cond.arrayOver ty).before #[] (s.setVm U.vm) = true := by rw [Cond.arrayOver_setVmC hW.alike]; exact h
    exact h2
  | _ => first | exact va_Nw.warmF hW h | exact va_Nw.warmM hW h | cases h1
/-! the world of a state -/
abbrev xTys (cA : Nat → ClassId) : List (ClassId × FieldType) := [(cA 0, .int), (cA 3, .array .int)]
def XR (D : va_G) (cA : Nat → ClassId) (base b : Nat) (w : XW) (U : State) : Prop :=
  va_P D vwCl (xw base b cA w) U.heap ∧ va_K D vwCl (xTys cA) U ∧ (∃ xs, w[0]? = some (.inr (2, xs)) ∧ va_X b xs.length (fun j => xs.getD j 0) U U.heap) ∧ (∀ n ∈ tblN, va_Nw n U) ∧ U.heap.size + 1 = base + w.length ∧ b < base
def QX (D : va_G) (cA : Nat → ClassId) (base b : Nat) (o : XO) : Array Value → State → Outcome → State → Prop :=
  fun _ st oc t => oc = .returned (o.1.map (xv base b)) ∧ XR D cA base b o.2 t ∧ va_F (fun q => base ≤ q) st t
/-- a method answers, and leaves the world, as a function says -/
def CS (l : Launch) (D : va_G) (cA : Nat → ClassId) (base b d : Nat) (y : MethodName) (bytes : ByteArray) (maxL : Nat) (ret : Option FieldType) (F : Orc) : Prop :=
  ∀ (as : List Value) (w : XW) (o : XO), F as w = some o → w.length ≤ o.2.length ∧ gs w ≤ gs o.2 ∧ o.2[0]? = w[0]? ∧
    ∀ mc ms : Nat, o.2.length = mc + w.length → gs o.2 = ms + gs w →
      Met l y (.code y bytes maxL ret :: tblG) { frames := d, cells := mc, slots := ms, locals := 100 * d } (va_Pc (as.map (xv base b)) (XR D cA base b w)) (QX D cA base b o) mc ms (fun q => base ≤ q)
theorem XR.len {D : va_G} {cA : Nat → ClassId} {base b : Nat} {w : XW} {U : State} (h : XR D cA base b w U) : 0 < w.length := by
  obtain ⟨xs, h0, -⟩ := h.2.2.1
  exact (List.getElem?_eq_some_iff.mp h0).1
theorem xw_size {D : va_G} {cA : Nat → ClassId} {base b : Nat} {w : XW} {H : Heap} (hP : va_P D vwCl (xw base b cA w) H) (h0 : base ≤ H.size) (hl : 0 < w.length) : base + w.length ≤ H.size + 1 := by
  by_cases h : w.length = 1
  · omega
  · obtain ⟨k, hk⟩ : ∃ k, w.length = k + 2 := ⟨w.length - 2, by omega⟩
    have h2 : w[k + 1]? = some (w[k + 1]'(by omega)) := List.getElem?_eq_getElem _
    have h3 := (hP k _ (xw_get h2)).lt
    simp only at h3
    omega
end
section
/-! ===== the instructions over small worlds ===== -/
def lk {α : Type} : List (Nat × α) → Nat → Option α
  | [], _ => none
  | (j, v) :: r, i => bif j == i then some v else lk r i
theorem lk_mem {α : Type} {l : List (Nat × α)} {i : Nat} {v : α} (h : lk l i = some v) : (i, v) ∈ l := by
  induction l with
  | nil => cases h
  | cons q r ih =>
    obtain ⟨j, u⟩ := q
    unfold lk at h
    cases hj : j == i with
    | true =>
      rw [hj] at h
      cases h
      rw [eq_of_beq hj]
      exact List.mem_cons_self
    | false =>
      rw [hj] at h
      exact List.mem_cons_of_mem _ (ih h)
/-- a place that a jump goes to -/
def tgo (pc : Nat) (off : Int) (k : Nat → Option XO) : Option XO := match (pc : Int) + off with
  | .ofNat t => k t
  | .negSucc _ => none
def swi (pc : Nat) (d : Int) (x : Int32) (k : Nat → Option XO) : List (Int × Int) → Option XO
  | [] => tgo pc d k
  | (a, o) :: r => if x = Int32.ofInt a then tgo pc o k else swi pc d x k r
def swOk (ps : List (Int × Int)) : Bool := ps.all (fun q => decide (-2147483648 ≤ q.1) && decide (q.1 < 2147483648)) && (ps.zip (ps.drop 1)).all (fun (a, next) => a.1 < next.1)
def oInit : Orc := fun as w => match as with
  | [.ref _] => some (none, w)
  | _ => none
def oCopy : Orc := fun as w => match as with
  | [.ref o, .int i, .ref o2, .int j, .int n] => (sC w o i o2 j n).map (fun w' => (none, w'))
  | _ => none
def oMax : Orc := fun as w => match as with
  | [.int x, .int y] => some (some (.int (if x < y then y else x)), w)
  | _ => none
def oMin : Orc := fun as w => match as with
  | [.int x, .int y] => some (some (.int (if y < x then y else x)), w)
  | _ => none
/-- an operation: what a method is beside its code: fields, classes, constants, calls; ints that are booleans -/
def callK (n rk : Nat) (F : Orc) (k : List Value → XW → Option XO) (st : List Value) (w : XW) : Option XO :=
  if n ≤ st.length ∧ (st.drop n).length ≤ 8 ∧ ((st.drop n).length ≤ 4 ∨ rk = 3) then
    (if rk = 1 ∨ rk = 3 then cI (F (st.take n).reverse w) (fun x w' => k (.int x :: st.drop n) w')
     else if rk = 2 then cL (F (st.take n).reverse w) (fun x w' => k (.long x :: st.drop n) w')
     else cV (F (st.take n).reverse w) (fun w' => k (st.drop n) w'))
  else none
def bin (f : Int32 → Int32 → Int32) (k : List Value → Option XO) (st : List Value) : Option XO := match st with
  | .int y :: .int x :: r => k (.int (f x y) :: r)
  | _ => none
/-- a boolean answer -/
def retZ (x : Int32) (w : XW) : Option XO := if x = 0 then some (some (.int 0), w) else if x = 1 then some (some (.int 1), w) else none
def un (f : Int32 → Int32) (k : List Value → Option XO) (st : List Value) : Option XO := match st with
  | .int x :: r => k (.int (f x) :: r)
  | _ => none
def opK (nL rz : Nat) (fl : List (Nat × Nat × Nat × Nat)) (nl : List (Nat × Nat × List Value)) (kl : List (Nat × Int32)) (k2 : List (Nat × Int64)) (mv ms mi : List (Nat × Nat × Nat × Orc)) (pc : Nat) (K : Kont) (ls : XL) (st : List Value) (w : XW) : Instr → Option XO
  | .iconst n => K (pc + 1) ls (.int (Int32.ofInt n) :: st) w
  | .bipush n => K (pc + 2) ls (.int (Int8.ofInt n).toInt32 :: st) w
  | .sipush n => K (pc + 3) ls (.int (Int16.ofInt n).toInt32 :: st) w
  | .lconst n => K (pc + 1) ls (.long (Int64.ofNat (n : Nat)) :: st) w
  | .ldc i => (lk kl i).bind fun v => K (pc + 2) ls (.int v :: st) w
  | .ldc_w i => (lk kl i).bind fun v => K (pc + 3) ls (.int v :: st) w
  | .ldc2_w i => (lk k2 i).bind fun v => K (pc + 3) ls (.long v :: st) w
  | .iload_n n => match xL ls n with | some (.int x) => K (pc + 1) ls (.int x :: st) w | _ => none
  | .iload n => match xL ls n with | some (.int x) => K (pc + 2) ls (.int x :: st) w | _ => none
  | .lload_n n => match xL ls n with | some (.long x) => K (pc + 1) ls (.long x :: st) w | _ => none
  | .lload n => match xL ls n with | some (.long x) => K (pc + 2) ls (.long x :: st) w | _ => none
  | .aload_n n => match xL ls n with | some (.ref x) => K (pc + 1) ls (.ref x :: st) w | _ => none
  | .aload n => match xL ls n with | some (.ref x) => K (pc + 2) ls (.ref x :: st) w | _ => none
  | .istore_n n => match st with | .int x :: r => if (n : Nat) < nL then K (pc + 1) (xst ls n (.int x)) r w else none | _ => none
  | .istore n => match st with | .int x :: r => if n < nL then K (pc + 2) (xst ls n (.int x)) r w else none | _ => none
  | .lstore_n n => match st with | .long x :: r => if (n : Nat) + 1 < nL then K (pc + 1) (xst2 ls n (.long x)) r w else none | _ => none
  | .lstore n => match st with | .long x :: r => if n + 1 < nL then K (pc + 2) (xst2 ls n (.long x)) r w else none | _ => none
  | .astore_n n => match st with | .ref x :: r => if (n : Nat) < nL then K (pc + 1) (xst ls n (.ref x)) r w else none | _ => none
  | .astore n => match st with | .ref x :: r => if n < nL then K (pc + 2) (xst ls n (.ref x)) r w else none | _ => none
  | .iinc n v => match xL ls n with | some (.int x) => if n < nL then K (pc + 3) (xst ls n (.int (x + Int32.ofInt v))) st w else none | _ => none
  | .iadd => bin (fun x y => x + y) (fun s => K (pc + 1) ls s w) st
  | .isub => bin (fun x y => x - y) (fun s => K (pc + 1) ls s w) st
  | .imul => bin (fun x y => x * y) (fun s => K (pc + 1) ls s w) st
  | .iand => bin (fun x y => x &&& y) (fun s => K (pc + 1) ls s w) st
  | .ior => bin (fun x y => x ||| y) (fun s => K (pc + 1) ls s w) st
  | .ixor => bin (fun x y => x ^^^ y) (fun s => K (pc + 1) ls s w) st
  | .ishl => bin (fun x y => x <<< (y &&& 31)) (fun s => K (pc + 1) ls s w) st
  | .ishr => bin (fun x y => x >>> (y &&& 31)) (fun s => K (pc + 1) ls s w) st
  | .iushr => bin (fun x y => (x.toUInt32 >>> (y.toUInt32 &&& Int32.toUInt32 31)).toInt32) (fun s => K (pc + 1) ls s w) st
  | .idiv => match st with | .int y :: .int x :: r => if y = 0 then none else K (pc + 1) ls (.int (x / y) :: r) w | _ => none
  | .irem => match st with | .int y :: .int x :: r => if y = 0 then none else K (pc + 1) ls (.int (x - x / y * y) :: r) w | _ => none
  | .ineg => un (fun x => -x) (fun s => K (pc + 1) ls s w) st
  | .i2b => un (fun x => x.toInt8.toInt32) (fun s => K (pc + 1) ls s w) st
  | .i2s => un (fun x => x.toInt16.toInt32) (fun s => K (pc + 1) ls s w) st
  | .i2l => match st with | .int x :: r => K (pc + 1) ls (.long x.toInt64 :: r) w | _ => none
  | .ldiv => match st with | .long y :: .long x :: r => if y = 0 then none else K (pc + 1) ls (.long (x / y) :: r) w | _ => none
  | .lrem => match st with | .long y :: .long x :: r => if y = 0 then none else K (pc + 1) ls (.long (x - x / y * y) :: r) w | _ => none
  | .lcmp => match st with | .long y :: .long x :: r => K (pc + 1) ls (.int (lg_cmp x y) :: r) w | _ => none
  | .dup => match st with | v :: r => if v.category = 1 then K (pc + 1) ls (v :: v :: r) w else none | _ => none
  | .dup2 => match st with | v :: u :: r => if v.category = 1 ∧ u.category = 1 then K (pc + 1) ls (v :: u :: v :: u :: r) w else none | _ => none
  | .pop => match st with | v :: r => if v.category = 1 then K (pc + 1) ls r w else none | _ => none
  | .goto off => tgo pc off fun t => K t ls st w
  | .ifCond c off => match st with
    | .int x :: r => match c with
      | .eq => if x = 0 then tgo pc off (fun t => K t ls r w) else K (pc + 3) ls r w
      | .ne => if x = 0 then K (pc + 3) ls r w else tgo pc off (fun t => K t ls r w)
      | .lt => if x < 0 then tgo pc off (fun t => K t ls r w) else K (pc + 3) ls r w
      | .ge => if x < 0 then K (pc + 3) ls r w else tgo pc off (fun t => K t ls r w)
      | .gt => if 0 < x then tgo pc off (fun t => K t ls r w) else K (pc + 3) ls r w
      | .le => if 0 < x then K (pc + 3) ls r w else tgo pc off (fun t => K t ls r w)
    | _ => none
  | .if_icmp c off => match st with
    | .int y :: .int x :: r => match c with
      | .eq => if x = y then tgo pc off (fun t => K t ls r w) else K (pc + 3) ls r w
      | .ne => if x = y then K (pc + 3) ls r w else tgo pc off (fun t => K t ls r w)
      | .lt => if x < y then tgo pc off (fun t => K t ls r w) else K (pc + 3) ls r w
      | .ge => if x < y then K (pc + 3) ls r w else tgo pc off (fun t => K t ls r w)
      | .gt => if y < x then tgo pc off (fun t => K t ls r w) else K (pc + 3) ls r w
      | .le => if y < x then K (pc + 3) ls r w else tgo pc off (fun t => K t ls r w)
    | _ => none
  | .tableswitch d lo hi offs => match st with
    | .int x :: r => if hi = lo + (offs.size : Int) - 1 ∧ -2147483648 ≤ lo ∧ hi < 2147483648 then swi pc d x (fun t => K t ls r w) (offs.toList.mapIdx fun i o => (lo + (i : Int), o)) else none
    | _ => none
  | .lookupswitch d ps => match st with
    | .int x :: r => if swOk ps.toList = true then swi pc d x (fun t => K t ls r w) ps.toList else none
    | _ => none
  | .getfield i => (lk fl i).bind fun f => match st with
    | .ref o :: r => if f.2.2 < 10 then (gI w o f.1 f.2.1).bind (fun x => K (pc + 3) ls (.int x :: r) w) else (gR w o f.1 f.2.1).bind (fun x => K (pc + 3) ls (.ref x :: r) w)
    | _ => none
  | .putfield i => (lk fl i).bind fun f => match st with
    | .int x :: .ref o :: r => if f.2.2 = 1 then (pF w o f.1 f.2.1 (.int x)).bind (fun w' => K (pc + 3) ls r w') else none
    | .ref x :: .ref o :: r => if f.2.2 = 12 then (pF w o f.1 f.2.1 (.ref x)).bind (fun w' => K (pc + 3) ls r w') else none
    | _ => none
  | .iaload => match st with | .int i :: .ref o :: r => (aI w o i).bind (fun x => K (pc + 1) ls (.int x :: r) w) | _ => none
  | .iastore => match st with | .int x :: .int i :: .ref o :: r => (sI w o i x).bind (fun w' => K (pc + 1) ls r w') | _ => none
  | .arraylength => match st with | .ref o :: r => (aL w o).bind (fun x => K (pc + 1) ls (.int x :: r) w) | _ => none
  | .newarray t => match st with
    | .int n :: r => match t with
      | .int => if 0 ≤ n ∧ n ≤ 1000 ∧ 0 < w.length then K (pc + 2) ls (.ref w.length :: r) (w ++ [.inr (0, List.replicate n.toNatClampNeg 0)]) else none
      | _ => none
    | _ => none
  | .new i => (lk nl i).bind fun f => if 0 < w.length then (bif f.1 == 99 then none else K (pc + 3) ls (.ref w.length :: st) (w ++ [.inl (f.1, f.2)])) else none
  | .multianewarray i d => (lk nl i).bind fun f => bif f.1 == 99 && d == 2 then (match st with
      | .int k :: .int n :: r => if 0 ≤ n ∧ n ≤ 1000 ∧ 0 ≤ k ∧ k ≤ 1000 ∧ 0 < w.length ∧ w.length ≤ 1000 then K (pc + 4) ls (.ref w.length :: r) (w ++ mkA w.length n k) else none
      | _ => none) else none
  | .aaload => match st with | .int i :: .ref o :: r => (aR w o i).bind (fun x => K (pc + 1) ls (.ref x :: r) w) | _ => none
  | .invokevirtual i => (lk mv i).bind fun f => callK f.1 f.2.1 f.2.2 (fun s w' => K (pc + 3) ls s w') st w
  | .invokestatic i => (lk ms i).bind fun f => callK f.1 f.2.1 f.2.2 (fun s w' => K (pc + 3) ls s w') st w
  | .invokespecial i => (lk mi i).bind fun f => callK f.1 f.2.1 f.2.2 (fun s w' => K (pc + 3) ls s w') st w
  | .ireturn => match st with
    | [.int x] => if rz = 0 then some (some (.int x), w) else if rz = 1 then retZ x w else none
    | _ => none
  | .lreturn => match st with | [.long x] => if rz = 2 then some (some (.long x), w) else none | _ => none
  | .return_ => match st with | [] => if rz = 3 then some (none, w) else none | _ => none
  | _ => none
def okLen (ins : Instr) (len : Nat) : Bool := match ins with
  | .bipush _ | .iload _ | .lload _ | .aload _ | .istore _ | .lstore _ | .astore _ | .ldc _ | .newarray _ => len == 2
  | .sipush _ | .ldc_w _ | .ldc2_w _ | .iinc .. | .goto _ | .ifCond .. | .if_icmp .. | .getfield _ | .putfield _ | .new _ | .invokevirtual _ | .invokestatic _ | .invokespecial _ => len == 3
  | .multianewarray .. => len == 4
  | .tableswitch .. | .lookupswitch .. => true
  | _ => len == 1
def okAt (pc : Nat) (ins : Instr) (len : Nat) : Bool := okLen ins len && (match ins with
  | .ifCond _ off | .if_icmp _ off => decide (0 ≤ (pc : Int) + off)
  | _ => true)
/-- a method's code as a table; run from a place to the next cut -/
def opT (T : List (Nat × Instr)) (op : Nat → Kont → XL → List Value → XW → Instr → Option XO) (pc : Nat) (K : Kont) (ls : XL) (st : List Value) (w : XW) : Option XO := (lk T pc).bind fun i => op pc K ls st w i
def ev (T : List (Nat × Instr)) (op : Nat → Kont → XL → List Value → XW → Instr → Option XO) (cut : List Nat) (K : Kont) : Nat → Kont
  | 0 => fun _ _ _ _ => none
  | n + 1 => fun pc ls st w => opT T op pc (fun pc' ls' st' w' => bif cut.elem pc' then K pc' ls' st' w' else ev T op cut K n pc' ls' st' w') ls st w
end
section
/-! ===== the instructions stand for the machine's ===== -/
section SN
variable {p : Program} {l : Launch} {e : Env} {R : Room} {s : State} {m : MethodId} {args : Array Value} {below : List Frame} {meth : Method} {c : Code} {Q : State → Prop}
variable {D : va_G} {cA : Nat → ClassId} {base b nL : Nat} {cc : ByteArray} {w0 : XW} {o : XO}
theorem W.sized {H : Heap} {locs : List Loc} {cells slots : Nat} {g : JFrame} (k : s.heap.size ≤ H.size → H.size ≤ s.heap.size + cells → W p l e R s m args below meth c H locs cells slots Q g) : W p l e R s m args below meth c H locs cells slots Q g := by
  intro T hT X
  have h := X.same
  have h1 : (T.setVm s.vm).heap = H := hT
  exact k (by have := h.2.1; rw [h1] at this; exact this) (by have := h.2.2.1; rw [h1] at this; exact this) T hT X
/-- from a place, with locals, stack and world, the method comes to its end -/
def SND (p : Program) (l : Launch) (e : Env) (R : Room) (s : State) (m : MethodId) (args : Array Value) (below : List Frame) (meth : Method) (c : Code) (Q : State → Prop) (D : va_G) (cA : Nat → ClassId) (base b nL : Nat) (w0 : XW) (o : XO) (pc : Nat) (ls : XL) (st : List Value) (w : XW) : Prop :=
  w.length ≤ o.2.length ∧ gs w ≤ gs o.2 ∧ o.2[0]? = w[0]? ∧
  ∀ (H : Heap) (locs : List Loc) (cells slots : Nat) (LS : Array Slot), lv_has LS nL (xl base b ls) → va_P D vwCl (xw base b cA w) H → va_S (fun q => base ≤ q) s.heap H locs → w[0]? = w0[0]? → cells + w0.length = w.length → slots + gs w0 = gs w → o.2.length ≤ R.cells + w0.length → gs o.2 ≤ R.slots + gs w0 →
    W p l e R s m args below meth c H locs cells slots Q (F0 m pc LS (st.map (xv base b)))
def rOK (cc : ByteArray) (rz pc : Nat) (v : Option Value) : Prop := match v with
  | some (.int x) => decode cc pc = .ok (.ireturn, 1) ∧ (rz = 0 ∨ (rz = 1 ∧ (x = 0 ∨ x = 1)))
  | some (.long x) => decode cc pc = .ok (.lreturn, 1) ∧ rz = 2
  | none => decode cc pc = .ok (.return_, 1) ∧ rz = 3
  | _ => False
/-- what holds through a whole method -/
def ACT (p : Program) (l : Launch) (e : Env) (R : Room) (s : State) (m : MethodId) (args : Array Value) (below : List Frame) (meth : Method) (c : Code) (Q : State → Prop) (D : va_G) (cA : Nat → ClassId) (base b nL d rz : Nat) (own : String) (ini : Bool) (cc : ByteArray) (w0 : XW) (o : XO) : Prop :=
  (p.tables.exec = Jvm.exec ∧ c.code = cc ∧ c.maxLocals = nL ∧ s.vm.findClass own = some m.cls) ∧ (∀ w ∈ tblG, w.before args s = true) ∧ XR D cA base b w0 s ∧ (ini = true → meth.name = "<init>") ∧ base ≤ s.heap.size ∧ (d + 1 ≤ R.frames ∧ 100 * d + 100 ≤ R.locals) ∧
  ∀ (H : Heap) (locs : List Loc) (cells slots : Nat) (LS : Array Slot) (pc : Nat), va_P D vwCl (xw base b cA o.2) H → va_S (fun q => base ≤ q) s.heap H locs → o.2[0]? = w0[0]? → cells + w0.length = o.2.length → slots + gs w0 = gs o.2 → o.2.length ≤ R.cells + w0.length → gs o.2 ≤ R.slots + gs w0 →
    rOK cc rz pc o.1 →
    W p l e R s m args below meth c H locs cells slots Q (F0 m pc LS ((o.1.map (xv base b)).toList))
abbrev KS (p : Program) (l : Launch) (e : Env) (R : Room) (s : State) (m : MethodId) (args : Array Value) (below : List Frame) (meth : Method) (c : Code) (Q : State → Prop) (D : va_G) (cA : Nat → ClassId) (base b nL : Nat) (w0 : XW) (o : XO) (K : Kont) : Prop :=
  ∀ pc ls st w, K pc ls st w = some o → SND p l e R s m args below meth c Q D cA base b nL w0 o pc ls st w
/-- a step that leaves the world -/
theorem SND.step {pc pc' : Nat} {ls ls' : XL} {st st' : List Value} {w : XW} (h : SND p l e R s m args below meth c Q D cA base b nL w0 o pc' ls' st' w)
    (k : ∀ (H : Heap) (locs : List Loc) (cells slots : Nat) (LS : Array Slot), lv_has LS nL (xl base b ls) → va_P D vwCl (xw base b cA w) H → va_S (fun q => base ≤ q) s.heap H locs → w[0]? = w0[0]? →
      (∀ LS', lv_has LS' nL (xl base b ls') → W p l e R s m args below meth c H locs cells slots Q (F0 m pc' LS' (st'.map (xv base b)))) → W p l e R s m args below meth c H locs cells slots Q (F0 m pc LS (st.map (xv base b)))) :
    SND p l e R s m args below meth c Q D cA base b nL w0 o pc ls st w := by
  obtain ⟨h1, h2, h3, h4⟩ := h
  exact ⟨h1, h2, h3, fun H locs cells slots LS hl hP hS h0 hc hs hr1 hr2 => k H locs cells slots LS hl hP hS h0 fun LS' hl' => h4 H locs cells slots LS' hl' hP hS h0 hc hs hr1 hr2⟩
/-- a step that writes: the locals stay -/
theorem SND.put {pc pc' : Nat} {ls : XL} {st st' : List Value} {w w' : XW} (h : SND p l e R s m args below meth c Q D cA base b nL w0 o pc' ls st' w') (hl : w'.length = w.length) (hg : gs w' = gs w) (h0 : w'[0]? = w[0]?)
    (k : ∀ (H : Heap) (locs : List Loc) (cells slots : Nat) (LS : Array Slot), lv_has LS nL (xl base b ls) → va_P D vwCl (xw base b cA w) H → va_S (fun q => base ≤ q) s.heap H locs → w[0]? = w0[0]? →
      (∀ H1 locs1, va_P D vwCl (xw base b cA w') H1 → va_S (fun q => base ≤ q) s.heap H1 locs1 → W p l e R s m args below meth c H1 locs1 cells slots Q (F0 m pc' LS (st'.map (xv base b)))) → W p l e R s m args below meth c H locs cells slots Q (F0 m pc LS (st.map (xv base b)))) :
    SND p l e R s m args below meth c Q D cA base b nL w0 o pc ls st w := by
  obtain ⟨h1, h2, h3, h4⟩ := h
  exact ⟨by omega, by omega, h3.trans h0, fun H locs cells slots LS hl' hP hS hz hc hs hr1 hr2 => k H locs cells slots LS hl' hP hS hz fun H1 locs1 hP1 hS1 => h4 H1 locs1 cells slots LS hl' hP1 hS1 (h0.trans hz) (by omega) (by omega) hr1 hr2⟩
end SN
end
section
/-! ===== what a method's tables must say ===== -/
def fOK (own : String) (ini : Bool) (q : Nat × Nat × Nat × Nat) : Prop :=
  ∃ (C : String) (T : u_T) (N : Nat) (ty : Nat → FieldType) (host : String), vwCl[q.2.1]? = some (C, T, N) ∧ q.2.2.1 < N ∧ (∀ w ∈ u_ws C T N, w ∈ tblG) ∧ (∀ k, k < N → parseFieldDescriptor (T k).2.2.1 = some (ty k)) ∧
    (∀ a, a < N → ∀ b, b < N → a ≠ b → (T a).2.1 ≠ (T b).2.1) ∧ (T q.2.2.1).1 = C ∧
    ((Jvm.Cond.fieldLink own q.1 C (T q.2.2.1).2.1 (T q.2.2.1).2.2.1) ∈ tblG ∨ (Jvm.Cond.fieldLinkNest own q.1 C (T q.2.2.1).2.1 (T q.2.2.1).2.2.1 host) ∈ tblN) ∧
    (q.2.2.2 = 1 → (T q.2.2.1).2.2.2 = false ∧ ty q.2.2.1 = .int) ∧
    (q.2.2.2 = 12 → (T q.2.2.1).2.2.2 = true ∧ own = C ∧ ini = true ∧ ((∃ n, ty q.2.2.1 = .object n) ∨ ∃ t, ty q.2.2.1 = .array t) ∧ (Jvm.Cond.fieldLink own q.1 C (T q.2.2.1).2.1 (T q.2.2.1).2.2.1) ∈ tblG)
def nOK (own : String) (q : Nat × Nat × List Value) : Prop :=
  (q.2.1 = 99 ∧ Jvm.Cond.classLink own q.1 "[[I" ∈ tblG ∧ Jvm.Cond.arrayOver (.array .int) ∈ tblN) ∨
  ∃ (C : String) (T : u_T) (N : Nat) (ty : Nat → FieldType), vwCl[q.2.1]? = some (C, T, N) ∧ (∀ w ∈ u_ws C T N, w ∈ tblG) ∧ (∀ k, k < N → parseFieldDescriptor (T k).2.2.1 = some (ty k)) ∧
    Jvm.Cond.classLink own q.1 C ∈ tblG ∧ Jvm.Cond.instantiable C N ∈ tblG ∧ Jvm.Cond.initialized C ∈ tblG ∧ q.2.2.length = N ∧ (∀ j, j < N → defaultValue (ty j) = vp_V q.2.2 j) ∧ (∀ v ∈ q.2.2, v = .null ∨ v = .int 0)
def pl3 (y : MethodName) (n : Nat) : Prop := y.cls ≠ "java/lang/invoke/MethodHandle" ∧ y.cls ≠ "java/lang/invoke/VarHandle" ∧ (parseMethodDescriptor y.desc).map (fun d => d.parameters.length) = some n
def vOK (l : Launch) (D : va_G) (cA : Nat → ClassId) (base b d : Nat) (own : String) (q : Nat × Nat × Nat × Orc) : Prop :=
  q.2.2.1 ≠ 3 ∧ ∃ (y : MethodName) (bytes : ByteArray) (maxL : Nat) (ret : Option FieldType) (d' : Nat) (host : String) (ci : Nat) (T : u_T) (N n : Nat),
    CS l D cA base b d' y bytes maxL ret q.2.2.2 ∧ d' ≤ d ∧ maxL ≤ 60 ∧ q.2.1 = n + 1 ∧ (∀ as w o, q.2.2.2 as w = some o → ∃ a r, as = .ref a :: r ∧ r.length = n ∧ isO w a ci = true) ∧
    vwCl[ci]? = some (y.cls, T, N) ∧ Jvm.Cond.code y bytes maxL ret ∈ tblG ∧ Jvm.Cond.initialized y.cls ∈ tblG ∧ Jvm.Cond.instanceMethod y ∈ tblG ∧ Jvm.Cond.selects y.cls y y ∈ tblG ∧ pl3 y n ∧
    (Jvm.Cond.methodLink own q.1 y ∈ tblG ∨ Jvm.Cond.methodLinkNest own q.1 y host ∈ tblN)
def sOK (l : Launch) (D : va_G) (cA : Nat → ClassId) (base b d : Nat) (own : String) (q : Nat × Nat × Nat × Orc) : Prop :=
  (q.2.2.1 ≠ 3 ∧ ∃ (y : MethodName) (bytes : ByteArray) (maxL : Nat) (ret : Option FieldType) (d' : Nat) (host : String),
    CS l D cA base b d' y bytes maxL ret q.2.2.2 ∧ d' ≤ d ∧ maxL ≤ 60 ∧
    Jvm.Cond.code y bytes maxL ret ∈ tblG ∧ Jvm.Cond.initialized y.cls ∈ tblG ∧ Jvm.Cond.static y ∈ tblG ∧ pl3 y q.2.1 ∧
    (Jvm.Cond.methodLink own q.1 y ∈ tblG ∨ Jvm.Cond.methodLinkNest own q.1 y host ∈ tblN)) ∨
  (q.2.1 = 5 ∧ q.2.2.1 = 0 ∧ q.2.2.2 = oCopy ∧ Jvm.Cond.methodLink own q.1 arraycopyName ∈ tblG ∧ Jvm.Cond.native arraycopyName ∈ tblG ∧ Jvm.Cond.static arraycopyName ∈ tblG ∧ Jvm.Cond.initialized "java/lang/System" ∈ tblG) ∨
  (q.2.1 = 2 ∧ q.2.2.1 = 3 ∧ q.2.2.2 = oMax ∧ Jvm.Cond.methodLink own q.1 Lib.Math.max.name ∈ tblG ∧ Jvm.Cond.static Lib.Math.max.name ∈ tblG ∧ Jvm.Cond.initialized "java/lang/Math" ∈ tblG ∧ Jvm.Cond.code Lib.Math.max.name Lib.Math.max.code 2 (some .int) ∈ tblG) ∨
  (q.2.1 = 2 ∧ q.2.2.1 = 3 ∧ q.2.2.2 = oMin ∧ Jvm.Cond.methodLink own q.1 Lib.Math.min.name ∈ tblG ∧ Jvm.Cond.static Lib.Math.min.name ∈ tblG ∧ Jvm.Cond.initialized "java/lang/Math" ∈ tblG ∧ Jvm.Cond.code Lib.Math.min.name Lib.Math.min.code 2 (some .int) ∈ tblG)
def iOK (l : Launch) (D : va_G) (cA : Nat → ClassId) (base b d : Nat) (own : String) (q : Nat × Nat × Nat × Orc) : Prop :=
  (q.2.2.1 ≠ 3 ∧ ∃ (y : MethodName) (bytes : ByteArray) (maxL d' : Nat) (host : String) (n : Nat),
    CS l D cA base b d' y bytes maxL none q.2.2.2 ∧ d' ≤ d ∧ maxL ≤ 60 ∧ q.2.1 = n + 1 ∧ (∀ as w o, q.2.2.2 as w = some o → ∃ a r, as = .ref a :: r ∧ r.length = n) ∧ y.name = "<init>" ∧
    Jvm.Cond.code y bytes maxL none ∈ tblG ∧ Jvm.Cond.initialized y.cls ∈ tblG ∧ Jvm.Cond.instanceMethod y ∈ tblG ∧ pl3 y n ∧
    (Jvm.Cond.methodLink own q.1 y ∈ tblG ∨ Jvm.Cond.methodLinkNest own q.1 y host ∈ tblN)) ∨
  (q.2.1 = 1 ∧ q.2.2.1 = 0 ∧ q.2.2.2 = oInit ∧ Jvm.Cond.methodLink own q.1 objectInit ∈ tblG ∧ Jvm.Cond.instanceMethod objectInit ∈ tblG ∧ Jvm.Cond.code objectInit ⟨#[0xb1]⟩ 1 none ∈ tblG)
theorem tgo_of {pc : Nat} {off : Int} {k : Nat → Option XO} {o : XO} (h : tgo pc off k = some o) : ∃ t : Nat, (pc : Int) + off = (t : Int) ∧ k t = some o := by
  unfold tgo at h
  cases ht : (pc : Int) + off with
  | ofNat t => rw [ht] at h; exact ⟨t, rfl, h⟩
  | negSucc t => rw [ht] at h; cases h
theorem cI_of {x : Option XO} {k : Int32 → XW → Option XO} {o : XO} (h : cI x k = some o) : ∃ v w, x = some (some (.int v), w) ∧ k v w = some o := by
  unfold cI at h
  split at h
  next v w => exact ⟨v, w, rfl, h⟩
  next => cases h
theorem cL_of {x : Option XO} {k : Int64 → XW → Option XO} {o : XO} (h : cL x k = some o) : ∃ v w, x = some (some (.long v), w) ∧ k v w = some o := by
  unfold cL at h
  split at h
  next v w => exact ⟨v, w, rfl, h⟩
  next => cases h
theorem cV_of {x : Option XO} {k : XW → Option XO} {o : XO} (h : cV x k = some o) : ∃ w, x = some (none, w) ∧ k w = some o := by
  unfold cV at h
  split at h
  next w => exact ⟨w, rfl, h⟩
  next => cases h
section ST
variable {p : Program} {l : Launch} {e : Env} {R : Room} {s : State} {m : MethodId} {args : Array Value} {below : List Frame} {meth : Method} {c : Code} {Q : State → Prop}
variable {D : va_G} {cA : Nat → ClassId} {base b nL d rz : Nat} {own : String} {ini : Bool} {cc : ByteArray} {w0 : XW} {o : XO}
/-- behind a call -/
theorem SND.call {pc : Nat} {ls : XL} {st rest : List Value} {as : List Value} {w : XW} {v : Option Value} {w' : XW} {F : Orc} {d' maxL : Nat} {y : MethodName} {bytes : ByteArray} {ret : Option FieldType}
    (A : ACT p l e R s m args below meth c Q D cA base b nL d rz own ini cc w0 o) (hC : CS l D cA base b d' y bytes maxL ret F) (hF : F as w = some (v, w'))
    (h : SND p l e R s m args below meth c Q D cA base b nL w0 o (pc + 3) ls (v.toList ++ rest) w')
    (k : ∀ (H : Heap) (locs : List Loc) (cells slots mc ms : Nat) (LS : Array Slot), lv_has LS nL (xl base b ls) → va_P D vwCl (xw base b cA w) H → (∀ U : State, U.heap = H → s.WarmedH U.vm → XR D cA base b w U) →
      cells + mc ≤ R.cells → slots + ms ≤ R.slots →
      Met l y (.code y bytes maxL ret :: tblG) { frames := d', cells := mc, slots := ms, locals := 100 * d' } (va_Pc (as.map (xv base b)) (XR D cA base b w)) (QX D cA base b (v, w')) mc ms (fun q => base ≤ q) →
      va_Run p l e R s m args below meth c H locs cells slots mc ms (F0 m pc LS (st.map (xv base b))) (rest.map (xv base b)) (QX D cA base b (v, w') (as.map (xv base b)).toArray) (fun q => base ≤ q)) :
    SND p l e R s m args below meth c Q D cA base b nL w0 o pc ls st w := by
  obtain ⟨h1, h2, h3, h4⟩ := h
  obtain ⟨c1, c2, c3, c4⟩ := hC as w _ hF
  refine ⟨Nat.le_trans c1 h1, Nat.le_trans c2 h2, h3.trans c3, fun H locs cells slots LS hl hP hS hz hc hs hr1 hr2 => ?_⟩
  obtain ⟨⟨hx, hb, hml, hown⟩, hts, ⟨-, hK, ⟨xs, hx0, hX⟩, hN, hsz, hbb⟩, hini, hbase, hroom, -⟩ := A
  refine W.sized fun z1 z2 => ?_
  have hw0 : 0 < w0.length := (List.getElem?_eq_some_iff.mp hx0).1
  have hwl : 0 < w.length := by omega
  have hXH : va_X b xs.length (fun j => xs.getD j 0) s H := hX.kept (hS.2.1 b (by omega) (by omega))
  have hsize : H.size + 1 = base + w.length := by
    have := xw_size hP (by omega) hwl
    omega
  have hXR : ∀ U : State, U.heap = H → s.WarmedH U.vm → XR D cA base b w U := fun U hU hW => by
    refine ⟨by rw [hU]; exact hP, va_K.moved hW.alike hK, ⟨xs, hz.trans hx0, ?_⟩, fun n hn => tblN_warm hW hn (hN n hn), by rw [hU]; exact hsize, hbb⟩
    rw [hU]
    exact va_X.moved hW.alike hXH
  have c1 : w.length ≤ w'.length := c1
  have c2 : gs w ≤ gs w' := c2
  have h1 : w'.length ≤ o.2.length := h1
  have h2 : gs w' ≤ gs o.2 := h2
  obtain ⟨mc, hmc⟩ : ∃ mc, w'.length = mc + w.length := ⟨w'.length - w.length, by omega⟩
  obtain ⟨ms, hms⟩ : ∃ ms, gs w' = ms + gs w := ⟨gs w' - gs w, by omega⟩
  have hrun := k H locs cells slots mc ms LS hl hP hXR (by omega) (by omega) (c4 mc ms hmc hms)
  intro T hT X
  obtain ⟨v2, st₀, t, T', L, g0, X', hL, e1, e2, ⟨q1, q2, q3⟩, stp⟩ := hrun T hT X
  have hv2 : v2 = v.map (xv base b) := by cases q1; rfl
  subst hv2
  have hH : va_P D vwCl (xw base b cA w') T'.heap := by rw [e1]; exact q2.1
  have hS' : va_S (fun q => base ≤ q) s.heap T'.heap (locs ++ L) := by
    refine ⟨by rw [e1]; exact Nat.le_trans hS.1 (by rw [← g0]; exact q3.1), fun q g1 g2 => ?_, fun q hq => ?_⟩
    · rw [e1, q3.2 q (by rw [g0]; exact Nat.lt_of_lt_of_le g1 hS.1) g2, g0]
      exact hS.2.1 q g1 g2
    · rcases List.mem_append.mp hq with h | h
      · exact hS.2.2 q h
      · exact hL q h
  obtain ⟨t2, a1, b1⟩ := h4 T'.heap (locs ++ L) (cells + mc) (slots + ms) LS hl hH hS' (c3.trans hz) (by omega) (by omega) hr1 hr2 T' rfl X'
  refine ⟨t2, stp t2 ?_, b1⟩
  have : (v.toList ++ rest).map (xv base b) = (v.map (xv base b)).toList ++ rest.map (xv base b) := by cases v <;> rfl
  rw [this] at a1
  exact a1
end ST
end
section
section IN
variable {p : Program} {l : Launch} {e : Env} {R : Room} {s : State} {m : MethodId} {args : Array Value} {below : List Frame} {meth : Method} {c : Code} {Q : State → Prop}
variable {D : va_G} {cA : Nat → ClassId} {base b nL d rz : Nat} {own : String} {ini : Bool} {cc : ByteArray} {w0 : XW} {o : XO}
theorem bin_of {f : Int32 → Int32 → Int32} {k : List Value → Option XO} {st : List Value} {o : XO} (h : bin f k st = some o) : ∃ x y r, st = .int y :: .int x :: r ∧ k (.int (f x y) :: r) = some o := by
  unfold bin at h
  split at h
  next y x r => exact ⟨x, y, r, rfl, h⟩
  next => cases h
theorem un_of {f : Int32 → Int32} {k : List Value → Option XO} {st : List Value} {o : XO} (h : un f k st = some o) : ∃ x r, st = .int x :: r ∧ k (.int (f x) :: r) = some o := by
  unfold un at h
  split at h
  next x r => exact ⟨x, r, rfl, h⟩
  next => cases h
theorem some_of {α : Type} {x : Option α} {k : α → Option XO} {o : XO} (h : x.bind k = some o) : ∃ v, x = some v ∧ k v = some o := by
  cases x with
  | none => cases h
  | some v => exact ⟨v, rfl, h⟩
theorem gF_of {w : XW} {o ci k : Nat} {v : Value} (h : gF w o ci k = some v) : ∃ fs, w[o]? = some (.inl (ci, fs)) ∧ fs[k]? = some v := by
  unfold gF at h
  split at h
  next c fs hc =>
    split at h
    next hh => subst hh; exact ⟨fs, hc, h⟩
    next => cases h
  next => cases h
theorem gI_of {w : XW} {o ci k : Nat} {x : Int32} (h : gI w o ci k = some x) : ∃ fs, w[o]? = some (.inl (ci, fs)) ∧ fs[k]? = some (.int x) := by
  unfold gI at h
  split at h
  next y hy => cases h; exact gF_of hy
  next => cases h
theorem gR_of {w : XW} {o ci k : Nat} {x : Nat} (h : gR w o ci k = some x) : ∃ fs, w[o]? = some (.inl (ci, fs)) ∧ fs[k]? = some (.ref x) := by
  unfold gR at h
  split at h
  next y hy => cases h; exact gF_of hy
  next => cases h
theorem pF_of {w : XW} {o ci k : Nat} {v : Value} {w' : XW} (h : pF w o ci k v = some w') : ∃ fs o', w[o]? = some (.inl (ci, fs)) ∧ k < fs.length ∧ o = o' + 1 ∧ w' = w.set (o' + 1) (.inl (ci, fs.set k v)) := by
  unfold pF at h
  split at h
  next c fs hc =>
    split at h
    next hh =>
      obtain ⟨rfl, h2, h3⟩ := hh
      cases h
      obtain ⟨o', rfl⟩ : ∃ o', o = o' + 1 := ⟨o - 1, by omega⟩
      exact ⟨fs, o', hc, h2, rfl, rfl⟩
    next => cases h
  next => cases h
theorem aI_of {w : XW} {o : Nat} {i x : Int32} (h : aI w o i = some x) : ∃ t xs, w[o]? = some (.inr (t, xs)) ∧ (t = 0 ∨ o = 0) ∧ vp_in i xs.length ∧ xs.getD i.toNatClampNeg 0 = x := by
  unfold aI at h
  split at h
  next t xs hc =>
    split at h
    next hh =>
      refine ⟨t, xs, hc, hh.1, ?_, ?_⟩
      · rintro (q | q)
        · exact absurd hh.2 (Int32.not_le.mpr q)
        · have := (List.getElem?_eq_some_iff.mp h).1; omega
      · rw [List.getD_eq_getElem?_getD, h]; rfl
    next => cases h
  next => cases h
theorem aZ_of {w : XW} {o : Nat} {i x : Int32} (h : aZ w o i = some x) : ∃ xs o', o = o' + 1 ∧ w[o]? = some (.inr (1, xs)) ∧ vp_in i xs.length ∧ xs.getD i.toNatClampNeg 0 = x := by
  unfold aZ at h
  split at h
  next t xs hc =>
    split at h
    next hh =>
      obtain ⟨rfl, h2, h3⟩ := hh
      refine ⟨xs, o - 1, by omega, hc, ?_, ?_⟩
      · rintro (q | q)
        · exact absurd h3 (Int32.not_le.mpr q)
        · have := (List.getElem?_eq_some_iff.mp h).1; omega
      · rw [List.getD_eq_getElem?_getD, h]; rfl
    next => cases h
  next => cases h
theorem sI_of {w : XW} {o : Nat} {i x : Int32} {w' : XW} (h : sI w o i x = some w') : ∃ xs o', o = o' + 1 ∧ w[o]? = some (.inr (0, xs)) ∧ vp_in i xs.length ∧ w' = w.set (o' + 1) (.inr (0, xs.set i.toNatClampNeg x)) := by
  unfold sI at h
  split at h
  next t xs hc =>
    split at h
    next hh =>
      obtain ⟨rfl, h2, h3, h4⟩ := hh
      cases h
      obtain ⟨o', rfl⟩ : ∃ o', o = o' + 1 := ⟨o - 1, by omega⟩
      refine ⟨xs, o', rfl, hc, ?_, rfl⟩
      rintro (q | q)
      · exact absurd h3 (Int32.not_le.mpr q)
      · omega
    next => cases h
  next => cases h
theorem sZ_of {w : XW} {o : Nat} {i x : Int32} {w' : XW} (h : sZ w o i x = some w') : ∃ xs o', o = o' + 1 ∧ w[o]? = some (.inr (1, xs)) ∧ vp_in i xs.length ∧ w' = w.set (o' + 1) (.inr (1, xs.set i.toNatClampNeg (x &&& 1))) := by
  unfold sZ at h
  split at h
  next t xs hc =>
    split at h
    next hh =>
      obtain ⟨rfl, h2, h3, h4⟩ := hh
      cases h
      obtain ⟨o', rfl⟩ : ∃ o', o = o' + 1 := ⟨o - 1, by omega⟩
      refine ⟨xs, o', rfl, hc, ?_, rfl⟩
      rintro (q | q)
      · exact absurd h3 (Int32.not_le.mpr q)
      · omega
    next => cases h
  next => cases h
theorem getD_set {xs : List Int32} {k : Nat} (h : k < xs.length) (x : Int32) : (fun j => (xs.set k x).getD j 0) = upd (fun j => xs.getD j 0) k x := by
  funext j
  simp only [upd, List.getD_eq_getElem?_getD, List.getElem?_set]
  by_cases hj : k = j
  · subst hj
    simp [h]
  · have hj' : ¬ j = k := fun q => hj q.symm
    simp [hj, hj']
theorem swi_of {pc : Nat} {d : Int} {x : Int32} {k : Nat → Option XO} {o : XO} : ∀ (ps : List (Int × Int)), (∀ q ∈ ps, -2147483648 ≤ q.1 ∧ q.1 < 2147483648) → swi pc d x k ps = some o → ∃ t : Nat, (pc : Int) + Op.lookupswitch.offset ps d x.toInt = (t : Int) ∧ k t = some o := by
  intro ps
  induction ps with
  | nil => intro _ h; exact tgo_of h
  | cons q r ih =>
    obtain ⟨a, f⟩ := q
    intro hb h
    have ha := hb (a, f) List.mem_cons_self
    have ht : (Int32.ofInt a).toInt = a := Int32.toInt_ofInt_of_le (by have := ha.1; simpa using this) (by have := ha.2; simpa using this)
    unfold swi at h
    rw [Op.lookupswitch.offset_cons]
    by_cases hx : x = Int32.ofInt a
    · rw [if_pos hx] at h
      rw [if_pos (by rw [hx, ht])]
      exact tgo_of h
    · rw [if_neg hx] at h
      rw [if_neg (fun z => hx (Int32.toInt_inj.mp (by rw [ht]; exact z.symm)))]
      exact ih (fun q hq => hb q (List.mem_cons_of_mem _ hq)) h
end IN
end
section
section OK
variable {p : Program} {l : Launch} {e : Env} {R : Room} {s : State} {m : MethodId} {args : Array Value} {below : List Frame} {meth : Method} {c : Code} {Q : State → Prop}
variable {D : va_G} {cA : Nat → ClassId} {base b nL d rz : Nat} {own : String} {ini : Bool} {cc : ByteArray} {w0 : XW} {o : XO}
set_option maxHeartbeats 4000000 in
theorem opK_plain {fl : List (Nat × Nat × Nat × Nat)} {nl : List (Nat × Nat × List Value)} {kl : List (Nat × Int32)} {k2 : List (Nat × Int64)} {mv ms mi : List (Nat × Nat × Nat × Orc)}
    (hkl : ∀ q ∈ kl, Jvm.Cond.constant own q.1 q.2 ∈ tblG) (hk2 : ∀ q ∈ k2, Jvm.Cond.constantLong own q.1 q.2 ∈ tblG)
    (A : ACT p l e R s m args below meth c Q D cA base b nL d rz own ini cc w0 o) {K : Kont} (hK : KS p l e R s m args below meth c Q D cA base b nL w0 o K)
    {pc : Nat} {ins : Instr} {len : Nat} (hdg : decode cc pc = .ok (ins, len)) (hat : okAt pc ins len = true) {ls : XL} {st : List Value} {w : XW}
    (hn : match ins with | .getfield _ | .putfield _ | .iaload | .iastore | .arraylength | .newarray _ | .multianewarray .. | .aaload | .new _ | .invokevirtual _ | .invokestatic _ | .invokespecial _ | .ireturn | .lreturn | .return_ | .tableswitch .. | .lookupswitch .. => False | _ => True)
    (h : opK nL rz fl nl kl k2 mv ms mi pc K ls st w ins = some o) : SND p l e R s m args below meth c Q D cA base b nL w0 o pc ls st w := by
  obtain ⟨⟨hx, hb, hml, hown⟩, hts, -⟩ := A
  cases ins <;> first | exact hn.elim | (simp only [opK] at h; cases h; done) | skip
  case iconst n =>
    obtain rfl : len = 1 := by simpa [okLen] using (Bool.and_eq_true_iff.mp hat).1
    exact (hK _ _ _ _ h).step fun H locs cells slots LS hl hP hS h0 k => lv_iconst hx hb hdg rfl (k LS hl)
  case bipush n =>
    obtain rfl : len = 2 := by simpa [okLen] using (Bool.and_eq_true_iff.mp hat).1
    exact (hK _ _ _ _ h).step fun H locs cells slots LS hl hP hS h0 k => lv_bipush hx hb hdg rfl (k LS hl)
  case sipush n =>
    obtain rfl : len = 3 := by simpa [okLen] using (Bool.and_eq_true_iff.mp hat).1
    exact (hK _ _ _ _ h).step fun H locs cells slots LS hl hP hS h0 k => lv_sipush hx hb hdg rfl (k LS hl)
  case lconst n =>
    obtain rfl : len = 1 := by simpa [okLen] using (Bool.and_eq_true_iff.mp hat).1
    exact (hK _ _ _ _ h).step fun H locs cells slots LS hl hP hS h0 k => lv_lconst hx hb hdg rfl (k LS hl)
  case ldc i =>
    obtain rfl : len = 2 := by simpa [okLen] using (Bool.and_eq_true_iff.mp hat).1
    obtain ⟨v, hv, h⟩ := some_of h
    exact (hK _ _ _ _ h).step fun H locs cells slots LS hl hP hS h0 k => lv_ldc hx hb hown (hts _ (hkl _ (lk_mem hv))) hdg (k LS hl)
  case ldc_w i =>
    obtain rfl : len = 3 := by simpa [okLen] using (Bool.and_eq_true_iff.mp hat).1
    obtain ⟨v, hv, h⟩ := some_of h
    exact (hK _ _ _ _ h).step fun H locs cells slots LS hl hP hS h0 k => lv_ldcw hx hb hown (hts _ (hkl _ (lk_mem hv))) hdg (k LS hl)
  case ldc2_w i =>
    obtain rfl : len = 3 := by simpa [okLen] using (Bool.and_eq_true_iff.mp hat).1
    obtain ⟨v, hv, h⟩ := some_of h
    exact (hK _ _ _ _ h).step fun H locs cells slots LS hl hP hS h0 k => lv_ldc2 hx hb hown (hts _ (hk2 _ (lk_mem hv))) hdg (k LS hl)
  case iload_n n =>
    obtain rfl : len = 1 := by simpa [okLen] using (Bool.and_eq_true_iff.mp hat).1
    simp only [opK] at h
    split at h
    next x hx2 => exact (hK _ _ _ _ h).step fun H locs cells slots LS hl hP hS h0 k => lv_iload_n hx hb hdg rfl (xL_at hl hx2) (k LS hl)
    next => cases h
  case iload n =>
    obtain rfl : len = 2 := by simpa [okLen] using (Bool.and_eq_true_iff.mp hat).1
    simp only [opK] at h
    split at h
    next x hx2 => exact (hK _ _ _ _ h).step fun H locs cells slots LS hl hP hS h0 k => lv_iload hx hb hdg (xL_at hl hx2) (k LS hl)
    next => cases h
  case lload_n n =>
    obtain rfl : len = 1 := by simpa [okLen] using (Bool.and_eq_true_iff.mp hat).1
    simp only [opK] at h
    split at h
    next x hx2 => exact (hK _ _ _ _ h).step fun H locs cells slots LS hl hP hS h0 k => lv_lload_n hx hb hdg rfl (xL_at hl hx2) (k LS hl)
    next => cases h
  case lload n =>
    obtain rfl : len = 2 := by simpa [okLen] using (Bool.and_eq_true_iff.mp hat).1
    simp only [opK] at h
    split at h
    next x hx2 => exact (hK _ _ _ _ h).step fun H locs cells slots LS hl hP hS h0 k => lv_lload hx hb hdg (xL_at hl hx2) (k LS hl)
    next => cases h
  case aload_n n =>
    obtain rfl : len = 1 := by simpa [okLen] using (Bool.and_eq_true_iff.mp hat).1
    simp only [opK] at h
    split at h
    next x hx2 => exact (hK _ _ _ _ h).step fun H locs cells slots LS hl hP hS h0 k => lv_aload_n hx hb hdg rfl (xL_at hl hx2) (k LS hl)
    next => cases h
  case aload n =>
    obtain rfl : len = 2 := by simpa [okLen] using (Bool.and_eq_true_iff.mp hat).1
    simp only [opK] at h
    split at h
    next x hx2 => exact (hK _ _ _ _ h).step fun H locs cells slots LS hl hP hS h0 k => lv_aload hx hb hdg (xL_at hl hx2) (k LS hl)
    next => cases h
  case istore_n n =>
    obtain rfl : len = 1 := by simpa [okLen] using (Bool.and_eq_true_iff.mp hat).1
    simp only [opK] at h
    split at h
    next x r =>
      split at h
      next hn2 => exact (hK _ _ _ _ h).step fun H locs cells slots LS hl hP hS h0 k => lv_istore_n hx hb hdg rfl hl hn2 (xst_map base b ls _ (.int x)) (fun ls' hl' => k ls' hl')
      next => cases h
    next => cases h
  case istore n =>
    obtain rfl : len = 2 := by simpa [okLen] using (Bool.and_eq_true_iff.mp hat).1
    simp only [opK] at h
    split at h
    next x r =>
      split at h
      next hn2 => exact (hK _ _ _ _ h).step fun H locs cells slots LS hl hP hS h0 k => lv_istore hx hb hdg hl hn2 (xst_map base b ls _ (.int x)) (fun ls' hl' => k ls' hl')
      next => cases h
    next => cases h
  case lstore_n n =>
    obtain rfl : len = 1 := by simpa [okLen] using (Bool.and_eq_true_iff.mp hat).1
    simp only [opK] at h
    split at h
    next x r =>
      split at h
      next hn2 => exact (hK _ _ _ _ h).step fun H locs cells slots LS hl hP hS h0 k => lv_lstore_n hx hb hdg rfl hl hn2 (xst2_map base b ls _ (.long x)) (fun ls' hl' => k ls' hl')
      next => cases h
    next => cases h
  case lstore n =>
    obtain rfl : len = 2 := by simpa [okLen] using (Bool.and_eq_true_iff.mp hat).1
    simp only [opK] at h
    split at h
    next x r =>
      split at h
      next hn2 => exact (hK _ _ _ _ h).step fun H locs cells slots LS hl hP hS h0 k => lv_lstore hx hb hdg hl hn2 (xst2_map base b ls _ (.long x)) (fun ls' hl' => k ls' hl')
      next => cases h
    next => cases h
  case astore_n n =>
    obtain rfl : len = 1 := by simpa [okLen] using (Bool.and_eq_true_iff.mp hat).1
    simp only [opK] at h
    split at h
    next x r =>
      split at h
      next hn2 => exact (hK _ _ _ _ h).step fun H locs cells slots LS hl hP hS h0 k => lv_astore_n hx hb hdg rfl hl hn2 (xst_map base b ls _ (.ref x)) (fun ls' hl' => k ls' hl')
      next => cases h
    next => cases h
  case astore n =>
    obtain rfl : len = 2 := by simpa [okLen] using (Bool.and_eq_true_iff.mp hat).1
    simp only [opK] at h
    split at h
    next x r =>
      split at h
      next hn2 => exact (hK _ _ _ _ h).step fun H locs cells slots LS hl hP hS h0 k => lv_astore hx hb hdg hl hn2 (xst_map base b ls _ (.ref x)) (fun ls' hl' => k ls' hl')
      next => cases h
    next => cases h
  case iinc n v =>
    obtain rfl : len = 3 := by simpa [okLen] using (Bool.and_eq_true_iff.mp hat).1
    simp only [opK] at h
    split at h
    next x hx2 =>
      split at h
      next hn2 =>
        exact (hK _ _ _ _ h).step fun H locs cells slots LS hl hP hS h0 k => by
          obtain ⟨q, hq⟩ := xL_place (base := base) (b := b) hx2
          exact lv_iinc hx hb hdg hl hq rfl hn2 (xst_map base b ls _ (.int (x + Int32.ofInt v))) (fun ls' hl' => k ls' hl')
      next => cases h
    next => cases h
  case iadd =>
    obtain rfl : len = 1 := by simpa [okLen] using (Bool.and_eq_true_iff.mp hat).1
    simp only [opK] at h
    obtain ⟨x, y, r, rfl, h⟩ := bin_of h
    exact (hK _ _ _ _ h).step fun H locs cells slots LS hl hP hS h0 k => lv_iadd hx hb hdg (k LS hl)
  case isub =>
    obtain rfl : len = 1 := by simpa [okLen] using (Bool.and_eq_true_iff.mp hat).1
    simp only [opK] at h
    obtain ⟨x, y, r, rfl, h⟩ := bin_of h
    exact (hK _ _ _ _ h).step fun H locs cells slots LS hl hP hS h0 k => lv_isub hx hb hdg (k LS hl)
  case imul =>
    obtain rfl : len = 1 := by simpa [okLen] using (Bool.and_eq_true_iff.mp hat).1
    simp only [opK] at h
    obtain ⟨x, y, r, rfl, h⟩ := bin_of h
    exact (hK _ _ _ _ h).step fun H locs cells slots LS hl hP hS h0 k => lv_imul hx hb hdg (k LS hl)
  case iand =>
    obtain rfl : len = 1 := by simpa [okLen] using (Bool.and_eq_true_iff.mp hat).1
    simp only [opK] at h
    obtain ⟨x, y, r, rfl, h⟩ := bin_of h
    exact (hK _ _ _ _ h).step fun H locs cells slots LS hl hP hS h0 k => lv_iand hx hb hdg (k LS hl)
  case ior =>
    obtain rfl : len = 1 := by simpa [okLen] using (Bool.and_eq_true_iff.mp hat).1
    simp only [opK] at h
    obtain ⟨x, y, r, rfl, h⟩ := bin_of h
    exact (hK _ _ _ _ h).step fun H locs cells slots LS hl hP hS h0 k => lv_ior hx hb hdg (k LS hl)
  case ixor =>
    obtain rfl : len = 1 := by simpa [okLen] using (Bool.and_eq_true_iff.mp hat).1
    simp only [opK] at h
    obtain ⟨x, y, r, rfl, h⟩ := bin_of h
    exact (hK _ _ _ _ h).step fun H locs cells slots LS hl hP hS h0 k => lv_ixor hx hb hdg (k LS hl)
  case ishl =>
    obtain rfl : len = 1 := by simpa [okLen] using (Bool.and_eq_true_iff.mp hat).1
    simp only [opK] at h
    obtain ⟨x, y, r, rfl, h⟩ := bin_of h
    exact (hK _ _ _ _ h).step fun H locs cells slots LS hl hP hS h0 k => lv_ishl hx hb hdg (k LS hl)
  case ishr =>
    obtain rfl : len = 1 := by simpa [okLen] using (Bool.and_eq_true_iff.mp hat).1
    simp only [opK] at h
    obtain ⟨x, y, r, rfl, h⟩ := bin_of h
    exact (hK _ _ _ _ h).step fun H locs cells slots LS hl hP hS h0 k => lv_ishr hx hb hdg (k LS hl)
  case iushr =>
    obtain rfl : len = 1 := by simpa [okLen] using (Bool.and_eq_true_iff.mp hat).1
    simp only [opK] at h
    obtain ⟨x, y, r, rfl, h⟩ := bin_of h
    exact (hK _ _ _ _ h).step fun H locs cells slots LS hl hP hS h0 k => lv_iushr hx hb hdg rfl (k LS hl)
  case ineg =>
    obtain rfl : len = 1 := by simpa [okLen] using (Bool.and_eq_true_iff.mp hat).1
    simp only [opK] at h
    obtain ⟨x, r, rfl, h⟩ := un_of h
    exact (hK _ _ _ _ h).step fun H locs cells slots LS hl hP hS h0 k => lv_ineg hx hb hdg (k LS hl)
  case i2b =>
    obtain rfl : len = 1 := by simpa [okLen] using (Bool.and_eq_true_iff.mp hat).1
    simp only [opK] at h
    obtain ⟨x, r, rfl, h⟩ := un_of h
    exact (hK _ _ _ _ h).step fun H locs cells slots LS hl hP hS h0 k => lv_i2b hx hb hdg rfl (k LS hl)
  case i2s =>
    obtain rfl : len = 1 := by simpa [okLen] using (Bool.and_eq_true_iff.mp hat).1
    simp only [opK] at h
    obtain ⟨x, r, rfl, h⟩ := un_of h
    exact (hK _ _ _ _ h).step fun H locs cells slots LS hl hP hS h0 k => lv_i2s hx hb hdg rfl (k LS hl)
  case idiv =>
    obtain rfl : len = 1 := by simpa [okLen] using (Bool.and_eq_true_iff.mp hat).1
    simp only [opK] at h
    split at h
    next y x r =>
      split at h
      next => cases h
      next hne => exact (hK _ _ _ _ h).step fun H locs cells slots LS hl hP hS h0 k => lv_idiv hx hb hdg hne (k LS hl)
    next => cases h
  case irem =>
    obtain rfl : len = 1 := by simpa [okLen] using (Bool.and_eq_true_iff.mp hat).1
    simp only [opK] at h
    split at h
    next y x r =>
      split at h
      next => cases h
      next hne => exact (hK _ _ _ _ h).step fun H locs cells slots LS hl hP hS h0 k => lv_irem hx hb hdg hne (k LS hl)
    next => cases h
  case ldiv =>
    obtain rfl : len = 1 := by simpa [okLen] using (Bool.and_eq_true_iff.mp hat).1
    simp only [opK] at h
    split at h
    next y x r =>
      split at h
      next => cases h
      next hne => exact (hK _ _ _ _ h).step fun H locs cells slots LS hl hP hS h0 k => lv_ldiv hx hb hdg hne (k LS hl)
    next => cases h
  case lrem =>
    obtain rfl : len = 1 := by simpa [okLen] using (Bool.and_eq_true_iff.mp hat).1
    simp only [opK] at h
    split at h
    next y x r =>
      split at h
      next => cases h
      next hne => exact (hK _ _ _ _ h).step fun H locs cells slots LS hl hP hS h0 k => lv_lrem hx hb hdg hne (k LS hl)
    next => cases h
  case i2l =>
    obtain rfl : len = 1 := by simpa [okLen] using (Bool.and_eq_true_iff.mp hat).1
    simp only [opK] at h
    split at h
    next x r => exact (hK _ _ _ _ h).step fun H locs cells slots LS hl hP hS h0 k => lv_i2l hx hb hdg rfl (k LS hl)
    next => cases h
  case lcmp =>
    obtain rfl : len = 1 := by simpa [okLen] using (Bool.and_eq_true_iff.mp hat).1
    simp only [opK] at h
    split at h
    next y x r => exact (hK _ _ _ _ h).step fun H locs cells slots LS hl hP hS h0 k => W.lcmp hx hb hdg (k LS hl)
    next => cases h
  case dup =>
    obtain rfl : len = 1 := by simpa [okLen] using (Bool.and_eq_true_iff.mp hat).1
    simp only [opK] at h
    split at h
    next v r =>
      split at h
      next hc => exact (hK _ _ _ _ h).step fun H locs cells slots LS hl hP hS h0 k => lv_dup hx hb hdg (by rw [xv_cat]; exact hc) (k LS hl)
      next => cases h
    next => cases h
  case pop =>
    obtain rfl : len = 1 := by simpa [okLen] using (Bool.and_eq_true_iff.mp hat).1
    simp only [opK] at h
    split at h
    next v r =>
      split at h
      next hc => exact (hK _ _ _ _ h).step fun H locs cells slots LS hl hP hS h0 k => lv_pop hx hb hdg (by rw [xv_cat]; exact hc) (k LS hl)
      next => cases h
    next => cases h
  case dup2 =>
    obtain rfl : len = 1 := by simpa [okLen] using (Bool.and_eq_true_iff.mp hat).1
    simp only [opK] at h
    split at h
    next v u r =>
      split at h
      next hc => exact (hK _ _ _ _ h).step fun H locs cells slots LS hl hP hS h0 k => lv_dup2_11 hx hb hdg (by rw [xv_cat]; exact hc.1) (by rw [xv_cat]; exact hc.2) (k LS hl)
      next => cases h
    next => cases h
  case goto off =>
    obtain rfl : len = 3 := by simpa [okLen] using (Bool.and_eq_true_iff.mp hat).1
    obtain ⟨t, ht, h⟩ := tgo_of h
    exact (hK _ _ _ _ h).step fun H locs cells slots LS hl hP hS h0 k => lv_goto hx hb hdg ht (k LS hl)
  case ifCond cnd off =>
    obtain rfl : len = 3 := by simpa [okLen] using (Bool.and_eq_true_iff.mp hat).1
    simp only [opK] at h
    split at h
    next x r =>
      cases cnd <;> simp only at h <;> split at h
      next hc =>
        obtain ⟨t, ht, h⟩ := tgo_of h
        exact (hK _ _ _ _ h).step fun H locs cells slots LS hl hP hS h0 k => lv_if_eq hx hb hdg ht (fun _ => k LS hl) (fun hf => absurd (hc) hf)
      next hc =>
        exact (hK _ _ _ _ h).step fun H locs cells slots LS hl hP hS h0 k => lv_if_eq hx hb hdg (tgt := ((pc : Int) + off).toNat) (Int.toNat_of_nonneg (by simpa [okAt] using (Bool.and_eq_true_iff.mp hat).2)).symm (fun hf => absurd hf hc) (fun _ => k LS hl)
      next hc =>
        exact (hK _ _ _ _ h).step fun H locs cells slots LS hl hP hS h0 k => lv_if_ne hx hb hdg (tgt := ((pc : Int) + off).toNat) (Int.toNat_of_nonneg (by simpa [okAt] using (Bool.and_eq_true_iff.mp hat).2)).symm (fun hf => absurd hc hf) (fun _ => k LS hl)
      next hc =>
        obtain ⟨t, ht, h⟩ := tgo_of h
        exact (hK _ _ _ _ h).step fun H locs cells slots LS hl hP hS h0 k => lv_if_ne hx hb hdg ht (fun _ => k LS hl) (fun hf => absurd hf hc)
      next hc =>
        obtain ⟨t, ht, h⟩ := tgo_of h
        exact (hK _ _ _ _ h).step fun H locs cells slots LS hl hP hS h0 k => lv_if_lt hx hb hdg ht (fun _ => k LS hl) (fun hf => absurd (hc) hf)
      next hc =>
        exact (hK _ _ _ _ h).step fun H locs cells slots LS hl hP hS h0 k => lv_if_lt hx hb hdg (tgt := ((pc : Int) + off).toNat) (Int.toNat_of_nonneg (by simpa [okAt] using (Bool.and_eq_true_iff.mp hat).2)).symm (fun hf => absurd hf hc) (fun _ => k LS hl)
      next hc =>
        exact (hK _ _ _ _ h).step fun H locs cells slots LS hl hP hS h0 k => lv_if_ge hx hb hdg (tgt := ((pc : Int) + off).toNat) (Int.toNat_of_nonneg (by simpa [okAt] using (Bool.and_eq_true_iff.mp hat).2)).symm (fun hf => absurd hf (Int32.not_le.mpr hc)) (fun _ => k LS hl)
      next hc =>
        obtain ⟨t, ht, h⟩ := tgo_of h
        exact (hK _ _ _ _ h).step fun H locs cells slots LS hl hP hS h0 k => lv_if_ge hx hb hdg ht (fun _ => k LS hl) (fun hf => absurd (Int32.not_lt.mp hc) hf)
      next hc =>
        obtain ⟨t, ht, h⟩ := tgo_of h
        exact (hK _ _ _ _ h).step fun H locs cells slots LS hl hP hS h0 k => lv_if_gt hx hb hdg ht (fun _ => k LS hl) (fun hf => absurd (hc) hf)
      next hc =>
        exact (hK _ _ _ _ h).step fun H locs cells slots LS hl hP hS h0 k => lv_if_gt hx hb hdg (tgt := ((pc : Int) + off).toNat) (Int.toNat_of_nonneg (by simpa [okAt] using (Bool.and_eq_true_iff.mp hat).2)).symm (fun hf => absurd hf hc) (fun _ => k LS hl)
      next hc =>
        exact (hK _ _ _ _ h).step fun H locs cells slots LS hl hP hS h0 k => lv_if_le hx hb hdg (tgt := ((pc : Int) + off).toNat) (Int.toNat_of_nonneg (by simpa [okAt] using (Bool.and_eq_true_iff.mp hat).2)).symm (fun hf => absurd hf (Int32.not_le.mpr hc)) (fun _ => k LS hl)
      next hc =>
        obtain ⟨t, ht, h⟩ := tgo_of h
        exact (hK _ _ _ _ h).step fun H locs cells slots LS hl hP hS h0 k => lv_if_le hx hb hdg ht (fun _ => k LS hl) (fun hf => absurd (Int32.not_lt.mp hc) hf)
    next => cases h
  case if_icmp cnd off =>
    obtain rfl : len = 3 := by simpa [okLen] using (Bool.and_eq_true_iff.mp hat).1
    simp only [opK] at h
    split at h
    next y x r =>
      cases cnd <;> simp only at h <;> split at h
      next hc =>
        obtain ⟨t, ht, h⟩ := tgo_of h
        exact (hK _ _ _ _ h).step fun H locs cells slots LS hl hP hS h0 k => lv_icmp_eq hx hb hdg ht (fun _ => k LS hl) (fun hf => absurd (hc) hf)
      next hc =>
        exact (hK _ _ _ _ h).step fun H locs cells slots LS hl hP hS h0 k => lv_icmp_eq hx hb hdg (tgt := ((pc : Int) + off).toNat) (Int.toNat_of_nonneg (by simpa [okAt] using (Bool.and_eq_true_iff.mp hat).2)).symm (fun hf => absurd hf hc) (fun _ => k LS hl)
      next hc =>
        exact (hK _ _ _ _ h).step fun H locs cells slots LS hl hP hS h0 k => lv_icmp_ne hx hb hdg (tgt := ((pc : Int) + off).toNat) (Int.toNat_of_nonneg (by simpa [okAt] using (Bool.and_eq_true_iff.mp hat).2)).symm (fun hf => absurd hc hf) (fun _ => k LS hl)
      next hc =>
        obtain ⟨t, ht, h⟩ := tgo_of h
        exact (hK _ _ _ _ h).step fun H locs cells slots LS hl hP hS h0 k => lv_icmp_ne hx hb hdg ht (fun _ => k LS hl) (fun hf => absurd hf hc)
      next hc =>
        obtain ⟨t, ht, h⟩ := tgo_of h
        exact (hK _ _ _ _ h).step fun H locs cells slots LS hl hP hS h0 k => lv_icmp_lt hx hb hdg ht (fun _ => k LS hl) (fun hf => absurd (hc) hf)
      next hc =>
        exact (hK _ _ _ _ h).step fun H locs cells slots LS hl hP hS h0 k => lv_icmp_lt hx hb hdg (tgt := ((pc : Int) + off).toNat) (Int.toNat_of_nonneg (by simpa [okAt] using (Bool.and_eq_true_iff.mp hat).2)).symm (fun hf => absurd hf hc) (fun _ => k LS hl)
      next hc =>
        exact (hK _ _ _ _ h).step fun H locs cells slots LS hl hP hS h0 k => lv_icmp_ge hx hb hdg (tgt := ((pc : Int) + off).toNat) (Int.toNat_of_nonneg (by simpa [okAt] using (Bool.and_eq_true_iff.mp hat).2)).symm (fun hf => absurd hf (Int32.not_le.mpr hc)) (fun _ => k LS hl)
      next hc =>
        obtain ⟨t, ht, h⟩ := tgo_of h
        exact (hK _ _ _ _ h).step fun H locs cells slots LS hl hP hS h0 k => lv_icmp_ge hx hb hdg ht (fun _ => k LS hl) (fun hf => absurd (Int32.not_lt.mp hc) hf)
      next hc =>
        obtain ⟨t, ht, h⟩ := tgo_of h
        exact (hK _ _ _ _ h).step fun H locs cells slots LS hl hP hS h0 k => lv_icmp_gt hx hb hdg ht (fun _ => k LS hl) (fun hf => absurd (hc) hf)
      next hc =>
        exact (hK _ _ _ _ h).step fun H locs cells slots LS hl hP hS h0 k => lv_icmp_gt hx hb hdg (tgt := ((pc : Int) + off).toNat) (Int.toNat_of_nonneg (by simpa [okAt] using (Bool.and_eq_true_iff.mp hat).2)).symm (fun hf => absurd hf hc) (fun _ => k LS hl)
      next hc =>
        exact (hK _ _ _ _ h).step fun H locs cells slots LS hl hP hS h0 k => lv_icmp_le hx hb hdg (tgt := ((pc : Int) + off).toNat) (Int.toNat_of_nonneg (by simpa [okAt] using (Bool.and_eq_true_iff.mp hat).2)).symm (fun hf => absurd hf (Int32.not_le.mpr hc)) (fun _ => k LS hl)
      next hc =>
        obtain ⟨t, ht, h⟩ := tgo_of h
        exact (hK _ _ _ _ h).step fun H locs cells slots LS hl hP hS h0 k => lv_icmp_le hx hb hdg ht (fun _ => k LS hl) (fun hf => absurd (Int32.not_lt.mp hc) hf)
    next => cases h
end OK
end
section
theorem xw_same {base b : Nat} {cA : Nat → ClassId} {w : XW} {o' : Nat} {c0 c : XC} (h : w[o' + 1]? = some c0) (hs : xsz c0 = xsz c) : (w.set (o' + 1) c).length = w.length ∧ gs (w.set (o' + 1) c) = gs w ∧ (w.set (o' + 1) c)[0]? = w[0]? :=
  ⟨List.length_set, gs_set h hs, by rw [List.getElem?_set_ne (by omega)]⟩
section OK2
variable {p : Program} {l : Launch} {e : Env} {R : Room} {s : State} {m : MethodId} {args : Array Value} {below : List Frame} {meth : Method} {c : Code} {Q : State → Prop}
variable {D : va_G} {cA : Nat → ClassId} {base b nL d rz : Nat} {own : String} {ini : Bool} {cc : ByteArray} {w0 : XW} {o : XO}
set_option maxHeartbeats 4000000 in
theorem ok_getfield {fl : List (Nat × Nat × Nat × Nat)} (hfl : ∀ q ∈ fl, fOK own ini q) (A : ACT p l e R s m args below meth c Q D cA base b nL d rz own ini cc w0 o) {K : Kont} (hK : KS p l e R s m args below meth c Q D cA base b nL w0 o K)
    {pc i : Nat} (hdg : decode cc pc = .ok (.getfield i, 3)) {ls : XL} {st : List Value} {w : XW}
    (h : ((lk fl i).bind fun f => match st with
      | .ref o :: r => if f.2.2 < 10 then (gI w o f.1 f.2.1).bind (fun x => K (pc + 3) ls (.int x :: r) w) else (gR w o f.1 f.2.1).bind (fun x => K (pc + 3) ls (.ref x :: r) w)
      | _ => none) = some o) : SND p l e R s m args below meth c Q D cA base b nL w0 o pc ls st w := by
  obtain ⟨⟨hx, hb, hml, hown⟩, hts, ⟨-, hKK, ⟨xs, hx0, -⟩, hN, -⟩, -⟩ := A
  obtain ⟨⟨ci, k, fg⟩, hf, h⟩ := some_of h
  obtain ⟨C, T, N, ty, host, g1, g2, g3, g4, g5, g6, g7, -, -⟩ := hfl _ (lk_mem hf)
  dsimp only at h g1 g2 g6 g7
  have key : ∀ (a : Nat) (v : Value) (r : List Value) (fs : List Value), w[a]? = some (.inl (ci, fs)) → fs[k]? = some v → SND p l e R s m args below meth c Q D cA base b nL w0 o (pc + 3) ls (v :: r) w → SND p l e R s m args below meth c Q D cA base b nL w0 o pc ls (.ref a :: r) w := by
    intro a v r fs ha hv hS
    refine hS.step fun H locs cells slots LS hl hP hS h0 kk => ?_
    obtain ⟨a', rfl⟩ : ∃ a', a = a' + 1 := by
      cases a with
      | zero => rw [h0.trans hx0] at ha; cases ha
      | succ a => exact ⟨a, rfl⟩
    have he := xw_get (base := base) (b := b) (cA := cA) ha
    have hv' : (fs.map (xv base b))[k]? = some (xv base b v) := by rw [List.getElem?_map, hv]; rfl
    rcases g7 with g7 | g7
    · exact va_get hx hb hts g3 hown hKK hP a' he g1 k g2 (hts _ g7) (fun x hx => by rw [g6] at hx; exact hx) hv' hdg (kk LS hl)
    · exact va_getN hx hb hts g3 hown hKK hP a' he g1 k g2 (va_Nw.use rfl (hN _ g7)) (fun x hx => by rw [g6] at hx; exact hx) hv' hdg (kk LS hl)
  cases st with
  | nil => cases h
  | cons v r => cases v with
    | ref a =>
      dsimp only at h
      split at h
      next =>
        obtain ⟨z, hx1, h⟩ := some_of h
        obtain ⟨fs, ha, hv⟩ := gI_of hx1
        exact key a _ r fs ha hv (hK _ _ _ _ h)
      next =>
        obtain ⟨z, hx1, h⟩ := some_of h
        obtain ⟨fs, ha, hv⟩ := gR_of hx1
        exact key a _ r fs ha hv (hK _ _ _ _ h)
    | _ => cases h
set_option maxHeartbeats 4000000 in
theorem ok_putfield {fl : List (Nat × Nat × Nat × Nat)} (hfl : ∀ q ∈ fl, fOK own ini q) (A : ACT p l e R s m args below meth c Q D cA base b nL d rz own ini cc w0 o) {K : Kont} (hK : KS p l e R s m args below meth c Q D cA base b nL w0 o K)
    {pc i : Nat} (hdg : decode cc pc = .ok (.putfield i, 3)) {ls : XL} {st : List Value} {w : XW}
    (h : ((lk fl i).bind fun f => match st with
      | .int x :: .ref o :: r => if f.2.2 = 1 then (pF w o f.1 f.2.1 (.int x)).bind (fun w' => K (pc + 3) ls r w') else none
      | .ref x :: .ref o :: r => if f.2.2 = 12 then (pF w o f.1 f.2.1 (.ref x)).bind (fun w' => K (pc + 3) ls r w') else none
      | _ => none) = some o) : SND p l e R s m args below meth c Q D cA base b nL w0 o pc ls st w := by
  obtain ⟨⟨hx, hb, hml, hown⟩, hts, ⟨-, hKK, ⟨xs, hx0, -⟩, hN, -⟩, hini, -⟩ := A
  obtain ⟨⟨ci, k, fg⟩, hf, h⟩ := some_of h
  obtain ⟨C, T, N, ty, host, g1, g2, g3, g4, g5, g6, g7, g8, g9⟩ := hfl _ (lk_mem hf)
  dsimp only at h g1 g2 g6 g7 g8 g9
  cases st with
  | nil => cases h
  | cons v r => cases v with
    | int z => cases r with
      | nil => cases h
      | cons u r => cases u with
        | ref a =>
          dsimp only at h
          split at h
          next hfg =>
              obtain ⟨w', hw', h⟩ := some_of h
              obtain ⟨fs, a', ha, hk, rfl, rfl⟩ := pF_of hw'
              obtain ⟨g10, g11⟩ := g8 hfg
              obtain ⟨e1, e2, e3⟩ := xw_same (base := base) (b := b) (cA := cA) ha (c := .inl (ci, fs.set k (.int z))) (by simp [xsz])
              refine (hK _ _ _ _ h).put e1 e2 e3 fun H locs cells slots LS hl hP hS h0 kk => ?_
              have he := xw_get (base := base) (b := b) (cA := cA) ha
              have hset : xw base b cA (w.set (a' + 1) (.inl (ci, fs.set k (.int z)))) = (xw base b cA w).set a' (base + a', .inr (ci, (fs.map (xv base b)).set k (.int z))) := by
                rw [xw_set]; simp [xe, List.map_set, xv]
              have hk' : k < (fs.map (xv base b)).length := by simpa using hk
              rcases g7 with g7 | g7
              · exact va_put hx hb hts g3 ty g4 g5 hown hKK hP (xw_D w) hS a' he g1 k g2 (hts _ g7) (fun x hx => by rw [g6] at hx; exact hx) g10 (g4 k g2) (by rw [g11]; rfl) (by rw [g11]; rfl) hk' hdg (fun H1 locs1 hP1 hD1 hS1 => kk H1 locs1 (by rw [hset]; exact hP1) hS1)
              · exact va_putN hx hb hts g3 ty g4 g5 hown hKK hP (xw_D w) hS a' he g1 k g2 (va_Nw.use rfl (hN _ g7)) (fun x hx => by rw [g6] at hx; exact hx) g10 (g4 k g2) (by rw [g11]; rfl) (by rw [g11]; rfl) hk' hdg (fun H1 locs1 hP1 hD1 hS1 => kk H1 locs1 (by rw [hset]; exact hP1) hS1)
          next => cases h
        | _ => cases h
    | ref z => cases r with
      | nil => cases h
      | cons u r => cases u with
        | ref a =>
          dsimp only at h
          split at h
          next hfg =>
              obtain ⟨w', hw', h⟩ := some_of h
              obtain ⟨fs, a', ha, hk, rfl, rfl⟩ := pF_of hw'
              obtain ⟨g10, g11, g12, g13, g14⟩ := g9 hfg
              obtain ⟨e1, e2, e3⟩ := xw_same (base := base) (b := b) (cA := cA) ha (c := .inl (ci, fs.set k (.ref z))) (by simp [xsz])
              refine (hK _ _ _ _ h).put e1 e2 e3 fun H locs cells slots LS hl hP hS h0 kk => ?_
              have he := xw_get (base := base) (b := b) (cA := cA) ha
              have hset : xw base b cA (w.set (a' + 1) (.inl (ci, fs.set k (.ref z)))) = (xw base b cA w).set a' (base + a', .inr (ci, (fs.map (xv base b)).set k (.ref (xa base b z)))) := by
                rw [xw_set]; simp [xe, List.map_set, xv]
              have hk' : k < (fs.map (xv base b)).length := by simpa using hk
              have hn : narrow (ty k) (.ref (xa base b z)) = .ref (xa base b z) := by rcases g13 with ⟨n, q⟩ | ⟨n, q⟩ <;> rw [q] <;> rfl
              have hfit : fits (ty k) (.ref (xa base b z)) = true := by rcases g13 with ⟨n, q⟩ | ⟨n, q⟩ <;> rw [q] <;> rfl
              exact va_putF hx hb hts g3 ty g4 g5 hown hKK hP (xw_D w) hS a' he g1 k g2 (hts _ g14) (fun x hx => by rw [g6] at hx; exact hx) g10 (hini g12) (g6.trans g11.symm) (g4 k g2) hn hfit hk' hdg (fun H1 locs1 hP1 hD1 hS1 => kk H1 locs1 (by rw [hset]; exact hP1) hS1)
          next => cases h
        | _ => cases h
    | _ => cases h
end OK2
end
section
section OK3
variable {p : Program} {l : Launch} {e : Env} {R : Room} {s : State} {m : MethodId} {args : Array Value} {below : List Frame} {meth : Method} {c : Code} {Q : State → Prop}
variable {D : va_G} {cA : Nat → ClassId} {base b nL d rz : Nat} {own : String} {ini : Bool} {cc : ByteArray} {w0 : XW} {o : XO}
set_option maxHeartbeats 4000000 in
theorem ok_iaload (A : ACT p l e R s m args below meth c Q D cA base b nL d rz own ini cc w0 o) {K : Kont} (hK : KS p l e R s m args below meth c Q D cA base b nL w0 o K)
    {pc : Nat} (hdg : decode cc pc = .ok (.iaload, 1)) {ls : XL} {r : List Value} {w : XW} {a : Nat} {i x : Int32} (hx1 : aI w a i = some x) (h : K (pc + 1) ls (.int x :: r) w = some o) :
    SND p l e R s m args below meth c Q D cA base b nL w0 o pc ls (.int i :: .ref a :: r) w := by
  obtain ⟨⟨hx, hb, hml, hown⟩, hts, ⟨-, hKK, ⟨xs, hx0, hX⟩, hN, -, hbb⟩, -, hbase, -⟩ := A
  obtain ⟨t, ys, ha, ht, hin, hv⟩ := aI_of hx1
  refine (hK _ _ _ _ h).step fun H locs cells slots LS hl hP hS h0 kk => ?_
  cases a with
  | zero =>
    rw [h0.trans hx0] at ha
    cases ha
    refine va_sld hx hb hX (by omega) (fun q => absurd q (by omega)) hS hin hdg ?_
    rw [hv]
    exact kk LS hl
  | succ a =>
    obtain rfl : t = 0 := by omega
    have he := xw_get (base := base) (b := b) (cA := cA) ha
    refine va_iald hx hb hKK hP a 0 he rfl hin hdg ?_
    rw [hv]
    exact kk LS hl
set_option maxHeartbeats 4000000 in
theorem ok_iastore (A : ACT p l e R s m args below meth c Q D cA base b nL d rz own ini cc w0 o) {K : Kont} (hK : KS p l e R s m args below meth c Q D cA base b nL w0 o K)
    {pc : Nat} (hdg : decode cc pc = .ok (.iastore, 1)) {ls : XL} {r : List Value} {w w' : XW} {a : Nat} {i x : Int32} (hx1 : sI w a i x = some w') (h : K (pc + 1) ls r w' = some o) :
    SND p l e R s m args below meth c Q D cA base b nL w0 o pc ls (.int x :: .int i :: .ref a :: r) w := by
  obtain ⟨⟨hx, hb, hml, hown⟩, hts, ⟨-, hKK, ⟨xs, hx0, hX⟩, hN, -, hbb⟩, -, hbase, -⟩ := A
  obtain ⟨ys, a', rfl, ha, hin, rfl⟩ := sI_of hx1
  obtain ⟨e1, e2, e3⟩ := xw_same (base := base) (b := b) (cA := cA) ha (c := .inr (0, ys.set i.toNatClampNeg x)) (by simp [xsz])
  refine (hK _ _ _ _ h).put e1 e2 e3 fun H locs cells slots LS hl hP hS h0 kk => ?_
  have he := xw_get (base := base) (b := b) (cA := cA) ha
  have hlt : i.toNatClampNeg < ys.length := Nat.not_le.mp fun q => hin (Or.inr q)
  refine va_iast hx hb hKK hP (xw_D w) hS a' 0 he rfl hin hdg fun H1 locs1 hP1 hD1 hS1 => kk H1 locs1 ?_ hS1
  rw [xw_set]
  simp only [xe, List.length_set, Nat.reduceBEq, cond_false]
  rw [getD_set hlt]
  exact hP1
set_option maxHeartbeats 4000000 in
theorem ok_alen (A : ACT p l e R s m args below meth c Q D cA base b nL d rz own ini cc w0 o) {K : Kont} (hK : KS p l e R s m args below meth c Q D cA base b nL w0 o K)
    {pc : Nat} (hdg : decode cc pc = .ok (.arraylength, 1)) {ls : XL} {r : List Value} {w : XW} {a : Nat} {x : Int32} (hx1 : aL w a = some x) (h : K (pc + 1) ls (.int x :: r) w = some o) :
    SND p l e R s m args below meth c Q D cA base b nL w0 o pc ls (.ref a :: r) w := by
  obtain ⟨⟨hx, hb, hml, hown⟩, hts, ⟨-, hKK, ⟨xs, hx0, hX⟩, hN, -, hbb⟩, -, hbase, -⟩ := A
  refine (hK _ _ _ _ h).step fun H locs cells slots LS hl hP hS h0 kk => ?_
  unfold aL at hx1
  split at hx1
  next t ys ha =>
    split at hx1
    next ht =>
      cases hx1
      cases a with
      | zero =>
        rw [h0.trans hx0] at ha
        cases ha
        exact va_slen (b := b) hx hb hX (by omega) (fun q => absurd q (by omega)) hS hdg (kk LS hl)
      | succ a =>
        have he := xw_get (base := base) (b := b) (cA := cA) ha
        rcases ht with rfl | ht
        · exact va_alen hx hb hKK hP a 0 he rfl rfl hdg (kk LS hl)
        · omega
    next => cases hx1
  next => cases hx1
/-- a new cell: where it stands -/
theorem new_at {H H1 : Heap} {w : XW} {q : Nat} {e1 : va_E} (hP : va_P D vwCl (xw base b cA w ++ [(q, e1)]) H1) (hD : va_D (fun q => base ≤ q) (xw base b cA w ++ [(q, e1)])) (hl : 0 < w.length) (hz : H1.size + 1 ≤ base + w.length + 1) : q = base + (w.length - 1) := by
  have hlen : (xw base b cA w).length = w.length - 1 := by simp [xw]
  have h1 : (xw base b cA w ++ [(q, e1)])[w.length - 1]? = some (q, e1) := by
    rw [List.getElem?_append_right (by omega), hlen]; simp
  have h2 := (hP _ _ h1).lt
  have h3 := hD.2 _ _ h1
  simp only at h2 h3
  by_cases hq : q < base + (w.length - 1)
  · obtain ⟨k, hk⟩ : ∃ k, q = base + k := ⟨q - base, by omega⟩
    have hw : w[k + 1]? = some (w[k + 1]'(by omega)) := List.getElem?_eq_getElem _
    have hg := xw_get (base := base) (b := b) (cA := cA) hw
    have h4 : (xw base b cA w ++ [(q, e1)])[k]? = some (base + k, xe base b cA (w[k + 1]'(by omega))) := by
      rw [List.getElem?_append_left (by omega)]; exact hg
    have := hD.1 _ _ _ _ h4 h1 hk.symm
    omega
  · omega
/-- a step that makes a cell -/
theorem SND.made {pc pc' : Nat} {ls : XL} {st st' : List Value} {w : XW} {cl : XC} (A : ACT p l e R s m args below meth c Q D cA base b nL d rz own ini cc w0 o) (h : SND p l e R s m args below meth c Q D cA base b nL w0 o pc' ls (.ref w.length :: st') (w ++ [cl])) (hw : 0 < w.length)
    (k : ∀ (H : Heap) (locs : List Loc) (cells slots : Nat) (LS : Array Slot), lv_has LS nL (xl base b ls) → va_P D vwCl (xw base b cA w) H → va_S (fun q => base ≤ q) s.heap H locs → cells + 1 ≤ R.cells → slots + xsz cl ≤ R.slots →
      (∀ q H1, va_P D vwCl (xw base b cA w ++ [(q, xe base b cA cl)]) H1 → va_D (fun q => base ≤ q) (xw base b cA w ++ [(q, xe base b cA cl)]) → va_S (fun q => base ≤ q) s.heap H1 locs → W p l e R s m args below meth c H1 locs (cells + 1) (slots + xsz cl) Q (F0 m pc' LS (.ref q :: st'.map (xv base b)))) →
      W p l e R s m args below meth c H locs cells slots Q (F0 m pc LS (st.map (xv base b)))) :
    SND p l e R s m args below meth c Q D cA base b nL w0 o pc ls st w := by
  obtain ⟨-, -, ⟨-, -, -, -, hsz, -⟩, -⟩ := A
  obtain ⟨h1, h2, h3, h4⟩ := h
  rw [List.length_append, List.length_singleton] at h1
  rw [gs_push] at h2
  refine ⟨by omega, by omega, h3.trans (by rw [List.getElem?_append_left hw]), fun H locs cells slots LS hl hP hS hz hc hs hr1 hr2 => ?_⟩
  refine k H locs cells slots LS hl hP hS (by omega) (by omega) fun q H1 hP1 hD1 hS1 => W.sized fun z1 z2 => ?_
  have hq := new_at hP1 hD1 hw (H := H) (by omega)
  subst hq
  have hkk := h4 H1 locs (cells + 1) (slots + xsz cl) LS hl (by rw [xw_push hw]; exact hP1) hS1 (by rw [List.getElem?_append_left hw]; exact hz) (by rw [List.length_append, List.length_singleton]; omega) (by rw [gs_push]; omega) hr1 hr2
  have hx : xa base b w.length = base + (w.length - 1) := by
    obtain ⟨n, hn⟩ : ∃ n, w.length = n + 1 := ⟨w.length - 1, by omega⟩
    rw [hn]; rfl
  rw [List.map_cons, xv, hx] at hkk
  exact hkk
end OK3
end
section
section OK4
variable {p : Program} {l : Launch} {e : Env} {R : Room} {s : State} {m : MethodId} {args : Array Value} {below : List Frame} {meth : Method} {c : Code} {Q : State → Prop}
variable {D : va_G} {cA : Nat → ClassId} {base b nL d rz : Nat} {own : String} {ini : Bool} {cc : ByteArray} {w0 : XW} {o : XO}
theorem i_nn {n : Int32} (h : 0 ≤ n) : ¬ n < 0 := Int32.not_lt.mpr h
theorem i_small {n : Int32} (h : n ≤ 1000) : n.toNatClampNeg ≤ 1000 := by
  have h1 : n.toInt ≤ 1000 := by simpa using Int32.le_iff_toInt_le.mp h
  show n.toInt.toNat ≤ 1000
  omega
set_option maxHeartbeats 4000000 in
theorem ok_newarray (hI : Jvm.Cond.arrayClass .int ∈ tblG) (A : ACT p l e R s m args below meth c Q D cA base b nL d rz own ini cc w0 o) {K : Kont} (hK : KS p l e R s m args below meth c Q D cA base b nL w0 o K)
    {pc : Nat} {t : ArrayType} (hdg : decode cc pc = .ok (.newarray t, 2)) {ls : XL} {r : List Value} {w : XW} {n : Int32} (h1 : 0 ≤ n) (h2 : n ≤ 1000) (hw : 0 < w.length) {k : Nat} (ht : t = .int ∧ k = 0)
    (h : K (pc + 2) ls (.ref w.length :: r) (w ++ [.inr (k, List.replicate n.toNatClampNeg 0)]) = some o) :
    SND p l e R s m args below meth c Q D cA base b nL w0 o pc ls (.int n :: r) w := by
  refine SND.made A (hK _ _ _ _ h) hw fun H locs cells slots LS hl hP hS hc hs kk => ?_
  obtain ⟨⟨hx, hb, hml, hown⟩, hts, ⟨-, hKK, ⟨xs, hx0, hX⟩, hN, -, hbb⟩, -, hbase, -⟩ := A
  have hN' := i_small h2
  have hsz : xsz (.inr (k, List.replicate n.toNatClampNeg 0)) = n.toNatClampNeg := by simp [xsz]
  rw [hsz] at hs kk
  have hk3 : (k == 3) = false := by rw [ht.2]; rfl
  have hxe : xe base b cA (.inr (k, List.replicate n.toNatClampNeg 0)) = .inl (cA k, n.toNatClampNeg, .inl (fun _ => 0)) := by
    simp only [xe, hk3, cond_false, List.length_replicate]
    congr 3
    refine congrArg Sum.inl ?_
    funext j
    simp only [List.getD_eq_getElem?_getD, List.getElem?_replicate]
    split <;> rfl
  rw [hxe] at kk
  have hA' : ∀ q : Nat, s.heap.size ≤ q → base ≤ q := fun q hq => Nat.le_trans hbase hq
  obtain ⟨rfl, rfl⟩ := ht
  · refine va_newa (atype := .int) (a0 := (n.toNatClampNeg, .inl (fun _ => 0))) hx hb (hts _ hI) rfl hKK hP (xw_D w) hS hA' (fun cA => rfl) (i_nn h1) rfl (by show n.toNatClampNeg * 4 ≤ 536870912; omega) hc hs hdg fun q cA' H1 hK1 hP1 hD1 hS1 => ?_
    have e1 := (hK1.2 2 _ rfl).2
    have e2 := (hKK.2 0 _ rfl).2
    have : cA' = cA 0 := Option.some.inj (e1.symm.trans e2)
    subst this
    exact kk q H1 hP1 hD1 hS1
set_option maxHeartbeats 4000000 in
theorem ok_new {nl : List (Nat × Nat × List Value)} (hnl : ∀ q ∈ nl, nOK own q) (A : ACT p l e R s m args below meth c Q D cA base b nL d rz own ini cc w0 o) {K : Kont} (hK : KS p l e R s m args below meth c Q D cA base b nL w0 o K)
    {pc i : Nat} (hdg : decode cc pc = .ok (.new i, 3)) {ls : XL} {st : List Value} {w : XW}
    (h : ((lk nl i).bind fun f => if 0 < w.length then (bif f.1 == 99 then none else K (pc + 3) ls (.ref w.length :: st) (w ++ [.inl (f.1, f.2)])) else none) = some o) :
    SND p l e R s m args below meth c Q D cA base b nL w0 o pc ls st w := by
  obtain ⟨⟨ci, fs⟩, hf, h⟩ := some_of h
  split at h
  next hw =>
    have hci : (ci == 99) = false := by
      cases hz : ci == 99 with
      | false => rfl
      | true => dsimp only at h; rw [hz] at h; cases h
    dsimp only at h
    rw [hci, cond_false] at h
    refine SND.made A (hK _ _ _ _ h) hw fun H locs cells slots LS hl hP hS hc hs kk => ?_
    obtain ⟨⟨hx, hb, hml, hown⟩, hts, ⟨-, hKK, ⟨xs, hx0, hX⟩, hN, -, hbb⟩, -, hbase, -⟩ := A
    have hq := hnl _ (lk_mem hf)
    rcases hq with ⟨g0, -⟩ | ⟨C, T, N, ty, g1, g2, g3, g4, g5, g6, g7, g8, g9⟩
    · have g0 : ci = 99 := g0
      subst g0
      cases hci
    dsimp only at g1 g7 g8 g9
    have hsz : xsz (.inl (ci, fs)) = N := g7
    try dsimp only at hs kk
    rw [hsz] at hs kk
    have hxe : xe base b cA (.inl (ci, fs)) = .inr (ci, fs) := by
      simp only [xe]
      congr 2
      refine (List.map_congr_left fun v hv => ?_).trans (List.map_id _)
      rcases g9 v hv with rfl | rfl <;> rfl
    rw [hxe] at kk
    exact va_new hx hb hts g2 ty g3 hown (hts _ g4) (hts _ g5) (hts _ g6) hKK hP (xw_D w) hS (fun q hq => Nat.le_trans hbase hq) g1 g8 hc hs hdg fun q H1 hP1 hD1 hS1 => kk q H1 hP1 hD1 hS1
  next => cases h
set_option maxHeartbeats 4000000 in
theorem ok_tsw (A : ACT p l e R s m args below meth c Q D cA base b nL d rz own ini cc w0 o) {K : Kont} (hK : KS p l e R s m args below meth c Q D cA base b nL w0 o K)
    {pc len : Nat} {dflt lo hi : Int} {offs : Array Int} (hdg : decode cc pc = .ok (.tableswitch dflt lo hi offs, len)) {ls : XL} {r : List Value} {w : XW} {z : Int32}
    (h1 : hi = lo + (offs.size : Int) - 1) (h2 : -2147483648 ≤ lo) (h3 : hi < 2147483648) (h : swi pc dflt z (fun t => K t ls r w) (offs.toList.mapIdx fun i o => (lo + (i : Int), o)) = some o) :
    SND p l e R s m args below meth c Q D cA base b nL w0 o pc ls (.int z :: r) w := by
  obtain ⟨⟨hx, hb, hml, hown⟩, hts, -⟩ := A
  have hps : ∀ q ∈ (offs.toList.mapIdx fun i o => (lo + (i : Int), o)), -2147483648 ≤ q.1 ∧ q.1 < 2147483648 := by
    intro q hq
    obtain ⟨k, hk⟩ := List.getElem?_of_mem hq
    rw [List.getElem?_mapIdx] at hk
    cases ho : offs.toList[k]? with
    | none => rw [ho] at hk; cases hk
    | some f =>
      rw [ho] at hk
      cases hk
      have := (List.getElem?_eq_some_iff.mp ho).1
      rw [Array.length_toList] at this
      show -2147483648 ≤ lo + (k : Int) ∧ lo + (k : Int) < 2147483648
      omega
  obtain ⟨t, ht, hk⟩ := swi_of _ hps h
  have key : ∀ (n : Nat) (xs : List Int) (a : Int), Op.lookupswitch.offset (xs.mapIdx fun i o => (a + (i : Int), o)) dflt z.toInt = if z.toInt < a then dflt else (xs[(z.toInt - a).toNat]?).getD dflt := by
    intro _ xs
    induction xs with
    | nil => intro a; simp [Op.lookupswitch.offset]
    | cons f xs ih =>
      intro a
      rw [List.mapIdx_cons]
      rw [Op.lookupswitch.offset_cons]
      by_cases hz : a = z.toInt
      · rw [if_pos (by simpa using hz), if_neg (by omega)]
        rw [show (z.toInt - a).toNat = 0 by omega]
        rfl
      · rw [if_neg (by simpa using hz)]
        have e : (fun (i : Nat) (o : Int) => (a + ((i + 1 : Nat) : Int), o)) = fun (i : Nat) (o : Int) => ((a + 1) + (i : Int), o) := by
          funext i o
          congr 1
          omega
        have := ih (a + 1)
        rw [e, this]
        by_cases h1 : z.toInt < a
        · rw [if_pos (by omega), if_pos h1]
        · rw [if_neg (by omega), if_neg h1]
          obtain ⟨n, hn⟩ : ∃ n : Nat, (z.toInt - a).toNat = n + 1 := ⟨(z.toInt - a).toNat - 1, by omega⟩
          rw [hn, List.getElem?_cons_succ, show (z.toInt - (a + 1)).toNat = n by omega]
  rw [key 0] at ht
  refine (hK _ _ _ _ hk).step fun H locs cells slots LS hl hP hS h0 kk => ?_
  by_cases g1 : z.toInt < lo
  · rw [if_pos g1] at ht
    exact lv_tableOut hx hb hdg (Or.inl g1) ht (kk LS hl)
  · rw [if_neg g1] at ht
    by_cases g2 : hi < z.toInt
    · rw [List.getElem?_eq_none (by rw [Array.length_toList]; omega)] at ht
      exact lv_tableOut hx hb hdg (Or.inr g2) ht (kk LS hl)
    · have hlt : (z.toInt - lo).toNat < offs.size := by omega
      have he : offs[(z.toInt - lo).toNat]? = some (offs[(z.toInt - lo).toNat]'hlt) := Array.getElem?_eq_getElem hlt
      rw [Array.getElem?_toList, he] at ht
      exact lv_tableIn hx hb hdg g1 g2 he ht (kk LS hl)
set_option maxHeartbeats 4000000 in
theorem ok_lsw (A : ACT p l e R s m args below meth c Q D cA base b nL d rz own ini cc w0 o) {K : Kont} (hK : KS p l e R s m args below meth c Q D cA base b nL w0 o K)
    {pc len : Nat} {dflt : Int} {ps : Array (Int × Int)} (hdg : decode cc pc = .ok (.lookupswitch dflt ps, len)) {ls : XL} {r : List Value} {w : XW} {z : Int32}
    (h1 : swOk ps.toList = true) (h : swi pc dflt z (fun t => K t ls r w) ps.toList = some o) :
    SND p l e R s m args below meth c Q D cA base b nL w0 o pc ls (.int z :: r) w := by
  obtain ⟨⟨hx, hb, hml, hown⟩, hts, -⟩ := A
  obtain ⟨g1, g2⟩ := Bool.and_eq_true_iff.mp h1
  obtain ⟨t, ht, hk⟩ := swi_of _ (fun q hq => by simpa using List.all_eq_true.mp g1 q hq) h
  exact (hK _ _ _ _ hk).step fun H locs cells slots LS hl hP hS h0 kk => lv_lookup hx hb hdg g2 rfl ht (kk LS hl)
end OK4
end
section
theorem callK_of {n rk : Nat} {F : Orc} {k : List Value → XW → Option XO} {st : List Value} {w : XW} {o : XO} (h : callK n rk F k st w = some o) :
    (n ≤ st.length ∧ (st.drop n).length ≤ 8) ∧ (rk ≠ 3 → (st.drop n).length ≤ 4) ∧ ∃ v w', F (st.take n).reverse w = some (v, w') ∧ k (v.toList ++ st.drop n) w' = some o := by
  unfold callK at h
  split at h
  next hh =>
    refine ⟨⟨hh.1, hh.2.1⟩, fun q => hh.2.2.resolve_right q, ?_⟩
    split at h
    next => obtain ⟨v, w', h1, h2⟩ := cI_of h; exact ⟨_, w', h1, h2⟩
    next =>
      split at h
      next => obtain ⟨v, w', h1, h2⟩ := cL_of h; exact ⟨_, w', h1, h2⟩
      next => obtain ⟨w', h1, h2⟩ := cV_of h; exact ⟨_, w', h1, h2⟩
  next => cases h
section OK5
variable {p : Program} {l : Launch} {e : Env} {R : Room} {s : State} {m : MethodId} {args : Array Value} {below : List Frame} {meth : Method} {c : Code} {Q : State → Prop}
variable {D : va_G} {cA : Nat → ClassId} {base b nL d rz : Nat} {own : String} {ini : Bool} {cc : ByteArray} {w0 : XW} {o : XO}
theorem blindX {av : List Value} {w : XW} : FrameBlind (va_Pc av (XR D cA base b w)) := by
  intro a U g mk h
  obtain ⟨h1, h2, h3, h4, h5, h6⟩ := h
  refine ⟨h1, h2, va_K.moved (u := U) (U := U.calling g mk a) (Vm.Alike.refl U.vm) h3, ?_, fun n hn => ?_, h6⟩
  · obtain ⟨xs, g1, g2⟩ := h4
    exact ⟨xs, g1, va_X.moved (u := U) (U := U.calling g mk a) (Vm.Alike.refl U.vm) g2⟩
  · have h7 := h5 n hn
    have h8 := (List.mem_filter.mp hn).2
    cases n <;> first | exact va_Nw.same rfl (u := U) (U := U.calling g mk a) rfl h7 | exact h7 | cases h8
theorem wsX (hts : ∀ w ∈ tblG, w.before args s = true) {y : MethodName} {bytes : ByteArray} {maxL : Nat} {ret : Option FieldType} (hc : Jvm.Cond.code y bytes maxL ret ∈ tblG) :
    ∀ w ∈ (Jvm.Cond.code y bytes maxL ret :: tblG), ∀ (a' : Array Value) (U : State), s.WarmedH U.vm → w.before a' U = true := by
  intro w hw a' U hW
  rcases List.mem_cons.mp hw with rfl | hw
  · exact word_at hW (tblG_good hc) (hts _ hc)
  · exact word_at hW (tblG_good hw) (hts _ hw)
theorem lenX {y : MethodName} {n : Nat} (h : pl3 y n) : ∀ sig, parseMethodDescriptor y.desc = some sig → n = sig.parameters.length := by
  intro sig hs
  have h2 := h.2.2
  rw [hs] at h2
  exact (Option.some.inj h2).symm
theorem roomX {m : MethodId} {pc : Nat} {LS : Array Slot} {stk : List Value} {rest : List Value} (h : rest.length ≤ 4) : 2 * (F0 m pc LS stk).monitorRoom + ((rest.map (xv base b)).map fun v => v.category).sum ≤ 8 := by
  rw [xv_sum]
  have := cat_le rest
  show 2 * 0 + _ ≤ 8
  omega
theorem splitX {st : List Value} {n : Nat} : st.map (xv base b) = (((st.take n).reverse).map (xv base b)).reverse ++ (st.drop n).map (xv base b) := by
  rw [← List.map_reverse, List.reverse_reverse, ← List.map_append, List.take_append_drop]
set_option maxHeartbeats 4000000 in
theorem ok_static {q : Nat × Nat × Nat × Orc} (hq : sOK l D cA base b d own q) (A : ACT p l e R s m args below meth c Q D cA base b nL d rz own ini cc w0 o) {K : Kont} (hK : KS p l e R s m args below meth c Q D cA base b nL w0 o K)
    {pc : Nat} (hdg : decode cc pc = .ok (.invokestatic q.1, 3)) {ls : XL} {st : List Value} {w : XW}
    (h : callK q.2.1 q.2.2.1 q.2.2.2 (fun s w' => K (pc + 3) ls s w') st w = some o) : SND p l e R s m args below meth c Q D cA base b nL w0 o pc ls st w := by
  have A' := A
  obtain ⟨⟨hx, hb, hml, hown⟩, hts, ⟨-, hKK, ⟨xs, hx0, hX⟩, hN, -, hbb⟩, -, hbase, hrm, -⟩ := A
  rcases hq with ⟨hne, y, bytes, maxL, ret, d', host, hC, hd, hmx, g1, g2, g3, g4, g5⟩ | ⟨g1, g2, g3, g4, g5, g6, g7⟩ | ⟨g1, g2, g3, g4, g5, g6, g7⟩ | ⟨g1, g2, g3, g4, g5, g6, g7⟩
  · obtain ⟨⟨h1, h1'⟩, h2, v, w', h3, h4⟩ := callK_of h
    refine SND.call A' hC h3 (hK _ _ _ _ h4) fun H locs cells slots mc ms LS hl hP hXR hc hs hM => ?_
    have hn : (((st.take q.2.1).reverse).map (xv base b)).length = q.2.1 := by simp; omega
    have hpre : PreS s H (va_Pc (((st.take q.2.1).reverse).map (xv base b)) (XR D cA base b w)) (((st.take q.2.1).reverse).map (xv base b)) := ⟨blindX, fun U hU hW => ⟨rfl, hXR U hU hW⟩⟩
    rcases g5 with g5 | g5
    · exact va_runS (Ts := tblG) (nL := nL) (n := q.2.1) (maxL := maxL) (ret := ret) ⟨hx, hb, hml, hown, hts⟩ hM ⟨⟨rfl, rfl, by show d' + 1 ≤ R.frames; omega, by show 8 + (maxL + 11) + 100 * d' ≤ R.locals; omega, wsX hts g1, List.mem_cons_self, hts _ g1, hts _ g2, ⟨g4.1, g4.2.1⟩, lenX g4, hts _ g5⟩, hts _ g3⟩ hpre rfl hn hl.1 splitX (roomX (h2 hne)) hdg ⟨hc, hs⟩
    · exact va_runSN (Ts := tblG) (nL := nL) (n := q.2.1) (maxL := maxL) (ret := ret) ⟨hx, hb, hml, hown, hts⟩ hM ⟨⟨⟨rfl, rfl, by show d' + 1 ≤ R.frames; omega, by show 8 + (maxL + 11) + 100 * d' ≤ R.locals; omega, wsX hts g1, List.mem_cons_self⟩, hts _ g1, hts _ g2, ⟨g4.1, g4.2.1⟩, lenX g4, va_Nw.use rfl (hN _ g5)⟩, hts _ g3, trivial⟩ hpre rfl hn hl.1 splitX (roomX (h2 hne)) hdg ⟨hc, hs⟩
  · obtain ⟨⟨h1, h1'⟩, h2, v, w', h3, h4⟩ := callK_of h
    rw [g3] at h3
    unfold oCopy at h3
    split at h3
    next as a i a2 j n heq =>
      have hst : st = .int n :: .int j :: .ref a2 :: .int i :: .ref a :: st.drop q.2.1 := by
        have h5 := congrArg List.reverse heq
        rw [List.reverse_reverse] at h5
        have h6 := List.take_append_drop q.2.1 st
        rw [h5] at h6
        exact h6.symm
      cases hsc : sC w a i a2 j n with
      | none => rw [hsc] at h3; cases h3
      | some w1 =>
        rw [hsc] at h3
        cases h3
        unfold sC at hsc
        split at hsc
        next t xs1 t2 ys ha ha2 =>
          split at hsc
          next hh =>
            obtain ⟨rfl, rfl, q1, q2, q3, q4, q5, q6, q7⟩ := hh
            cases hsc
            obtain ⟨a, rfl⟩ : ∃ a' : Nat, a = a' + 1 := ⟨a - 1, (Nat.sub_one_add_one q1).symm⟩
            obtain ⟨a2, rfl⟩ : ∃ a' : Nat, a2 = a' + 1 := ⟨a2 - 1, (Nat.sub_one_add_one q2).symm⟩
            have hzl : (ys.take j.toNatClampNeg ++ ((xs1.drop i.toNatClampNeg).take n.toNatClampNeg ++ ys.drop (j.toNatClampNeg + n.toNatClampNeg))).length = ys.length := by
              simp only [List.length_append, List.length_take, List.length_drop]; omega
            obtain ⟨e1, e2, e3⟩ := xw_same (base := base) (b := b) (cA := cA) ha2 (c := .inr (0, ys.take j.toNatClampNeg ++ ((xs1.drop i.toNatClampNeg).take n.toNatClampNeg ++ ys.drop (j.toNatClampNeg + n.toNatClampNeg)))) hzl.symm
            refine (hK _ _ _ _ h4).put e1 e2 e3 fun H locs cells slots LS hl hP hS h0 kk => ?_
            have he := xw_get (base := base) (b := b) (cA := cA) ha
            have he2 := xw_get (base := base) (b := b) (cA := cA) ha2
            rw [hst]
            refine va_copyi (s := s) hx hb (hml.trans hl.1.symm) hown (hts _ g4) (hts _ g5) (hts _ g6) (hts _ g7) hKK hP (xw_D w) hS a a2 0 0 he he2 rfl rfl rfl (i_nn q3) (i_nn q4) (i_nn q5) q6 q7 (fun _ _ => rfl) (by omega) ?_ hdg fun H1 locs1 hP1 hD1 hS1 => kk H1 locs1 ?_ hS1
            · rw [xv_sum]
              have := cat_le (st.drop q.2.1)
              have h7 : nativeFrameWords "java/lang/System" "arraycopy" 5 = 7 := by decide +kernel
              rw [h7]
              omega
            · rw [xw_set]
              simp only [xe, Nat.reduceBEq, cond_false]
              rw [hzl]
              have hf : (fun k => (ys.take j.toNatClampNeg ++ ((xs1.drop i.toNatClampNeg).take n.toNatClampNeg ++ ys.drop (j.toNatClampNeg + n.toNatClampNeg))).getD k 0) = va_cpy (fun k => xs1.getD k 0) (fun k => ys.getD k 0) i.toNatClampNeg j.toNatClampNeg n.toNatClampNeg := by
                funext k
                simp only [va_cpy, List.getD_eq_getElem?_getD]
                by_cases h8 : k < j.toNatClampNeg
                · rw [List.getElem?_append_left (by simp only [List.length_take]; omega), List.getElem?_take, if_pos h8, if_neg (by omega)]
                · rw [List.getElem?_append_right (by simp only [List.length_take]; omega)]
                  have h9 : (List.take j.toNatClampNeg ys).length = j.toNatClampNeg := by rw [List.length_take]; omega
                  rw [h9]
                  have h10 : (List.take n.toNatClampNeg (List.drop i.toNatClampNeg xs1)).length = n.toNatClampNeg := by rw [List.length_take, List.length_drop]; omega
                  by_cases h11 : k < j.toNatClampNeg + n.toNatClampNeg
                  · rw [List.getElem?_append_left (by omega), List.getElem?_take, if_pos (by omega), List.getElem?_drop, if_pos (by omega)]
                  · rw [List.getElem?_append_right (by omega), h10, List.getElem?_drop, if_neg (by omega), show j.toNatClampNeg + n.toNatClampNeg + (k - j.toNatClampNeg - n.toNatClampNeg) = k by omega]
              rw [hf]
              exact hP1
          next => cases hsc
        next => cases hsc
    next => cases h3
  · obtain ⟨⟨h1, h1'⟩, h2, v, w', h3, h4⟩ := callK_of h
    rw [g3] at h3
    unfold oMax at h3
    split at h3
    next as a1 a2 heq =>
      have hst : st = .int a2 :: .int a1 :: st.drop q.2.1 := by
        have h5 := congrArg List.reverse heq
        rw [List.reverse_reverse] at h5
        have h6 := List.take_append_drop q.2.1 st
        rw [h5] at h6
        exact h6.symm
      cases h3
      obtain ⟨k1, k2, k3, k4⟩ := hK _ _ _ _ h4
      refine ⟨k1, k2, k3, fun H locs cells slots LS hl hP hS h0 hc hs hr1 hr2 => ?_⟩
      rw [hst]
      refine va_mmax (s := s) hx hb (hml.trans hl.1.symm) hown (hts _ g4) (hts _ g5) (hts _ g6) (hts _ g7) (by omega) ?_ (by omega) (by omega) hdg (k4 H locs cells slots LS hl hP hS h0 hc hs hr1 hr2)
      rw [xv_sum]
      have := cat_le (st.drop q.2.1)
      omega
    next => cases h3
  · obtain ⟨⟨h1, h1'⟩, h2, v, w', h3, h4⟩ := callK_of h
    rw [g3] at h3
    unfold oMin at h3
    split at h3
    next as a1 a2 heq =>
      have hst : st = .int a2 :: .int a1 :: st.drop q.2.1 := by
        have h5 := congrArg List.reverse heq
        rw [List.reverse_reverse] at h5
        have h6 := List.take_append_drop q.2.1 st
        rw [h5] at h6
        exact h6.symm
      cases h3
      obtain ⟨k1, k2, k3, k4⟩ := hK _ _ _ _ h4
      refine ⟨k1, k2, k3, fun H locs cells slots LS hl hP hS h0 hc hs hr1 hr2 => ?_⟩
      rw [hst]
      refine va_mmin (s := s) hx hb (hml.trans hl.1.symm) hown (hts _ g4) (hts _ g5) (hts _ g6) (hts _ g7) (by omega) ?_ (by omega) (by omega) hdg (k4 H locs cells slots LS hl hP hS h0 hc hs hr1 hr2)
      rw [xv_sum]
      have := cat_le (st.drop q.2.1)
      omega
    next => cases h3
end OK5
end
section
/-! ===== arrays of arrays: reading one, making two dimensions ===== -/
theorem aR_of {w : XW} {o : Nat} {i : Int32} {x : Nat} (h : aR w o i = some x) : ∃ xs o', o = o' + 1 ∧ w[o]? = some (.inr (3, xs)) ∧ vp_in i xs.length ∧ (xs.getD i.toNatClampNeg 0).toNatClampNeg = x := by
  unfold aR at h
  split at h
  next t xs hc =>
    split at h
    next hh =>
      obtain ⟨rfl, h2, h3⟩ := hh
      obtain ⟨v, hv, hx⟩ := Option.map_eq_some_iff.mp h
      refine ⟨xs, o - 1, by omega, hc, ?_, ?_⟩
      · rintro (q | q)
        · exact absurd h3 (Int32.not_le.mpr q)
        · have := (List.getElem?_eq_some_iff.mp hv).1; omega
      · rw [List.getD_eq_getElem?_getD, hv]; exact hx
    next => cases h
  next => cases h
theorem xw_app {base b : Nat} {cA : Nat → ClassId} {w : XW} {L : XW} (h : 0 < w.length) : xw base b cA (w ++ L) = xw base b cA w ++ L.mapIdx (fun k c => (base + (w.length - 1) + k, xe base b cA c)) := by
  unfold xw
  cases w with
  | nil => simp at h
  | cons a r =>
    simp only [List.cons_append, List.tail_cons, List.mapIdx_append, List.length_cons, Nat.add_sub_cancel]
    congr 2
    funext k c
    rw [show base + (k + r.length) = base + r.length + k by omega]
theorem gs_app (w v : XW) : gs (w ++ v) = gs w + gs v := by simp [gs]
theorem mkA_len (L : Nat) (n k : Int32) : (mkA L n k).length = 1 + n.toNatClampNeg := by simp [mkA]; omega
theorem mkA_gs (L : Nat) (n k : Int32) : gs (mkA L n k) = n.toNatClampNeg + n.toNatClampNeg * k.toNatClampNeg := by
  simp [gs, mkA, xsz]
theorem ofNat_clamp {n : Nat} (h : n < 2147483648) : (Int32.ofNat n).toNatClampNeg = n := by
  show (Int32.ofNat n).toInt.toNat = n
  rw [Int32.toInt_ofNat_of_lt (by simpa using h)]
  rfl
theorem cell_out (cA : ClassId) (N h0 : Nat) : Jvm.Free.Multi.outerC cA N h0 N = arrV cA N (fun j => .ref (h0 + 1 + j)) := by
  obtain ⟨a, b, d⟩ := Jvm.Free.Multi.outerC_facts cA N h0 N
  obtain ⟨e, f⟩ := Jvm.Free.Multi.outerC_plain cA N h0 N
  have hs : (Jvm.Free.Multi.outerC cA N h0 N).slots = (arrV cA N (fun j => .ref (h0 + 1 + j))).slots := by
    apply Array.ext_getElem?
    intro j
    by_cases hj : j < N
    · rw [Jvm.Free.Multi.outerC_slot cA N h0 N j hj, if_pos hj, arrV_read cA _ hj]
    · rw [Array.getElem?_eq_none (by omega), Array.getElem?_eq_none (by rw [arrV_size]; omega)]
  generalize Jvm.Free.Multi.outerC cA N h0 N = x at a b d e f hs
  cases x
  simp only at a b e f hs
  subst a b e f hs
  rfl
section OKM
variable {p : Program} {l : Launch} {e : Env} {R : Room} {s : State} {m : MethodId} {args : Array Value} {below : List Frame} {meth : Method} {c : Code} {Q : State → Prop}
variable {D : va_G} {cA : Nat → ClassId} {base b nL d rz : Nat} {own : String} {ini : Bool} {cc : ByteArray} {w0 : XW} {o : XO}
set_option maxHeartbeats 4000000 in
theorem ok_aaload (A : ACT p l e R s m args below meth c Q D cA base b nL d rz own ini cc w0 o) {K : Kont} (hK : KS p l e R s m args below meth c Q D cA base b nL w0 o K)
    {pc : Nat} (hdg : decode cc pc = .ok (.aaload, 1)) {ls : XL} {r : List Value} {w : XW} {a : Nat} {i : Int32} {x : Nat} (hx1 : aR w a i = some x) (h : K (pc + 1) ls (.ref x :: r) w = some o) :
    SND p l e R s m args below meth c Q D cA base b nL w0 o pc ls (.int i :: .ref a :: r) w := by
  obtain ⟨⟨hx, hb, hml, hown⟩, hts, ⟨-, hKK, ⟨xs, hx0, hX⟩, hN, -, hbb⟩, -, hbase, -⟩ := A
  obtain ⟨ys, a', rfl, ha, hin, hv⟩ := aR_of hx1
  refine (hK _ _ _ _ h).step fun H locs cells slots LS hl hP hS h0 kk => ?_
  have he := xw_get (base := base) (b := b) (cA := cA) ha
  have hlt : i.toNatClampNeg < ys.length := Nat.not_le.mp fun q => hin (Or.inr q)
  refine W.aald (v := .ref (xa base b x)) (ty := .array .int) hx hb (hP a' _ he) ((hKK.2 1 _ rfl).1 ys.length _) rfl (fun q => by cases q) (by show ¬ (i < 0 ∨ (arrV _ _ _).slots.size ≤ _); rw [arrV_size]; exact hin) (by show (arrV _ _ _).slots[_]? = _; rw [arrV_read _ _ hlt]; subst hv; rfl) rfl rfl hdg (kk LS hl)
set_option maxHeartbeats 4000000 in
theorem ok_multi (hI : Jvm.Cond.arrayClass .int ∈ tblG) (hAO : Jvm.Cond.arrayOver (.array .int) ∈ tblN) {i : Nat} (hcl : Jvm.Cond.classLink own i "[[I" ∈ tblG)
    (A : ACT p l e R s m args below meth c Q D cA base b nL d rz own ini cc w0 o) {K : Kont} (hK : KS p l e R s m args below meth c Q D cA base b nL w0 o K)
    {pc : Nat} (hdg : decode cc pc = .ok (.multianewarray i 2, 4)) {ls : XL} {r : List Value} {w : XW} {n k : Int32} (h1 : 0 ≤ n) (h2 : n ≤ 1000) (h3 : 0 ≤ k) (h4 : k ≤ 1000) (hw : 0 < w.length) (hw2 : w.length ≤ 1000)
    (h : K (pc + 4) ls (.ref w.length :: r) (w ++ mkA w.length n k) = some o) :
    SND p l e R s m args below meth c Q D cA base b nL w0 o pc ls (.int k :: .int n :: r) w := by
  obtain ⟨⟨hx, hb, hml, hown⟩, hts, ⟨-, hKK, ⟨xs, hx0, hX⟩, hN, hsz, hbb⟩, -, hbase, -⟩ := A
  obtain ⟨k1, k2, k3, k4⟩ := hK _ _ _ _ h
  have hn := i_small h2
  have hk := i_small h4
  rw [List.length_append, mkA_len] at k1
  rw [gs_app, mkA_gs] at k2
  have hmul : n.toNatClampNeg * k.toNatClampNeg ≤ 1000 * 1000 := Nat.mul_le_mul hn hk
  refine ⟨by omega, by omega, k3.trans (by rw [List.getElem?_append_left hw]), fun H locs cells slots LS hl hP hS hz hc hs hr1 hr2 => W.sized fun z1 z2 => ?_⟩
  have hH : H.size + 1 = base + w.length := by
    have := xw_size hP (by omega) hw
    omega
  intro T hT X
  have hao : (Jvm.Cond.arrayOver (.array .int)).before args s = true := hN _ hAO
  obtain ⟨vm₁, cA', comp, hW, hfA, hfC, -, -, X1, step⟩ := X.multianewarray2F (ty := .int) hx hown (hts _ hcl) hao (hts _ hI) (g := F0 m pc LS ((.int k :: .int n :: r : List Value).map (xv base b))) rfl (by rw [hb]; exact hdg) (n := n) (k := k) (rest := r.map (xv base b)) rfl (i_nn h1) (i_nn h3) (by omega) (by show k.toNatClampNeg * 4 ≤ 536870912; omega) (by omega) rfl rfl (by omega) (by omega)
  have eA : cA' = cA 3 := Option.some.inj (hfA.symm.trans (hKK.2 1 _ rfl).2)
  have eC : comp = cA 0 := Option.some.inj (hfC.symm.trans (hKK.2 0 _ rfl).2)
  subst eA eC
  have hTs : (T.setVm vm₁).heap.size = H.size := by rw [← hT]; rfl
  have f1 := (Jvm.Free.Multi.fill_facts (T.setVm vm₁) (cA 3) (cA 0) n.toNatClampNeg k.toNatClampNeg (.int 0) n.toNatClampNeg)
  obtain ⟨f1, f2, -, -⟩ := f1
  have f3 := fun (a : Nat) (ha : a < (T.setVm vm₁).heap.size) => Jvm.Free.Multi.fill_old (T.setVm vm₁) (cA 3) (cA 0) n.toNatClampNeg k.toNatClampNeg (.int 0) ha n.toNatClampNeg
  have f4 := Jvm.Free.Multi.fill_inner (T.setVm vm₁) (cA 3) (cA 0) n.toNatClampNeg k.toNatClampNeg (.int 0) n.toNatClampNeg
  have hTh : (T.setVm vm₁).heap = H := hT
  rw [hTs] at f1 f2 f3 f4
  rw [hTh] at f3
  have X2 : Stand p l e R s m args below meth c (Jvm.Free.Multi.fill (T.setVm vm₁) (cA 3) (cA 0) n.toNatClampNeg k.toNatClampNeg (.int 0) n.toNatClampNeg) locs (cells + 1 + n.toNatClampNeg) (slots + n.toNatClampNeg + n.toNatClampNeg * k.toNatClampNeg) := X1
  have step2 : ∀ target, Steps p.tables e below ((Jvm.Free.Multi.fill (T.setVm vm₁) (cA 3) (cA 0) n.toNatClampNeg k.toNatClampNeg (.int 0) n.toNatClampNeg).setTop (F0 m (pc + 4) LS (.ref T.heap.size :: r.map (xv base b)))) target →
        Steps p.tables e below (T.setTop (F0 m pc LS ((.int k :: .int n :: r : List Value).map (xv base b)))) target := step
  generalize Jvm.Free.Multi.fill (T.setVm vm₁) (cA 3) (cA 0) n.toNatClampNeg k.toNatClampNeg (.int 0) n.toNatClampNeg = T1 at f1 f2 f3 f4 X2 step2
  have hP1 : va_P D vwCl (xw base b cA (w ++ mkA w.length n k)) T1.heap := by
    rw [xw_app hw]
    refine va_P.app (va_P.kept hP fun j q hj => f3 q.1 (hP j q hj).lt) fun j q hj => ?_
    rw [List.getElem?_mapIdx] at hj
    cases j with
    | zero =>
      simp only [mkA, List.getElem?_cons_zero, Option.map_some, Option.some.injEq] at hj
      subst hj
      show T1.heap[base + (w.length - 1) + 0]? = some (vp_cell _ _)
      rw [show base + (w.length - 1) + 0 = H.size by omega, f2, cell_out, vp_cell_q]
      congr 1
      simp only [List.length_map, List.length_range]
      unfold arrV
      congr 1
      congr 1
      funext j
      have hj : j.val < n.toNatClampNeg := j.isLt
      simp only [List.getD_eq_getElem?_getD, List.getElem?_map, List.getElem?_range hj, Option.map_some, Option.getD_some, va_rf]
      rw [ofNat_clamp (by omega), show w.length + 1 + j.val = (w.length + j.val) + 1 by omega]
      exact congrArg Value.ref (show H.size + 1 + j.val = base + (w.length + j.val) by omega)
    | succ j =>
      simp only [mkA, List.getElem?_cons_succ, List.getElem?_replicate] at hj
      split at hj
      next hlt =>
        simp only [Option.map_some, Option.some.injEq] at hj
        subst hj
        show T1.heap[base + (w.length - 1) + (j + 1)]? = some (vp_cell _ _)
        rw [show base + (w.length - 1) + (j + 1) = H.size + 1 + j by omega, f4 j hlt]
        congr 1
        have e0 : (Jvm.Free.Multi.innerC (cA 0) k.toNatClampNeg (.int 0) : Cell) = arrV (cA 0) k.toNatClampNeg (fun _ => .int 0) := arrV_new _ _ _
        refine e0.trans ((?_ : _ = _).trans (vp_cell_i _ _ _).symm)
        simp only [List.length_replicate]
        congr 1
        funext j
        simp only [List.getD_eq_getElem?_getD, List.getElem?_replicate]
        split <;> rfl
      next => cases hj
  have hS1 : va_S (fun q => base ≤ q) s.heap T1.heap locs := ⟨by omega, fun q q1 q2 => (f3 q (by omega)).trans (hS.2.1 q q1 q2), hS.2.2⟩
  have hx2 : xa base b w.length = T.heap.size := by
    obtain ⟨n, hn⟩ : ∃ n, w.length = n + 1 := ⟨w.length - 1, by omega⟩
    rw [hn, hT]
    show base + n = H.size
    omega
  obtain ⟨t, a1, b1⟩ := k4 T1.heap locs (cells + 1 + n.toNatClampNeg) (slots + n.toNatClampNeg + n.toNatClampNeg * k.toNatClampNeg) LS hl hP1 hS1 (by rw [List.getElem?_append_left hw]; exact hz) (by rw [List.length_append, mkA_len]; omega) (by rw [gs_app, mkA_gs]; omega) hr1 hr2 T1 rfl X2
  rw [List.map_cons, xv, hx2] at a1
  exact ⟨t, step2 t a1, b1⟩
end OKM
end
section
section OK6
variable {p : Program} {l : Launch} {e : Env} {R : Room} {s : State} {m : MethodId} {args : Array Value} {below : List Frame} {meth : Method} {c : Code} {Q : State → Prop}
variable {D : va_G} {cA : Nat → ClassId} {base b nL d rz : Nat} {own : String} {ini : Bool} {cc : ByteArray} {w0 : XW} {o : XO}
theorem headX {st r : List Value} {n a : Nat} (h : (st.take (n + 1)).reverse = .ref a :: r) (hl : r.length = n) : st.take n = r.reverse ∧ st = r.reverse ++ .ref a :: st.drop (n + 1) := by
  have h5 := congrArg List.reverse h
  rw [List.reverse_reverse, List.reverse_cons] at h5
  have h6 := List.take_append_drop (n + 1) st
  rw [h5] at h6
  refine ⟨?_, by rw [List.append_assoc] at h6; exact h6.symm⟩
  have h7 : st.take n = (st.take (n + 1)).take n := by rw [List.take_take]; congr 1; omega
  rw [h7, h5, List.take_append_of_le_length (by rw [List.length_reverse, hl]; exact Nat.le_refl _), List.take_of_length_le (by rw [List.length_reverse, hl]; exact Nat.le_refl _)]
set_option maxHeartbeats 4000000 in
theorem ok_virtual {q : Nat × Nat × Nat × Orc} (hq : vOK l D cA base b d own q) (A : ACT p l e R s m args below meth c Q D cA base b nL d rz own ini cc w0 o) {K : Kont} (hK : KS p l e R s m args below meth c Q D cA base b nL w0 o K)
    {pc : Nat} (hdg : decode cc pc = .ok (.invokevirtual q.1, 3)) {ls : XL} {st : List Value} {w : XW}
    (h : callK q.2.1 q.2.2.1 q.2.2.2 (fun s w' => K (pc + 3) ls s w') st w = some o) : SND p l e R s m args below meth c Q D cA base b nL w0 o pc ls st w := by
  have A' := A
  obtain ⟨⟨hx, hb, hml, hown⟩, hts, ⟨-, hKK, ⟨xs, hx0, hX⟩, hN, -, hbb⟩, -, hbase, hrm, -⟩ := A
  obtain ⟨hne, y, bytes, maxL, ret, d', host, ci, T, N, n, hC, hd, hmx, hn1, hsh, hcl, g1, g2, g3, g4, g5, g6⟩ := hq
  obtain ⟨⟨h1, h1'⟩, h2, v, w', h3, h4⟩ := callK_of h
  obtain ⟨a, r, hr1, hr2, hr3⟩ := hsh _ _ _ h3
  rw [hn1] at hr1 h1 h2 h3 h4
  obtain ⟨-, hst⟩ := headX hr1 hr2
  rw [hr1] at h3
  refine SND.call (rest := st.drop (n + 1)) A' hC h3 (hK _ _ _ _ h4) fun H locs cells slots mc ms LS hl hP hXR hc hs hM => ?_
  have hobj : ∃ cellB : Cell, H[xa base b a]? = some cellB ∧ cellB.vm.isStatics = false ∧ s.vm.findClass y.cls = some cellB.cls := by
    unfold isO at hr3
    split at hr3
    next c1 fs ha =>
      have hci : c1 = ci := by simpa using hr3
      subst hci
      obtain ⟨a', rfl⟩ : ∃ a' : Nat, a = a' + 1 := by
        cases a with
        | zero =>
          obtain ⟨xs', hx', -⟩ := (hXR { s with heap := H } rfl (State.WarmedH.refl s)).2.2.1
          rw [hx'] at ha; cases ha
        | succ a => exact ⟨a, rfl⟩
      exact va_recv hKK hP hcl (xw_get (base := base) (b := b) (cA := cA) ha)
    next => cases hr3
  have hpre : PreV s H y.cls (xa base b a) (va_Pc ((Value.ref a :: r).map (xv base b)) (XR D cA base b w)) (r.map (xv base b)) := ⟨blindX, hobj, fun U hU hW => ⟨rfl, hXR U hU hW⟩⟩
  have hnl : (r.map (xv base b)).length = n := by rw [List.length_map]; exact hr2
  have hstk : st.map (xv base b) = (r.map (xv base b)).reverse ++ .ref (xa base b a) :: (st.drop (n + 1)).map (xv base b) := by
    conv => lhs; rw [hst]
    rw [List.map_append, List.map_reverse, List.map_cons]; rfl
  rcases g6 with g6 | g6
  · exact va_runV (Ts := tblG) (nL := nL) (n := n) (maxL := maxL) (ret := ret) (C := y.cls) ⟨hx, hb, hml, hown, hts⟩ hM ⟨⟨rfl, rfl, by show d' + 1 ≤ R.frames; omega, by show 8 + (maxL + 11) + 100 * d' ≤ R.locals; omega, wsX hts g1, List.mem_cons_self, hts _ g1, hts _ g2, ⟨g5.1, g5.2.1⟩, lenX g5, hts _ g6⟩, hts _ g3, hts _ g4⟩ hpre rfl hnl hl.1 hstk (roomX (h2 hne)) hdg ⟨hc, hs⟩
  · exact va_runVN (Ts := tblG) (nL := nL) (n := n) (maxL := maxL) (ret := ret) (C := y.cls) ⟨hx, hb, hml, hown, hts⟩ hM ⟨⟨⟨rfl, rfl, by show d' + 1 ≤ R.frames; omega, by show 8 + (maxL + 11) + 100 * d' ≤ R.locals; omega, wsX hts g1, List.mem_cons_self⟩, hts _ g1, hts _ g2, ⟨g5.1, g5.2.1⟩, lenX g5, va_Nw.use rfl (hN _ g6)⟩, hts _ g3, hts _ g4⟩ hpre rfl hnl hl.1 hstk (roomX (h2 hne)) hdg ⟨hc, hs⟩
set_option maxHeartbeats 4000000 in
theorem ok_special {q : Nat × Nat × Nat × Orc} (hq : iOK l D cA base b d own q) (A : ACT p l e R s m args below meth c Q D cA base b nL d rz own ini cc w0 o) {K : Kont} (hK : KS p l e R s m args below meth c Q D cA base b nL w0 o K)
    {pc : Nat} (hdg : decode cc pc = .ok (.invokespecial q.1, 3)) {ls : XL} {st : List Value} {w : XW}
    (h : callK q.2.1 q.2.2.1 q.2.2.2 (fun s w' => K (pc + 3) ls s w') st w = some o) : SND p l e R s m args below meth c Q D cA base b nL w0 o pc ls st w := by
  have A' := A
  obtain ⟨⟨hx, hb, hml, hown⟩, hts, ⟨-, hKK, ⟨xs, hx0, hX⟩, hN, -, hbb⟩, -, hbase, hrm, -⟩ := A
  rcases hq with ⟨hne, y, bytes, maxL, d', host, n, hC, hd, hmx, hn1, hsh, hy1, g1, g2, g3, g5, g6⟩ | ⟨g1, g2, g3, g4, g5, g6⟩
  · obtain ⟨⟨h1, h1'⟩, h2, v, w', h3, h4⟩ := callK_of h
    obtain ⟨a, r, hr1, hr2⟩ := hsh _ _ _ h3
    rw [hn1] at hr1 h1 h2 h3 h4
    obtain ⟨-, hst⟩ := headX hr1 hr2
    rw [hr1] at h3
    refine SND.call (rest := st.drop (n + 1)) A' hC h3 (hK _ _ _ _ h4) fun H locs cells slots mc ms LS hl hP hXR hc hs hM => ?_
    have hpre : PreS s H (va_Pc ((Value.ref a :: r).map (xv base b)) (XR D cA base b w)) (.ref (xa base b a) :: r.map (xv base b)) := ⟨blindX, fun U hU hW => ⟨rfl, hXR U hU hW⟩⟩
    have hnl : (r.map (xv base b)).length = n := by rw [List.length_map]; exact hr2
    have hstk : st.map (xv base b) = (r.map (xv base b)).reverse ++ .ref (xa base b a) :: (st.drop (n + 1)).map (xv base b) := by
      conv => lhs; rw [hst]
      rw [List.map_append, List.map_reverse, List.map_cons]; rfl
    rcases g6 with g6 | g6
    · exact va_runI (Ts := tblG) (nL := nL) (n := n) (maxL := maxL) ⟨hx, hb, hml, hown, hts⟩ hM ⟨⟨rfl, rfl, by show d' + 1 ≤ R.frames; omega, by show 8 + (maxL + 11) + 100 * d' ≤ R.locals; omega, wsX hts g1, List.mem_cons_self, hts _ g1, hts _ g2, ⟨g5.1, g5.2.1⟩, lenX g5, hts _ g6⟩, hy1, hts _ g3⟩ hpre rfl hnl hl.1 hstk (roomX (h2 hne)) hdg ⟨hc, hs⟩
    · exact va_runIN (Ts := tblG) (nL := nL) (n := n) (maxL := maxL) ⟨hx, hb, hml, hown, hts⟩ hM ⟨⟨⟨rfl, rfl, by show d' + 1 ≤ R.frames; omega, by show 8 + (maxL + 11) + 100 * d' ≤ R.locals; omega, wsX hts g1, List.mem_cons_self⟩, hts _ g1, hts _ g2, ⟨g5.1, g5.2.1⟩, lenX g5, va_Nw.use rfl (hN _ g6)⟩, hy1, hts _ g3⟩ hpre rfl hnl hl.1 hstk (roomX (h2 hne)) hdg ⟨hc, hs⟩
  · obtain ⟨⟨h1, h1'⟩, h2, v, w', h3, h4⟩ := callK_of h
    rw [g1] at h1 h2 h3 h4
    rw [g3] at h3
    unfold oInit at h3
    split at h3
    next as a heq =>
      cases h3
      have hst : st = .ref a :: st.drop 1 := by
        have h5 := congrArg List.reverse heq
        rw [List.reverse_reverse] at h5
        have h6 := List.take_append_drop 1 st
        rw [h5] at h6
        exact h6.symm
      refine (hK _ _ _ _ h4).step fun H locs cells slots LS hl hP hS h0 kk => ?_
      have hstk : st.map (xv base b) = .ref (xa base b a) :: (st.drop 1).map (xv base b) := by
        conv => lhs; rw [hst]
        rfl
      refine W.objInit hx hb hown (hts _ g4) (hts _ g5) (hts _ g6) rfl (hl.1.trans hml.symm) hstk hdg (by omega) ?_ (kk LS hl)
      rw [xv_sum]
      have := cat_le (st.drop 1)
      show 2 * 0 + _ + 12 ≤ _
      omega
    next => cases h3
/-- the end of a method -/
theorem ok_ret (A : ACT p l e R s m args below meth c Q D cA base b nL d rz own ini cc w0 o) {pc : Nat} {ls : XL} {v : Option Value} {w : XW} (ho : o = (v, w))
    (hv : rOK cc rz pc v) : SND p l e R s m args below meth c Q D cA base b nL w0 o pc ls v.toList w := by
  subst ho
  obtain ⟨-, -, -, -, -, -, hret⟩ := A
  refine ⟨Nat.le_refl _, Nat.le_refl _, rfl, fun H locs cells slots LS hl hP hS h0 hc hs hr1 hr2 => ?_⟩
  have h := hret H locs cells slots LS pc hP hS h0 hc hs hr1 hr2 hv
  have e1 : v.toList.map (xv base b) = (v.map (xv base b)).toList := by cases v <;> rfl
  rw [e1]
  exact h
set_option maxHeartbeats 4000000 in
/-- every operation stands for the machine's -/
theorem opK_ok {fl : List (Nat × Nat × Nat × Nat)} {nl : List (Nat × Nat × List Value)} {kl : List (Nat × Int32)} {k2 : List (Nat × Int64)} {mv ms mi : List (Nat × Nat × Nat × Orc)}
    (hI : Jvm.Cond.arrayClass .int ∈ tblG)
    (hfl : ∀ q ∈ fl, fOK own ini q) (hnl : ∀ q ∈ nl, nOK own q) (hkl : ∀ q ∈ kl, Jvm.Cond.constant own q.1 q.2 ∈ tblG) (hk2 : ∀ q ∈ k2, Jvm.Cond.constantLong own q.1 q.2 ∈ tblG)
    (hmv : ∀ q ∈ mv, vOK l D cA base b d own q) (hms : ∀ q ∈ ms, sOK l D cA base b d own q) (hmi : ∀ q ∈ mi, iOK l D cA base b d own q)
    (A : ACT p l e R s m args below meth c Q D cA base b nL d rz own ini cc w0 o) {K : Kont} (hK : KS p l e R s m args below meth c Q D cA base b nL w0 o K)
    {pc : Nat} {ins : Instr} {len : Nat} (hdg : decode cc pc = .ok (ins, len)) (hat : okAt pc ins len = true) {ls : XL} {st : List Value} {w : XW}
    (h : opK nL rz fl nl kl k2 mv ms mi pc K ls st w ins = some o) : SND p l e R s m args below meth c Q D cA base b nL w0 o pc ls st w := by
  have hlen := (Bool.and_eq_true_iff.mp hat).1
  cases ins <;> first | exact opK_plain hkl hk2 A hK hdg hat trivial h | skip
  case getfield i =>
    obtain rfl : len = 3 := by simpa [okLen] using hlen
    exact ok_getfield hfl A hK hdg h
  case putfield i =>
    obtain rfl : len = 3 := by simpa [okLen] using hlen
    exact ok_putfield hfl A hK hdg h
  case iaload =>
    obtain rfl : len = 1 := by simpa [okLen] using hlen
    simp only [opK] at h
    split at h
    next => obtain ⟨v, hv, h⟩ := some_of h; exact ok_iaload A hK hdg hv h
    next => cases h
  case iastore =>
    obtain rfl : len = 1 := by simpa [okLen] using hlen
    simp only [opK] at h
    split at h
    next => obtain ⟨v, hv, h⟩ := some_of h; exact ok_iastore A hK hdg hv h
    next => cases h
  case arraylength =>
    obtain rfl : len = 1 := by simpa [okLen] using hlen
    simp only [opK] at h
    split at h
    next => obtain ⟨v, hv, h⟩ := some_of h; exact ok_alen A hK hdg hv h
    next => cases h
  case newarray t =>
    obtain rfl : len = 2 := by simpa [okLen] using hlen
    simp only [opK] at h
    split at h
    next =>
      split at h
      next =>
        split at h
        next hh => exact ok_newarray hI A hK hdg hh.1 hh.2.1 hh.2.2 ⟨rfl, rfl⟩ h
        next => cases h
      next => cases h
    next => cases h
  case aaload =>
    obtain rfl : len = 1 := by simpa [okLen] using hlen
    simp only [opK] at h
    split at h
    next => obtain ⟨v, hv, h⟩ := some_of h; exact ok_aaload A hK hdg hv h
    next => cases h
  case multianewarray i dd =>
    obtain rfl : len = 4 := by simpa [okLen] using hlen
    simp only [opK] at h
    obtain ⟨⟨ci, fs⟩, hf, h5⟩ := some_of h
    have hz : (ci == 99 && dd == 2) = true := by
      cases hz : (ci == 99 && dd == 2) with
      | true => rfl
      | false => dsimp only at h5; rw [hz] at h5; cases h5
    dsimp only at h5
    rw [hz, cond_true] at h5
    obtain ⟨z1, z2⟩ := Bool.and_eq_true_iff.mp hz
    have z1 := eq_of_beq z1
    have z2 := eq_of_beq z2
    subst z1 z2
    split at h5
    next =>
      split at h5
      next hh =>
        rcases hnl _ (lk_mem hf) with ⟨-, g1, g2⟩ | ⟨C, T, N, ty, g1, -⟩
        · exact ok_multi hI g2 g1 A hK hdg hh.1 hh.2.1 hh.2.2.1 hh.2.2.2.1 hh.2.2.2.2.1 hh.2.2.2.2.2 h5
        · exact absurd g1 (by simp [vwCl])
      next => cases h5
    next => cases h5
  case new i =>
    obtain rfl : len = 3 := by simpa [okLen] using hlen
    exact ok_new hnl A hK hdg h
  case invokevirtual i =>
    obtain rfl : len = 3 := by simpa [okLen] using hlen
    obtain ⟨f, hf, h⟩ := some_of h
    exact ok_virtual (q := (i, f)) (hmv _ (lk_mem hf)) A hK hdg h
  case invokestatic i =>
    obtain rfl : len = 3 := by simpa [okLen] using hlen
    obtain ⟨f, hf, h⟩ := some_of h
    exact ok_static (q := (i, f)) (hms _ (lk_mem hf)) A hK hdg h
  case invokespecial i =>
    obtain rfl : len = 3 := by simpa [okLen] using hlen
    obtain ⟨f, hf, h⟩ := some_of h
    exact ok_special (q := (i, f)) (hmi _ (lk_mem hf)) A hK hdg h
  case ireturn =>
    obtain rfl : len = 1 := by simpa [okLen] using hlen
    simp only [opK] at h
    split at h
    next =>
      split at h
      next hz => cases h; exact ok_ret (v := some (.int _)) A rfl ⟨hdg, Or.inl hz⟩
      next =>
        split at h
        next hz =>
          unfold retZ at h
          split at h
          next hx => subst hx; cases h; exact ok_ret (v := some (.int 0)) A rfl ⟨hdg, Or.inr ⟨hz, Or.inl rfl⟩⟩
          next =>
            split at h
            next hx => subst hx; cases h; exact ok_ret (v := some (.int 1)) A rfl ⟨hdg, Or.inr ⟨hz, Or.inr rfl⟩⟩
            next => cases h
        next => cases h
    next => cases h
  case lreturn =>
    obtain rfl : len = 1 := by simpa [okLen] using hlen
    simp only [opK] at h
    split at h
    next =>
      split at h
      next hz => cases h; exact ok_ret (v := some (.long _)) A rfl ⟨hdg, hz⟩
      next => cases h
    next => cases h
  case return_ =>
    obtain rfl : len = 1 := by simpa [okLen] using hlen
    simp only [opK] at h
    split at h
    next =>
      split at h
      next hz => cases h; exact ok_ret (v := none) A rfl ⟨hdg, hz⟩
      next => cases h
    next => cases h
  case tableswitch d lo hi offs =>
    simp only [opK] at h
    split at h
    next =>
      split at h
      next hh => exact ok_tsw A hK hdg hh.1 hh.2.1 hh.2.2 h
      next => cases h
    next => cases h
  case lookupswitch d ps =>
    simp only [opK] at h
    split at h
    next =>
      split at h
      next hh => exact ok_lsw A hK hdg hh h
      next => cases h
    next => cases h
end OK6
end
section
/-! ===== a world only grows ===== -/
def MO (w w' : XW) : Prop := w.length ≤ w'.length ∧ gs w ≤ gs w' ∧ w'[0]? = w[0]?
theorem MO.set {w : XW} {o' : Nat} {c0 c : XC} {w' : XW} (h : w[o' + 1]? = some c0) (hs : xsz c0 = xsz c) (k : MO (w.set (o' + 1) c) w') : MO w w' := by
  obtain ⟨e1, e2, e3⟩ := xw_same (base := 0) (b := 0) (cA := fun _ => 0) h hs
  obtain ⟨k1, k2, k3⟩ := k
  exact ⟨by omega, by omega, k3.trans e3⟩
theorem MO.push {w : XW} {c : XC} {w' : XW} (hw : 0 < w.length) (k : MO (w ++ [c]) w') : MO w w' := by
  obtain ⟨k1, k2, k3⟩ := k
  rw [List.length_append, List.length_singleton] at k1
  rw [gs_push] at k2
  exact ⟨by omega, by omega, k3.trans (by rw [List.getElem?_append_left hw])⟩
theorem MO.pushes {w v : XW} {w' : XW} (hw : 0 < w.length) (k : MO (w ++ v) w') : MO w w' := by
  obtain ⟨k1, k2, k3⟩ := k
  rw [List.length_append] at k1
  rw [gs_app] at k2
  exact ⟨by omega, by omega, k3.trans (by rw [List.getElem?_append_left hw])⟩
theorem MO.trans {a b c : XW} (h : MO a b) (k : MO b c) : MO a c := ⟨Nat.le_trans h.1 k.1, Nat.le_trans h.2.1 k.2.1, k.2.2.trans h.2.2⟩
theorem MO.rfl {a : XW} : MO a a := ⟨Nat.le_refl _, Nat.le_refl _, Eq.refl _⟩
def OM (F : Orc) : Prop := ∀ as w o, F as w = some o → MO w o.2
theorem om_init : OM oInit := by
  intro as w o h
  unfold oInit at h
  split at h
  next => cases h; exact MO.rfl
  next => cases h
theorem om_max : OM oMax := by
  intro as w o h
  unfold oMax at h
  split at h
  next => cases h; exact MO.rfl
  next => cases h
theorem om_min : OM oMin := by
  intro as w o h
  unfold oMin at h
  split at h
  next => cases h; exact MO.rfl
  next => cases h
theorem om_copy : OM oCopy := by
  intro as w o h
  unfold oCopy at h
  split at h
  next =>
    rename_i a i a2 j n
    cases hsc : sC w a i a2 j n with
    | none => rw [hsc] at h; cases h
    | some w1 =>
      rw [hsc] at h
      cases h
      unfold sC at hsc
      split at hsc
      next t xs1 t2 ys ha ha2 =>
        split at hsc
        next hh =>
          obtain ⟨rfl, rfl, q1, q2, q3, q4, q5, q6, q7⟩ := hh
          cases hsc
          obtain ⟨a2, rfl⟩ : ∃ a' : Nat, a2 = a' + 1 := ⟨a2 - 1, (Nat.sub_one_add_one q2).symm⟩
          refine MO.set ha2 ?_ MO.rfl
          simp only [xsz, List.length_append, List.length_take, List.length_drop]
          omega
        next => cases hsc
      next => cases hsc
  next => cases h
theorem opK_mono {nL rz : Nat} {fl : List (Nat × Nat × Nat × Nat)} {nl : List (Nat × Nat × List Value)} {kl : List (Nat × Int32)} {k2 : List (Nat × Int64)} {mv ms mi : List (Nat × Nat × Nat × Orc)} {o : XO}
    (hmv : ∀ q ∈ mv, OM q.2.2.2) (hms : ∀ q ∈ ms, OM q.2.2.2) (hmi : ∀ q ∈ mi, OM q.2.2.2) {K : Kont} (hK : ∀ pc ls st w, K pc ls st w = some o → MO w o.2)
    {pc : Nat} {ins : Instr} {ls : XL} {st : List Value} {w : XW} (h : opK nL rz fl nl kl k2 mv ms mi pc K ls st w ins = some o) : MO w o.2 := by
  have hsw : ∀ (d : Int) (x : Int32) (r : List Value) (ps : List (Int × Int)), swi pc d x (fun t => K t ls r w) ps = some o → MO w o.2 := by
    intro d x r ps
    induction ps with
    | nil => intro h; obtain ⟨_, _, h⟩ := tgo_of h; exact hK _ _ _ _ h
    | cons q ps ih =>
      obtain ⟨a, f⟩ := q
      intro h
      unfold swi at h
      split at h
      next => obtain ⟨_, _, h⟩ := tgo_of h; exact hK _ _ _ _ h
      next => exact ih h
  have hcall : ∀ (n rk : Nat) (F : Orc) (pc' : Nat), OM F → callK n rk F (fun s w' => K pc' ls s w') st w = some o → MO w o.2 := by
    intro n rk F pc' hF h
    obtain ⟨-, -, v, w', h3, h4⟩ := callK_of h
    exact (hF _ _ _ h3).trans (hK _ _ _ _ h4)
  cases ins <;> simp only [opK] at h <;> first
    | (cases h; done)
    | exact hK _ _ _ _ h
    | (obtain ⟨f, hf, h⟩ := some_of h; exact hcall _ _ _ _ (hmv _ (lk_mem hf)) h)
    | (obtain ⟨f, hf, h⟩ := some_of h; exact hcall _ _ _ _ (hms _ (lk_mem hf)) h)
    | (obtain ⟨f, hf, h⟩ := some_of h; exact hcall _ _ _ _ (hmi _ (lk_mem hf)) h)
    | (obtain ⟨_, _, h⟩ := some_of h; exact hK _ _ _ _ h)
    | (obtain ⟨_, _, h⟩ := tgo_of h; exact hK _ _ _ _ h)
    | (obtain ⟨_, _, _, _, h⟩ := bin_of h; exact hK _ _ _ _ h)
    | (obtain ⟨_, _, _, h⟩ := un_of h; exact hK _ _ _ _ h)
    | (split at h <;> first | (cases h; done) | exact hK _ _ _ _ h)
    | (split at h <;> first | (cases h; done) | (split at h <;> first | (cases h; done) | exact hK _ _ _ _ h))
    | skip
  case getfield i =>
    obtain ⟨f, hf, h⟩ := some_of h
    split at h
    next =>
      split at h
      next => obtain ⟨_, _, h⟩ := some_of h; exact hK _ _ _ _ h
      next => obtain ⟨_, _, h⟩ := some_of h; exact hK _ _ _ _ h
    next => cases h
  case putfield i =>
    obtain ⟨f, hf, h⟩ := some_of h
    split at h
    next =>
      split at h
      next =>
        obtain ⟨w', hw, hh⟩ := some_of h
        obtain ⟨fs, o', g1, g2, g3, rfl⟩ := pF_of hw
        subst g3
        exact MO.set g1 (by simp [xsz]) (hK _ _ _ _ hh)
      next => cases h
    next =>
      split at h
      next =>
        obtain ⟨w', hw, hh⟩ := some_of h
        obtain ⟨fs, o', g1, g2, g3, rfl⟩ := pF_of hw
        subst g3
        exact MO.set g1 (by simp [xsz]) (hK _ _ _ _ hh)
      next => cases h
    next => cases h
  case iaload => split at h <;> first | (cases h; done) | (obtain ⟨_, _, h⟩ := some_of h; exact hK _ _ _ _ h)
  case arraylength => split at h <;> first | (cases h; done) | (obtain ⟨_, _, h⟩ := some_of h; exact hK _ _ _ _ h)
  case iastore =>
    split at h
    next =>
      obtain ⟨w', hw, h⟩ := some_of h
      obtain ⟨fs, o', rfl, g1, g2, rfl⟩ := sI_of hw
      exact MO.set g1 (by simp [xsz]) (hK _ _ _ _ h)
    next => cases h
  case newarray t =>
    split at h
    next =>
      split at h
      next =>
        split at h
        next hh => exact MO.push hh.2.2 (hK _ _ _ _ h)
        next => cases h
      next => cases h
    next => cases h
  case new i =>
    obtain ⟨f, hf, h⟩ := some_of h
    split at h
    next hw =>
      cases hz : f.1 == 99 with
      | true => rw [hz] at h; cases h
      | false => rw [hz] at h; exact MO.push hw (hK _ _ _ _ h)
    next => cases h
  case aaload => split at h <;> first | (cases h; done) | (obtain ⟨_, _, h⟩ := some_of h; exact hK _ _ _ _ h)
  case multianewarray i dd =>
    obtain ⟨f, hf, h5⟩ := some_of h
    have hz : (f.1 == 99 && dd == 2) = true := by
      cases hz : (f.1 == 99 && dd == 2) with
      | true => rfl
      | false => rw [hz] at h5; cases h5
    rw [hz, cond_true] at h5
    split at h5
    next =>
      split at h5
      next hh => exact MO.pushes hh.2.2.2.2.1 (hK _ _ _ _ h5)
      next => cases h5
    next => cases h5
  case ifCond cn off =>
    split at h
    next => split at h <;> split at h <;> first | exact hK _ _ _ _ h | (obtain ⟨_, _, h⟩ := tgo_of h; exact hK _ _ _ _ h)
    next => cases h
  case if_icmp cn off =>
    split at h
    next => split at h <;> split at h <;> first | exact hK _ _ _ _ h | (obtain ⟨_, _, h⟩ := tgo_of h; exact hK _ _ _ _ h)
    next => cases h
  case tableswitch d lo hi offs =>
    split at h
    next =>
      split at h
      next => exact hsw _ _ _ _ h
      next => cases h
    next => cases h
  case lookupswitch d ps =>
    split at h
    next =>
      split at h
      next => exact hsw _ _ _ _ h
      next => cases h
    next => cases h
  case ireturn =>
    split at h
    next =>
      split at h
      next => cases h; exact MO.rfl
      next =>
        split at h
        next =>
          unfold retZ at h
          split at h
          next => cases h; exact MO.rfl
          next =>
            split at h
            next => cases h; exact MO.rfl
            next => cases h
        next => cases h
    next => cases h
  case lreturn =>
    split at h
    next =>
      split at h
      next => cases h; exact MO.rfl
      next => cases h
    next => cases h
  case return_ =>
    split at h
    next =>
      split at h
      next => cases h; exact MO.rfl
      next => cases h
    next => cases h

/-! ===== a method out of its table ===== -/
def rzOf : Option FieldType → Nat
  | some .int => 0
  | some .boolean => 1
  | some .long => 2
  | none => 3
  | _ => 9
def chkT (cc : ByteArray) (T : List (Nat × Instr)) : Bool := T.all fun q => match decode cc q.1 with
  | .ok (i, len) => decide (i = q.2) && okAt q.1 i len
  | _ => false
theorem chkT_of {cc : ByteArray} {T : List (Nat × Instr)} (h : chkT cc T = true) {pc : Nat} {ins : Instr} (hl : lk T pc = some ins) : ∃ len, decode cc pc = .ok (ins, len) ∧ okAt pc ins len = true := by
  have h1 := List.all_eq_true.mp h _ (lk_mem hl)
  dsimp only at h1
  split at h1
  next i len hd =>
    obtain ⟨h2, h3⟩ := Bool.and_eq_true_iff.mp h1
    have h4 : i = ins := by simpa using h2
    subst h4
    exact ⟨len, hd, h3⟩
  next => cases h1
/-- a method's cuts: what a family of answers must do -/
def DS (T : List (Nat × Instr)) (op : Nat → Kont → XL → List Value → XW → Instr → Option XO) (cut : List Nat) (N : Nat) (Dn : Nat → Kont) : Prop :=
  (∀ pc ls st w, Dn 0 pc ls st w = none) ∧
  ∀ n pc ls st w o, Dn (n + 1) pc ls st w = some o → ∃ ks : XL, (∀ q ∈ ks, xL ls q.1 = some q.2) ∧ ev T op cut (Dn n) N pc ks st w = some o
theorem args_len (base b : Nat) (vs : List Value) : (lg_sl (vs.map (xv base b))).length = (lg_sl vs).length := by
  induction vs with
  | nil => rfl
  | cons v r ih =>
    unfold lg_sl at ih ⊢
    rw [List.map_cons, List.flatMap_cons, List.flatMap_cons, List.length_append, List.length_append, ih, xv_cat]
    by_cases h : v.category = 2 <;> simp [h]
theorem lv_args_map (base b : Nat) (vs : List Value) : ∀ i, lv_args i (vs.map (xv base b)) = xl base b (lv_args i vs) := by
  induction vs with
  | nil => intro i; rfl
  | cons v r ih =>
    intro i
    simp only [List.map_cons, lv_args, xv_cat]
    rw [ih]
    rfl
theorem ev_mono {nL rz : Nat} {fl : List (Nat × Nat × Nat × Nat)} {nl : List (Nat × Nat × List Value)} {kl : List (Nat × Int32)} {k2 : List (Nat × Int64)} {mv ms mi : List (Nat × Nat × Nat × Orc)} {o : XO}
    (hmv : ∀ q ∈ mv, OM q.2.2.2) (hms : ∀ q ∈ ms, OM q.2.2.2) (hmi : ∀ q ∈ mi, OM q.2.2.2) {T : List (Nat × Instr)} {cut : List Nat} {K : Kont} (hK : ∀ pc ls st w, K pc ls st w = some o → MO w o.2) :
    ∀ N pc ls st w, ev T (opK nL rz fl nl kl k2 mv ms mi) cut K N pc ls st w = some o → MO w o.2 := by
  intro N
  induction N with
  | zero => intro pc ls st w h; cases h
  | succ N ih =>
    intro pc ls st w h
    unfold ev opT at h
    obtain ⟨ins, -, h⟩ := some_of h
    refine opK_mono hmv hms hmi (fun pc' ls' st' w' h' => ?_) h
    cases hc : cut.elem pc' with
    | true => rw [hc] at h'; exact hK _ _ _ _ h'
    | false => rw [hc] at h'; exact ih _ _ _ _ h'
section RUN
variable {p : Program} {l : Launch} {e : Env} {R : Room} {s : State} {m : MethodId} {args : Array Value} {below : List Frame} {meth : Method} {c : Code} {Q : State → Prop}
variable {D : va_G} {cA : Nat → ClassId} {base b nL d rz : Nat} {own : String} {ini : Bool} {cc : ByteArray} {w0 : XW} {o : XO}
theorem ev_snd {fl : List (Nat × Nat × Nat × Nat)} {nl : List (Nat × Nat × List Value)} {kl : List (Nat × Int32)} {k2 : List (Nat × Int64)} {mv ms mi : List (Nat × Nat × Nat × Orc)}
    (hI : Jvm.Cond.arrayClass .int ∈ tblG)
    (hfl : ∀ q ∈ fl, fOK own ini q) (hnl : ∀ q ∈ nl, nOK own q) (hkl : ∀ q ∈ kl, Jvm.Cond.constant own q.1 q.2 ∈ tblG) (hk2 : ∀ q ∈ k2, Jvm.Cond.constantLong own q.1 q.2 ∈ tblG)
    (hmv : ∀ q ∈ mv, vOK l D cA base b d own q) (hms : ∀ q ∈ ms, sOK l D cA base b d own q) (hmi : ∀ q ∈ mi, iOK l D cA base b d own q)
    {T : List (Nat × Instr)} (hT : chkT cc T = true) {cut : List Nat} (A : ACT p l e R s m args below meth c Q D cA base b nL d rz own ini cc w0 o) {K : Kont} (hK : KS p l e R s m args below meth c Q D cA base b nL w0 o K) :
    ∀ N, KS p l e R s m args below meth c Q D cA base b nL w0 o (ev T (opK nL rz fl nl kl k2 mv ms mi) cut K N) := by
  intro N
  induction N with
  | zero => intro pc ls st w h; cases h
  | succ N ih =>
    intro pc ls st w h
    unfold ev opT at h
    obtain ⟨ins, hl, h⟩ := some_of h
    obtain ⟨len, hd, hat⟩ := chkT_of hT hl
    refine opK_ok hI hfl hnl hkl hk2 hmv hms hmi A (K := fun pc' ls' st' w' => bif cut.elem pc' then K pc' ls' st' w' else ev T (opK nL rz fl nl kl k2 mv ms mi) cut K N pc' ls' st' w') (fun pc' ls' st' w' h' => ?_) hd hat h
    dsimp only at h'
    cases hc : cut.elem pc' with
    | true => rw [hc] at h'; exact hK _ _ _ _ h'
    | false => rw [hc] at h'; exact ih _ _ _ _ h'
theorem ds_snd {fl : List (Nat × Nat × Nat × Nat)} {nl : List (Nat × Nat × List Value)} {kl : List (Nat × Int32)} {k2 : List (Nat × Int64)} {mv ms mi : List (Nat × Nat × Nat × Orc)}
    (hI : Jvm.Cond.arrayClass .int ∈ tblG)
    (hfl : ∀ q ∈ fl, fOK own ini q) (hnl : ∀ q ∈ nl, nOK own q) (hkl : ∀ q ∈ kl, Jvm.Cond.constant own q.1 q.2 ∈ tblG) (hk2 : ∀ q ∈ k2, Jvm.Cond.constantLong own q.1 q.2 ∈ tblG)
    (hmv : ∀ q ∈ mv, vOK l D cA base b d own q) (hms : ∀ q ∈ ms, sOK l D cA base b d own q) (hmi : ∀ q ∈ mi, iOK l D cA base b d own q)
    {T : List (Nat × Instr)} (hT : chkT cc T = true) {cut : List Nat} {N : Nat} {Dn : Nat → Kont} (hD : DS T (opK nL rz fl nl kl k2 mv ms mi) cut N Dn) (A : ACT p l e R s m args below meth c Q D cA base b nL d rz own ini cc w0 o) :
    ∀ n, KS p l e R s m args below meth c Q D cA base b nL w0 o (Dn n) := by
  intro n
  induction n with
  | zero => intro pc ls st w h; rw [hD.1] at h; cases h
  | succ n ih =>
    intro pc ls st w h
    obtain ⟨ks, hks, h⟩ := hD.2 n pc ls st w o h
    obtain ⟨g1, g2, g3, g4⟩ := ev_snd hI hfl hnl hkl hk2 hmv hms hmi hT A ih N _ _ _ _ h
    exact ⟨g1, g2, g3, fun H locs cells slots LS hl => g4 H locs cells slots LS (xl_sub hl hks)⟩
end RUN
set_option maxHeartbeats 4000000 in
theorem CS_of {l : Launch} {D : va_G} {cA : Nat → ClassId} {base b d : Nat} {y : MethodName} {cc : ByteArray} {nL : Nat} {ret : Option FieldType} {F : Orc}
    {fl : List (Nat × Nat × Nat × Nat)} {nl : List (Nat × Nat × List Value)} {kl : List (Nat × Int32)} {k2 : List (Nat × Int64)} {mv ms mi : List (Nat × Nat × Nat × Orc)} {ini : Bool}
    (hI : Jvm.Cond.arrayClass .int ∈ tblG)
    (hfl : ∀ q ∈ fl, fOK y.cls ini q) (hnl : ∀ q ∈ nl, nOK y.cls q) (hkl : ∀ q ∈ kl, Jvm.Cond.constant y.cls q.1 q.2 ∈ tblG) (hk2 : ∀ q ∈ k2, Jvm.Cond.constantLong y.cls q.1 q.2 ∈ tblG)
    (hmv : ∀ q ∈ mv, vOK l D cA base b d y.cls q ∧ OM q.2.2.2) (hms : ∀ q ∈ ms, sOK l D cA base b d y.cls q ∧ OM q.2.2.2) (hmi : ∀ q ∈ mi, iOK l D cA base b d y.cls q ∧ OM q.2.2.2)
    {T : List (Nat × Instr)} (hT : chkT cc T = true) {cut : List Nat} {N : Nat} {Dn : Nat → Kont} (hD : DS T (opK nL (rzOf ret) fl nl kl k2 mv ms mi) cut N Dn)
    (hpl : plainName y.cls = true) (hini : ini = true → y.name = "<init>")
    (hF : ∀ as w o, F as w = some o → (lg_sl as).length ≤ nL ∧ ∃ n, ev T (opK nL (rzOf ret) fl nl kl k2 mv ms mi) cut (Dn n) N 0 (lv_args 0 as) [] w = some o) :
    CS l D cA base b (d + 1) y cc nL ret F ∧ OM F := by
  have hDm : ∀ n pc ls st w o, Dn n pc ls st w = some o → MO w o.2 := by
    intro n
    induction n with
    | zero => intro pc ls st w o h; rw [hD.1] at h; cases h
    | succ n ih =>
      intro pc ls st w o h
      obtain ⟨ks, -, h⟩ := hD.2 n pc ls st w o h
      exact ev_mono (fun q hq => (hmv q hq).2) (fun q hq => (hms q hq).2) (fun q hq => (hmi q hq).2) (fun pc ls st w h => ih pc ls st w o h) N _ _ _ _ h
  have hFm : OM F := by
    intro as w o h
    obtain ⟨-, n, h⟩ := hF as w o h
    exact ev_mono (fun q hq => (hmv q hq).2) (fun q hq => (hms q hq).2) (fun q hq => (hmi q hq).2) (fun pc ls st w h => hDm n pc ls st w o h) N _ _ _ _ h
  refine ⟨fun as w o h => ⟨(hFm _ _ _ h).1, (hFm _ _ _ h).2.1, (hFm _ _ _ h).2.2, fun mc ms' hmc hms' => ?_⟩, hFm⟩
  obtain ⟨hlen, n, hev⟩ := hF as w o h
  refine Met.ofW (cc := cc) (maxL := nL) (ret := ret) hpl rfl ?_
  intro p e s m args below meth c s₁ B hml hv
  obtain ⟨rfl, hXR⟩ := hv
  have hx := B.exec
  have hb := B.bytes
  have hr := B.returns
  have hts := atoms_spec (ws := .code y cc nL ret :: tblG) B.pre
  have hown : s.vm.findClass y.cls = some m.cls := findClass_of_methodNamed B.named
  have hlocks := B.notSynchronized
  have hin : ini = true → meth.name = "<init>" := fun q => (name_of_methodNamed B.named B.method).1.trans (hini q)
  have hwl := hXR.len
  have hbase : base ≤ s.heap.size := by have := hXR.2.2.2.2.1; omega
  have A : ACT p l e ({ frames := d + 1, cells := mc, slots := ms', locals := 100 * (d + 1) } : Room) s m (as.map (xv base b)).toArray below meth c (MQ below (QX D cA base b o) (as.map (xv base b)).toArray s mc ms' (fun q => base ≤ q)) D cA base b nL d (rzOf ret) y.cls ini cc w o := by
    refine ⟨⟨hx, hb, hml, hown⟩, fun w hw => hts w (List.mem_cons_of_mem _ hw), hXR, hin, hbase, ⟨Nat.le_refl _, by show 100 * d + 100 ≤ 100 * (d + 1); omega⟩, ?_⟩
    intro H locs cells slots LS pc hP hS h0 hc hs hr1 hr2 hv
    obtain rfl : cells = mc := by omega
    obtain rfl : slots = ms' := by omega
    refine W.sized fun z1 z2 => ?_
    have hQ : ∀ t : State, t.heap = H → s.WarmedH t.vm → QX D cA base b o (as.map (xv base b)).toArray s (.returned (o.1.map (xv base b))) t := by
      intro t ht hW
      obtain ⟨-, hKK, ⟨xs, hx0, hX⟩, hN, hsz, hbb⟩ := hXR
      have hol : 0 < o.2.length := by omega
      have hge := xw_size hP (by omega) hol
      have hXH : va_X b xs.length (fun j => xs.getD j 0) s H := hX.kept (hS.2.1 b (by omega) (by omega))
      refine ⟨rfl, ⟨by rw [ht]; exact hP, va_K.moved hW.alike hKK, ⟨xs, h0.trans hx0, by rw [ht]; exact va_X.moved hW.alike hXH⟩, fun n hn => tblN_warm hW hn (hN n hn), by rw [ht]; omega, hbb⟩, hS.F ht⟩
    have hf : ∀ q ∈ locs, (fun q => base ≤ q) q.base := hS.2.2
    obtain ⟨v, w'⟩ := o
    cases v with
    | none =>
      obtain ⟨hdg, hz⟩ := hv
      have hr0 : ret = none := by
        cases ret with
        | none => rfl
        | some t => cases t <;> simp [rzOf] at hz
      exact W.vret hx hb (by rw [hr, hr0]) hQ hf hdg hlocks
    | some v =>
      cases v with
      | int x =>
        obtain ⟨hdg, hz⟩ := hv
        rcases hz with hz | ⟨hz, hx01⟩
        · have hr0 : ret = some .int := by
            cases ret with
            | none => simp [rzOf] at hz
            | some t => cases t <;> first | rfl | simp [rzOf] at hz
          exact W.iret hx hb (by rw [hr, hr0]) hQ hf hdg hlocks
        · have hr0 : ret = some .boolean := by
            cases ret with
            | none => simp [rzOf] at hz
            | some t => cases t <;> first | rfl | simp [rzOf] at hz
          refine W.zret (ty := .boolean) hx hb (by rw [hr, hr0]) ?_ hQ hf hdg hlocks
          rcases hx01 with rfl | rfl <;> rfl
      | long x =>
        obtain ⟨hdg, hz⟩ := hv
        have hr0 : ret = some .long := by
          cases ret with
          | none => simp [rzOf] at hz
          | some t => cases t <;> first | rfl | simp [rzOf] at hz
        exact W.lret hx hb (by rw [hr, hr0]) hQ hf hdg hlocks
      | _ => exact hv.elim
  obtain ⟨-, -, -, hW⟩ := ev_snd hI hfl hnl hkl hk2 (fun q hq => (hmv q hq).1) (fun q hq => (hms q hq).1) (fun q hq => (hmi q hq).1) hT A (ds_snd hI hfl hnl hkl hk2 (fun q hq => (hmv q hq).1) (fun q hq => (hms q hq).1) (fun q hq => (hmi q hq).1) hT hD A n) N _ _ _ _ hev
  rw [lg_entry_eq]
  exact hW s.heap [] 0 0 _ (by rw [← lv_args_map]; exact lv_entry (as.map (xv base b)) (by rw [args_len]; exact hlen)) hXR.1 va_S.rf rfl (by omega) (by omega) (by show o.2.length ≤ mc + w.length; omega) (by show gs o.2 ≤ ms' + gs w; omega)
end
section
/-! laid by program (wip/whole/gen/part14.py): words by their places -/
set_option maxRecDepth 100000 in
theorem hI_w : Jvm.Cond.arrayClass .int ∈ tblG := tblG_of (i := 94) rfl rfl
set_option maxRecDepth 100000 in
theorem uw_X0 : ∀ w ∈ u_ws RX0 TX0 15, w ∈ tblG := by
  show ∀ w ∈ [u_lay RX0 TX0 0, u_lay RX0 TX0 1, u_lay RX0 TX0 2, u_lay RX0 TX0 3, u_lay RX0 TX0 4, u_lay RX0 TX0 5, u_lay RX0 TX0 6, u_lay RX0 TX0 7, u_lay RX0 TX0 8, u_lay RX0 TX0 9, u_lay RX0 TX0 10, u_lay RX0 TX0 11, u_lay RX0 TX0 12, u_lay RX0 TX0 13, u_lay RX0 TX0 14], w ∈ tblG
  exact List.forall_mem_cons.mpr ⟨(tblG_of (i := 63) rfl rfl), List.forall_mem_cons.mpr ⟨(tblG_of (i := 65) rfl rfl), List.forall_mem_cons.mpr ⟨(tblG_of (i := 67) rfl rfl), List.forall_mem_cons.mpr ⟨(tblG_of (i := 69) rfl rfl), List.forall_mem_cons.mpr ⟨(tblG_of (i := 71) rfl rfl), List.forall_mem_cons.mpr ⟨(tblG_of (i := 73) rfl rfl), List.forall_mem_cons.mpr ⟨(tblG_of (i := 75) rfl rfl), List.forall_mem_cons.mpr ⟨(tblG_of (i := 77) rfl rfl), List.forall_mem_cons.mpr ⟨(tblG_of (i := 79) rfl rfl), List.forall_mem_cons.mpr ⟨(tblG_of (i := 81) rfl rfl), List.forall_mem_cons.mpr ⟨(tblG_of (i := 83) rfl rfl), List.forall_mem_cons.mpr ⟨(tblG_of (i := 85) rfl rfl), List.forall_mem_cons.mpr ⟨(tblG_of (i := 87) rfl rfl), List.forall_mem_cons.mpr ⟨(tblG_of (i := 89) rfl rfl), List.forall_mem_cons.mpr ⟨(tblG_of (i := 91) rfl rfl), fun _ h => absurd h List.not_mem_nil⟩⟩⟩⟩⟩⟩⟩⟩⟩⟩⟩⟩⟩⟩⟩
set_option maxRecDepth 100000 in
theorem uw_X1 : ∀ w ∈ u_ws RX1 TX1 3, w ∈ tblG := by
  show ∀ w ∈ [u_lay RX1 TX1 0, u_lay RX1 TX1 1, u_lay RX1 TX1 2], w ∈ tblG
  exact List.forall_mem_cons.mpr ⟨(tblG_of (i := 147) rfl rfl), List.forall_mem_cons.mpr ⟨(tblG_of (i := 149) rfl rfl), List.forall_mem_cons.mpr ⟨(tblG_of (i := 151) rfl rfl), fun _ h => absurd h List.not_mem_nil⟩⟩⟩
set_option maxRecDepth 100000 in
theorem uw_X2 : ∀ w ∈ u_ws RX2 TX2 2, w ∈ tblG := by
  show ∀ w ∈ [u_lay RX2 TX2 0, u_lay RX2 TX2 1], w ∈ tblG
  exact List.forall_mem_cons.mpr ⟨(tblG_of (i := 190) rfl rfl), List.forall_mem_cons.mpr ⟨(tblG_of (i := 192) rfl rfl), fun _ h => absurd h List.not_mem_nil⟩⟩
set_option maxRecDepth 100000 in
theorem uw_X3 : ∀ w ∈ u_ws RX3 TX3 8, w ∈ tblG := by
  show ∀ w ∈ [u_lay RX3 TX3 0, u_lay RX3 TX3 1, u_lay RX3 TX3 2, u_lay RX3 TX3 3, u_lay RX3 TX3 4, u_lay RX3 TX3 5, u_lay RX3 TX3 6, u_lay RX3 TX3 7], w ∈ tblG
  exact List.forall_mem_cons.mpr ⟨(tblG_of (i := 166) rfl rfl), List.forall_mem_cons.mpr ⟨(tblG_of (i := 168) rfl rfl), List.forall_mem_cons.mpr ⟨(tblG_of (i := 170) rfl rfl), List.forall_mem_cons.mpr ⟨(tblG_of (i := 172) rfl rfl), List.forall_mem_cons.mpr ⟨(tblG_of (i := 174) rfl rfl), List.forall_mem_cons.mpr ⟨(tblG_of (i := 176) rfl rfl), List.forall_mem_cons.mpr ⟨(tblG_of (i := 178) rfl rfl), List.forall_mem_cons.mpr ⟨(tblG_of (i := 180) rfl rfl), fun _ h => absurd h List.not_mem_nil⟩⟩⟩⟩⟩⟩⟩⟩
set_option maxRecDepth 100000 in
theorem uw_X4 : ∀ w ∈ u_ws RX4 TX4 3, w ∈ tblG := by
  show ∀ w ∈ [u_lay RX4 TX4 0, u_lay RX4 TX4 1, u_lay RX4 TX4 2], w ∈ tblG
  exact List.forall_mem_cons.mpr ⟨(tblG_of (i := 106) rfl rfl), List.forall_mem_cons.mpr ⟨(tblG_of (i := 108) rfl rfl), List.forall_mem_cons.mpr ⟨(tblG_of (i := 110) rfl rfl), fun _ h => absurd h List.not_mem_nil⟩⟩⟩
set_option maxRecDepth 100000 in
theorem uw_X6 : ∀ w ∈ u_ws RX6 TX6 6, w ∈ tblG := by
  show ∀ w ∈ [u_lay RX6 TX6 0, u_lay RX6 TX6 1, u_lay RX6 TX6 2, u_lay RX6 TX6 3, u_lay RX6 TX6 4, u_lay RX6 TX6 5], w ∈ tblG
  exact List.forall_mem_cons.mpr ⟨(tblG_of (i := 126) rfl rfl), List.forall_mem_cons.mpr ⟨(tblG_of (i := 128) rfl rfl), List.forall_mem_cons.mpr ⟨(tblG_of (i := 130) rfl rfl), List.forall_mem_cons.mpr ⟨(tblG_of (i := 132) rfl rfl), List.forall_mem_cons.mpr ⟨(tblG_of (i := 134) rfl rfl), List.forall_mem_cons.mpr ⟨(tblG_of (i := 136) rfl rfl), fun _ h => absurd h List.not_mem_nil⟩⟩⟩⟩⟩⟩
set_option maxRecDepth 100000 in
theorem uw_X7 : ∀ w ∈ u_ws RX7 TX7 8, w ∈ tblG := by
  show ∀ w ∈ [u_lay RX7 TX7 0, u_lay RX7 TX7 1, u_lay RX7 TX7 2, u_lay RX7 TX7 3, u_lay RX7 TX7 4, u_lay RX7 TX7 5, u_lay RX7 TX7 6, u_lay RX7 TX7 7], w ∈ tblG
  exact List.forall_mem_cons.mpr ⟨(tblG_of (i := 202) rfl rfl), List.forall_mem_cons.mpr ⟨(tblG_of (i := 204) rfl rfl), List.forall_mem_cons.mpr ⟨(tblG_of (i := 206) rfl rfl), List.forall_mem_cons.mpr ⟨(tblG_of (i := 208) rfl rfl), List.forall_mem_cons.mpr ⟨(tblG_of (i := 210) rfl rfl), List.forall_mem_cons.mpr ⟨(tblG_of (i := 212) rfl rfl), List.forall_mem_cons.mpr ⟨(tblG_of (i := 214) rfl rfl), List.forall_mem_cons.mpr ⟨(tblG_of (i := 216) rfl rfl), fun _ h => absurd h List.not_mem_nil⟩⟩⟩⟩⟩⟩⟩⟩
def y_X0_init : MethodName := ⟨"BrookStones$Brook", "<init>", "()V"⟩
set_option maxRecDepth 100000 in
theorem mi_X0_init : Jvm.Cond.code y_X0_init prog_2_method_1_code 1 (none) ∈ tblG ∧ Jvm.Cond.initialized y_X0_init.cls ∈ tblG ∧ Jvm.Cond.instanceMethod y_X0_init ∈ tblG ∧ pl3 y_X0_init 0 := ⟨tblG_of (i := 24) rfl rfl, tblG_of (i := 2) rfl rfl, tblG_of (i := 23) rfl rfl, ⟨by decide +kernel, by decide +kernel, by decide +kernel⟩⟩
def y_X0_makeAnew : MethodName := ⟨"BrookStones$Brook", "makeAnew", "()V"⟩
set_option maxRecDepth 100000 in
theorem mi_X0_makeAnew : Jvm.Cond.code y_X0_makeAnew prog_2_method_2_code 1 (none) ∈ tblG ∧ Jvm.Cond.initialized y_X0_makeAnew.cls ∈ tblG ∧ Jvm.Cond.instanceMethod y_X0_makeAnew ∈ tblG ∧ Jvm.Cond.selects y_X0_makeAnew.cls y_X0_makeAnew y_X0_makeAnew ∈ tblG ∧ pl3 y_X0_makeAnew 0 := ⟨tblG_of (i := 281) rfl rfl, tblG_of (i := 2) rfl rfl, tblG_of (i := 280) rfl rfl, tblG_sel (q := (y_X0_makeAnew, 15)) (List.mem_of_getElem? (i := 6) rfl), ⟨by decide +kernel, by decide +kernel, by decide +kernel⟩⟩
def y_X0_isThere : MethodName := ⟨"BrookStones$Brook", "isThere", "()Z"⟩
set_option maxRecDepth 100000 in
theorem mi_X0_isThere : Jvm.Cond.code y_X0_isThere prog_2_method_3_code 1 (some .boolean) ∈ tblG ∧ Jvm.Cond.initialized y_X0_isThere.cls ∈ tblG ∧ Jvm.Cond.instanceMethod y_X0_isThere ∈ tblG ∧ Jvm.Cond.selects y_X0_isThere.cls y_X0_isThere y_X0_isThere ∈ tblG ∧ pl3 y_X0_isThere 0 := ⟨tblG_of (i := 308) rfl rfl, tblG_of (i := 2) rfl rfl, tblG_of (i := 307) rfl rfl, tblG_sel (q := (y_X0_isThere, 15)) (List.mem_of_getElem? (i := 9) rfl), ⟨by decide +kernel, by decide +kernel, by decide +kernel⟩⟩
def y_X0_isCell : MethodName := ⟨"BrookStones$Brook", "isCell", "(I)Z"⟩
set_option maxRecDepth 100000 in
theorem mi_X0_isCell : Jvm.Cond.code y_X0_isCell prog_2_method_4_code 2 (some .boolean) ∈ tblG ∧ Jvm.Cond.initialized y_X0_isCell.cls ∈ tblG ∧ Jvm.Cond.instanceMethod y_X0_isCell ∈ tblG ∧ Jvm.Cond.selects y_X0_isCell.cls y_X0_isCell y_X0_isCell ∈ tblG ∧ pl3 y_X0_isCell 1 := ⟨tblG_of (i := 292) rfl rfl, tblG_of (i := 2) rfl rfl, tblG_of (i := 291) rfl rfl, tblG_sel (q := (y_X0_isCell, 15)) (List.mem_of_getElem? (i := 7) rfl), ⟨by decide +kernel, by decide +kernel, by decide +kernel⟩⟩
def y_X0_isStone : MethodName := ⟨"BrookStones$Brook", "isStone", "(I)Z"⟩
set_option maxRecDepth 100000 in
theorem mi_X0_isStone : Jvm.Cond.code y_X0_isStone prog_2_method_5_code 2 (some .boolean) ∈ tblG ∧ Jvm.Cond.initialized y_X0_isStone.cls ∈ tblG ∧ Jvm.Cond.instanceMethod y_X0_isStone ∈ tblG ∧ Jvm.Cond.selects y_X0_isStone.cls y_X0_isStone y_X0_isStone ∈ tblG ∧ pl3 y_X0_isStone 1 := ⟨tblG_of (i := 316) rfl rfl, tblG_of (i := 2) rfl rfl, tblG_of (i := 315) rfl rfl, tblG_sel (q := (y_X0_isStone, 15)) (List.mem_of_getElem? (i := 10) rfl), ⟨by decide +kernel, by decide +kernel, by decide +kernel⟩⟩
def y_X0_isWalker : MethodName := ⟨"BrookStones$Brook", "isWalker", "(I)Z"⟩
set_option maxRecDepth 100000 in
theorem mi_X0_isWalker : Jvm.Cond.code y_X0_isWalker prog_2_method_6_code 2 (some .boolean) ∈ tblG ∧ Jvm.Cond.initialized y_X0_isWalker.cls ∈ tblG ∧ Jvm.Cond.instanceMethod y_X0_isWalker ∈ tblG ∧ Jvm.Cond.selects y_X0_isWalker.cls y_X0_isWalker y_X0_isWalker ∈ tblG ∧ pl3 y_X0_isWalker 1 := ⟨tblG_of (i := 349) rfl rfl, tblG_of (i := 2) rfl rfl, tblG_of (i := 348) rfl rfl, tblG_sel (q := (y_X0_isWalker, 15)) (List.mem_of_getElem? (i := 15) rfl), ⟨by decide +kernel, by decide +kernel, by decide +kernel⟩⟩
def y_X0_addStone : MethodName := ⟨"BrookStones$Brook", "addStone", "(IIII)I"⟩
set_option maxRecDepth 100000 in
theorem mi_X0_addStone : Jvm.Cond.code y_X0_addStone prog_2_method_7_code 5 (some .int) ∈ tblG ∧ Jvm.Cond.initialized y_X0_addStone.cls ∈ tblG ∧ Jvm.Cond.instanceMethod y_X0_addStone ∈ tblG ∧ Jvm.Cond.selects y_X0_addStone.cls y_X0_addStone y_X0_addStone ∈ tblG ∧ pl3 y_X0_addStone 4 := ⟨tblG_of (i := 480) rfl rfl, tblG_of (i := 2) rfl rfl, tblG_of (i := 479) rfl rfl, tblG_sel (q := (y_X0_addStone, 15)) (List.mem_of_getElem? (i := 28) rfl), ⟨by decide +kernel, by decide +kernel, by decide +kernel⟩⟩
def y_X0_addWalker : MethodName := ⟨"BrookStones$Brook", "addWalker", "(I)I"⟩
set_option maxRecDepth 100000 in
theorem mi_X0_addWalker : Jvm.Cond.code y_X0_addWalker prog_2_method_8_code 2 (some .int) ∈ tblG ∧ Jvm.Cond.initialized y_X0_addWalker.cls ∈ tblG ∧ Jvm.Cond.instanceMethod y_X0_addWalker ∈ tblG ∧ Jvm.Cond.selects y_X0_addWalker.cls y_X0_addWalker y_X0_addWalker ∈ tblG ∧ pl3 y_X0_addWalker 1 := ⟨tblG_of (i := 341) rfl rfl, tblG_of (i := 2) rfl rfl, tblG_of (i := 340) rfl rfl, tblG_sel (q := (y_X0_addWalker, 15)) (List.mem_of_getElem? (i := 14) rfl), ⟨by decide +kernel, by decide +kernel, by decide +kernel⟩⟩
def y_X0_reachOf : MethodName := ⟨"BrookStones$Brook", "reachOf", "(IZ)I"⟩
set_option maxRecDepth 100000 in
theorem mi_X0_reachOf : Jvm.Cond.code y_X0_reachOf prog_2_method_9_code 3 (some .int) ∈ tblG ∧ Jvm.Cond.initialized y_X0_reachOf.cls ∈ tblG ∧ Jvm.Cond.instanceMethod y_X0_reachOf ∈ tblG ∧ Jvm.Cond.selects y_X0_reachOf.cls y_X0_reachOf y_X0_reachOf ∈ tblG ∧ pl3 y_X0_reachOf 2 := ⟨tblG_of (i := 365) rfl rfl, tblG_of (i := 2) rfl rfl, tblG_of (i := 364) rfl rfl, tblG_sel (q := (y_X0_reachOf, 15)) (List.mem_of_getElem? (i := 18) rfl), ⟨by decide +kernel, by decide +kernel, by decide +kernel⟩⟩
def y_X0_holdOf : MethodName := ⟨"BrookStones$Brook", "holdOf", "(I)I"⟩
set_option maxRecDepth 100000 in
theorem mi_X0_holdOf : Jvm.Cond.code y_X0_holdOf prog_2_method_10_code 2 (some .int) ∈ tblG ∧ Jvm.Cond.initialized y_X0_holdOf.cls ∈ tblG ∧ Jvm.Cond.instanceMethod y_X0_holdOf ∈ tblG ∧ Jvm.Cond.selects y_X0_holdOf.cls y_X0_holdOf y_X0_holdOf ∈ tblG ∧ pl3 y_X0_holdOf 1 := ⟨tblG_of (i := 320) rfl rfl, tblG_of (i := 2) rfl rfl, tblG_of (i := 319) rfl rfl, tblG_sel (q := (y_X0_holdOf, 15)) (List.mem_of_getElem? (i := 11) rfl), ⟨by decide +kernel, by decide +kernel, by decide +kernel⟩⟩
def y_X0_topOf : MethodName := ⟨"BrookStones$Brook", "topOf", "(III)I"⟩
set_option maxRecDepth 100000 in
theorem mi_X0_topOf : Jvm.Cond.code y_X0_topOf prog_2_method_13_code 4 (some .int) ∈ tblG ∧ Jvm.Cond.initialized y_X0_topOf.cls ∈ tblG ∧ Jvm.Cond.instanceMethod y_X0_topOf ∈ tblG ∧ Jvm.Cond.selects y_X0_topOf.cls y_X0_topOf y_X0_topOf ∈ tblG ∧ pl3 y_X0_topOf 3 := ⟨tblG_of (i := 299) rfl rfl, tblG_of (i := 2) rfl rfl, tblG_of (i := 298) rfl rfl, tblG_sel (q := (y_X0_topOf, 15)) (List.mem_of_getElem? (i := 8) rfl), ⟨by decide +kernel, by decide +kernel, by decide +kernel⟩⟩
def y_X0_cellOf : MethodName := ⟨"BrookStones$Brook", "cellOf", "(I)I"⟩
set_option maxRecDepth 100000 in
theorem mi_X0_cellOf : Jvm.Cond.code y_X0_cellOf prog_2_method_14_code 3 (some .int) ∈ tblG ∧ Jvm.Cond.initialized y_X0_cellOf.cls ∈ tblG ∧ Jvm.Cond.instanceMethod y_X0_cellOf ∈ tblG ∧ Jvm.Cond.selects y_X0_cellOf.cls y_X0_cellOf y_X0_cellOf ∈ tblG ∧ pl3 y_X0_cellOf 1 := ⟨tblG_of (i := 324) rfl rfl, tblG_of (i := 2) rfl rfl, tblG_of (i := 323) rfl rfl, tblG_sel (q := (y_X0_cellOf, 15)) (List.mem_of_getElem? (i := 12) rfl), ⟨by decide +kernel, by decide +kernel, by decide +kernel⟩⟩
def y_X0_takeUp : MethodName := ⟨"BrookStones$Brook", "takeUp", "(I)V"⟩
set_option maxRecDepth 100000 in
theorem mi_X0_takeUp : Jvm.Cond.code y_X0_takeUp prog_2_method_15_code 3 (none) ∈ tblG ∧ Jvm.Cond.initialized y_X0_takeUp.cls ∈ tblG ∧ Jvm.Cond.instanceMethod y_X0_takeUp ∈ tblG ∧ Jvm.Cond.selects y_X0_takeUp.cls y_X0_takeUp y_X0_takeUp ∈ tblG ∧ pl3 y_X0_takeUp 1 := ⟨tblG_of (i := 332) rfl rfl, tblG_of (i := 2) rfl rfl, tblG_of (i := 331) rfl rfl, tblG_sel (q := (y_X0_takeUp, 15)) (List.mem_of_getElem? (i := 13) rfl), ⟨by decide +kernel, by decide +kernel, by decide +kernel⟩⟩
def y_X0_filled : MethodName := ⟨"BrookStones$Brook", "filled", "()I"⟩
set_option maxRecDepth 100000 in
theorem mi_X0_filled : Jvm.Cond.code y_X0_filled prog_2_method_17_code 1 (some .int) ∈ tblG ∧ Jvm.Cond.initialized y_X0_filled.cls ∈ tblG ∧ Jvm.Cond.instanceMethod y_X0_filled ∈ tblG ∧ Jvm.Cond.selects y_X0_filled.cls y_X0_filled y_X0_filled ∈ tblG ∧ pl3 y_X0_filled 0 := ⟨tblG_of (i := 357) rfl rfl, tblG_of (i := 2) rfl rfl, tblG_of (i := 356) rfl rfl, tblG_sel (q := (y_X0_filled, 15)) (List.mem_of_getElem? (i := 16) rfl), ⟨by decide +kernel, by decide +kernel, by decide +kernel⟩⟩
def y_X0_ofKind : MethodName := ⟨"BrookStones$Brook", "ofKind", "(I)I"⟩
set_option maxRecDepth 100000 in
theorem mi_X0_ofKind : Jvm.Cond.code y_X0_ofKind prog_2_method_18_code 4 (some .int) ∈ tblG ∧ Jvm.Cond.initialized y_X0_ofKind.cls ∈ tblG ∧ Jvm.Cond.instanceMethod y_X0_ofKind ∈ tblG ∧ Jvm.Cond.selects y_X0_ofKind.cls y_X0_ofKind y_X0_ofKind ∈ tblG ∧ pl3 y_X0_ofKind 1 := ⟨tblG_of (i := 361) rfl rfl, tblG_of (i := 2) rfl rfl, tblG_of (i := 360) rfl rfl, tblG_sel (q := (y_X0_ofKind, 15)) (List.mem_of_getElem? (i := 17) rfl), ⟨by decide +kernel, by decide +kernel, by decide +kernel⟩⟩
def y_X0_dry : MethodName := ⟨"BrookStones$Brook", "dry", "(I)I"⟩
set_option maxRecDepth 100000 in
theorem mi_X0_dry : Jvm.Cond.code y_X0_dry prog_2_method_19_code 4 (some .int) ∈ tblG ∧ Jvm.Cond.initialized y_X0_dry.cls ∈ tblG ∧ Jvm.Cond.instanceMethod y_X0_dry ∈ tblG ∧ Jvm.Cond.selects y_X0_dry.cls y_X0_dry y_X0_dry ∈ tblG ∧ pl3 y_X0_dry 1 := ⟨tblG_of (i := 373) rfl rfl, tblG_of (i := 2) rfl rfl, tblG_of (i := 372) rfl rfl, tblG_sel (q := (y_X0_dry, 15)) (List.mem_of_getElem? (i := 20) rfl), ⟨by decide +kernel, by decide +kernel, by decide +kernel⟩⟩
def y_X0_isCrossed : MethodName := ⟨"BrookStones$Brook", "isCrossed", "(III)Z"⟩
set_option maxRecDepth 100000 in
theorem mi_X0_isCrossed : Jvm.Cond.code y_X0_isCrossed prog_2_method_20_code 4 (some .boolean) ∈ tblG ∧ Jvm.Cond.initialized y_X0_isCrossed.cls ∈ tblG ∧ Jvm.Cond.instanceMethod y_X0_isCrossed ∈ tblG ∧ Jvm.Cond.selects y_X0_isCrossed.cls y_X0_isCrossed y_X0_isCrossed ∈ tblG ∧ pl3 y_X0_isCrossed 3 := ⟨tblG_of (i := 369) rfl rfl, tblG_of (i := 2) rfl rfl, tblG_of (i := 368) rfl rfl, tblG_sel (q := (y_X0_isCrossed, 15)) (List.mem_of_getElem? (i := 19) rfl), ⟨by decide +kernel, by decide +kernel, by decide +kernel⟩⟩
def y_X1_init : MethodName := ⟨"BrookStones$Flood", "<init>", "()V"⟩
set_option maxRecDepth 100000 in
theorem mi_X1_init : Jvm.Cond.code y_X1_init prog_3_method_1_code 1 (none) ∈ tblG ∧ Jvm.Cond.initialized y_X1_init.cls ∈ tblG ∧ Jvm.Cond.instanceMethod y_X1_init ∈ tblG ∧ pl3 y_X1_init 0 := ⟨tblG_of (i := 143) rfl rfl, tblG_of (i := 6) rfl rfl, tblG_of (i := 142) rfl rfl, ⟨by decide +kernel, by decide +kernel, by decide +kernel⟩⟩
def y_X2_init : MethodName := ⟨"BrookStones$Layings", "<init>", "()V"⟩
set_option maxRecDepth 100000 in
theorem mi_X2_init : Jvm.Cond.code y_X2_init prog_4_method_1_code 1 (none) ∈ tblG ∧ Jvm.Cond.initialized y_X2_init.cls ∈ tblG ∧ Jvm.Cond.instanceMethod y_X2_init ∈ tblG ∧ pl3 y_X2_init 0 := ⟨tblG_of (i := 187) rfl rfl, tblG_of (i := 8) rfl rfl, tblG_of (i := 186) rfl rfl, ⟨by decide +kernel, by decide +kernel, by decide +kernel⟩⟩
def y_X3_init : MethodName := ⟨"BrookStones$Planner", "<init>", "()V"⟩
set_option maxRecDepth 100000 in
theorem mi_X3_init : Jvm.Cond.code y_X3_init prog_5_method_1_code 1 (none) ∈ tblG ∧ Jvm.Cond.initialized y_X3_init.cls ∈ tblG ∧ Jvm.Cond.instanceMethod y_X3_init ∈ tblG ∧ pl3 y_X3_init 0 := ⟨tblG_of (i := 158) rfl rfl, tblG_of (i := 7) rfl rfl, tblG_of (i := 157) rfl rfl, ⟨by decide +kernel, by decide +kernel, by decide +kernel⟩⟩
def y_X4_init : MethodName := ⟨"BrookStones$Sheets", "<init>", "()V"⟩
set_option maxRecDepth 100000 in
theorem mi_X4_init : Jvm.Cond.code y_X4_init prog_6_method_1_code 1 (none) ∈ tblG ∧ Jvm.Cond.initialized y_X4_init.cls ∈ tblG ∧ Jvm.Cond.instanceMethod y_X4_init ∈ tblG ∧ pl3 y_X4_init 0 := ⟨tblG_of (i := 99) rfl rfl, tblG_of (i := 4) rfl rfl, tblG_of (i := 98) rfl rfl, ⟨by decide +kernel, by decide +kernel, by decide +kernel⟩⟩
def y_X4_isSheet : MethodName := ⟨"BrookStones$Sheets", "isSheet", "(I)Z"⟩
set_option maxRecDepth 100000 in
theorem mi_X4_isSheet : Jvm.Cond.code y_X4_isSheet prog_6_method_2_code 1 (some .boolean) ∈ tblG ∧ Jvm.Cond.initialized y_X4_isSheet.cls ∈ tblG ∧ Jvm.Cond.static y_X4_isSheet ∈ tblG ∧ pl3 y_X4_isSheet 1 := ⟨tblG_of (i := 229) rfl rfl, tblG_of (i := 4) rfl rfl, tblG_of (i := 228) rfl rfl, ⟨by decide +kernel, by decide +kernel, by decide +kernel⟩⟩
def y_X4_isSort : MethodName := ⟨"BrookStones$Sheets", "isSort", "(I)Z"⟩
set_option maxRecDepth 100000 in
theorem mi_X4_isSort : Jvm.Cond.code y_X4_isSort prog_6_method_3_code 1 (some .boolean) ∈ tblG ∧ Jvm.Cond.initialized y_X4_isSort.cls ∈ tblG ∧ Jvm.Cond.static y_X4_isSort ∈ tblG ∧ pl3 y_X4_isSort 1 := ⟨tblG_of (i := 235) rfl rfl, tblG_of (i := 4) rfl rfl, tblG_of (i := 234) rfl rfl, ⟨by decide +kernel, by decide +kernel, by decide +kernel⟩⟩
def y_X4_isThere : MethodName := ⟨"BrookStones$Sheets", "isThere", "(I)Z"⟩
set_option maxRecDepth 100000 in
theorem mi_X4_isThere : Jvm.Cond.code y_X4_isThere prog_6_method_4_code 2 (some .boolean) ∈ tblG ∧ Jvm.Cond.initialized y_X4_isThere.cls ∈ tblG ∧ Jvm.Cond.instanceMethod y_X4_isThere ∈ tblG ∧ Jvm.Cond.selects y_X4_isThere.cls y_X4_isThere y_X4_isThere ∈ tblG ∧ pl3 y_X4_isThere 1 := ⟨tblG_of (i := 243) rfl rfl, tblG_of (i := 4) rfl rfl, tblG_of (i := 242) rfl rfl, tblG_sel (q := (y_X4_isThere, 3)) (List.mem_of_getElem? (i := 2) rfl), ⟨by decide +kernel, by decide +kernel, by decide +kernel⟩⟩
def y_X4_renew : MethodName := ⟨"BrookStones$Sheets", "renew", "(III)V"⟩
set_option maxRecDepth 100000 in
theorem mi_X4_renew : Jvm.Cond.code y_X4_renew prog_6_method_6_code 5 (none) ∈ tblG ∧ Jvm.Cond.initialized y_X4_renew.cls ∈ tblG ∧ Jvm.Cond.instanceMethod y_X4_renew ∈ tblG ∧ Jvm.Cond.selects y_X4_renew.cls y_X4_renew y_X4_renew ∈ tblG ∧ pl3 y_X4_renew 3 := ⟨tblG_of (i := 430) rfl rfl, tblG_of (i := 4) rfl rfl, tblG_of (i := 429) rfl rfl, tblG_sel (q := (y_X4_renew, 3)) (List.mem_of_getElem? (i := 26) rfl), ⟨by decide +kernel, by decide +kernel, by decide +kernel⟩⟩
def y_X4_at : MethodName := ⟨"BrookStones$Sheets", "at", "(II)I"⟩
set_option maxRecDepth 100000 in
theorem mi_X4_at : Jvm.Cond.code y_X4_at prog_6_method_7_code 3 (some .int) ∈ tblG ∧ Jvm.Cond.initialized y_X4_at.cls ∈ tblG ∧ Jvm.Cond.instanceMethod y_X4_at ∈ tblG ∧ Jvm.Cond.selects y_X4_at.cls y_X4_at y_X4_at ∈ tblG ∧ pl3 y_X4_at 2 := ⟨tblG_of (i := 261) rfl rfl, tblG_of (i := 4) rfl rfl, tblG_of (i := 260) rfl rfl, tblG_sel (q := (y_X4_at, 3)) (List.mem_of_getElem? (i := 5) rfl), ⟨by decide +kernel, by decide +kernel, by decide +kernel⟩⟩
def y_X4_write : MethodName := ⟨"BrookStones$Sheets", "write", "(III)V"⟩
set_option maxRecDepth 100000 in
theorem mi_X4_write : Jvm.Cond.code y_X4_write prog_6_method_8_code 4 (none) ∈ tblG ∧ Jvm.Cond.initialized y_X4_write.cls ∈ tblG ∧ Jvm.Cond.instanceMethod y_X4_write ∈ tblG ∧ Jvm.Cond.selects y_X4_write.cls y_X4_write y_X4_write ∈ tblG ∧ pl3 y_X4_write 3 := ⟨tblG_of (i := 445) rfl rfl, tblG_of (i := 4) rfl rfl, tblG_of (i := 444) rfl rfl, tblG_sel (q := (y_X4_write, 3)) (List.mem_of_getElem? (i := 27) rfl), ⟨by decide +kernel, by decide +kernel, by decide +kernel⟩⟩
def y_X4_cut : MethodName := ⟨"BrookStones$Sheets", "cut", "(II)I"⟩
set_option maxRecDepth 100000 in
theorem mi_X4_cut : Jvm.Cond.code y_X4_cut prog_6_method_9_code 2 (some .int) ∈ tblG ∧ Jvm.Cond.initialized y_X4_cut.cls ∈ tblG ∧ Jvm.Cond.static y_X4_cut ∈ tblG ∧ pl3 y_X4_cut 2 := ⟨tblG_of (i := 448) rfl rfl, tblG_of (i := 4) rfl rfl, tblG_of (i := 447) rfl rfl, ⟨by decide +kernel, by decide +kernel, by decide +kernel⟩⟩
def y_X4_reaches : MethodName := ⟨"BrookStones$Sheets", "reaches", "(III)Z"⟩
set_option maxRecDepth 100000 in
theorem mi_X4_reaches : Jvm.Cond.code y_X4_reaches prog_6_method_11_code 4 (some .boolean) ∈ tblG ∧ Jvm.Cond.initialized y_X4_reaches.cls ∈ tblG ∧ Jvm.Cond.instanceMethod y_X4_reaches ∈ tblG ∧ Jvm.Cond.selects y_X4_reaches.cls y_X4_reaches y_X4_reaches ∈ tblG ∧ pl3 y_X4_reaches 3 := ⟨tblG_of (i := 247) rfl rfl, tblG_of (i := 4) rfl rfl, tblG_of (i := 246) rfl rfl, tblG_sel (q := (y_X4_reaches, 3)) (List.mem_of_getElem? (i := 3) rfl), ⟨by decide +kernel, by decide +kernel, by decide +kernel⟩⟩
def y_X4_faultOfCells : MethodName := ⟨"BrookStones$Sheets", "faultOfCells", "(IIII)I"⟩
set_option maxRecDepth 100000 in
theorem mi_X4_faultOfCells : Jvm.Cond.code y_X4_faultOfCells prog_6_method_12_code 5 (some .int) ∈ tblG ∧ Jvm.Cond.initialized y_X4_faultOfCells.cls ∈ tblG ∧ Jvm.Cond.instanceMethod y_X4_faultOfCells ∈ tblG ∧ Jvm.Cond.selects y_X4_faultOfCells.cls y_X4_faultOfCells y_X4_faultOfCells ∈ tblG ∧ pl3 y_X4_faultOfCells 4 := ⟨tblG_of (i := 239) rfl rfl, tblG_of (i := 4) rfl rfl, tblG_of (i := 238) rfl rfl, tblG_sel (q := (y_X4_faultOfCells, 3)) (List.mem_of_getElem? (i := 1) rfl), ⟨by decide +kernel, by decide +kernel, by decide +kernel⟩⟩
def y_X4_areWithin : MethodName := ⟨"BrookStones$Sheets", "areWithin", "(IIII)Z"⟩
set_option maxRecDepth 100000 in
theorem mi_X4_areWithin : Jvm.Cond.code y_X4_areWithin prog_6_method_13_code 6 (some .boolean) ∈ tblG ∧ Jvm.Cond.initialized y_X4_areWithin.cls ∈ tblG ∧ Jvm.Cond.instanceMethod y_X4_areWithin ∈ tblG ∧ Jvm.Cond.selects y_X4_areWithin.cls y_X4_areWithin y_X4_areWithin ∈ tblG ∧ pl3 y_X4_areWithin 4 := ⟨tblG_of (i := 420) rfl rfl, tblG_of (i := 4) rfl rfl, tblG_of (i := 419) rfl rfl, tblG_sel (q := (y_X4_areWithin, 3)) (List.mem_of_getElem? (i := 25) rfl), ⟨by decide +kernel, by decide +kernel, by decide +kernel⟩⟩
def y_X5_firstFault : MethodName := ⟨"BrookStones$Text", "firstFault", "(LBrookStones$Sheets;III)I"⟩
set_option maxRecDepth 100000 in
theorem mi_X5_firstFault : Jvm.Cond.code y_X5_firstFault prog_7_method_2_code 7 (some .int) ∈ tblG ∧ Jvm.Cond.initialized y_X5_firstFault.cls ∈ tblG ∧ Jvm.Cond.static y_X5_firstFault ∈ tblG ∧ pl3 y_X5_firstFault 4 := ⟨tblG_of (i := 254) rfl rfl, tblG_of (i := 9) rfl rfl, tblG_of (i := 253) rfl rfl, ⟨by decide +kernel, by decide +kernel, by decide +kernel⟩⟩
def y_X5_readInto : MethodName := ⟨"BrookStones$Text", "readInto", "(LBrookStones$Brook;LBrookStones$Sheets;III)V"⟩
set_option maxRecDepth 100000 in
theorem mi_X5_readInto : Jvm.Cond.code y_X5_readInto prog_7_method_3_code 7 (none) ∈ tblG ∧ Jvm.Cond.initialized y_X5_readInto.cls ∈ tblG ∧ Jvm.Cond.static y_X5_readInto ∈ tblG ∧ pl3 y_X5_readInto 5 := ⟨tblG_of (i := 284) rfl rfl, tblG_of (i := 9) rfl rfl, tblG_of (i := 283) rfl rfl, ⟨by decide +kernel, by decide +kernel, by decide +kernel⟩⟩
def y_X5_length : MethodName := ⟨"BrookStones$Text", "length", "(I)I"⟩
set_option maxRecDepth 100000 in
theorem mi_X5_length : Jvm.Cond.code y_X5_length prog_7_method_4_code 1 (some .int) ∈ tblG ∧ Jvm.Cond.initialized y_X5_length.cls ∈ tblG ∧ Jvm.Cond.static y_X5_length ∈ tblG ∧ pl3 y_X5_length 1 := ⟨tblG_of (i := 271) rfl rfl, tblG_of (i := 9) rfl rfl, tblG_of (i := 270) rfl rfl, ⟨by decide +kernel, by decide +kernel, by decide +kernel⟩⟩
def y_X5_cellsTold : MethodName := ⟨"BrookStones$Text", "cellsTold", "(LBrookStones$Sheets;III)I"⟩
set_option maxRecDepth 100000 in
theorem mi_X5_cellsTold : Jvm.Cond.code y_X5_cellsTold prog_7_method_5_code 5 (some .int) ∈ tblG ∧ Jvm.Cond.initialized y_X5_cellsTold.cls ∈ tblG ∧ Jvm.Cond.static y_X5_cellsTold ∈ tblG ∧ pl3 y_X5_cellsTold 4 := ⟨tblG_of (i := 257) rfl rfl, tblG_of (i := 9) rfl rfl, tblG_of (i := 256) rfl rfl, ⟨by decide +kernel, by decide +kernel, by decide +kernel⟩⟩
def y_X5_goesOn : MethodName := ⟨"BrookStones$Text", "goesOn", "(III)Z"⟩
set_option maxRecDepth 100000 in
theorem mi_X5_goesOn : Jvm.Cond.code y_X5_goesOn prog_7_method_6_code 3 (some .boolean) ∈ tblG ∧ Jvm.Cond.initialized y_X5_goesOn.cls ∈ tblG ∧ Jvm.Cond.static y_X5_goesOn ∈ tblG ∧ pl3 y_X5_goesOn 3 := ⟨tblG_of (i := 274) rfl rfl, tblG_of (i := 9) rfl rfl, tblG_of (i := 273) rfl rfl, ⟨by decide +kernel, by decide +kernel, by decide +kernel⟩⟩
def y_X5_isDigit : MethodName := ⟨"BrookStones$Text", "isDigit", "(I)Z"⟩
set_option maxRecDepth 100000 in
theorem mi_X5_isDigit : Jvm.Cond.code y_X5_isDigit prog_7_method_7_code 1 (some .boolean) ∈ tblG ∧ Jvm.Cond.initialized y_X5_isDigit.cls ∈ tblG ∧ Jvm.Cond.static y_X5_isDigit ∈ tblG ∧ pl3 y_X5_isDigit 1 := ⟨tblG_of (i := 264) rfl rfl, tblG_of (i := 9) rfl rfl, tblG_of (i := 263) rfl rfl, ⟨by decide +kernel, by decide +kernel, by decide +kernel⟩⟩
def y_X6_init : MethodName := ⟨"BrookStones$Way", "<init>", "()V"⟩
set_option maxRecDepth 100000 in
theorem mi_X6_init : Jvm.Cond.code y_X6_init prog_8_method_1_code 1 (none) ∈ tblG ∧ Jvm.Cond.initialized y_X6_init.cls ∈ tblG ∧ Jvm.Cond.instanceMethod y_X6_init ∈ tblG ∧ pl3 y_X6_init 0 := ⟨tblG_of (i := 117) rfl rfl, tblG_of (i := 5) rfl rfl, tblG_of (i := 116) rfl rfl, ⟨by decide +kernel, by decide +kernel, by decide +kernel⟩⟩
def y_X6_find : MethodName := ⟨"BrookStones$Way", "find", "(LBrookStones$Brook;I)I"⟩
set_option maxRecDepth 100000 in
theorem mi_X6_find : Jvm.Cond.code y_X6_find prog_8_method_2_code 5 (some .int) ∈ tblG ∧ Jvm.Cond.initialized y_X6_find.cls ∈ tblG ∧ Jvm.Cond.instanceMethod y_X6_find ∈ tblG ∧ Jvm.Cond.selects y_X6_find.cls y_X6_find y_X6_find ∈ tblG ∧ pl3 y_X6_find 2 := ⟨tblG_of (i := 385) rfl rfl, tblG_of (i := 5) rfl rfl, tblG_of (i := 384) rfl rfl, tblG_sel (q := (y_X6_find, 6)) (List.mem_of_getElem? (i := 21) rfl), ⟨by decide +kernel, by decide +kernel, by decide +kernel⟩⟩
def y_X6_fewestFrom : MethodName := ⟨"BrookStones$Way", "fewestFrom", "(I)I"⟩
set_option maxRecDepth 100000 in
theorem mi_X6_fewestFrom : Jvm.Cond.code y_X6_fewestFrom prog_8_method_3_code 4 (some .int) ∈ tblG ∧ Jvm.Cond.initialized y_X6_fewestFrom.cls ∈ tblG ∧ Jvm.Cond.instanceMethod y_X6_fewestFrom ∈ tblG ∧ Jvm.Cond.selects y_X6_fewestFrom.cls y_X6_fewestFrom y_X6_fewestFrom ∈ tblG ∧ pl3 y_X6_fewestFrom 1 := ⟨tblG_of (i := 391) rfl rfl, tblG_of (i := 5) rfl rfl, tblG_of (i := 390) rfl rfl, tblG_sel (q := (y_X6_fewestFrom, 6)) (List.mem_of_getElem? (i := 22) rfl), ⟨by decide +kernel, by decide +kernel, by decide +kernel⟩⟩
def y_X6_firstBehind : MethodName := ⟨"BrookStones$Way", "firstBehind", "(I)I"⟩
set_option maxRecDepth 100000 in
theorem mi_X6_firstBehind : Jvm.Cond.code y_X6_firstBehind prog_8_method_4_code 3 (some .int) ∈ tblG ∧ Jvm.Cond.initialized y_X6_firstBehind.cls ∈ tblG ∧ Jvm.Cond.instanceMethod y_X6_firstBehind ∈ tblG ∧ Jvm.Cond.selects y_X6_firstBehind.cls y_X6_firstBehind y_X6_firstBehind ∈ tblG ∧ pl3 y_X6_firstBehind 1 := ⟨tblG_of (i := 401) rfl rfl, tblG_of (i := 5) rfl rfl, tblG_of (i := 400) rfl rfl, tblG_sel (q := (y_X6_firstBehind, 6)) (List.mem_of_getElem? (i := 24) rfl), ⟨by decide +kernel, by decide +kernel, by decide +kernel⟩⟩
def y_X6_isStride : MethodName := ⟨"BrookStones$Way", "isStride", "(II)Z"⟩
set_option maxRecDepth 100000 in
theorem mi_X6_isStride : Jvm.Cond.code y_X6_isStride prog_8_method_5_code 4 (some .boolean) ∈ tblG ∧ Jvm.Cond.initialized y_X6_isStride.cls ∈ tblG ∧ Jvm.Cond.instanceMethod y_X6_isStride ∈ tblG ∧ Jvm.Cond.selects y_X6_isStride.cls y_X6_isStride y_X6_isStride ∈ tblG ∧ pl3 y_X6_isStride 2 := ⟨tblG_of (i := 395) rfl rfl, tblG_of (i := 5) rfl rfl, tblG_of (i := 394) rfl rfl, tblG_sel (q := (y_X6_isStride, 6)) (List.mem_of_getElem? (i := 23) rfl), ⟨by decide +kernel, by decide +kernel, by decide +kernel⟩⟩
def y_X7_init : MethodName := ⟨"BrookStones", "<init>", "()V"⟩
set_option maxRecDepth 100000 in
theorem mi_X7_init : Jvm.Cond.code y_X7_init prog_1_method_1_code 1 (none) ∈ tblG ∧ Jvm.Cond.initialized y_X7_init.cls ∈ tblG ∧ Jvm.Cond.instanceMethod y_X7_init ∈ tblG ∧ pl3 y_X7_init 0 := ⟨tblG_of (i := 16) rfl rfl, tblG_of (i := 1) rfl rfl, tblG_of (i := 15) rfl rfl, ⟨by decide +kernel, by decide +kernel, by decide +kernel⟩⟩
def y_X7_brook : MethodName := ⟨"BrookStones", "brook", "(IIII)I"⟩
set_option maxRecDepth 100000 in
theorem mi_X7_brook : Jvm.Cond.code y_X7_brook prog_1_method_2_code 7 (some .int) ∈ tblG ∧ Jvm.Cond.initialized y_X7_brook.cls ∈ tblG ∧ Jvm.Cond.instanceMethod y_X7_brook ∈ tblG ∧ Jvm.Cond.selects y_X7_brook.cls y_X7_brook y_X7_brook ∈ tblG ∧ pl3 y_X7_brook 4 := ⟨tblG_of (i := 222) rfl rfl, tblG_of (i := 1) rfl rfl, tblG_of (i := 220) rfl rfl, tblG_of (i := 221) rfl rfl, ⟨by decide +kernel, by decide +kernel, by decide +kernel⟩⟩
def y_X7_ofCell : MethodName := ⟨"BrookStones", "ofCell", "(II)I"⟩
set_option maxRecDepth 100000 in
theorem mi_X7_ofCell : Jvm.Cond.code y_X7_ofCell prog_1_method_3_code 4 (some .int) ∈ tblG ∧ Jvm.Cond.initialized y_X7_ofCell.cls ∈ tblG ∧ Jvm.Cond.instanceMethod y_X7_ofCell ∈ tblG ∧ Jvm.Cond.selects y_X7_ofCell.cls y_X7_ofCell y_X7_ofCell ∈ tblG ∧ pl3 y_X7_ofCell 2 := ⟨tblG_of (i := 288) rfl rfl, tblG_of (i := 1) rfl rfl, tblG_of (i := 286) rfl rfl, tblG_of (i := 287) rfl rfl, ⟨by decide +kernel, by decide +kernel, by decide +kernel⟩⟩
def y_X7_water : MethodName := ⟨"BrookStones", "water", "(I)I"⟩
set_option maxRecDepth 100000 in
theorem mi_X7_water : Jvm.Cond.code y_X7_water prog_1_method_5_code 3 (some .int) ∈ tblG ∧ Jvm.Cond.initialized y_X7_water.cls ∈ tblG ∧ Jvm.Cond.instanceMethod y_X7_water ∈ tblG ∧ Jvm.Cond.selects y_X7_water.cls y_X7_water y_X7_water ∈ tblG ∧ pl3 y_X7_water 1 := ⟨tblG_of (i := 303) rfl rfl, tblG_of (i := 1) rfl rfl, tblG_of (i := 301) rfl rfl, tblG_of (i := 302) rfl rfl, ⟨by decide +kernel, by decide +kernel, by decide +kernel⟩⟩
def y_X7_stone : MethodName := ⟨"BrookStones", "stone", "(IIII)I"⟩
set_option maxRecDepth 100000 in
theorem mi_X7_stone : Jvm.Cond.code y_X7_stone prog_1_method_6_code 5 (some .int) ∈ tblG ∧ Jvm.Cond.initialized y_X7_stone.cls ∈ tblG ∧ Jvm.Cond.instanceMethod y_X7_stone ∈ tblG ∧ Jvm.Cond.selects y_X7_stone.cls y_X7_stone y_X7_stone ∈ tblG ∧ pl3 y_X7_stone 4 := ⟨tblG_of (i := 476) rfl rfl, tblG_of (i := 1) rfl rfl, tblG_of (i := 474) rfl rfl, tblG_of (i := 475) rfl rfl, ⟨by decide +kernel, by decide +kernel, by decide +kernel⟩⟩
def y_X7_ofStone : MethodName := ⟨"BrookStones", "ofStone", "(II)I"⟩
set_option maxRecDepth 100000 in
theorem mi_X7_ofStone : Jvm.Cond.code y_X7_ofStone prog_1_method_7_code 3 (some .int) ∈ tblG ∧ Jvm.Cond.initialized y_X7_ofStone.cls ∈ tblG ∧ Jvm.Cond.instanceMethod y_X7_ofStone ∈ tblG ∧ Jvm.Cond.selects y_X7_ofStone.cls y_X7_ofStone y_X7_ofStone ∈ tblG ∧ pl3 y_X7_ofStone 2 := ⟨tblG_of (i := 312) rfl rfl, tblG_of (i := 1) rfl rfl, tblG_of (i := 310) rfl rfl, tblG_of (i := 311) rfl rfl, ⟨by decide +kernel, by decide +kernel, by decide +kernel⟩⟩
def y_X7_set : MethodName := ⟨"BrookStones", "set", "(II)I"⟩
set_option maxRecDepth 100000 in
theorem mi_X7_set : Jvm.Cond.code y_X7_set prog_1_method_8_code 3 (some .int) ∈ tblG ∧ Jvm.Cond.initialized y_X7_set.cls ∈ tblG ∧ Jvm.Cond.instanceMethod y_X7_set ∈ tblG ∧ Jvm.Cond.selects y_X7_set.cls y_X7_set y_X7_set ∈ tblG ∧ pl3 y_X7_set 2 := ⟨tblG_of (i := 328) rfl rfl, tblG_of (i := 1) rfl rfl, tblG_of (i := 326) rfl rfl, tblG_of (i := 327) rfl rfl, ⟨by decide +kernel, by decide +kernel, by decide +kernel⟩⟩
def y_X7_walker : MethodName := ⟨"BrookStones", "walker", "(I)I"⟩
set_option maxRecDepth 100000 in
theorem mi_X7_walker : Jvm.Cond.code y_X7_walker prog_1_method_10_code 2 (some .int) ∈ tblG ∧ Jvm.Cond.initialized y_X7_walker.cls ∈ tblG ∧ Jvm.Cond.instanceMethod y_X7_walker ∈ tblG ∧ Jvm.Cond.selects y_X7_walker.cls y_X7_walker y_X7_walker ∈ tblG ∧ pl3 y_X7_walker 1 := ⟨tblG_of (i := 337) rfl rfl, tblG_of (i := 1) rfl rfl, tblG_of (i := 335) rfl rfl, tblG_of (i := 336) rfl rfl, ⟨by decide +kernel, by decide +kernel, by decide +kernel⟩⟩
def y_X7_stride : MethodName := ⟨"BrookStones", "stride", "(I)I"⟩
set_option maxRecDepth 100000 in
theorem mi_X7_stride : Jvm.Cond.code y_X7_stride prog_1_method_11_code 2 (some .int) ∈ tblG ∧ Jvm.Cond.initialized y_X7_stride.cls ∈ tblG ∧ Jvm.Cond.instanceMethod y_X7_stride ∈ tblG ∧ Jvm.Cond.selects y_X7_stride.cls y_X7_stride y_X7_stride ∈ tblG ∧ pl3 y_X7_stride 1 := ⟨tblG_of (i := 345) rfl rfl, tblG_of (i := 1) rfl rfl, tblG_of (i := 343) rfl rfl, tblG_of (i := 344) rfl rfl, ⟨by decide +kernel, by decide +kernel, by decide +kernel⟩⟩
def y_X7_can : MethodName := ⟨"BrookStones", "can", "(IZ)I"⟩
set_option maxRecDepth 100000 in
theorem mi_X7_can : Jvm.Cond.code y_X7_can prog_1_method_12_code 3 (some .int) ∈ tblG ∧ Jvm.Cond.initialized y_X7_can.cls ∈ tblG ∧ Jvm.Cond.instanceMethod y_X7_can ∈ tblG ∧ Jvm.Cond.selects y_X7_can.cls y_X7_can y_X7_can ∈ tblG ∧ pl3 y_X7_can 2 := ⟨tblG_of (i := 353) rfl rfl, tblG_of (i := 1) rfl rfl, tblG_of (i := 351) rfl rfl, tblG_of (i := 352) rfl rfl, ⟨by decide +kernel, by decide +kernel, by decide +kernel⟩⟩
def y_X7_way : MethodName := ⟨"BrookStones", "way", "(II)I"⟩
set_option maxRecDepth 100000 in
theorem mi_X7_way : Jvm.Cond.code y_X7_way prog_1_method_13_code 4 (some .int) ∈ tblG ∧ Jvm.Cond.initialized y_X7_way.cls ∈ tblG ∧ Jvm.Cond.instanceMethod y_X7_way ∈ tblG ∧ Jvm.Cond.selects y_X7_way.cls y_X7_way y_X7_way ∈ tblG ∧ pl3 y_X7_way 2 := ⟨tblG_of (i := 381) rfl rfl, tblG_of (i := 1) rfl rfl, tblG_of (i := 379) rfl rfl, tblG_of (i := 380) rfl rfl, ⟨by decide +kernel, by decide +kernel, by decide +kernel⟩⟩
def y_X7_highest : MethodName := ⟨"BrookStones", "highest", "(IZ)I"⟩
set_option maxRecDepth 100000 in
theorem mi_X7_highest : Jvm.Cond.code y_X7_highest prog_1_method_14_code 4 (some .int) ∈ tblG ∧ Jvm.Cond.initialized y_X7_highest.cls ∈ tblG ∧ Jvm.Cond.instanceMethod y_X7_highest ∈ tblG ∧ Jvm.Cond.selects y_X7_highest.cls y_X7_highest y_X7_highest ∈ tblG ∧ pl3 y_X7_highest 2 := ⟨tblG_of (i := 405) rfl rfl, tblG_of (i := 1) rfl rfl, tblG_of (i := 403) rfl rfl, tblG_of (i := 404) rfl rfl, ⟨by decide +kernel, by decide +kernel, by decide +kernel⟩⟩
def y_X7_pass : MethodName := ⟨"BrookStones", "pass", "(II)I"⟩
set_option maxRecDepth 100000 in
theorem mi_X7_pass : Jvm.Cond.code y_X7_pass prog_1_method_15_code 4 (some .int) ∈ tblG ∧ Jvm.Cond.initialized y_X7_pass.cls ∈ tblG ∧ Jvm.Cond.instanceMethod y_X7_pass ∈ tblG ∧ Jvm.Cond.selects y_X7_pass.cls y_X7_pass y_X7_pass ∈ tblG ∧ pl3 y_X7_pass 2 := ⟨tblG_of (i := 409) rfl rfl, tblG_of (i := 1) rfl rfl, tblG_of (i := 407) rfl rfl, tblG_of (i := 408) rfl rfl, ⟨by decide +kernel, by decide +kernel, by decide +kernel⟩⟩
def y_X7_days : MethodName := ⟨"BrookStones", "days", "(IIIII)I"⟩
set_option maxRecDepth 100000 in
theorem mi_X7_days : Jvm.Cond.code y_X7_days prog_1_method_16_code 10 (some .int) ∈ tblG ∧ Jvm.Cond.initialized y_X7_days.cls ∈ tblG ∧ Jvm.Cond.instanceMethod y_X7_days ∈ tblG ∧ Jvm.Cond.selects y_X7_days.cls y_X7_days y_X7_days ∈ tblG ∧ pl3 y_X7_days 5 := ⟨tblG_of (i := 416) rfl rfl, tblG_of (i := 1) rfl rfl, tblG_of (i := 414) rfl rfl, tblG_of (i := 415) rfl rfl, ⟨by decide +kernel, by decide +kernel, by decide +kernel⟩⟩
def y_X7_sheet : MethodName := ⟨"BrookStones", "sheet", "(III)I"⟩
set_option maxRecDepth 100000 in
theorem mi_X7_sheet : Jvm.Cond.code y_X7_sheet prog_1_method_28_code 4 (some .int) ∈ tblG ∧ Jvm.Cond.initialized y_X7_sheet.cls ∈ tblG ∧ Jvm.Cond.instanceMethod y_X7_sheet ∈ tblG ∧ Jvm.Cond.selects y_X7_sheet.cls y_X7_sheet y_X7_sheet ∈ tblG ∧ pl3 y_X7_sheet 3 := ⟨tblG_of (i := 426) rfl rfl, tblG_of (i := 1) rfl rfl, tblG_of (i := 424) rfl rfl, tblG_of (i := 425) rfl rfl, ⟨by decide +kernel, by decide +kernel, by decide +kernel⟩⟩
def y_X7_put : MethodName := ⟨"BrookStones", "put", "(III)I"⟩
set_option maxRecDepth 100000 in
theorem mi_X7_put : Jvm.Cond.code y_X7_put prog_1_method_30_code 4 (some .int) ∈ tblG ∧ Jvm.Cond.initialized y_X7_put.cls ∈ tblG ∧ Jvm.Cond.instanceMethod y_X7_put ∈ tblG ∧ Jvm.Cond.selects y_X7_put.cls y_X7_put y_X7_put ∈ tblG ∧ pl3 y_X7_put 3 := ⟨tblG_of (i := 440) rfl rfl, tblG_of (i := 1) rfl rfl, tblG_of (i := 438) rfl rfl, tblG_of (i := 439) rfl rfl, ⟨by decide +kernel, by decide +kernel, by decide +kernel⟩⟩
def y_X7_many : MethodName := ⟨"BrookStones", "many", "(I)I"⟩
set_option maxRecDepth 100000 in
theorem mi_X7_many : Jvm.Cond.code y_X7_many prog_1_method_38_code 2 (some .int) ∈ tblG ∧ Jvm.Cond.initialized y_X7_many.cls ∈ tblG ∧ Jvm.Cond.instanceMethod y_X7_many ∈ tblG ∧ Jvm.Cond.selects y_X7_many.cls y_X7_many y_X7_many ∈ tblG ∧ pl3 y_X7_many 1 := ⟨tblG_of (i := 452) rfl rfl, tblG_of (i := 1) rfl rfl, tblG_of (i := 450) rfl rfl, tblG_of (i := 451) rfl rfl, ⟨by decide +kernel, by decide +kernel, by decide +kernel⟩⟩
def y_X7_refusalOfCells : MethodName := ⟨"BrookStones", "refusalOfCells", "(IIII)I"⟩
set_option maxRecDepth 100000 in
theorem mi_X7_refusalOfCells : Jvm.Cond.code y_X7_refusalOfCells prog_1_method_39_code 6 (some .int) ∈ tblG ∧ Jvm.Cond.initialized y_X7_refusalOfCells.cls ∈ tblG ∧ Jvm.Cond.instanceMethod y_X7_refusalOfCells ∈ tblG ∧ Jvm.Cond.selects y_X7_refusalOfCells.cls y_X7_refusalOfCells y_X7_refusalOfCells ∈ tblG ∧ pl3 y_X7_refusalOfCells 4 := ⟨tblG_of (i := 226) rfl rfl, tblG_of (i := 1) rfl rfl, tblG_of (i := 225) rfl rfl, tblG_sel (q := (y_X7_refusalOfCells, 8)) (List.mem_of_getElem? (i := 0) rfl), ⟨by decide +kernel, by decide +kernel, by decide +kernel⟩⟩
def y_X7_failBy : MethodName := ⟨"BrookStones", "failBy", "(I)I"⟩
set_option maxRecDepth 100000 in
theorem mi_X7_failBy : Jvm.Cond.code y_X7_failBy prog_1_method_40_code 2 (some .int) ∈ tblG ∧ Jvm.Cond.initialized y_X7_failBy.cls ∈ tblG ∧ Jvm.Cond.instanceMethod y_X7_failBy ∈ tblG ∧ Jvm.Cond.selects y_X7_failBy.cls y_X7_failBy y_X7_failBy ∈ tblG ∧ pl3 y_X7_failBy 1 := ⟨tblG_of (i := 251) rfl rfl, tblG_of (i := 1) rfl rfl, tblG_of (i := 250) rfl rfl, tblG_sel (q := (y_X7_failBy, 8)) (List.mem_of_getElem? (i := 4) rfl), ⟨by decide +kernel, by decide +kernel, by decide +kernel⟩⟩
def y_X7_isWithin : MethodName := ⟨"BrookStones", "isWithin", "(III)Z"⟩
set_option maxRecDepth 100000 in
theorem mi_X7_isWithin : Jvm.Cond.code y_X7_isWithin prog_1_method_46_code 3 (some .boolean) ∈ tblG ∧ Jvm.Cond.initialized y_X7_isWithin.cls ∈ tblG ∧ Jvm.Cond.static y_X7_isWithin ∈ tblG ∧ pl3 y_X7_isWithin 3 := ⟨tblG_of (i := 232) rfl rfl, tblG_of (i := 1) rfl rfl, tblG_of (i := 231) rfl rfl, ⟨by decide +kernel, by decide +kernel, by decide +kernel⟩⟩
def y_X7_has : MethodName := ⟨"BrookStones", "has", "(II)Z"⟩
set_option maxRecDepth 100000 in
theorem mi_X7_has : Jvm.Cond.code y_X7_has prog_1_method_47_code 2 (some .boolean) ∈ tblG ∧ Jvm.Cond.initialized y_X7_has.cls ∈ tblG ∧ Jvm.Cond.static y_X7_has ∈ tblG ∧ pl3 y_X7_has 2 := ⟨tblG_of (i := 295) rfl rfl, tblG_of (i := 1) rfl rfl, tblG_of (i := 294) rfl rfl, ⟨by decide +kernel, by decide +kernel, by decide +kernel⟩⟩
def y_X7_farthest : MethodName := ⟨"BrookStones", "farthest", "(IIII)I"⟩
set_option maxRecDepth 100000 in
theorem mi_X7_farthest : Jvm.Cond.code y_X7_farthest prog_1_method_49_code 7 (some .int) ∈ tblG ∧ Jvm.Cond.initialized y_X7_farthest.cls ∈ tblG ∧ Jvm.Cond.static y_X7_farthest ∈ tblG ∧ pl3 y_X7_farthest 4 := ⟨tblG_of (i := 377) rfl rfl, tblG_of (i := 1) rfl rfl, tblG_of (i := 376) rfl rfl, ⟨by decide +kernel, by decide +kernel, by decide +kernel⟩⟩
def y_J6_bitCount_0f7a4 : MethodName := ⟨"java/lang/Integer", "bitCount", "(I)I"⟩
set_option maxRecDepth 100000 in
theorem mi_J6_bitCount_0f7a4 : Jvm.Cond.code y_J6_bitCount_0f7a4 prog_11_method_49_code 1 (some .int) ∈ tblG ∧ Jvm.Cond.initialized y_J6_bitCount_0f7a4.cls ∈ tblG ∧ Jvm.Cond.static y_J6_bitCount_0f7a4 ∈ tblG ∧ pl3 y_J6_bitCount_0f7a4 1 := ⟨tblG_of (i := 455) rfl rfl, tblG_of (i := 11) rfl rfl, tblG_of (i := 454) rfl rfl, ⟨by decide +kernel, by decide +kernel, by decide +kernel⟩⟩
def y_J9_max_7cf53 : MethodName := ⟨"java/lang/Math", "max", "(II)I"⟩
set_option maxRecDepth 100000 in
theorem mi_J9_max_7cf53 : Jvm.Cond.code y_J9_max_7cf53 prog_12_method_65_code 2 (some .int) ∈ tblG ∧ Jvm.Cond.initialized y_J9_max_7cf53.cls ∈ tblG ∧ Jvm.Cond.static y_J9_max_7cf53 ∈ tblG ∧ pl3 y_J9_max_7cf53 2 := ⟨tblG_of (i := 268) rfl rfl, tblG_of (i := 10) rfl rfl, tblG_of (i := 267) rfl rfl, ⟨by decide +kernel, by decide +kernel, by decide +kernel⟩⟩
def y_J9_min_7cf53 : MethodName := ⟨"java/lang/Math", "min", "(II)I"⟩
set_option maxRecDepth 100000 in
theorem mi_J9_min_7cf53 : Jvm.Cond.code y_J9_min_7cf53 prog_12_method_69_code 2 (some .int) ∈ tblG ∧ Jvm.Cond.initialized y_J9_min_7cf53.cls ∈ tblG ∧ Jvm.Cond.static y_J9_min_7cf53 ∈ tblG ∧ pl3 y_J9_min_7cf53 2 := ⟨tblG_of (i := 277) rfl rfl, tblG_of (i := 10) rfl rfl, tblG_of (i := 276) rfl rfl, ⟨by decide +kernel, by decide +kernel, by decide +kernel⟩⟩
def y_J7_rangeCheck_23922 : MethodName := ⟨"java/util/Arrays", "rangeCheck", "(III)V"⟩
set_option maxRecDepth 100000 in
theorem mi_J7_rangeCheck_23922 : Jvm.Cond.code y_J7_rangeCheck_23922 prog_13_method_30_code 3 (none) ∈ tblG ∧ Jvm.Cond.initialized y_J7_rangeCheck_23922.cls ∈ tblG ∧ Jvm.Cond.static y_J7_rangeCheck_23922 ∈ tblG ∧ pl3 y_J7_rangeCheck_23922 3 := ⟨tblG_of (i := 436) rfl rfl, tblG_of (i := 3) rfl rfl, tblG_of (i := 435) rfl rfl, ⟨by decide +kernel, by decide +kernel, by decide +kernel⟩⟩
def y_J7_fill_53178 : MethodName := ⟨"java/util/Arrays", "fill", "([II)V"⟩
set_option maxRecDepth 100000 in
theorem mi_J7_fill_53178 : Jvm.Cond.code y_J7_fill_53178 prog_13_method_103_code 4 (none) ∈ tblG ∧ Jvm.Cond.initialized y_J7_fill_53178.cls ∈ tblG ∧ Jvm.Cond.static y_J7_fill_53178 ∈ tblG ∧ pl3 y_J7_fill_53178 2 := ⟨tblG_of (i := 28) rfl rfl, tblG_of (i := 3) rfl rfl, tblG_of (i := 27) rfl rfl, ⟨by decide +kernel, by decide +kernel, by decide +kernel⟩⟩
def y_J7_fill_fda19 : MethodName := ⟨"java/util/Arrays", "fill", "([IIII)V"⟩
set_option maxRecDepth 100000 in
theorem mi_J7_fill_fda19 : Jvm.Cond.code y_J7_fill_fda19 prog_13_method_104_code 5 (none) ∈ tblG ∧ Jvm.Cond.initialized y_J7_fill_fda19.cls ∈ tblG ∧ Jvm.Cond.static y_J7_fill_fda19 ∈ tblG ∧ pl3 y_J7_fill_fda19 4 := ⟨tblG_of (i := 433) rfl rfl, tblG_of (i := 3) rfl rfl, tblG_of (i := 432) rfl rfl, ⟨by decide +kernel, by decide +kernel, by decide +kernel⟩⟩
def y_L_cell : MethodName := ⟨"BrookStonesLaw", "cell", "([II)I"⟩
set_option maxRecDepth 100000 in
theorem mi_L_cell : Jvm.Cond.code y_L_cell method_2_code 2 (some .int) ∈ tblG ∧ Jvm.Cond.initialized y_L_cell.cls ∈ tblG ∧ Jvm.Cond.static y_L_cell ∈ tblG ∧ pl3 y_L_cell 2 := ⟨tblG_of (i := 461) rfl rfl, tblG_of (i := 0) rfl rfl, tblG_of (i := 460) rfl rfl, ⟨by decide +kernel, by decide +kernel, by decide +kernel⟩⟩
def y_L_some : MethodName := ⟨"BrookStonesLaw", "some", "(II)I"⟩
set_option maxRecDepth 100000 in
theorem mi_L_some : Jvm.Cond.code y_L_some method_3_code 2 (some .int) ∈ tblG ∧ Jvm.Cond.initialized y_L_some.cls ∈ tblG ∧ Jvm.Cond.static y_L_some ∈ tblG ∧ pl3 y_L_some 2 := ⟨tblG_of (i := 465) rfl rfl, tblG_of (i := 0) rfl rfl, tblG_of (i := 464) rfl rfl, ⟨by decide +kernel, by decide +kernel, by decide +kernel⟩⟩
def y_L_put : MethodName := ⟨"BrookStonesLaw", "put", "(LBrookStones;[III[I)I"⟩
set_option maxRecDepth 100000 in
theorem mi_L_put : Jvm.Cond.code y_L_put method_4_code 8 (some .int) ∈ tblG ∧ Jvm.Cond.initialized y_L_put.cls ∈ tblG ∧ Jvm.Cond.static y_L_put ∈ tblG ∧ pl3 y_L_put 5 := ⟨tblG_of (i := 469) rfl rfl, tblG_of (i := 0) rfl rfl, tblG_of (i := 468) rfl rfl, ⟨by decide +kernel, by decide +kernel, by decide +kernel⟩⟩
def y_L_stones : MethodName := ⟨"BrookStonesLaw", "stones", "(LBrookStones;[III[I)I"⟩
set_option maxRecDepth 100000 in
theorem mi_L_stones : Jvm.Cond.code y_L_stones method_5_code 8 (some .int) ∈ tblG ∧ Jvm.Cond.initialized y_L_stones.cls ∈ tblG ∧ Jvm.Cond.static y_L_stones ∈ tblG ∧ pl3 y_L_stones 5 := ⟨tblG_of (i := 472) rfl rfl, tblG_of (i := 0) rfl rfl, tblG_of (i := 471) rfl rfl, ⟨by decide +kernel, by decide +kernel, by decide +kernel⟩⟩
def y_L_stands : MethodName := ⟨"BrookStonesLaw", "stands", "([I[I[III)Z"⟩
set_option maxRecDepth 100000 in
theorem mi_L_stands : Jvm.Cond.code y_L_stands method_6_code 6 (some .boolean) ∈ tblG ∧ Jvm.Cond.initialized y_L_stands.cls ∈ tblG ∧ Jvm.Cond.static y_L_stands ∈ tblG ∧ pl3 y_L_stands 5 := ⟨tblG_of (i := 483) rfl rfl, tblG_of (i := 0) rfl rfl, tblG_of (i := 482) rfl rfl, ⟨by decide +kernel, by decide +kernel, by decide +kernel⟩⟩
def y_L_goes : MethodName := ⟨"BrookStonesLaw", "goes", "([I[I[IIII)Z"⟩
set_option maxRecDepth 100000 in
theorem mi_L_goes : Jvm.Cond.code y_L_goes method_7_code 7 (some .boolean) ∈ tblG ∧ Jvm.Cond.initialized y_L_goes.cls ∈ tblG ∧ Jvm.Cond.static y_L_goes ∈ tblG ∧ pl3 y_L_goes 6 := ⟨tblG_of (i := 486) rfl rfl, tblG_of (i := 0) rfl rfl, tblG_of (i := 485) rfl rfl, ⟨by decide +kernel, by decide +kernel, by decide +kernel⟩⟩
def y_L_come : MethodName := ⟨"BrookStonesLaw", "come", "([I[I[IIIII)I"⟩
set_option maxRecDepth 100000 in
theorem mi_L_come : Jvm.Cond.code y_L_come method_8_code 12 (some .int) ∈ tblG ∧ Jvm.Cond.initialized y_L_come.cls ∈ tblG ∧ Jvm.Cond.static y_L_come ∈ tblG ∧ pl3 y_L_come 7 := ⟨tblG_of (i := 489) rfl rfl, tblG_of (i := 0) rfl rfl, tblG_of (i := 488) rfl rfl, ⟨by decide +kernel, by decide +kernel, by decide +kernel⟩⟩
def y_L_can : MethodName := ⟨"BrookStonesLaw", "can", "([I[I[III)Z"⟩
set_option maxRecDepth 100000 in
theorem mi_L_can : Jvm.Cond.code y_L_can method_9_code 5 (some .boolean) ∈ tblG ∧ Jvm.Cond.initialized y_L_can.cls ∈ tblG ∧ Jvm.Cond.static y_L_can ∈ tblG ∧ pl3 y_L_can 5 := ⟨tblG_of (i := 492) rfl rfl, tblG_of (i := 0) rfl rfl, tblG_of (i := 491) rfl rfl, ⟨by decide +kernel, by decide +kernel, by decide +kernel⟩⟩
set_option maxRecDepth 100000 in
theorem fk_BrookStones_12 : fOK "BrookStones" false (12, 6, 0, 10) := ⟨RX7, TX7, 8, tyX7, "BrookStones", rfl, by decide, uw_X7, tyX7_ok, nmX7, rfl, Or.inl (tblG_of (i := 195) rfl rfl), fun h => absurd h (by decide), fun h => absurd h (by decide)⟩
set_option maxRecDepth 100000 in
theorem fk_BrookStones_21 : fOK "BrookStones" false (21, 6, 1, 10) := ⟨RX7, TX7, 8, tyX7, "BrookStones", rfl, by decide, uw_X7, tyX7_ok, nmX7, rfl, Or.inl (tblG_of (i := 196) rfl rfl), fun h => absurd h (by decide), fun h => absurd h (by decide)⟩
set_option maxRecDepth 100000 in
theorem fk_BrookStones_28 : fOK "BrookStones" false (28, 6, 2, 10) := ⟨RX7, TX7, 8, tyX7, "BrookStones", rfl, by decide, uw_X7, tyX7_ok, nmX7, rfl, Or.inl (tblG_of (i := 197) rfl rfl), fun h => absurd h (by decide), fun h => absurd h (by decide)⟩
set_option maxRecDepth 100000 in
theorem fk_BrookStones_35 : fOK "BrookStones" false (35, 6, 3, 10) := ⟨RX7, TX7, 8, tyX7, "BrookStones", rfl, by decide, uw_X7, tyX7_ok, nmX7, rfl, Or.inl (tblG_of (i := 198) rfl rfl), fun h => absurd h (by decide), fun h => absurd h (by decide)⟩
set_option maxRecDepth 100000 in
theorem fk_BrookStones_42 : fOK "BrookStones" false (42, 6, 4, 10) := ⟨RX7, TX7, 8, tyX7, "BrookStones", rfl, by decide, uw_X7, tyX7_ok, nmX7, rfl, Or.inl (tblG_of (i := 199) rfl rfl), fun h => absurd h (by decide), fun h => absurd h (by decide)⟩
set_option maxRecDepth 100000 in
theorem fk_BrookStones_49 : fOK "BrookStones" false (49, 6, 5, 10) := ⟨RX7, TX7, 8, tyX7, "BrookStones", rfl, by decide, uw_X7, tyX7_ok, nmX7, rfl, Or.inl (tblG_of (i := 200) rfl rfl), fun h => absurd h (by decide), fun h => absurd h (by decide)⟩
set_option maxRecDepth 100000 in
theorem fk_BrookStones_53 : fOK "BrookStones" false (53, 6, 7, 1) := ⟨RX7, TX7, 8, tyX7, "BrookStones", rfl, by decide, uw_X7, tyX7_ok, nmX7, rfl, Or.inl (tblG_of (i := 201) rfl rfl), fun _ => ⟨rfl, rfl⟩, fun h => absurd h (by decide)⟩
set_option maxRecDepth 100000 in
theorem fk_BrookStones_74 : fOK "BrookStones" false (74, 0, 8, 1) := ⟨RX0, TX0, 15, tyX0, "BrookStones", rfl, by decide, uw_X0, tyX0_ok, nmX0, rfl, Or.inr (tblN_of (i := 48) rfl rfl), fun _ => ⟨rfl, rfl⟩, fun h => absurd h (by decide)⟩
set_option maxRecDepth 100000 in
theorem fk_BrookStones_81 : fOK "BrookStones" false (81, 0, 2, 10) := ⟨RX0, TX0, 15, tyX0, "BrookStones", rfl, by decide, uw_X0, tyX0_ok, nmX0, rfl, Or.inr (tblN_of (i := 36) rfl rfl), fun h => absurd h (by decide), fun h => absurd h (by decide)⟩
set_option maxRecDepth 100000 in
theorem fk_BrookStones_85 : fOK "BrookStones" false (85, 0, 0, 10) := ⟨RX0, TX0, 15, tyX0, "BrookStones", rfl, by decide, uw_X0, tyX0_ok, nmX0, rfl, Or.inr (tblN_of (i := 31) rfl rfl), fun h => absurd h (by decide), fun h => absurd h (by decide)⟩
set_option maxRecDepth 100000 in
theorem fk_BrookStones_88 : fOK "BrookStones" false (88, 0, 1, 10) := ⟨RX0, TX0, 15, tyX0, "BrookStones", rfl, by decide, uw_X0, tyX0_ok, nmX0, rfl, Or.inr (tblN_of (i := 34) rfl rfl), fun h => absurd h (by decide), fun h => absurd h (by decide)⟩
set_option maxRecDepth 100000 in
theorem fk_BrookStones_91 : fOK "BrookStones" false (91, 0, 10, 1) := ⟨RX0, TX0, 15, tyX0, "BrookStones", rfl, by decide, uw_X0, tyX0_ok, nmX0, rfl, Or.inr (tblN_of (i := 53) rfl rfl), fun _ => ⟨rfl, rfl⟩, fun h => absurd h (by decide)⟩
set_option maxRecDepth 100000 in
theorem fk_BrookStones_98 : fOK "BrookStones" false (98, 0, 11, 1) := ⟨RX0, TX0, 15, tyX0, "BrookStones", rfl, by decide, uw_X0, tyX0_ok, nmX0, rfl, Or.inr (tblN_of (i := 56) rfl rfl), fun _ => ⟨rfl, rfl⟩, fun h => absurd h (by decide)⟩
set_option maxRecDepth 100000 in
theorem fk_BrookStones_113 : fOK "BrookStones" false (113, 0, 12, 1) := ⟨RX0, TX0, 15, tyX0, "BrookStones", rfl, by decide, uw_X0, tyX0_ok, nmX0, rfl, Or.inr (tblN_of (i := 58) rfl rfl), fun _ => ⟨rfl, rfl⟩, fun h => absurd h (by decide)⟩
set_option maxRecDepth 100000 in
theorem fk_BrookStones_122 : fOK "BrookStones" false (122, 0, 3, 10) := ⟨RX0, TX0, 15, tyX0, "BrookStones", rfl, by decide, uw_X0, tyX0_ok, nmX0, rfl, Or.inr (tblN_of (i := 38) rfl rfl), fun h => absurd h (by decide), fun h => absurd h (by decide)⟩
set_option maxRecDepth 100000 in
theorem fk_BrookStones_125 : fOK "BrookStones" false (125, 0, 4, 10) := ⟨RX0, TX0, 15, tyX0, "BrookStones", rfl, by decide, uw_X0, tyX0_ok, nmX0, rfl, Or.inr (tblN_of (i := 40) rfl rfl), fun h => absurd h (by decide), fun h => absurd h (by decide)⟩
set_option maxRecDepth 100000 in
theorem fk_BrookStones_128 : fOK "BrookStones" false (128, 0, 5, 10) := ⟨RX0, TX0, 15, tyX0, "BrookStones", rfl, by decide, uw_X0, tyX0_ok, nmX0, rfl, Or.inr (tblN_of (i := 42) rfl rfl), fun h => absurd h (by decide), fun h => absurd h (by decide)⟩
set_option maxRecDepth 100000 in
theorem fk_BrookStones_131 : fOK "BrookStones" false (131, 0, 6, 10) := ⟨RX0, TX0, 15, tyX0, "BrookStones", rfl, by decide, uw_X0, tyX0_ok, nmX0, rfl, Or.inr (tblN_of (i := 44) rfl rfl), fun h => absurd h (by decide), fun h => absurd h (by decide)⟩
set_option maxRecDepth 100000 in
theorem fk_BrookStones_138 : fOK "BrookStones" false (138, 0, 13, 1) := ⟨RX0, TX0, 15, tyX0, "BrookStones", rfl, by decide, uw_X0, tyX0_ok, nmX0, rfl, Or.inr (tblN_of (i := 60) rfl rfl), fun _ => ⟨rfl, rfl⟩, fun h => absurd h (by decide)⟩
set_option maxRecDepth 100000 in
theorem fk_BrookStones_152 : fOK "BrookStones" false (152, 0, 14, 1) := ⟨RX0, TX0, 15, tyX0, "BrookStones", rfl, by decide, uw_X0, tyX0_ok, nmX0, rfl, Or.inr (tblN_of (i := 62) rfl rfl), fun _ => ⟨rfl, rfl⟩, fun h => absurd h (by decide)⟩
set_option maxRecDepth 100000 in
theorem fk_BrookStones_161 : fOK "BrookStones" false (161, 0, 7, 10) := ⟨RX0, TX0, 15, tyX0, "BrookStones", rfl, by decide, uw_X0, tyX0_ok, nmX0, rfl, Or.inr (tblN_of (i := 46) rfl rfl), fun h => absurd h (by decide), fun h => absurd h (by decide)⟩
set_option maxRecDepth 100000 in
theorem fk_BrookStones_179 : fOK "BrookStones" false (179, 5, 0, 10) := ⟨RX6, TX6, 6, tyX6, "BrookStones", rfl, by decide, uw_X6, tyX6_ok, nmX6, rfl, Or.inr (tblN_of (i := 120) rfl rfl), fun h => absurd h (by decide), fun h => absurd h (by decide)⟩
set_option maxRecDepth 100000 in
theorem fk_BrookStones_274 : fOK "BrookStones" false (274, 4, 1, 10) := ⟨RX4, TX4, 3, tyX4, "BrookStones", rfl, by decide, uw_X4, tyX4_ok, nmX4, rfl, Or.inr (tblN_of (i := 104) rfl rfl), fun h => absurd h (by decide), fun h => absurd h (by decide)⟩
def fl_BrookStones : List (Nat × Nat × Nat × Nat) := [(12, 6, 0, 10), (21, 6, 1, 10), (28, 6, 2, 10), (35, 6, 3, 10), (42, 6, 4, 10), (49, 6, 5, 10), (53, 6, 7, 1), (74, 0, 8, 1), (81, 0, 2, 10), (85, 0, 0, 10), (88, 0, 1, 10), (91, 0, 10, 1), (98, 0, 11, 1), (113, 0, 12, 1), (122, 0, 3, 10), (125, 0, 4, 10), (128, 0, 5, 10), (131, 0, 6, 10), (138, 0, 13, 1), (152, 0, 14, 1), (161, 0, 7, 10), (179, 5, 0, 10), (274, 4, 1, 10)]
set_option maxRecDepth 100000 in
theorem fl_BrookStones_ok : ∀ q ∈ fl_BrookStones, fOK "BrookStones" false q := List.forall_mem_cons.mpr ⟨fk_BrookStones_12, List.forall_mem_cons.mpr ⟨fk_BrookStones_21, List.forall_mem_cons.mpr ⟨fk_BrookStones_28, List.forall_mem_cons.mpr ⟨fk_BrookStones_35, List.forall_mem_cons.mpr ⟨fk_BrookStones_42, List.forall_mem_cons.mpr ⟨fk_BrookStones_49, List.forall_mem_cons.mpr ⟨fk_BrookStones_53, List.forall_mem_cons.mpr ⟨fk_BrookStones_74, List.forall_mem_cons.mpr ⟨fk_BrookStones_81, List.forall_mem_cons.mpr ⟨fk_BrookStones_85, List.forall_mem_cons.mpr ⟨fk_BrookStones_88, List.forall_mem_cons.mpr ⟨fk_BrookStones_91, List.forall_mem_cons.mpr ⟨fk_BrookStones_98, List.forall_mem_cons.mpr ⟨fk_BrookStones_113, List.forall_mem_cons.mpr ⟨fk_BrookStones_122, List.forall_mem_cons.mpr ⟨fk_BrookStones_125, List.forall_mem_cons.mpr ⟨fk_BrookStones_128, List.forall_mem_cons.mpr ⟨fk_BrookStones_131, List.forall_mem_cons.mpr ⟨fk_BrookStones_138, List.forall_mem_cons.mpr ⟨fk_BrookStones_152, List.forall_mem_cons.mpr ⟨fk_BrookStones_161, List.forall_mem_cons.mpr ⟨fk_BrookStones_179, List.forall_mem_cons.mpr ⟨fk_BrookStones_274, fun _ h => absurd h List.not_mem_nil⟩⟩⟩⟩⟩⟩⟩⟩⟩⟩⟩⟩⟩⟩⟩⟩⟩⟩⟩⟩⟩⟩⟩
set_option maxRecDepth 100000 in
theorem fk_BrookStones_i_12 : fOK "BrookStones" true (12, 6, 0, 12) := ⟨RX7, TX7, 8, tyX7, "BrookStones", rfl, by decide, uw_X7, tyX7_ok, nmX7, rfl, Or.inl (tblG_of (i := 195) rfl rfl), fun h => absurd h (by decide), fun _ => ⟨rfl, rfl, rfl, Or.inl ⟨_, rfl⟩, tblG_of (i := 195) rfl rfl⟩⟩
set_option maxRecDepth 100000 in
theorem fk_BrookStones_i_21 : fOK "BrookStones" true (21, 6, 1, 12) := ⟨RX7, TX7, 8, tyX7, "BrookStones", rfl, by decide, uw_X7, tyX7_ok, nmX7, rfl, Or.inl (tblG_of (i := 196) rfl rfl), fun h => absurd h (by decide), fun _ => ⟨rfl, rfl, rfl, Or.inl ⟨_, rfl⟩, tblG_of (i := 196) rfl rfl⟩⟩
set_option maxRecDepth 100000 in
theorem fk_BrookStones_i_28 : fOK "BrookStones" true (28, 6, 2, 12) := ⟨RX7, TX7, 8, tyX7, "BrookStones", rfl, by decide, uw_X7, tyX7_ok, nmX7, rfl, Or.inl (tblG_of (i := 197) rfl rfl), fun h => absurd h (by decide), fun _ => ⟨rfl, rfl, rfl, Or.inl ⟨_, rfl⟩, tblG_of (i := 197) rfl rfl⟩⟩
set_option maxRecDepth 100000 in
theorem fk_BrookStones_i_35 : fOK "BrookStones" true (35, 6, 3, 12) := ⟨RX7, TX7, 8, tyX7, "BrookStones", rfl, by decide, uw_X7, tyX7_ok, nmX7, rfl, Or.inl (tblG_of (i := 198) rfl rfl), fun h => absurd h (by decide), fun _ => ⟨rfl, rfl, rfl, Or.inl ⟨_, rfl⟩, tblG_of (i := 198) rfl rfl⟩⟩
set_option maxRecDepth 100000 in
theorem fk_BrookStones_i_42 : fOK "BrookStones" true (42, 6, 4, 12) := ⟨RX7, TX7, 8, tyX7, "BrookStones", rfl, by decide, uw_X7, tyX7_ok, nmX7, rfl, Or.inl (tblG_of (i := 199) rfl rfl), fun h => absurd h (by decide), fun _ => ⟨rfl, rfl, rfl, Or.inl ⟨_, rfl⟩, tblG_of (i := 199) rfl rfl⟩⟩
set_option maxRecDepth 100000 in
theorem fk_BrookStones_i_49 : fOK "BrookStones" true (49, 6, 5, 12) := ⟨RX7, TX7, 8, tyX7, "BrookStones", rfl, by decide, uw_X7, tyX7_ok, nmX7, rfl, Or.inl (tblG_of (i := 200) rfl rfl), fun h => absurd h (by decide), fun _ => ⟨rfl, rfl, rfl, Or.inl ⟨_, rfl⟩, tblG_of (i := 200) rfl rfl⟩⟩
set_option maxRecDepth 100000 in
theorem fk_BrookStones_i_53 : fOK "BrookStones" true (53, 6, 7, 1) := ⟨RX7, TX7, 8, tyX7, "BrookStones", rfl, by decide, uw_X7, tyX7_ok, nmX7, rfl, Or.inl (tblG_of (i := 201) rfl rfl), fun _ => ⟨rfl, rfl⟩, fun h => absurd h (by decide)⟩
set_option maxRecDepth 100000 in
theorem fk_BrookStones_i_74 : fOK "BrookStones" true (74, 0, 8, 1) := ⟨RX0, TX0, 15, tyX0, "BrookStones", rfl, by decide, uw_X0, tyX0_ok, nmX0, rfl, Or.inr (tblN_of (i := 48) rfl rfl), fun _ => ⟨rfl, rfl⟩, fun h => absurd h (by decide)⟩
set_option maxRecDepth 100000 in
theorem fk_BrookStones_i_81 : fOK "BrookStones" true (81, 0, 2, 10) := ⟨RX0, TX0, 15, tyX0, "BrookStones", rfl, by decide, uw_X0, tyX0_ok, nmX0, rfl, Or.inr (tblN_of (i := 36) rfl rfl), fun h => absurd h (by decide), fun h => absurd h (by decide)⟩
set_option maxRecDepth 100000 in
theorem fk_BrookStones_i_85 : fOK "BrookStones" true (85, 0, 0, 10) := ⟨RX0, TX0, 15, tyX0, "BrookStones", rfl, by decide, uw_X0, tyX0_ok, nmX0, rfl, Or.inr (tblN_of (i := 31) rfl rfl), fun h => absurd h (by decide), fun h => absurd h (by decide)⟩
set_option maxRecDepth 100000 in
theorem fk_BrookStones_i_88 : fOK "BrookStones" true (88, 0, 1, 10) := ⟨RX0, TX0, 15, tyX0, "BrookStones", rfl, by decide, uw_X0, tyX0_ok, nmX0, rfl, Or.inr (tblN_of (i := 34) rfl rfl), fun h => absurd h (by decide), fun h => absurd h (by decide)⟩
set_option maxRecDepth 100000 in
theorem fk_BrookStones_i_91 : fOK "BrookStones" true (91, 0, 10, 1) := ⟨RX0, TX0, 15, tyX0, "BrookStones", rfl, by decide, uw_X0, tyX0_ok, nmX0, rfl, Or.inr (tblN_of (i := 53) rfl rfl), fun _ => ⟨rfl, rfl⟩, fun h => absurd h (by decide)⟩
set_option maxRecDepth 100000 in
theorem fk_BrookStones_i_98 : fOK "BrookStones" true (98, 0, 11, 1) := ⟨RX0, TX0, 15, tyX0, "BrookStones", rfl, by decide, uw_X0, tyX0_ok, nmX0, rfl, Or.inr (tblN_of (i := 56) rfl rfl), fun _ => ⟨rfl, rfl⟩, fun h => absurd h (by decide)⟩
set_option maxRecDepth 100000 in
theorem fk_BrookStones_i_113 : fOK "BrookStones" true (113, 0, 12, 1) := ⟨RX0, TX0, 15, tyX0, "BrookStones", rfl, by decide, uw_X0, tyX0_ok, nmX0, rfl, Or.inr (tblN_of (i := 58) rfl rfl), fun _ => ⟨rfl, rfl⟩, fun h => absurd h (by decide)⟩
set_option maxRecDepth 100000 in
theorem fk_BrookStones_i_122 : fOK "BrookStones" true (122, 0, 3, 10) := ⟨RX0, TX0, 15, tyX0, "BrookStones", rfl, by decide, uw_X0, tyX0_ok, nmX0, rfl, Or.inr (tblN_of (i := 38) rfl rfl), fun h => absurd h (by decide), fun h => absurd h (by decide)⟩
set_option maxRecDepth 100000 in
theorem fk_BrookStones_i_125 : fOK "BrookStones" true (125, 0, 4, 10) := ⟨RX0, TX0, 15, tyX0, "BrookStones", rfl, by decide, uw_X0, tyX0_ok, nmX0, rfl, Or.inr (tblN_of (i := 40) rfl rfl), fun h => absurd h (by decide), fun h => absurd h (by decide)⟩
set_option maxRecDepth 100000 in
theorem fk_BrookStones_i_128 : fOK "BrookStones" true (128, 0, 5, 10) := ⟨RX0, TX0, 15, tyX0, "BrookStones", rfl, by decide, uw_X0, tyX0_ok, nmX0, rfl, Or.inr (tblN_of (i := 42) rfl rfl), fun h => absurd h (by decide), fun h => absurd h (by decide)⟩
set_option maxRecDepth 100000 in
theorem fk_BrookStones_i_131 : fOK "BrookStones" true (131, 0, 6, 10) := ⟨RX0, TX0, 15, tyX0, "BrookStones", rfl, by decide, uw_X0, tyX0_ok, nmX0, rfl, Or.inr (tblN_of (i := 44) rfl rfl), fun h => absurd h (by decide), fun h => absurd h (by decide)⟩
set_option maxRecDepth 100000 in
theorem fk_BrookStones_i_138 : fOK "BrookStones" true (138, 0, 13, 1) := ⟨RX0, TX0, 15, tyX0, "BrookStones", rfl, by decide, uw_X0, tyX0_ok, nmX0, rfl, Or.inr (tblN_of (i := 60) rfl rfl), fun _ => ⟨rfl, rfl⟩, fun h => absurd h (by decide)⟩
set_option maxRecDepth 100000 in
theorem fk_BrookStones_i_152 : fOK "BrookStones" true (152, 0, 14, 1) := ⟨RX0, TX0, 15, tyX0, "BrookStones", rfl, by decide, uw_X0, tyX0_ok, nmX0, rfl, Or.inr (tblN_of (i := 62) rfl rfl), fun _ => ⟨rfl, rfl⟩, fun h => absurd h (by decide)⟩
set_option maxRecDepth 100000 in
theorem fk_BrookStones_i_161 : fOK "BrookStones" true (161, 0, 7, 10) := ⟨RX0, TX0, 15, tyX0, "BrookStones", rfl, by decide, uw_X0, tyX0_ok, nmX0, rfl, Or.inr (tblN_of (i := 46) rfl rfl), fun h => absurd h (by decide), fun h => absurd h (by decide)⟩
set_option maxRecDepth 100000 in
theorem fk_BrookStones_i_179 : fOK "BrookStones" true (179, 5, 0, 10) := ⟨RX6, TX6, 6, tyX6, "BrookStones", rfl, by decide, uw_X6, tyX6_ok, nmX6, rfl, Or.inr (tblN_of (i := 120) rfl rfl), fun h => absurd h (by decide), fun h => absurd h (by decide)⟩
set_option maxRecDepth 100000 in
theorem fk_BrookStones_i_274 : fOK "BrookStones" true (274, 4, 1, 10) := ⟨RX4, TX4, 3, tyX4, "BrookStones", rfl, by decide, uw_X4, tyX4_ok, nmX4, rfl, Or.inr (tblN_of (i := 104) rfl rfl), fun h => absurd h (by decide), fun h => absurd h (by decide)⟩
def fl_BrookStones_i : List (Nat × Nat × Nat × Nat) := [(12, 6, 0, 12), (21, 6, 1, 12), (28, 6, 2, 12), (35, 6, 3, 12), (42, 6, 4, 12), (49, 6, 5, 12), (53, 6, 7, 1), (74, 0, 8, 1), (81, 0, 2, 10), (85, 0, 0, 10), (88, 0, 1, 10), (91, 0, 10, 1), (98, 0, 11, 1), (113, 0, 12, 1), (122, 0, 3, 10), (125, 0, 4, 10), (128, 0, 5, 10), (131, 0, 6, 10), (138, 0, 13, 1), (152, 0, 14, 1), (161, 0, 7, 10), (179, 5, 0, 10), (274, 4, 1, 10)]
set_option maxRecDepth 100000 in
theorem fl_BrookStones_i_ok : ∀ q ∈ fl_BrookStones_i, fOK "BrookStones" true q := List.forall_mem_cons.mpr ⟨fk_BrookStones_i_12, List.forall_mem_cons.mpr ⟨fk_BrookStones_i_21, List.forall_mem_cons.mpr ⟨fk_BrookStones_i_28, List.forall_mem_cons.mpr ⟨fk_BrookStones_i_35, List.forall_mem_cons.mpr ⟨fk_BrookStones_i_42, List.forall_mem_cons.mpr ⟨fk_BrookStones_i_49, List.forall_mem_cons.mpr ⟨fk_BrookStones_i_53, List.forall_mem_cons.mpr ⟨fk_BrookStones_i_74, List.forall_mem_cons.mpr ⟨fk_BrookStones_i_81, List.forall_mem_cons.mpr ⟨fk_BrookStones_i_85, List.forall_mem_cons.mpr ⟨fk_BrookStones_i_88, List.forall_mem_cons.mpr ⟨fk_BrookStones_i_91, List.forall_mem_cons.mpr ⟨fk_BrookStones_i_98, List.forall_mem_cons.mpr ⟨fk_BrookStones_i_113, List.forall_mem_cons.mpr ⟨fk_BrookStones_i_122, List.forall_mem_cons.mpr ⟨fk_BrookStones_i_125, List.forall_mem_cons.mpr ⟨fk_BrookStones_i_128, List.forall_mem_cons.mpr ⟨fk_BrookStones_i_131, List.forall_mem_cons.mpr ⟨fk_BrookStones_i_138, List.forall_mem_cons.mpr ⟨fk_BrookStones_i_152, List.forall_mem_cons.mpr ⟨fk_BrookStones_i_161, List.forall_mem_cons.mpr ⟨fk_BrookStones_i_179, List.forall_mem_cons.mpr ⟨fk_BrookStones_i_274, fun _ h => absurd h List.not_mem_nil⟩⟩⟩⟩⟩⟩⟩⟩⟩⟩⟩⟩⟩⟩⟩⟩⟩⟩⟩⟩⟩⟩⟩
set_option maxRecDepth 100000 in
theorem fk_BrookStones_Brook_9 : fOK "BrookStones$Brook" false (9, 0, 0, 10) := ⟨RX0, TX0, 15, tyX0, "BrookStones", rfl, by decide, uw_X0, tyX0_ok, nmX0, rfl, Or.inl (tblG_of (i := 29) rfl rfl), fun h => absurd h (by decide), fun h => absurd h (by decide)⟩
set_option maxRecDepth 100000 in
theorem fk_BrookStones_Brook_15 : fOK "BrookStones$Brook" false (15, 0, 1, 10) := ⟨RX0, TX0, 15, tyX0, "BrookStones", rfl, by decide, uw_X0, tyX0_ok, nmX0, rfl, Or.inl (tblG_of (i := 32) rfl rfl), fun h => absurd h (by decide), fun h => absurd h (by decide)⟩
set_option maxRecDepth 100000 in
theorem fk_BrookStones_Brook_18 : fOK "BrookStones$Brook" false (18, 0, 2, 10) := ⟨RX0, TX0, 15, tyX0, "BrookStones", rfl, by decide, uw_X0, tyX0_ok, nmX0, rfl, Or.inl (tblG_of (i := 35) rfl rfl), fun h => absurd h (by decide), fun h => absurd h (by decide)⟩
set_option maxRecDepth 100000 in
theorem fk_BrookStones_Brook_21 : fOK "BrookStones$Brook" false (21, 0, 3, 10) := ⟨RX0, TX0, 15, tyX0, "BrookStones", rfl, by decide, uw_X0, tyX0_ok, nmX0, rfl, Or.inl (tblG_of (i := 37) rfl rfl), fun h => absurd h (by decide), fun h => absurd h (by decide)⟩
set_option maxRecDepth 100000 in
theorem fk_BrookStones_Brook_24 : fOK "BrookStones$Brook" false (24, 0, 4, 10) := ⟨RX0, TX0, 15, tyX0, "BrookStones", rfl, by decide, uw_X0, tyX0_ok, nmX0, rfl, Or.inl (tblG_of (i := 39) rfl rfl), fun h => absurd h (by decide), fun h => absurd h (by decide)⟩
set_option maxRecDepth 100000 in
theorem fk_BrookStones_Brook_27 : fOK "BrookStones$Brook" false (27, 0, 5, 10) := ⟨RX0, TX0, 15, tyX0, "BrookStones", rfl, by decide, uw_X0, tyX0_ok, nmX0, rfl, Or.inl (tblG_of (i := 41) rfl rfl), fun h => absurd h (by decide), fun h => absurd h (by decide)⟩
set_option maxRecDepth 100000 in
theorem fk_BrookStones_Brook_30 : fOK "BrookStones$Brook" false (30, 0, 6, 10) := ⟨RX0, TX0, 15, tyX0, "BrookStones", rfl, by decide, uw_X0, tyX0_ok, nmX0, rfl, Or.inl (tblG_of (i := 43) rfl rfl), fun h => absurd h (by decide), fun h => absurd h (by decide)⟩
set_option maxRecDepth 100000 in
theorem fk_BrookStones_Brook_33 : fOK "BrookStones$Brook" false (33, 0, 7, 10) := ⟨RX0, TX0, 15, tyX0, "BrookStones", rfl, by decide, uw_X0, tyX0_ok, nmX0, rfl, Or.inl (tblG_of (i := 45) rfl rfl), fun h => absurd h (by decide), fun h => absurd h (by decide)⟩
set_option maxRecDepth 100000 in
theorem fk_BrookStones_Brook_42 : fOK "BrookStones$Brook" false (42, 0, 10, 1) := ⟨RX0, TX0, 15, tyX0, "BrookStones", rfl, by decide, uw_X0, tyX0_ok, nmX0, rfl, Or.inl (tblG_of (i := 52) rfl rfl), fun _ => ⟨rfl, rfl⟩, fun h => absurd h (by decide)⟩
set_option maxRecDepth 100000 in
theorem fk_BrookStones_Brook_46 : fOK "BrookStones$Brook" false (46, 0, 11, 1) := ⟨RX0, TX0, 15, tyX0, "BrookStones", rfl, by decide, uw_X0, tyX0_ok, nmX0, rfl, Or.inl (tblG_of (i := 54) rfl rfl), fun _ => ⟨rfl, rfl⟩, fun h => absurd h (by decide)⟩
set_option maxRecDepth 100000 in
theorem fk_BrookStones_Brook_49 : fOK "BrookStones$Brook" false (49, 0, 12, 1) := ⟨RX0, TX0, 15, tyX0, "BrookStones", rfl, by decide, uw_X0, tyX0_ok, nmX0, rfl, Or.inl (tblG_of (i := 57) rfl rfl), fun _ => ⟨rfl, rfl⟩, fun h => absurd h (by decide)⟩
set_option maxRecDepth 100000 in
theorem fk_BrookStones_Brook_52 : fOK "BrookStones$Brook" false (52, 0, 13, 1) := ⟨RX0, TX0, 15, tyX0, "BrookStones", rfl, by decide, uw_X0, tyX0_ok, nmX0, rfl, Or.inl (tblG_of (i := 59) rfl rfl), fun _ => ⟨rfl, rfl⟩, fun h => absurd h (by decide)⟩
set_option maxRecDepth 100000 in
theorem fk_BrookStones_Brook_55 : fOK "BrookStones$Brook" false (55, 0, 14, 1) := ⟨RX0, TX0, 15, tyX0, "BrookStones", rfl, by decide, uw_X0, tyX0_ok, nmX0, rfl, Or.inl (tblG_of (i := 61) rfl rfl), fun _ => ⟨rfl, rfl⟩, fun h => absurd h (by decide)⟩
set_option maxRecDepth 100000 in
theorem fk_BrookStones_Brook_58 : fOK "BrookStones$Brook" false (58, 0, 8, 1) := ⟨RX0, TX0, 15, tyX0, "BrookStones", rfl, by decide, uw_X0, tyX0_ok, nmX0, rfl, Or.inl (tblG_of (i := 49) rfl rfl), fun _ => ⟨rfl, rfl⟩, fun h => absurd h (by decide)⟩
def fl_BrookStones_Brook : List (Nat × Nat × Nat × Nat) := [(9, 0, 0, 10), (15, 0, 1, 10), (18, 0, 2, 10), (21, 0, 3, 10), (24, 0, 4, 10), (27, 0, 5, 10), (30, 0, 6, 10), (33, 0, 7, 10), (42, 0, 10, 1), (46, 0, 11, 1), (49, 0, 12, 1), (52, 0, 13, 1), (55, 0, 14, 1), (58, 0, 8, 1)]
set_option maxRecDepth 100000 in
theorem fl_BrookStones_Brook_ok : ∀ q ∈ fl_BrookStones_Brook, fOK "BrookStones$Brook" false q := List.forall_mem_cons.mpr ⟨fk_BrookStones_Brook_9, List.forall_mem_cons.mpr ⟨fk_BrookStones_Brook_15, List.forall_mem_cons.mpr ⟨fk_BrookStones_Brook_18, List.forall_mem_cons.mpr ⟨fk_BrookStones_Brook_21, List.forall_mem_cons.mpr ⟨fk_BrookStones_Brook_24, List.forall_mem_cons.mpr ⟨fk_BrookStones_Brook_27, List.forall_mem_cons.mpr ⟨fk_BrookStones_Brook_30, List.forall_mem_cons.mpr ⟨fk_BrookStones_Brook_33, List.forall_mem_cons.mpr ⟨fk_BrookStones_Brook_42, List.forall_mem_cons.mpr ⟨fk_BrookStones_Brook_46, List.forall_mem_cons.mpr ⟨fk_BrookStones_Brook_49, List.forall_mem_cons.mpr ⟨fk_BrookStones_Brook_52, List.forall_mem_cons.mpr ⟨fk_BrookStones_Brook_55, List.forall_mem_cons.mpr ⟨fk_BrookStones_Brook_58, fun _ h => absurd h List.not_mem_nil⟩⟩⟩⟩⟩⟩⟩⟩⟩⟩⟩⟩⟩⟩
set_option maxRecDepth 100000 in
theorem fk_BrookStones_Brook_i_9 : fOK "BrookStones$Brook" true (9, 0, 0, 12) := ⟨RX0, TX0, 15, tyX0, "BrookStones", rfl, by decide, uw_X0, tyX0_ok, nmX0, rfl, Or.inl (tblG_of (i := 29) rfl rfl), fun h => absurd h (by decide), fun _ => ⟨rfl, rfl, rfl, Or.inr ⟨_, rfl⟩, tblG_of (i := 29) rfl rfl⟩⟩
set_option maxRecDepth 100000 in
theorem fk_BrookStones_Brook_i_15 : fOK "BrookStones$Brook" true (15, 0, 1, 12) := ⟨RX0, TX0, 15, tyX0, "BrookStones", rfl, by decide, uw_X0, tyX0_ok, nmX0, rfl, Or.inl (tblG_of (i := 32) rfl rfl), fun h => absurd h (by decide), fun _ => ⟨rfl, rfl, rfl, Or.inr ⟨_, rfl⟩, tblG_of (i := 32) rfl rfl⟩⟩
set_option maxRecDepth 100000 in
theorem fk_BrookStones_Brook_i_18 : fOK "BrookStones$Brook" true (18, 0, 2, 12) := ⟨RX0, TX0, 15, tyX0, "BrookStones", rfl, by decide, uw_X0, tyX0_ok, nmX0, rfl, Or.inl (tblG_of (i := 35) rfl rfl), fun h => absurd h (by decide), fun _ => ⟨rfl, rfl, rfl, Or.inr ⟨_, rfl⟩, tblG_of (i := 35) rfl rfl⟩⟩
set_option maxRecDepth 100000 in
theorem fk_BrookStones_Brook_i_21 : fOK "BrookStones$Brook" true (21, 0, 3, 12) := ⟨RX0, TX0, 15, tyX0, "BrookStones", rfl, by decide, uw_X0, tyX0_ok, nmX0, rfl, Or.inl (tblG_of (i := 37) rfl rfl), fun h => absurd h (by decide), fun _ => ⟨rfl, rfl, rfl, Or.inr ⟨_, rfl⟩, tblG_of (i := 37) rfl rfl⟩⟩
set_option maxRecDepth 100000 in
theorem fk_BrookStones_Brook_i_24 : fOK "BrookStones$Brook" true (24, 0, 4, 12) := ⟨RX0, TX0, 15, tyX0, "BrookStones", rfl, by decide, uw_X0, tyX0_ok, nmX0, rfl, Or.inl (tblG_of (i := 39) rfl rfl), fun h => absurd h (by decide), fun _ => ⟨rfl, rfl, rfl, Or.inr ⟨_, rfl⟩, tblG_of (i := 39) rfl rfl⟩⟩
set_option maxRecDepth 100000 in
theorem fk_BrookStones_Brook_i_27 : fOK "BrookStones$Brook" true (27, 0, 5, 12) := ⟨RX0, TX0, 15, tyX0, "BrookStones", rfl, by decide, uw_X0, tyX0_ok, nmX0, rfl, Or.inl (tblG_of (i := 41) rfl rfl), fun h => absurd h (by decide), fun _ => ⟨rfl, rfl, rfl, Or.inr ⟨_, rfl⟩, tblG_of (i := 41) rfl rfl⟩⟩
set_option maxRecDepth 100000 in
theorem fk_BrookStones_Brook_i_30 : fOK "BrookStones$Brook" true (30, 0, 6, 12) := ⟨RX0, TX0, 15, tyX0, "BrookStones", rfl, by decide, uw_X0, tyX0_ok, nmX0, rfl, Or.inl (tblG_of (i := 43) rfl rfl), fun h => absurd h (by decide), fun _ => ⟨rfl, rfl, rfl, Or.inr ⟨_, rfl⟩, tblG_of (i := 43) rfl rfl⟩⟩
set_option maxRecDepth 100000 in
theorem fk_BrookStones_Brook_i_33 : fOK "BrookStones$Brook" true (33, 0, 7, 12) := ⟨RX0, TX0, 15, tyX0, "BrookStones", rfl, by decide, uw_X0, tyX0_ok, nmX0, rfl, Or.inl (tblG_of (i := 45) rfl rfl), fun h => absurd h (by decide), fun _ => ⟨rfl, rfl, rfl, Or.inr ⟨_, rfl⟩, tblG_of (i := 45) rfl rfl⟩⟩
set_option maxRecDepth 100000 in
theorem fk_BrookStones_Brook_i_42 : fOK "BrookStones$Brook" true (42, 0, 10, 1) := ⟨RX0, TX0, 15, tyX0, "BrookStones", rfl, by decide, uw_X0, tyX0_ok, nmX0, rfl, Or.inl (tblG_of (i := 52) rfl rfl), fun _ => ⟨rfl, rfl⟩, fun h => absurd h (by decide)⟩
set_option maxRecDepth 100000 in
theorem fk_BrookStones_Brook_i_46 : fOK "BrookStones$Brook" true (46, 0, 11, 1) := ⟨RX0, TX0, 15, tyX0, "BrookStones", rfl, by decide, uw_X0, tyX0_ok, nmX0, rfl, Or.inl (tblG_of (i := 54) rfl rfl), fun _ => ⟨rfl, rfl⟩, fun h => absurd h (by decide)⟩
set_option maxRecDepth 100000 in
theorem fk_BrookStones_Brook_i_49 : fOK "BrookStones$Brook" true (49, 0, 12, 1) := ⟨RX0, TX0, 15, tyX0, "BrookStones", rfl, by decide, uw_X0, tyX0_ok, nmX0, rfl, Or.inl (tblG_of (i := 57) rfl rfl), fun _ => ⟨rfl, rfl⟩, fun h => absurd h (by decide)⟩
set_option maxRecDepth 100000 in
theorem fk_BrookStones_Brook_i_52 : fOK "BrookStones$Brook" true (52, 0, 13, 1) := ⟨RX0, TX0, 15, tyX0, "BrookStones", rfl, by decide, uw_X0, tyX0_ok, nmX0, rfl, Or.inl (tblG_of (i := 59) rfl rfl), fun _ => ⟨rfl, rfl⟩, fun h => absurd h (by decide)⟩
set_option maxRecDepth 100000 in
theorem fk_BrookStones_Brook_i_55 : fOK "BrookStones$Brook" true (55, 0, 14, 1) := ⟨RX0, TX0, 15, tyX0, "BrookStones", rfl, by decide, uw_X0, tyX0_ok, nmX0, rfl, Or.inl (tblG_of (i := 61) rfl rfl), fun _ => ⟨rfl, rfl⟩, fun h => absurd h (by decide)⟩
set_option maxRecDepth 100000 in
theorem fk_BrookStones_Brook_i_58 : fOK "BrookStones$Brook" true (58, 0, 8, 1) := ⟨RX0, TX0, 15, tyX0, "BrookStones", rfl, by decide, uw_X0, tyX0_ok, nmX0, rfl, Or.inl (tblG_of (i := 49) rfl rfl), fun _ => ⟨rfl, rfl⟩, fun h => absurd h (by decide)⟩
def fl_BrookStones_Brook_i : List (Nat × Nat × Nat × Nat) := [(9, 0, 0, 12), (15, 0, 1, 12), (18, 0, 2, 12), (21, 0, 3, 12), (24, 0, 4, 12), (27, 0, 5, 12), (30, 0, 6, 12), (33, 0, 7, 12), (42, 0, 10, 1), (46, 0, 11, 1), (49, 0, 12, 1), (52, 0, 13, 1), (55, 0, 14, 1), (58, 0, 8, 1)]
set_option maxRecDepth 100000 in
theorem fl_BrookStones_Brook_i_ok : ∀ q ∈ fl_BrookStones_Brook_i, fOK "BrookStones$Brook" true q := List.forall_mem_cons.mpr ⟨fk_BrookStones_Brook_i_9, List.forall_mem_cons.mpr ⟨fk_BrookStones_Brook_i_15, List.forall_mem_cons.mpr ⟨fk_BrookStones_Brook_i_18, List.forall_mem_cons.mpr ⟨fk_BrookStones_Brook_i_21, List.forall_mem_cons.mpr ⟨fk_BrookStones_Brook_i_24, List.forall_mem_cons.mpr ⟨fk_BrookStones_Brook_i_27, List.forall_mem_cons.mpr ⟨fk_BrookStones_Brook_i_30, List.forall_mem_cons.mpr ⟨fk_BrookStones_Brook_i_33, List.forall_mem_cons.mpr ⟨fk_BrookStones_Brook_i_42, List.forall_mem_cons.mpr ⟨fk_BrookStones_Brook_i_46, List.forall_mem_cons.mpr ⟨fk_BrookStones_Brook_i_49, List.forall_mem_cons.mpr ⟨fk_BrookStones_Brook_i_52, List.forall_mem_cons.mpr ⟨fk_BrookStones_Brook_i_55, List.forall_mem_cons.mpr ⟨fk_BrookStones_Brook_i_58, fun _ h => absurd h List.not_mem_nil⟩⟩⟩⟩⟩⟩⟩⟩⟩⟩⟩⟩⟩⟩
set_option maxRecDepth 100000 in
theorem fk_BrookStones_Flood_9 : fOK "BrookStones$Flood" false (9, 1, 0, 10) := ⟨RX1, TX1, 3, tyX1, "BrookStones", rfl, by decide, uw_X1, tyX1_ok, nmX1, rfl, Or.inl (tblG_of (i := 145) rfl rfl), fun h => absurd h (by decide), fun h => absurd h (by decide)⟩
set_option maxRecDepth 100000 in
theorem fk_BrookStones_Flood_15 : fOK "BrookStones$Flood" false (15, 1, 1, 10) := ⟨RX1, TX1, 3, tyX1, "BrookStones", rfl, by decide, uw_X1, tyX1_ok, nmX1, rfl, Or.inl (tblG_of (i := 146) rfl rfl), fun h => absurd h (by decide), fun h => absurd h (by decide)⟩
def fl_BrookStones_Flood : List (Nat × Nat × Nat × Nat) := [(9, 1, 0, 10), (15, 1, 1, 10)]
set_option maxRecDepth 100000 in
theorem fl_BrookStones_Flood_ok : ∀ q ∈ fl_BrookStones_Flood, fOK "BrookStones$Flood" false q := List.forall_mem_cons.mpr ⟨fk_BrookStones_Flood_9, List.forall_mem_cons.mpr ⟨fk_BrookStones_Flood_15, fun _ h => absurd h List.not_mem_nil⟩⟩
set_option maxRecDepth 100000 in
theorem fk_BrookStones_Flood_i_9 : fOK "BrookStones$Flood" true (9, 1, 0, 12) := ⟨RX1, TX1, 3, tyX1, "BrookStones", rfl, by decide, uw_X1, tyX1_ok, nmX1, rfl, Or.inl (tblG_of (i := 145) rfl rfl), fun h => absurd h (by decide), fun _ => ⟨rfl, rfl, rfl, Or.inr ⟨_, rfl⟩, tblG_of (i := 145) rfl rfl⟩⟩
set_option maxRecDepth 100000 in
theorem fk_BrookStones_Flood_i_15 : fOK "BrookStones$Flood" true (15, 1, 1, 12) := ⟨RX1, TX1, 3, tyX1, "BrookStones", rfl, by decide, uw_X1, tyX1_ok, nmX1, rfl, Or.inl (tblG_of (i := 146) rfl rfl), fun h => absurd h (by decide), fun _ => ⟨rfl, rfl, rfl, Or.inr ⟨_, rfl⟩, tblG_of (i := 146) rfl rfl⟩⟩
def fl_BrookStones_Flood_i : List (Nat × Nat × Nat × Nat) := [(9, 1, 0, 12), (15, 1, 1, 12)]
set_option maxRecDepth 100000 in
theorem fl_BrookStones_Flood_i_ok : ∀ q ∈ fl_BrookStones_Flood_i, fOK "BrookStones$Flood" true q := List.forall_mem_cons.mpr ⟨fk_BrookStones_Flood_i_9, List.forall_mem_cons.mpr ⟨fk_BrookStones_Flood_i_15, fun _ h => absurd h List.not_mem_nil⟩⟩
set_option maxRecDepth 100000 in
theorem fk_BrookStones_Layings_9 : fOK "BrookStones$Layings" false (9, 2, 0, 10) := ⟨RX2, TX2, 2, tyX2, "BrookStones", rfl, by decide, uw_X2, tyX2_ok, nmX2, rfl, Or.inl (tblG_of (i := 189) rfl rfl), fun h => absurd h (by decide), fun h => absurd h (by decide)⟩
def fl_BrookStones_Layings : List (Nat × Nat × Nat × Nat) := [(9, 2, 0, 10)]
set_option maxRecDepth 100000 in
theorem fl_BrookStones_Layings_ok : ∀ q ∈ fl_BrookStones_Layings, fOK "BrookStones$Layings" false q := List.forall_mem_cons.mpr ⟨fk_BrookStones_Layings_9, fun _ h => absurd h List.not_mem_nil⟩
set_option maxRecDepth 100000 in
theorem fk_BrookStones_Layings_i_9 : fOK "BrookStones$Layings" true (9, 2, 0, 12) := ⟨RX2, TX2, 2, tyX2, "BrookStones", rfl, by decide, uw_X2, tyX2_ok, nmX2, rfl, Or.inl (tblG_of (i := 189) rfl rfl), fun h => absurd h (by decide), fun _ => ⟨rfl, rfl, rfl, Or.inr ⟨_, rfl⟩, tblG_of (i := 189) rfl rfl⟩⟩
def fl_BrookStones_Layings_i : List (Nat × Nat × Nat × Nat) := [(9, 2, 0, 12)]
set_option maxRecDepth 100000 in
theorem fl_BrookStones_Layings_i_ok : ∀ q ∈ fl_BrookStones_Layings_i, fOK "BrookStones$Layings" true q := List.forall_mem_cons.mpr ⟨fk_BrookStones_Layings_i_9, fun _ h => absurd h List.not_mem_nil⟩
set_option maxRecDepth 100000 in
theorem fk_BrookStones_Planner_11 : fOK "BrookStones$Planner" false (11, 3, 0, 10) := ⟨RX3, TX3, 8, tyX3, "BrookStones", rfl, by decide, uw_X3, tyX3_ok, nmX3, rfl, Or.inl (tblG_of (i := 162) rfl rfl), fun h => absurd h (by decide), fun h => absurd h (by decide)⟩
set_option maxRecDepth 100000 in
theorem fk_BrookStones_Planner_15 : fOK "BrookStones$Planner" false (15, 3, 1, 10) := ⟨RX3, TX3, 8, tyX3, "BrookStones", rfl, by decide, uw_X3, tyX3_ok, nmX3, rfl, Or.inl (tblG_of (i := 163) rfl rfl), fun h => absurd h (by decide), fun h => absurd h (by decide)⟩
set_option maxRecDepth 100000 in
theorem fk_BrookStones_Planner_18 : fOK "BrookStones$Planner" false (18, 3, 2, 10) := ⟨RX3, TX3, 8, tyX3, "BrookStones", rfl, by decide, uw_X3, tyX3_ok, nmX3, rfl, Or.inl (tblG_of (i := 164) rfl rfl), fun h => absurd h (by decide), fun h => absurd h (by decide)⟩
set_option maxRecDepth 100000 in
theorem fk_BrookStones_Planner_23 : fOK "BrookStones$Planner" false (23, 3, 3, 10) := ⟨RX3, TX3, 8, tyX3, "BrookStones", rfl, by decide, uw_X3, tyX3_ok, nmX3, rfl, Or.inl (tblG_of (i := 165) rfl rfl), fun h => absurd h (by decide), fun h => absurd h (by decide)⟩
def fl_BrookStones_Planner : List (Nat × Nat × Nat × Nat) := [(11, 3, 0, 10), (15, 3, 1, 10), (18, 3, 2, 10), (23, 3, 3, 10)]
set_option maxRecDepth 100000 in
theorem fl_BrookStones_Planner_ok : ∀ q ∈ fl_BrookStones_Planner, fOK "BrookStones$Planner" false q := List.forall_mem_cons.mpr ⟨fk_BrookStones_Planner_11, List.forall_mem_cons.mpr ⟨fk_BrookStones_Planner_15, List.forall_mem_cons.mpr ⟨fk_BrookStones_Planner_18, List.forall_mem_cons.mpr ⟨fk_BrookStones_Planner_23, fun _ h => absurd h List.not_mem_nil⟩⟩⟩⟩
set_option maxRecDepth 100000 in
theorem fk_BrookStones_Planner_i_11 : fOK "BrookStones$Planner" true (11, 3, 0, 12) := ⟨RX3, TX3, 8, tyX3, "BrookStones", rfl, by decide, uw_X3, tyX3_ok, nmX3, rfl, Or.inl (tblG_of (i := 162) rfl rfl), fun h => absurd h (by decide), fun _ => ⟨rfl, rfl, rfl, Or.inr ⟨_, rfl⟩, tblG_of (i := 162) rfl rfl⟩⟩
set_option maxRecDepth 100000 in
theorem fk_BrookStones_Planner_i_15 : fOK "BrookStones$Planner" true (15, 3, 1, 12) := ⟨RX3, TX3, 8, tyX3, "BrookStones", rfl, by decide, uw_X3, tyX3_ok, nmX3, rfl, Or.inl (tblG_of (i := 163) rfl rfl), fun h => absurd h (by decide), fun _ => ⟨rfl, rfl, rfl, Or.inr ⟨_, rfl⟩, tblG_of (i := 163) rfl rfl⟩⟩
set_option maxRecDepth 100000 in
theorem fk_BrookStones_Planner_i_18 : fOK "BrookStones$Planner" true (18, 3, 2, 12) := ⟨RX3, TX3, 8, tyX3, "BrookStones", rfl, by decide, uw_X3, tyX3_ok, nmX3, rfl, Or.inl (tblG_of (i := 164) rfl rfl), fun h => absurd h (by decide), fun _ => ⟨rfl, rfl, rfl, Or.inr ⟨_, rfl⟩, tblG_of (i := 164) rfl rfl⟩⟩
set_option maxRecDepth 100000 in
theorem fk_BrookStones_Planner_i_23 : fOK "BrookStones$Planner" true (23, 3, 3, 12) := ⟨RX3, TX3, 8, tyX3, "BrookStones", rfl, by decide, uw_X3, tyX3_ok, nmX3, rfl, Or.inl (tblG_of (i := 165) rfl rfl), fun h => absurd h (by decide), fun _ => ⟨rfl, rfl, rfl, Or.inr ⟨_, rfl⟩, tblG_of (i := 165) rfl rfl⟩⟩
def fl_BrookStones_Planner_i : List (Nat × Nat × Nat × Nat) := [(11, 3, 0, 12), (15, 3, 1, 12), (18, 3, 2, 12), (23, 3, 3, 12)]
set_option maxRecDepth 100000 in
theorem fl_BrookStones_Planner_i_ok : ∀ q ∈ fl_BrookStones_Planner_i, fOK "BrookStones$Planner" true q := List.forall_mem_cons.mpr ⟨fk_BrookStones_Planner_i_11, List.forall_mem_cons.mpr ⟨fk_BrookStones_Planner_i_15, List.forall_mem_cons.mpr ⟨fk_BrookStones_Planner_i_18, List.forall_mem_cons.mpr ⟨fk_BrookStones_Planner_i_23, fun _ h => absurd h List.not_mem_nil⟩⟩⟩⟩
set_option maxRecDepth 100000 in
theorem fk_BrookStones_Sheets_9 : fOK "BrookStones$Sheets" false (9, 4, 0, 10) := ⟨RX4, TX4, 3, tyX4, "BrookStones", rfl, by decide, uw_X4, tyX4_ok, nmX4, rfl, Or.inl (tblG_of (i := 102) rfl rfl), fun h => absurd h (by decide), fun h => absurd h (by decide)⟩
set_option maxRecDepth 100000 in
theorem fk_BrookStones_Sheets_15 : fOK "BrookStones$Sheets" false (15, 4, 1, 10) := ⟨RX4, TX4, 3, tyX4, "BrookStones", rfl, by decide, uw_X4, tyX4_ok, nmX4, rfl, Or.inl (tblG_of (i := 103) rfl rfl), fun h => absurd h (by decide), fun h => absurd h (by decide)⟩
set_option maxRecDepth 100000 in
theorem fk_BrookStones_Sheets_18 : fOK "BrookStones$Sheets" false (18, 4, 2, 10) := ⟨RX4, TX4, 3, tyX4, "BrookStones", rfl, by decide, uw_X4, tyX4_ok, nmX4, rfl, Or.inl (tblG_of (i := 105) rfl rfl), fun h => absurd h (by decide), fun h => absurd h (by decide)⟩
def fl_BrookStones_Sheets : List (Nat × Nat × Nat × Nat) := [(9, 4, 0, 10), (15, 4, 1, 10), (18, 4, 2, 10)]
set_option maxRecDepth 100000 in
theorem fl_BrookStones_Sheets_ok : ∀ q ∈ fl_BrookStones_Sheets, fOK "BrookStones$Sheets" false q := List.forall_mem_cons.mpr ⟨fk_BrookStones_Sheets_9, List.forall_mem_cons.mpr ⟨fk_BrookStones_Sheets_15, List.forall_mem_cons.mpr ⟨fk_BrookStones_Sheets_18, fun _ h => absurd h List.not_mem_nil⟩⟩⟩
set_option maxRecDepth 100000 in
theorem fk_BrookStones_Sheets_i_9 : fOK "BrookStones$Sheets" true (9, 4, 0, 12) := ⟨RX4, TX4, 3, tyX4, "BrookStones", rfl, by decide, uw_X4, tyX4_ok, nmX4, rfl, Or.inl (tblG_of (i := 102) rfl rfl), fun h => absurd h (by decide), fun _ => ⟨rfl, rfl, rfl, Or.inr ⟨_, rfl⟩, tblG_of (i := 102) rfl rfl⟩⟩
set_option maxRecDepth 100000 in
theorem fk_BrookStones_Sheets_i_15 : fOK "BrookStones$Sheets" true (15, 4, 1, 12) := ⟨RX4, TX4, 3, tyX4, "BrookStones", rfl, by decide, uw_X4, tyX4_ok, nmX4, rfl, Or.inl (tblG_of (i := 103) rfl rfl), fun h => absurd h (by decide), fun _ => ⟨rfl, rfl, rfl, Or.inr ⟨_, rfl⟩, tblG_of (i := 103) rfl rfl⟩⟩
set_option maxRecDepth 100000 in
theorem fk_BrookStones_Sheets_i_18 : fOK "BrookStones$Sheets" true (18, 4, 2, 12) := ⟨RX4, TX4, 3, tyX4, "BrookStones", rfl, by decide, uw_X4, tyX4_ok, nmX4, rfl, Or.inl (tblG_of (i := 105) rfl rfl), fun h => absurd h (by decide), fun _ => ⟨rfl, rfl, rfl, Or.inr ⟨_, rfl⟩, tblG_of (i := 105) rfl rfl⟩⟩
def fl_BrookStones_Sheets_i : List (Nat × Nat × Nat × Nat) := [(9, 4, 0, 12), (15, 4, 1, 12), (18, 4, 2, 12)]
set_option maxRecDepth 100000 in
theorem fl_BrookStones_Sheets_i_ok : ∀ q ∈ fl_BrookStones_Sheets_i, fOK "BrookStones$Sheets" true q := List.forall_mem_cons.mpr ⟨fk_BrookStones_Sheets_i_9, List.forall_mem_cons.mpr ⟨fk_BrookStones_Sheets_i_15, List.forall_mem_cons.mpr ⟨fk_BrookStones_Sheets_i_18, fun _ h => absurd h List.not_mem_nil⟩⟩⟩
set_option maxRecDepth 100000 in
theorem fk_BrookStones_Text_34 : fOK "BrookStones$Text" false (34, 0, 0, 10) := ⟨RX0, TX0, 15, tyX0, "BrookStones", rfl, by decide, uw_X0, tyX0_ok, nmX0, rfl, Or.inr (tblN_of (i := 30) rfl rfl), fun h => absurd h (by decide), fun h => absurd h (by decide)⟩
set_option maxRecDepth 100000 in
theorem fk_BrookStones_Text_40 : fOK "BrookStones$Text" false (40, 0, 1, 10) := ⟨RX0, TX0, 15, tyX0, "BrookStones", rfl, by decide, uw_X0, tyX0_ok, nmX0, rfl, Or.inr (tblN_of (i := 33) rfl rfl), fun h => absurd h (by decide), fun h => absurd h (by decide)⟩
set_option maxRecDepth 100000 in
theorem fk_BrookStones_Text_43 : fOK "BrookStones$Text" false (43, 0, 9, 1) := ⟨RX0, TX0, 15, tyX0, "BrookStones", rfl, by decide, uw_X0, tyX0_ok, nmX0, rfl, Or.inr (tblN_of (i := 51) rfl rfl), fun _ => ⟨rfl, rfl⟩, fun h => absurd h (by decide)⟩
set_option maxRecDepth 100000 in
theorem fk_BrookStones_Text_47 : fOK "BrookStones$Text" false (47, 0, 8, 1) := ⟨RX0, TX0, 15, tyX0, "BrookStones", rfl, by decide, uw_X0, tyX0_ok, nmX0, rfl, Or.inr (tblN_of (i := 50) rfl rfl), fun _ => ⟨rfl, rfl⟩, fun h => absurd h (by decide)⟩
def fl_BrookStones_Text : List (Nat × Nat × Nat × Nat) := [(34, 0, 0, 10), (40, 0, 1, 10), (43, 0, 9, 1), (47, 0, 8, 1)]
set_option maxRecDepth 100000 in
theorem fl_BrookStones_Text_ok : ∀ q ∈ fl_BrookStones_Text, fOK "BrookStones$Text" false q := List.forall_mem_cons.mpr ⟨fk_BrookStones_Text_34, List.forall_mem_cons.mpr ⟨fk_BrookStones_Text_40, List.forall_mem_cons.mpr ⟨fk_BrookStones_Text_43, List.forall_mem_cons.mpr ⟨fk_BrookStones_Text_47, fun _ h => absurd h List.not_mem_nil⟩⟩⟩⟩
set_option maxRecDepth 100000 in
theorem fk_BrookStones_Text_i_34 : fOK "BrookStones$Text" true (34, 0, 0, 10) := ⟨RX0, TX0, 15, tyX0, "BrookStones", rfl, by decide, uw_X0, tyX0_ok, nmX0, rfl, Or.inr (tblN_of (i := 30) rfl rfl), fun h => absurd h (by decide), fun h => absurd h (by decide)⟩
set_option maxRecDepth 100000 in
theorem fk_BrookStones_Text_i_40 : fOK "BrookStones$Text" true (40, 0, 1, 10) := ⟨RX0, TX0, 15, tyX0, "BrookStones", rfl, by decide, uw_X0, tyX0_ok, nmX0, rfl, Or.inr (tblN_of (i := 33) rfl rfl), fun h => absurd h (by decide), fun h => absurd h (by decide)⟩
set_option maxRecDepth 100000 in
theorem fk_BrookStones_Text_i_43 : fOK "BrookStones$Text" true (43, 0, 9, 1) := ⟨RX0, TX0, 15, tyX0, "BrookStones", rfl, by decide, uw_X0, tyX0_ok, nmX0, rfl, Or.inr (tblN_of (i := 51) rfl rfl), fun _ => ⟨rfl, rfl⟩, fun h => absurd h (by decide)⟩
set_option maxRecDepth 100000 in
theorem fk_BrookStones_Text_i_47 : fOK "BrookStones$Text" true (47, 0, 8, 1) := ⟨RX0, TX0, 15, tyX0, "BrookStones", rfl, by decide, uw_X0, tyX0_ok, nmX0, rfl, Or.inr (tblN_of (i := 50) rfl rfl), fun _ => ⟨rfl, rfl⟩, fun h => absurd h (by decide)⟩
def fl_BrookStones_Text_i : List (Nat × Nat × Nat × Nat) := [(34, 0, 0, 10), (40, 0, 1, 10), (43, 0, 9, 1), (47, 0, 8, 1)]
set_option maxRecDepth 100000 in
theorem fl_BrookStones_Text_i_ok : ∀ q ∈ fl_BrookStones_Text_i, fOK "BrookStones$Text" true q := List.forall_mem_cons.mpr ⟨fk_BrookStones_Text_i_34, List.forall_mem_cons.mpr ⟨fk_BrookStones_Text_i_40, List.forall_mem_cons.mpr ⟨fk_BrookStones_Text_i_43, List.forall_mem_cons.mpr ⟨fk_BrookStones_Text_i_47, fun _ h => absurd h List.not_mem_nil⟩⟩⟩⟩
set_option maxRecDepth 100000 in
theorem fk_BrookStones_Way_9 : fOK "BrookStones$Way" false (9, 5, 0, 10) := ⟨RX6, TX6, 6, tyX6, "BrookStones", rfl, by decide, uw_X6, tyX6_ok, nmX6, rfl, Or.inl (tblG_of (i := 119) rfl rfl), fun h => absurd h (by decide), fun h => absurd h (by decide)⟩
set_option maxRecDepth 100000 in
theorem fk_BrookStones_Way_15 : fOK "BrookStones$Way" false (15, 5, 1, 10) := ⟨RX6, TX6, 6, tyX6, "BrookStones", rfl, by decide, uw_X6, tyX6_ok, nmX6, rfl, Or.inl (tblG_of (i := 121) rfl rfl), fun h => absurd h (by decide), fun h => absurd h (by decide)⟩
set_option maxRecDepth 100000 in
theorem fk_BrookStones_Way_18 : fOK "BrookStones$Way" false (18, 5, 5, 1) := ⟨RX6, TX6, 6, tyX6, "BrookStones", rfl, by decide, uw_X6, tyX6_ok, nmX6, rfl, Or.inl (tblG_of (i := 125) rfl rfl), fun _ => ⟨rfl, rfl⟩, fun h => absurd h (by decide)⟩
set_option maxRecDepth 100000 in
theorem fk_BrookStones_Way_22 : fOK "BrookStones$Way" false (22, 0, 8, 1) := ⟨RX0, TX0, 15, tyX0, "BrookStones", rfl, by decide, uw_X0, tyX0_ok, nmX0, rfl, Or.inr (tblN_of (i := 47) rfl rfl), fun _ => ⟨rfl, rfl⟩, fun h => absurd h (by decide)⟩
set_option maxRecDepth 100000 in
theorem fk_BrookStones_Way_27 : fOK "BrookStones$Way" false (27, 5, 4, 1) := ⟨RX6, TX6, 6, tyX6, "BrookStones", rfl, by decide, uw_X6, tyX6_ok, nmX6, rfl, Or.inl (tblG_of (i := 124) rfl rfl), fun _ => ⟨rfl, rfl⟩, fun h => absurd h (by decide)⟩
set_option maxRecDepth 100000 in
theorem fk_BrookStones_Way_30 : fOK "BrookStones$Way" false (30, 0, 11, 1) := ⟨RX0, TX0, 15, tyX0, "BrookStones", rfl, by decide, uw_X0, tyX0_ok, nmX0, rfl, Or.inr (tblN_of (i := 55) rfl rfl), fun _ => ⟨rfl, rfl⟩, fun h => absurd h (by decide)⟩
set_option maxRecDepth 100000 in
theorem fk_BrookStones_Way_37 : fOK "BrookStones$Way" false (37, 5, 2, 1) := ⟨RX6, TX6, 6, tyX6, "BrookStones", rfl, by decide, uw_X6, tyX6_ok, nmX6, rfl, Or.inl (tblG_of (i := 122) rfl rfl), fun _ => ⟨rfl, rfl⟩, fun h => absurd h (by decide)⟩
set_option maxRecDepth 100000 in
theorem fk_BrookStones_Way_43 : fOK "BrookStones$Way" false (43, 5, 3, 1) := ⟨RX6, TX6, 6, tyX6, "BrookStones", rfl, by decide, uw_X6, tyX6_ok, nmX6, rfl, Or.inl (tblG_of (i := 123) rfl rfl), fun _ => ⟨rfl, rfl⟩, fun h => absurd h (by decide)⟩
def fl_BrookStones_Way : List (Nat × Nat × Nat × Nat) := [(9, 5, 0, 10), (15, 5, 1, 10), (18, 5, 5, 1), (22, 0, 8, 1), (27, 5, 4, 1), (30, 0, 11, 1), (37, 5, 2, 1), (43, 5, 3, 1)]
set_option maxRecDepth 100000 in
theorem fl_BrookStones_Way_ok : ∀ q ∈ fl_BrookStones_Way, fOK "BrookStones$Way" false q := List.forall_mem_cons.mpr ⟨fk_BrookStones_Way_9, List.forall_mem_cons.mpr ⟨fk_BrookStones_Way_15, List.forall_mem_cons.mpr ⟨fk_BrookStones_Way_18, List.forall_mem_cons.mpr ⟨fk_BrookStones_Way_22, List.forall_mem_cons.mpr ⟨fk_BrookStones_Way_27, List.forall_mem_cons.mpr ⟨fk_BrookStones_Way_30, List.forall_mem_cons.mpr ⟨fk_BrookStones_Way_37, List.forall_mem_cons.mpr ⟨fk_BrookStones_Way_43, fun _ h => absurd h List.not_mem_nil⟩⟩⟩⟩⟩⟩⟩⟩
set_option maxRecDepth 100000 in
theorem fk_BrookStones_Way_i_9 : fOK "BrookStones$Way" true (9, 5, 0, 12) := ⟨RX6, TX6, 6, tyX6, "BrookStones", rfl, by decide, uw_X6, tyX6_ok, nmX6, rfl, Or.inl (tblG_of (i := 119) rfl rfl), fun h => absurd h (by decide), fun _ => ⟨rfl, rfl, rfl, Or.inr ⟨_, rfl⟩, tblG_of (i := 119) rfl rfl⟩⟩
set_option maxRecDepth 100000 in
theorem fk_BrookStones_Way_i_15 : fOK "BrookStones$Way" true (15, 5, 1, 12) := ⟨RX6, TX6, 6, tyX6, "BrookStones", rfl, by decide, uw_X6, tyX6_ok, nmX6, rfl, Or.inl (tblG_of (i := 121) rfl rfl), fun h => absurd h (by decide), fun _ => ⟨rfl, rfl, rfl, Or.inr ⟨_, rfl⟩, tblG_of (i := 121) rfl rfl⟩⟩
set_option maxRecDepth 100000 in
theorem fk_BrookStones_Way_i_18 : fOK "BrookStones$Way" true (18, 5, 5, 1) := ⟨RX6, TX6, 6, tyX6, "BrookStones", rfl, by decide, uw_X6, tyX6_ok, nmX6, rfl, Or.inl (tblG_of (i := 125) rfl rfl), fun _ => ⟨rfl, rfl⟩, fun h => absurd h (by decide)⟩
set_option maxRecDepth 100000 in
theorem fk_BrookStones_Way_i_22 : fOK "BrookStones$Way" true (22, 0, 8, 1) := ⟨RX0, TX0, 15, tyX0, "BrookStones", rfl, by decide, uw_X0, tyX0_ok, nmX0, rfl, Or.inr (tblN_of (i := 47) rfl rfl), fun _ => ⟨rfl, rfl⟩, fun h => absurd h (by decide)⟩
set_option maxRecDepth 100000 in
theorem fk_BrookStones_Way_i_27 : fOK "BrookStones$Way" true (27, 5, 4, 1) := ⟨RX6, TX6, 6, tyX6, "BrookStones", rfl, by decide, uw_X6, tyX6_ok, nmX6, rfl, Or.inl (tblG_of (i := 124) rfl rfl), fun _ => ⟨rfl, rfl⟩, fun h => absurd h (by decide)⟩
set_option maxRecDepth 100000 in
theorem fk_BrookStones_Way_i_30 : fOK "BrookStones$Way" true (30, 0, 11, 1) := ⟨RX0, TX0, 15, tyX0, "BrookStones", rfl, by decide, uw_X0, tyX0_ok, nmX0, rfl, Or.inr (tblN_of (i := 55) rfl rfl), fun _ => ⟨rfl, rfl⟩, fun h => absurd h (by decide)⟩
set_option maxRecDepth 100000 in
theorem fk_BrookStones_Way_i_37 : fOK "BrookStones$Way" true (37, 5, 2, 1) := ⟨RX6, TX6, 6, tyX6, "BrookStones", rfl, by decide, uw_X6, tyX6_ok, nmX6, rfl, Or.inl (tblG_of (i := 122) rfl rfl), fun _ => ⟨rfl, rfl⟩, fun h => absurd h (by decide)⟩
set_option maxRecDepth 100000 in
theorem fk_BrookStones_Way_i_43 : fOK "BrookStones$Way" true (43, 5, 3, 1) := ⟨RX6, TX6, 6, tyX6, "BrookStones", rfl, by decide, uw_X6, tyX6_ok, nmX6, rfl, Or.inl (tblG_of (i := 123) rfl rfl), fun _ => ⟨rfl, rfl⟩, fun h => absurd h (by decide)⟩
def fl_BrookStones_Way_i : List (Nat × Nat × Nat × Nat) := [(9, 5, 0, 12), (15, 5, 1, 12), (18, 5, 5, 1), (22, 0, 8, 1), (27, 5, 4, 1), (30, 0, 11, 1), (37, 5, 2, 1), (43, 5, 3, 1)]
set_option maxRecDepth 100000 in
theorem fl_BrookStones_Way_i_ok : ∀ q ∈ fl_BrookStones_Way_i, fOK "BrookStones$Way" true q := List.forall_mem_cons.mpr ⟨fk_BrookStones_Way_i_9, List.forall_mem_cons.mpr ⟨fk_BrookStones_Way_i_15, List.forall_mem_cons.mpr ⟨fk_BrookStones_Way_i_18, List.forall_mem_cons.mpr ⟨fk_BrookStones_Way_i_22, List.forall_mem_cons.mpr ⟨fk_BrookStones_Way_i_27, List.forall_mem_cons.mpr ⟨fk_BrookStones_Way_i_30, List.forall_mem_cons.mpr ⟨fk_BrookStones_Way_i_37, List.forall_mem_cons.mpr ⟨fk_BrookStones_Way_i_43, fun _ h => absurd h List.not_mem_nil⟩⟩⟩⟩⟩⟩⟩⟩
set_option maxRecDepth 100000 in
theorem nk_BrookStones_9 : nOK "BrookStones" (9, 0, [.null, .null, .null, .null, .null, .null, .null, .null, .int 0, .int 0, .int 0, .int 0, .int 0, .int 0, .int 0]) := Or.inr ⟨RX0, TX0, 15, tyX0, rfl, uw_X0, tyX0_ok, tblG_of (i := 20) rfl rfl, tblG_of (i := 21) rfl rfl, tblG_of (i := 2) rfl rfl, rfl, by decide +kernel, by decide +kernel⟩
set_option maxRecDepth 100000 in
theorem nk_BrookStones_18 : nOK "BrookStones" (18, 4, [.null, .null, .null]) := Or.inr ⟨RX4, TX4, 3, tyX4, rfl, uw_X4, tyX4_ok, tblG_of (i := 95) rfl rfl, tblG_of (i := 96) rfl rfl, tblG_of (i := 4) rfl rfl, rfl, by decide +kernel, by decide +kernel⟩
set_option maxRecDepth 100000 in
theorem nk_BrookStones_25 : nOK "BrookStones" (25, 5, [.null, .null, .int 0, .int 0, .int 0, .int 0]) := Or.inr ⟨RX6, TX6, 6, tyX6, rfl, uw_X6, tyX6_ok, tblG_of (i := 113) rfl rfl, tblG_of (i := 114) rfl rfl, tblG_of (i := 5) rfl rfl, rfl, by decide +kernel, by decide +kernel⟩
set_option maxRecDepth 100000 in
theorem nk_BrookStones_32 : nOK "BrookStones" (32, 1, [.null, .null, .int 0]) := Or.inr ⟨RX1, TX1, 3, tyX1, rfl, uw_X1, tyX1_ok, tblG_of (i := 139) rfl rfl, tblG_of (i := 140) rfl rfl, tblG_of (i := 6) rfl rfl, rfl, by decide +kernel, by decide +kernel⟩
set_option maxRecDepth 100000 in
theorem nk_BrookStones_39 : nOK "BrookStones" (39, 3, [.null, .null, .null, .null, .int 0, .int 0, .int 0, .int 0]) := Or.inr ⟨RX3, TX3, 8, tyX3, rfl, uw_X3, tyX3_ok, tblG_of (i := 154) rfl rfl, tblG_of (i := 155) rfl rfl, tblG_of (i := 7) rfl rfl, rfl, by decide +kernel, by decide +kernel⟩
set_option maxRecDepth 100000 in
theorem nk_BrookStones_46 : nOK "BrookStones" (46, 2, [.null, .int 0]) := Or.inr ⟨RX2, TX2, 2, tyX2, rfl, uw_X2, tyX2_ok, tblG_of (i := 183) rfl rfl, tblG_of (i := 184) rfl rfl, tblG_of (i := 8) rfl rfl, rfl, by decide +kernel, by decide +kernel⟩
def nl_BrookStones : List (Nat × Nat × List Value) := [(9, 0, [.null, .null, .null, .null, .null, .null, .null, .null, .int 0, .int 0, .int 0, .int 0, .int 0, .int 0, .int 0]), (18, 4, [.null, .null, .null]), (25, 5, [.null, .null, .int 0, .int 0, .int 0, .int 0]), (32, 1, [.null, .null, .int 0]), (39, 3, [.null, .null, .null, .null, .int 0, .int 0, .int 0, .int 0]), (46, 2, [.null, .int 0])]
set_option maxRecDepth 100000 in
theorem nl_BrookStones_ok : ∀ q ∈ nl_BrookStones, nOK "BrookStones" q := List.forall_mem_cons.mpr ⟨nk_BrookStones_9, List.forall_mem_cons.mpr ⟨nk_BrookStones_18, List.forall_mem_cons.mpr ⟨nk_BrookStones_25, List.forall_mem_cons.mpr ⟨nk_BrookStones_32, List.forall_mem_cons.mpr ⟨nk_BrookStones_39, List.forall_mem_cons.mpr ⟨nk_BrookStones_46, fun _ h => absurd h List.not_mem_nil⟩⟩⟩⟩⟩⟩
set_option maxRecDepth 100000 in
theorem nk_BrookStones_Planner_21 : nOK "BrookStones$Planner" (21, 99, []) := Or.inl ⟨rfl, tblG_of (i := 160) rfl rfl, tblN_of (i := 161) rfl rfl⟩
def nl_BrookStones_Planner : List (Nat × Nat × List Value) := [(21, 99, [])]
set_option maxRecDepth 100000 in
theorem nl_BrookStones_Planner_ok : ∀ q ∈ nl_BrookStones_Planner, nOK "BrookStones$Planner" q := List.forall_mem_cons.mpr ⟨nk_BrookStones_Planner_21, fun _ h => absurd h List.not_mem_nil⟩
set_option maxRecDepth 100000 in
theorem nk_BrookStonesLaw_20 : nOK "BrookStonesLaw" (20, 6, [.null, .null, .null, .null, .null, .null, .int 0, .int 0]) := Or.inr ⟨RX7, TX7, 8, tyX7, rfl, uw_X7, tyX7_ok, tblG_of (i := 12) rfl rfl, tblG_of (i := 13) rfl rfl, tblG_of (i := 1) rfl rfl, rfl, by decide +kernel, by decide +kernel⟩
def nl_BrookStonesLaw : List (Nat × Nat × List Value) := [(20, 6, [.null, .null, .null, .null, .null, .null, .int 0, .int 0])]
set_option maxRecDepth 100000 in
theorem nl_BrookStonesLaw_ok : ∀ q ∈ nl_BrookStonesLaw, nOK "BrookStonesLaw" q := List.forall_mem_cons.mpr ⟨nk_BrookStonesLaw_20, fun _ h => absurd h List.not_mem_nil⟩
def kl_BrookStonesLaw : List (Nat × Int32) := [(7, 747796405), (8, 2147483647)]
set_option maxRecDepth 100000 in
theorem kl_BrookStonesLaw_ok : ∀ q ∈ kl_BrookStonesLaw, Jvm.Cond.constant "BrookStonesLaw" q.1 q.2 ∈ tblG := List.forall_mem_cons.mpr ⟨tblG_of (i := 462) rfl rfl, List.forall_mem_cons.mpr ⟨tblG_of (i := 466) rfl rfl, fun _ h => absurd h List.not_mem_nil⟩⟩
def kl_java_lang_Integer : List (Nat × Int32) := [(265, 1431655765), (266, 858993459), (267, 252645135)]
set_option maxRecDepth 100000 in
theorem kl_java_lang_Integer_ok : ∀ q ∈ kl_java_lang_Integer, Jvm.Cond.constant "java/lang/Integer" q.1 q.2 ∈ tblG := List.forall_mem_cons.mpr ⟨tblG_of (i := 456) rfl rfl, List.forall_mem_cons.mpr ⟨tblG_of (i := 457) rfl rfl, List.forall_mem_cons.mpr ⟨tblG_of (i := 458) rfl rfl, fun _ h => absurd h List.not_mem_nil⟩⟩⟩
end
section
/-! ===== helpers for the methods' own functions ===== -/
def xi (ls : XL) (i : Nat) : Option Int32 := match xL ls i with
  | some (.int x) => some x
  | _ => none
def xj (ls : XL) (i : Nat) : Option Int64 := match xL ls i with
  | some (.long x) => some x
  | _ => none
def xr (ls : XL) (i : Nat) : Option Nat := match xL ls i with
  | some (.ref x) => some x
  | _ => none
theorem xi_of {ls : XL} {i : Nat} {x : Int32} (h : xi ls i = some x) : xL ls i = some (.int x) := by
  unfold xi at h
  split at h
  next y hy => cases h; exact hy
  next => cases h
theorem xj_of {ls : XL} {i : Nat} {x : Int64} (h : xj ls i = some x) : xL ls i = some (.long x) := by
  unfold xj at h
  split at h
  next y hy => cases h; exact hy
  next => cases h
theorem xr_of {ls : XL} {i : Nat} {x : Nat} (h : xr ls i = some x) : xL ls i = some (.ref x) := by
  unfold xr at h
  split at h
  next y hy => cases h; exact hy
  next => cases h
theorem b_none {α : Type} {x : Option α} {k : α → Option XO} (h : ∀ v, k v = none) : x.bind k = none := by
  cases x with
  | none => rfl
  | some v => exact h v
theorem c_none {c : Bool} {a b : Option XO} (ha : a = none) (hb : b = none) : (bif c then a else b) = none := by
  cases c <;> assumption
theorem c_some {pc k : Nat} {a b : Option XO} {o : XO} (h : (bif pc == k then a else b) = some o) : (pc = k ∧ a = some o) ∨ b = some o := by
  cases hc : pc == k with
  | true => rw [hc] at h; exact Or.inl ⟨eq_of_beq hc, h⟩
  | false => rw [hc] at h; exact Or.inr h
theorem nil_all {α : Type} {p : α → Prop} : ∀ q ∈ ([] : List α), p q := fun _ h => absurd h List.not_mem_nil
theorem cons_all {α : Type} {p : α → Prop} {a : α} {l : List α} (h : p a) (k : ∀ q ∈ l, p q) : ∀ q ∈ a :: l, p q := List.forall_mem_cons.mpr ⟨h, k⟩
def skI (st : List Value) (k : Int32 → List Value → Option XO) : Option XO := match st with
  | .int x :: r => k x r
  | _ => none
def skJ (st : List Value) (k : Int64 → List Value → Option XO) : Option XO := match st with
  | .long x :: r => k x r
  | _ => none
def skR (st : List Value) (k : Nat → List Value → Option XO) : Option XO := match st with
  | .ref x :: r => k x r
  | _ => none
def skN (st : List Value) (k : Option XO) : Option XO := match st with
  | [] => k
  | _ => none
theorem skI_none {st : List Value} {k : Int32 → List Value → Option XO} (h : ∀ x r, k x r = none) : skI st k = none := by
  unfold skI; split <;> first | exact h _ _ | rfl
theorem skJ_none {st : List Value} {k : Int64 → List Value → Option XO} (h : ∀ x r, k x r = none) : skJ st k = none := by
  unfold skJ; split <;> first | exact h _ _ | rfl
theorem skR_none {st : List Value} {k : Nat → List Value → Option XO} (h : ∀ x r, k x r = none) : skR st k = none := by
  unfold skR; split <;> first | exact h _ _ | rfl
theorem skN_none {st : List Value} {k : Option XO} (h : k = none) : skN st k = none := by
  unfold skN; split <;> first | exact h | rfl
theorem skI_of {st : List Value} {k : Int32 → List Value → Option XO} {o : XO} (h : skI st k = some o) : ∃ x r, st = .int x :: r ∧ k x r = some o := by
  unfold skI at h
  split at h
  next => exact ⟨_, _, rfl, h⟩
  next => cases h
theorem skJ_of {st : List Value} {k : Int64 → List Value → Option XO} {o : XO} (h : skJ st k = some o) : ∃ x r, st = .long x :: r ∧ k x r = some o := by
  unfold skJ at h
  split at h
  next => exact ⟨_, _, rfl, h⟩
  next => cases h
theorem skR_of {st : List Value} {k : Nat → List Value → Option XO} {o : XO} (h : skR st k = some o) : ∃ x r, st = .ref x :: r ∧ k x r = some o := by
  unfold skR at h
  split at h
  next => exact ⟨_, _, rfl, h⟩
  next => cases h
theorem skN_of {st : List Value} {k : Option XO} {o : XO} (h : skN st k = some o) : st = [] ∧ k = some o := by
  unfold skN at h
  split at h
  next => exact ⟨rfl, h⟩
  next => cases h
end
section
def T_J7_fill_53178 : List (Nat × Instr) := [(0, .iconst 0), (1, .istore_n 2), (2, .aload_n 0), (3, .arraylength), (4, .istore_n 3), (5, .iload_n 2), (6, .iload_n 3), (7, .if_icmp .ge 13), (10, .aload_n 0), (11, .iload_n 2), (12, .iload_n 1), (13, .iastore), (14, .iinc 2 1), (17, .goto (-12)), (20, .return_)]
def op_J7_fill_53178 (fu : Nat) : Nat → Kont → XL → List Value → XW → Instr → Option XO := opK 4 (rzOf (none)) [] [] [] [] [] [] []
def F_J7_fill_53178 (fu : Nat) : Nat → (Nat → Int32 → Int32 → Int32 → XW → Option XO)
  | 0 => fun _ _ _ _ _ => none
  | n + 1 => (fun a0 a1 a2 a3 w =>
    (if a2 < a3 then
      (sI w a0 a2 a1).bind fun w1 =>
      (F_J7_fill_53178 fu n) a0 a1 (a2 + (1 : Int32)) a3 w1
    else
      some (none, w)))
def M_J7_fill_53178 (fu : Nat) (a0 : Nat) (a1 : Int32) (w : XW) : Option XO :=
  (aL w a0).bind fun x2 =>
  (F_J7_fill_53178 fu fu) a0 a1 (0 : Int32) x2 w
def U_J7_fill_53178 (fu : Nat) : Orc := fun as w => match as with
  | [.ref a0, .int a1] => M_J7_fill_53178 fu a0 a1 w
  | _ => none
def K_J7_fill_53178 (fu : Nat) (n : Nat) : Kont := fun pc ls st w => bif pc == 5 then ((xr ls 0).bind fun a0 => (xi ls 1).bind fun a1 => (xi ls 2).bind fun a2 => (xi ls 3).bind fun a3 => skN st ((F_J7_fill_53178 fu n) a0 a1 a2 a3 w)) else none
set_option maxRecDepth 100000 in
set_option maxHeartbeats 4000000 in
theorem E_J7_fill_53178_5 (fu : Nat) (n : Nat) (a0 : Nat) (a1 : Int32) (a2 : Int32) (a3 : Int32) (w : XW) : (F_J7_fill_53178 fu (n + 1)) a0 a1 a2 a3 w = ev T_J7_fill_53178 (op_J7_fill_53178 fu) [5] (K_J7_fill_53178 fu n) 17 5 [(0, .ref a0), (1, .int a1), (2, .int a2), (3, .int a3)] [] w := by
  rfl
set_option maxRecDepth 100000 in
set_option maxHeartbeats 4000000 in
theorem E_J7_fill_53178 (fu : Nat) (a0 : Nat) (a1 : Int32) (w : XW) : M_J7_fill_53178 fu a0 a1 w = ev T_J7_fill_53178 (op_J7_fill_53178 fu) [5] (K_J7_fill_53178 fu fu) 17 0 (lv_args 0 [.ref a0, .int a1]) [] w := by
  rfl
theorem D_J7_fill_53178 (fu : Nat) : DS T_J7_fill_53178 (op_J7_fill_53178 fu) [5] 17 (K_J7_fill_53178 fu) := by
  refine ⟨fun pc ls st w => c_none (b_none fun _ => b_none fun _ => b_none fun _ => b_none fun _ => skN_none rfl) (rfl), fun n pc ls st w o h => ?_⟩
  rcases c_some h with ⟨rfl, h⟩ | h
  · obtain ⟨a0, h0, h⟩ := some_of h; obtain ⟨a1, h1, h⟩ := some_of h; obtain ⟨a2, h2, h⟩ := some_of h; obtain ⟨a3, h3, h⟩ := some_of h;
    obtain ⟨e, g⟩ := skN_of h
    subst e
    exact ⟨[(0, .ref a0), (1, .int a1), (2, .int a2), (3, .int a3)], cons_all (xr_of h0) (cons_all (xi_of h1) (cons_all (xi_of h2) (cons_all (xi_of h3) (nil_all)))), (E_J7_fill_53178_5 fu n a0 a1 a2 a3 w).symm.trans g⟩
  · cases h
set_option maxRecDepth 100000 in
set_option maxHeartbeats 4000000 in
theorem S_J7_fill_53178 (fu : Nat) {l : Launch} {D : va_G} {cA : Nat → ClassId} {base b : Nat} : CS l D cA base b 1 y_J7_fill_53178 prog_13_method_103_code 4 (none) (U_J7_fill_53178 fu) ∧ OM (U_J7_fill_53178 fu) := by
  refine CS_of (d := 0) (y := y_J7_fill_53178) (cc := prog_13_method_103_code) (nL := 4) (ret := (none)) (F := U_J7_fill_53178 fu) (fl := []) (nl := []) (kl := []) (k2 := []) (mv := []) (ms := []) (mi := []) (ini := false) hI_w nil_all nil_all nil_all nil_all
    (nil_all)
    (nil_all)
    (nil_all)
    (T := T_J7_fill_53178) (by decide +kernel) (cut := [5]) (N := 17) (D_J7_fill_53178 fu) (by decide +kernel) (fun h => absurd h (by decide)) (fun as w o h => ?_)
  unfold U_J7_fill_53178 at h
  split at h
  next =>
    exact ⟨Nat.le_of_ble_eq_true rfl, fu, (E_J7_fill_53178 fu _ _ w).symm.trans h⟩
  next => cases h
def T_X0_init : List (Nat × Instr) := [(0, .aload_n 0), (1, .invokespecial 3), (4, .aload_n 0), (5, .bipush 7), (7, .newarray .int), (9, .putfield 9), (12, .aload_n 0), (13, .bipush 7), (15, .newarray .int), (17, .putfield 15), (20, .aload_n 0), (21, .bipush 7), (23, .newarray .int), (25, .putfield 18), (28, .aload_n 0), (29, .bipush 6), (31, .newarray .int), (33, .putfield 21), (36, .aload_n 0), (37, .bipush 6), (39, .newarray .int), (41, .putfield 24), (44, .aload_n 0), (45, .bipush 6), (47, .newarray .int), (49, .putfield 27), (52, .aload_n 0), (53, .bipush 6), (55, .newarray .int), (57, .putfield 30), (60, .aload_n 0), (61, .bipush 6), (63, .newarray .int), (65, .putfield 33), (68, .aload_n 0), (69, .getfield 18), (72, .bipush (-9)), (74, .invokestatic 36), (77, .return_)]
def op_X0_init (fu : Nat) : Nat → Kont → XL → List Value → XW → Instr → Option XO := opK 1 (rzOf (none)) fl_BrookStones_Brook_i [] [] [] [] [(36, 2, 0, (U_J7_fill_53178 fu))] [(3, 1, 0, oInit)]
def M_X0_init (fu : Nat) (a0 : Nat) (w : XW) : Option XO :=
  cV (oInit [.ref a0] w) fun w1 =>
  (if 0 ≤ (7 : Int32) ∧ (7 : Int32) ≤ 1000 ∧ 0 < List.length w1 then
  (pF (w1 ++ [.inr (0, List.replicate (Int32.toNatClampNeg (7 : Int32)) 0)]) a0 0 0 (.ref (List.length w1))).bind fun w2 =>
  (if 0 ≤ (7 : Int32) ∧ (7 : Int32) ≤ 1000 ∧ 0 < List.length w2 then
  (pF (w2 ++ [.inr (0, List.replicate (Int32.toNatClampNeg (7 : Int32)) 0)]) a0 0 1 (.ref (List.length w2))).bind fun w3 =>
  (if 0 ≤ (7 : Int32) ∧ (7 : Int32) ≤ 1000 ∧ 0 < List.length w3 then
  (pF (w3 ++ [.inr (0, List.replicate (Int32.toNatClampNeg (7 : Int32)) 0)]) a0 0 2 (.ref (List.length w3))).bind fun w4 =>
  (if 0 ≤ (6 : Int32) ∧ (6 : Int32) ≤ 1000 ∧ 0 < List.length w4 then
  (pF (w4 ++ [.inr (0, List.replicate (Int32.toNatClampNeg (6 : Int32)) 0)]) a0 0 3 (.ref (List.length w4))).bind fun w5 =>
  (if 0 ≤ (6 : Int32) ∧ (6 : Int32) ≤ 1000 ∧ 0 < List.length w5 then
  (pF (w5 ++ [.inr (0, List.replicate (Int32.toNatClampNeg (6 : Int32)) 0)]) a0 0 4 (.ref (List.length w5))).bind fun w6 =>
  (if 0 ≤ (6 : Int32) ∧ (6 : Int32) ≤ 1000 ∧ 0 < List.length w6 then
  (pF (w6 ++ [.inr (0, List.replicate (Int32.toNatClampNeg (6 : Int32)) 0)]) a0 0 5 (.ref (List.length w6))).bind fun w7 =>
  (if 0 ≤ (6 : Int32) ∧ (6 : Int32) ≤ 1000 ∧ 0 < List.length w7 then
  (pF (w7 ++ [.inr (0, List.replicate (Int32.toNatClampNeg (6 : Int32)) 0)]) a0 0 6 (.ref (List.length w7))).bind fun w8 =>
  (if 0 ≤ (6 : Int32) ∧ (6 : Int32) ≤ 1000 ∧ 0 < List.length w8 then
  (pF (w8 ++ [.inr (0, List.replicate (Int32.toNatClampNeg (6 : Int32)) 0)]) a0 0 7 (.ref (List.length w8))).bind fun w9 =>
  (gR w9 a0 0 2).bind fun r10 =>
  cV (U_J7_fill_53178 fu [.ref r10, .int (-9 : Int32)] w9) fun w11 =>
  some (none, w11)
  else none)
  else none)
  else none)
  else none)
  else none)
  else none)
  else none)
  else none)
def U_X0_init (fu : Nat) : Orc := fun as w => match as with
  | [.ref a0] => M_X0_init fu a0 w
  | _ => none
def K_X0_init (fu : Nat) (n : Nat) : Kont := fun pc ls st w => none
set_option maxRecDepth 100000 in
set_option maxHeartbeats 4000000 in
theorem E_X0_init (fu : Nat) (a0 : Nat) (w : XW) : M_X0_init fu a0 w = ev T_X0_init (op_X0_init fu) [] (K_X0_init fu fu) 41 0 (lv_args 0 [.ref a0]) [] w := by
  rfl
theorem D_X0_init (fu : Nat) : DS T_X0_init (op_X0_init fu) [] 41 (K_X0_init fu) := by
  refine ⟨fun pc ls st w => rfl, fun n pc ls st w o h => ?_⟩
  cases h
theorem H_X0_init (fu : Nat) : ∀ as w o, U_X0_init fu as w = some o → ∃ a r, as = .ref a :: r ∧ r.length = 0 := by
  intro as w o h
  unfold U_X0_init at h
  split at h
  next => exact ⟨_, _, rfl, rfl⟩
  next => cases h
set_option maxRecDepth 100000 in
set_option maxHeartbeats 4000000 in
theorem S_X0_init (fu : Nat) {l : Launch} {D : va_G} {cA : Nat → ClassId} {base b : Nat} : CS l D cA base b 2 y_X0_init prog_2_method_1_code 1 (none) (U_X0_init fu) ∧ OM (U_X0_init fu) := by
  refine CS_of (d := 1) (y := y_X0_init) (cc := prog_2_method_1_code) (nL := 1) (ret := (none)) (F := U_X0_init fu) (fl := fl_BrookStones_Brook_i) (nl := []) (kl := []) (k2 := []) (mv := []) (ms := [(36, 2, 0, (U_J7_fill_53178 fu))]) (mi := [(3, 1, 0, oInit)]) (ini := true) hI_w fl_BrookStones_Brook_i_ok nil_all nil_all nil_all
    (nil_all)
    (cons_all (⟨Or.inl ⟨show (0 : Nat) ≠ 3 by decide, y_J7_fill_53178, prog_13_method_103_code, 4, (none), 1, "BrookStones", (S_J7_fill_53178 fu (l := l) (D := D) (cA := cA) (base := base) (b := b)).1, by decide, by decide, mi_J7_fill_53178.1, mi_J7_fill_53178.2.1, mi_J7_fill_53178.2.2.1, mi_J7_fill_53178.2.2.2, Or.inl (tblG_of (i := 26) rfl rfl)⟩, (S_J7_fill_53178 fu (l := l) (D := D) (cA := cA) (base := base) (b := b)).2⟩) (nil_all))
    (cons_all (⟨Or.inr ⟨rfl, rfl, rfl, tblG_of (i := 25) rfl rfl, tblG_of (i := 18) rfl rfl, tblG_of (i := 19) rfl rfl⟩, om_init⟩) (nil_all))
    (T := T_X0_init) (by decide +kernel) (cut := []) (N := 41) (D_X0_init fu) (by decide +kernel) (fun _ => rfl) (fun as w o h => ?_)
  unfold U_X0_init at h
  split at h
  next =>
    exact ⟨Nat.le_of_ble_eq_true rfl, fu, (E_X0_init fu _ w).symm.trans h⟩
  next => cases h
def T_X4_init : List (Nat × Instr) := [(0, .aload_n 0), (1, .invokespecial 3), (4, .aload_n 0), (5, .iconst 4), (6, .newarray .int), (8, .putfield 9), (11, .aload_n 0), (12, .iconst 4), (13, .newarray .int), (15, .putfield 15), (18, .aload_n 0), (19, .sipush 240), (22, .newarray .int), (24, .putfield 18), (27, .aload_n 0), (28, .getfield 15), (31, .iconst (-1)), (32, .invokestatic 21), (35, .return_)]
def op_X4_init (fu : Nat) : Nat → Kont → XL → List Value → XW → Instr → Option XO := opK 1 (rzOf (none)) fl_BrookStones_Sheets_i [] [] [] [] [(21, 2, 0, (U_J7_fill_53178 fu))] [(3, 1, 0, oInit)]
def M_X4_init (fu : Nat) (a0 : Nat) (w : XW) : Option XO :=
  cV (oInit [.ref a0] w) fun w1 =>
  (if 0 ≤ (4 : Int32) ∧ (4 : Int32) ≤ 1000 ∧ 0 < List.length w1 then
  (pF (w1 ++ [.inr (0, List.replicate (Int32.toNatClampNeg (4 : Int32)) 0)]) a0 4 0 (.ref (List.length w1))).bind fun w2 =>
  (if 0 ≤ (4 : Int32) ∧ (4 : Int32) ≤ 1000 ∧ 0 < List.length w2 then
  (pF (w2 ++ [.inr (0, List.replicate (Int32.toNatClampNeg (4 : Int32)) 0)]) a0 4 1 (.ref (List.length w2))).bind fun w3 =>
  (if 0 ≤ (240 : Int32) ∧ (240 : Int32) ≤ 1000 ∧ 0 < List.length w3 then
  (pF (w3 ++ [.inr (0, List.replicate (Int32.toNatClampNeg (240 : Int32)) 0)]) a0 4 2 (.ref (List.length w3))).bind fun w4 =>
  (gR w4 a0 4 1).bind fun r5 =>
  cV (U_J7_fill_53178 fu [.ref r5, .int (-1 : Int32)] w4) fun w6 =>
  some (none, w6)
  else none)
  else none)
  else none)
def U_X4_init (fu : Nat) : Orc := fun as w => match as with
  | [.ref a0] => M_X4_init fu a0 w
  | _ => none
def K_X4_init (fu : Nat) (n : Nat) : Kont := fun pc ls st w => none
set_option maxRecDepth 100000 in
set_option maxHeartbeats 4000000 in
theorem E_X4_init (fu : Nat) (a0 : Nat) (w : XW) : M_X4_init fu a0 w = ev T_X4_init (op_X4_init fu) [] (K_X4_init fu fu) 21 0 (lv_args 0 [.ref a0]) [] w := by
  rfl
theorem D_X4_init (fu : Nat) : DS T_X4_init (op_X4_init fu) [] 21 (K_X4_init fu) := by
  refine ⟨fun pc ls st w => rfl, fun n pc ls st w o h => ?_⟩
  cases h
theorem H_X4_init (fu : Nat) : ∀ as w o, U_X4_init fu as w = some o → ∃ a r, as = .ref a :: r ∧ r.length = 0 := by
  intro as w o h
  unfold U_X4_init at h
  split at h
  next => exact ⟨_, _, rfl, rfl⟩
  next => cases h
set_option maxRecDepth 100000 in
set_option maxHeartbeats 4000000 in
theorem S_X4_init (fu : Nat) {l : Launch} {D : va_G} {cA : Nat → ClassId} {base b : Nat} : CS l D cA base b 2 y_X4_init prog_6_method_1_code 1 (none) (U_X4_init fu) ∧ OM (U_X4_init fu) := by
  refine CS_of (d := 1) (y := y_X4_init) (cc := prog_6_method_1_code) (nL := 1) (ret := (none)) (F := U_X4_init fu) (fl := fl_BrookStones_Sheets_i) (nl := []) (kl := []) (k2 := []) (mv := []) (ms := [(21, 2, 0, (U_J7_fill_53178 fu))]) (mi := [(3, 1, 0, oInit)]) (ini := true) hI_w fl_BrookStones_Sheets_i_ok nil_all nil_all nil_all
    (nil_all)
    (cons_all (⟨Or.inl ⟨show (0 : Nat) ≠ 3 by decide, y_J7_fill_53178, prog_13_method_103_code, 4, (none), 1, "BrookStones", (S_J7_fill_53178 fu (l := l) (D := D) (cA := cA) (base := base) (b := b)).1, by decide, by decide, mi_J7_fill_53178.1, mi_J7_fill_53178.2.1, mi_J7_fill_53178.2.2.1, mi_J7_fill_53178.2.2.2, Or.inl (tblG_of (i := 101) rfl rfl)⟩, (S_J7_fill_53178 fu (l := l) (D := D) (cA := cA) (base := base) (b := b)).2⟩) (nil_all))
    (cons_all (⟨Or.inr ⟨rfl, rfl, rfl, tblG_of (i := 100) rfl rfl, tblG_of (i := 18) rfl rfl, tblG_of (i := 19) rfl rfl⟩, om_init⟩) (nil_all))
    (T := T_X4_init) (by decide +kernel) (cut := []) (N := 21) (D_X4_init fu) (by decide +kernel) (fun _ => rfl) (fun as w o h => ?_)
  unfold U_X4_init at h
  split at h
  next =>
    exact ⟨Nat.le_of_ble_eq_true rfl, fu, (E_X4_init fu _ w).symm.trans h⟩
  next => cases h
def T_X6_init : List (Nat × Instr) := [(0, .aload_n 0), (1, .invokespecial 3), (4, .aload_n 0), (5, .bipush 8), (7, .newarray .int), (9, .putfield 9), (12, .aload_n 0), (13, .bipush 9), (15, .newarray .int), (17, .putfield 15), (20, .return_)]
def op_X6_init (fu : Nat) : Nat → Kont → XL → List Value → XW → Instr → Option XO := opK 1 (rzOf (none)) fl_BrookStones_Way_i [] [] [] [] [] [(3, 1, 0, oInit)]
def M_X6_init (fu : Nat) (a0 : Nat) (w : XW) : Option XO :=
  cV (oInit [.ref a0] w) fun w1 =>
  (if 0 ≤ (8 : Int32) ∧ (8 : Int32) ≤ 1000 ∧ 0 < List.length w1 then
  (pF (w1 ++ [.inr (0, List.replicate (Int32.toNatClampNeg (8 : Int32)) 0)]) a0 5 0 (.ref (List.length w1))).bind fun w2 =>
  (if 0 ≤ (9 : Int32) ∧ (9 : Int32) ≤ 1000 ∧ 0 < List.length w2 then
  (pF (w2 ++ [.inr (0, List.replicate (Int32.toNatClampNeg (9 : Int32)) 0)]) a0 5 1 (.ref (List.length w2))).bind fun w3 =>
  some (none, w3)
  else none)
  else none)
def U_X6_init (fu : Nat) : Orc := fun as w => match as with
  | [.ref a0] => M_X6_init fu a0 w
  | _ => none
def K_X6_init (fu : Nat) (n : Nat) : Kont := fun pc ls st w => none
set_option maxRecDepth 100000 in
set_option maxHeartbeats 4000000 in
theorem E_X6_init (fu : Nat) (a0 : Nat) (w : XW) : M_X6_init fu a0 w = ev T_X6_init (op_X6_init fu) [] (K_X6_init fu fu) 13 0 (lv_args 0 [.ref a0]) [] w := by
  rfl
theorem D_X6_init (fu : Nat) : DS T_X6_init (op_X6_init fu) [] 13 (K_X6_init fu) := by
  refine ⟨fun pc ls st w => rfl, fun n pc ls st w o h => ?_⟩
  cases h
theorem H_X6_init (fu : Nat) : ∀ as w o, U_X6_init fu as w = some o → ∃ a r, as = .ref a :: r ∧ r.length = 0 := by
  intro as w o h
  unfold U_X6_init at h
  split at h
  next => exact ⟨_, _, rfl, rfl⟩
  next => cases h
set_option maxRecDepth 100000 in
set_option maxHeartbeats 4000000 in
theorem S_X6_init (fu : Nat) {l : Launch} {D : va_G} {cA : Nat → ClassId} {base b : Nat} : CS l D cA base b 1 y_X6_init prog_8_method_1_code 1 (none) (U_X6_init fu) ∧ OM (U_X6_init fu) := by
  refine CS_of (d := 0) (y := y_X6_init) (cc := prog_8_method_1_code) (nL := 1) (ret := (none)) (F := U_X6_init fu) (fl := fl_BrookStones_Way_i) (nl := []) (kl := []) (k2 := []) (mv := []) (ms := []) (mi := [(3, 1, 0, oInit)]) (ini := true) hI_w fl_BrookStones_Way_i_ok nil_all nil_all nil_all
    (nil_all)
    (nil_all)
    (cons_all (⟨Or.inr ⟨rfl, rfl, rfl, tblG_of (i := 118) rfl rfl, tblG_of (i := 18) rfl rfl, tblG_of (i := 19) rfl rfl⟩, om_init⟩) (nil_all))
    (T := T_X6_init) (by decide +kernel) (cut := []) (N := 13) (D_X6_init fu) (by decide +kernel) (fun _ => rfl) (fun as w o h => ?_)
  unfold U_X6_init at h
  split at h
  next =>
    exact ⟨Nat.le_of_ble_eq_true rfl, fu, (E_X6_init fu _ w).symm.trans h⟩
  next => cases h
def T_X1_init : List (Nat × Instr) := [(0, .aload_n 0), (1, .invokespecial 3), (4, .aload_n 0), (5, .bipush 7), (7, .newarray .int), (9, .putfield 9), (12, .aload_n 0), (13, .bipush 7), (15, .newarray .int), (17, .putfield 15), (20, .return_)]
def op_X1_init (fu : Nat) : Nat → Kont → XL → List Value → XW → Instr → Option XO := opK 1 (rzOf (none)) fl_BrookStones_Flood_i [] [] [] [] [] [(3, 1, 0, oInit)]
def M_X1_init (fu : Nat) (a0 : Nat) (w : XW) : Option XO :=
  cV (oInit [.ref a0] w) fun w1 =>
  (if 0 ≤ (7 : Int32) ∧ (7 : Int32) ≤ 1000 ∧ 0 < List.length w1 then
  (pF (w1 ++ [.inr (0, List.replicate (Int32.toNatClampNeg (7 : Int32)) 0)]) a0 1 0 (.ref (List.length w1))).bind fun w2 =>
  (if 0 ≤ (7 : Int32) ∧ (7 : Int32) ≤ 1000 ∧ 0 < List.length w2 then
  (pF (w2 ++ [.inr (0, List.replicate (Int32.toNatClampNeg (7 : Int32)) 0)]) a0 1 1 (.ref (List.length w2))).bind fun w3 =>
  some (none, w3)
  else none)
  else none)
def U_X1_init (fu : Nat) : Orc := fun as w => match as with
  | [.ref a0] => M_X1_init fu a0 w
  | _ => none
def K_X1_init (fu : Nat) (n : Nat) : Kont := fun pc ls st w => none
set_option maxRecDepth 100000 in
set_option maxHeartbeats 4000000 in
theorem E_X1_init (fu : Nat) (a0 : Nat) (w : XW) : M_X1_init fu a0 w = ev T_X1_init (op_X1_init fu) [] (K_X1_init fu fu) 13 0 (lv_args 0 [.ref a0]) [] w := by
  rfl
theorem D_X1_init (fu : Nat) : DS T_X1_init (op_X1_init fu) [] 13 (K_X1_init fu) := by
  refine ⟨fun pc ls st w => rfl, fun n pc ls st w o h => ?_⟩
  cases h
theorem H_X1_init (fu : Nat) : ∀ as w o, U_X1_init fu as w = some o → ∃ a r, as = .ref a :: r ∧ r.length = 0 := by
  intro as w o h
  unfold U_X1_init at h
  split at h
  next => exact ⟨_, _, rfl, rfl⟩
  next => cases h
set_option maxRecDepth 100000 in
set_option maxHeartbeats 4000000 in
theorem S_X1_init (fu : Nat) {l : Launch} {D : va_G} {cA : Nat → ClassId} {base b : Nat} : CS l D cA base b 1 y_X1_init prog_3_method_1_code 1 (none) (U_X1_init fu) ∧ OM (U_X1_init fu) := by
  refine CS_of (d := 0) (y := y_X1_init) (cc := prog_3_method_1_code) (nL := 1) (ret := (none)) (F := U_X1_init fu) (fl := fl_BrookStones_Flood_i) (nl := []) (kl := []) (k2 := []) (mv := []) (ms := []) (mi := [(3, 1, 0, oInit)]) (ini := true) hI_w fl_BrookStones_Flood_i_ok nil_all nil_all nil_all
    (nil_all)
    (nil_all)
    (cons_all (⟨Or.inr ⟨rfl, rfl, rfl, tblG_of (i := 144) rfl rfl, tblG_of (i := 18) rfl rfl, tblG_of (i := 19) rfl rfl⟩, om_init⟩) (nil_all))
    (T := T_X1_init) (by decide +kernel) (cut := []) (N := 13) (D_X1_init fu) (by decide +kernel) (fun _ => rfl) (fun as w o h => ?_)
  unfold U_X1_init at h
  split at h
  next =>
    exact ⟨Nat.le_of_ble_eq_true rfl, fu, (E_X1_init fu _ w).symm.trans h⟩
  next => cases h
def T_X3_init : List (Nat × Instr) := [(0, .aload_n 0), (1, .invokespecial 5), (4, .aload_n 0), (5, .bipush 7), (7, .newarray .int), (9, .putfield 11), (12, .aload_n 0), (13, .bipush 7), (15, .newarray .int), (17, .putfield 15), (20, .aload_n 0), (21, .bipush 6), (23, .newarray .int), (25, .putfield 18), (28, .aload_n 0), (29, .bipush 8), (31, .bipush 8), (33, .multianewarray 21 2), (37, .putfield 23), (40, .return_)]
def op_X3_init (fu : Nat) : Nat → Kont → XL → List Value → XW → Instr → Option XO := opK 1 (rzOf (none)) fl_BrookStones_Planner_i nl_BrookStones_Planner [] [] [] [] [(5, 1, 0, oInit)]
def M_X3_init (fu : Nat) (a0 : Nat) (w : XW) : Option XO :=
  cV (oInit [.ref a0] w) fun w1 =>
  (if 0 ≤ (7 : Int32) ∧ (7 : Int32) ≤ 1000 ∧ 0 < List.length w1 then
  (pF (w1 ++ [.inr (0, List.replicate (Int32.toNatClampNeg (7 : Int32)) 0)]) a0 3 0 (.ref (List.length w1))).bind fun w2 =>
  (if 0 ≤ (7 : Int32) ∧ (7 : Int32) ≤ 1000 ∧ 0 < List.length w2 then
  (pF (w2 ++ [.inr (0, List.replicate (Int32.toNatClampNeg (7 : Int32)) 0)]) a0 3 1 (.ref (List.length w2))).bind fun w3 =>
  (if 0 ≤ (6 : Int32) ∧ (6 : Int32) ≤ 1000 ∧ 0 < List.length w3 then
  (pF (w3 ++ [.inr (0, List.replicate (Int32.toNatClampNeg (6 : Int32)) 0)]) a0 3 2 (.ref (List.length w3))).bind fun w4 =>
  (if 0 ≤ (8 : Int32) ∧ (8 : Int32) ≤ 1000 ∧ 0 ≤ (8 : Int32) ∧ (8 : Int32) ≤ 1000 ∧ 0 < List.length w4 ∧ List.length w4 ≤ 1000 then
  (pF (w4 ++ mkA (List.length w4) (8 : Int32) (8 : Int32)) a0 3 3 (.ref (List.length w4))).bind fun w5 =>
  some (none, w5)
  else none)
  else none)
  else none)
  else none)
def U_X3_init (fu : Nat) : Orc := fun as w => match as with
  | [.ref a0] => M_X3_init fu a0 w
  | _ => none
def K_X3_init (fu : Nat) (n : Nat) : Kont := fun pc ls st w => none
set_option maxRecDepth 100000 in
set_option maxHeartbeats 4000000 in
theorem E_X3_init (fu : Nat) (a0 : Nat) (w : XW) : M_X3_init fu a0 w = ev T_X3_init (op_X3_init fu) [] (K_X3_init fu fu) 22 0 (lv_args 0 [.ref a0]) [] w := by
  rfl
theorem D_X3_init (fu : Nat) : DS T_X3_init (op_X3_init fu) [] 22 (K_X3_init fu) := by
  refine ⟨fun pc ls st w => rfl, fun n pc ls st w o h => ?_⟩
  cases h
theorem H_X3_init (fu : Nat) : ∀ as w o, U_X3_init fu as w = some o → ∃ a r, as = .ref a :: r ∧ r.length = 0 := by
  intro as w o h
  unfold U_X3_init at h
  split at h
  next => exact ⟨_, _, rfl, rfl⟩
  next => cases h
set_option maxRecDepth 100000 in
set_option maxHeartbeats 4000000 in
theorem S_X3_init (fu : Nat) {l : Launch} {D : va_G} {cA : Nat → ClassId} {base b : Nat} : CS l D cA base b 1 y_X3_init prog_5_method_1_code 1 (none) (U_X3_init fu) ∧ OM (U_X3_init fu) := by
  refine CS_of (d := 0) (y := y_X3_init) (cc := prog_5_method_1_code) (nL := 1) (ret := (none)) (F := U_X3_init fu) (fl := fl_BrookStones_Planner_i) (nl := nl_BrookStones_Planner) (kl := []) (k2 := []) (mv := []) (ms := []) (mi := [(5, 1, 0, oInit)]) (ini := true) hI_w fl_BrookStones_Planner_i_ok nl_BrookStones_Planner_ok nil_all nil_all
    (nil_all)
    (nil_all)
    (cons_all (⟨Or.inr ⟨rfl, rfl, rfl, tblG_of (i := 159) rfl rfl, tblG_of (i := 18) rfl rfl, tblG_of (i := 19) rfl rfl⟩, om_init⟩) (nil_all))
    (T := T_X3_init) (by decide +kernel) (cut := []) (N := 22) (D_X3_init fu) (by decide +kernel) (fun _ => rfl) (fun as w o h => ?_)
  unfold U_X3_init at h
  split at h
  next =>
    exact ⟨Nat.le_of_ble_eq_true rfl, fu, (E_X3_init fu _ w).symm.trans h⟩
  next => cases h
def T_X2_init : List (Nat × Instr) := [(0, .aload_n 0), (1, .invokespecial 3), (4, .aload_n 0), (5, .sipush 128), (8, .newarray .int), (10, .putfield 9), (13, .return_)]
def op_X2_init (fu : Nat) : Nat → Kont → XL → List Value → XW → Instr → Option XO := opK 1 (rzOf (none)) fl_BrookStones_Layings_i [] [] [] [] [] [(3, 1, 0, oInit)]
def M_X2_init (fu : Nat) (a0 : Nat) (w : XW) : Option XO :=
  cV (oInit [.ref a0] w) fun w1 =>
  (if 0 ≤ (128 : Int32) ∧ (128 : Int32) ≤ 1000 ∧ 0 < List.length w1 then
  (pF (w1 ++ [.inr (0, List.replicate (Int32.toNatClampNeg (128 : Int32)) 0)]) a0 2 0 (.ref (List.length w1))).bind fun w2 =>
  some (none, w2)
  else none)
def U_X2_init (fu : Nat) : Orc := fun as w => match as with
  | [.ref a0] => M_X2_init fu a0 w
  | _ => none
def K_X2_init (fu : Nat) (n : Nat) : Kont := fun pc ls st w => none
set_option maxRecDepth 100000 in
set_option maxHeartbeats 4000000 in
theorem E_X2_init (fu : Nat) (a0 : Nat) (w : XW) : M_X2_init fu a0 w = ev T_X2_init (op_X2_init fu) [] (K_X2_init fu fu) 9 0 (lv_args 0 [.ref a0]) [] w := by
  rfl
theorem D_X2_init (fu : Nat) : DS T_X2_init (op_X2_init fu) [] 9 (K_X2_init fu) := by
  refine ⟨fun pc ls st w => rfl, fun n pc ls st w o h => ?_⟩
  cases h
theorem H_X2_init (fu : Nat) : ∀ as w o, U_X2_init fu as w = some o → ∃ a r, as = .ref a :: r ∧ r.length = 0 := by
  intro as w o h
  unfold U_X2_init at h
  split at h
  next => exact ⟨_, _, rfl, rfl⟩
  next => cases h
set_option maxRecDepth 100000 in
set_option maxHeartbeats 4000000 in
theorem S_X2_init (fu : Nat) {l : Launch} {D : va_G} {cA : Nat → ClassId} {base b : Nat} : CS l D cA base b 1 y_X2_init prog_4_method_1_code 1 (none) (U_X2_init fu) ∧ OM (U_X2_init fu) := by
  refine CS_of (d := 0) (y := y_X2_init) (cc := prog_4_method_1_code) (nL := 1) (ret := (none)) (F := U_X2_init fu) (fl := fl_BrookStones_Layings_i) (nl := []) (kl := []) (k2 := []) (mv := []) (ms := []) (mi := [(3, 1, 0, oInit)]) (ini := true) hI_w fl_BrookStones_Layings_i_ok nil_all nil_all nil_all
    (nil_all)
    (nil_all)
    (cons_all (⟨Or.inr ⟨rfl, rfl, rfl, tblG_of (i := 188) rfl rfl, tblG_of (i := 18) rfl rfl, tblG_of (i := 19) rfl rfl⟩, om_init⟩) (nil_all))
    (T := T_X2_init) (by decide +kernel) (cut := []) (N := 9) (D_X2_init fu) (by decide +kernel) (fun _ => rfl) (fun as w o h => ?_)
  unfold U_X2_init at h
  split at h
  next =>
    exact ⟨Nat.le_of_ble_eq_true rfl, fu, (E_X2_init fu _ w).symm.trans h⟩
  next => cases h
def T_X7_init : List (Nat × Instr) := [(0, .aload_n 0), (1, .invokespecial 3), (4, .aload_n 0), (5, .new 9), (8, .dup), (9, .invokespecial 11), (12, .putfield 12), (15, .aload_n 0), (16, .new 18), (19, .dup), (20, .invokespecial 20), (23, .putfield 21), (26, .aload_n 0), (27, .new 25), (30, .dup), (31, .invokespecial 27), (34, .putfield 28), (37, .aload_n 0), (38, .new 32), (41, .dup), (42, .invokespecial 34), (45, .putfield 35), (48, .aload_n 0), (49, .new 39), (52, .dup), (53, .invokespecial 41), (56, .putfield 42), (59, .aload_n 0), (60, .new 46), (63, .dup), (64, .invokespecial 48), (67, .putfield 49), (70, .return_)]
def op_X7_init (fu : Nat) : Nat → Kont → XL → List Value → XW → Instr → Option XO := opK 1 (rzOf (none)) fl_BrookStones_i nl_BrookStones [] [] [] [] [(3, 1, 0, oInit), (11, 1, 0, (U_X0_init fu)), (20, 1, 0, (U_X4_init fu)), (27, 1, 0, (U_X6_init fu)), (34, 1, 0, (U_X1_init fu)), (41, 1, 0, (U_X3_init fu)), (48, 1, 0, (U_X2_init fu))]
def M_X7_init (fu : Nat) (a0 : Nat) (w : XW) : Option XO :=
  cV (oInit [.ref a0] w) fun w1 =>
  (if 0 < List.length w1 then
  cV (U_X0_init fu [.ref (List.length w1)] (w1 ++ [.inl (0, [.null, .null, .null, .null, .null, .null, .null, .null, .int 0, .int 0, .int 0, .int 0, .int 0, .int 0, .int 0])])) fun w2 =>
  (pF w2 a0 6 0 (.ref (List.length w1))).bind fun w3 =>
  (if 0 < List.length w3 then
  cV (U_X4_init fu [.ref (List.length w3)] (w3 ++ [.inl (4, [.null, .null, .null])])) fun w4 =>
  (pF w4 a0 6 1 (.ref (List.length w3))).bind fun w5 =>
  (if 0 < List.length w5 then
  cV (U_X6_init fu [.ref (List.length w5)] (w5 ++ [.inl (5, [.null, .null, .int 0, .int 0, .int 0, .int 0])])) fun w6 =>
  (pF w6 a0 6 2 (.ref (List.length w5))).bind fun w7 =>
  (if 0 < List.length w7 then
  cV (U_X1_init fu [.ref (List.length w7)] (w7 ++ [.inl (1, [.null, .null, .int 0])])) fun w8 =>
  (pF w8 a0 6 3 (.ref (List.length w7))).bind fun w9 =>
  (if 0 < List.length w9 then
  cV (U_X3_init fu [.ref (List.length w9)] (w9 ++ [.inl (3, [.null, .null, .null, .null, .int 0, .int 0, .int 0, .int 0])])) fun w10 =>
  (pF w10 a0 6 4 (.ref (List.length w9))).bind fun w11 =>
  (if 0 < List.length w11 then
  cV (U_X2_init fu [.ref (List.length w11)] (w11 ++ [.inl (2, [.null, .int 0])])) fun w12 =>
  (pF w12 a0 6 5 (.ref (List.length w11))).bind fun w13 =>
  some (none, w13)
  else none)
  else none)
  else none)
  else none)
  else none)
  else none)
def U_X7_init (fu : Nat) : Orc := fun as w => match as with
  | [.ref a0] => M_X7_init fu a0 w
  | _ => none
def K_X7_init (fu : Nat) (n : Nat) : Kont := fun pc ls st w => none
set_option maxRecDepth 100000 in
set_option maxHeartbeats 4000000 in
theorem E_X7_init (fu : Nat) (a0 : Nat) (w : XW) : M_X7_init fu a0 w = ev T_X7_init (op_X7_init fu) [] (K_X7_init fu fu) 35 0 (lv_args 0 [.ref a0]) [] w := by
  rfl
theorem D_X7_init (fu : Nat) : DS T_X7_init (op_X7_init fu) [] 35 (K_X7_init fu) := by
  refine ⟨fun pc ls st w => rfl, fun n pc ls st w o h => ?_⟩
  cases h
theorem H_X7_init (fu : Nat) : ∀ as w o, U_X7_init fu as w = some o → ∃ a r, as = .ref a :: r ∧ r.length = 0 := by
  intro as w o h
  unfold U_X7_init at h
  split at h
  next => exact ⟨_, _, rfl, rfl⟩
  next => cases h
set_option maxRecDepth 100000 in
set_option maxHeartbeats 4000000 in
theorem S_X7_init (fu : Nat) {l : Launch} {D : va_G} {cA : Nat → ClassId} {base b : Nat} : CS l D cA base b 3 y_X7_init prog_1_method_1_code 1 (none) (U_X7_init fu) ∧ OM (U_X7_init fu) := by
  refine CS_of (d := 2) (y := y_X7_init) (cc := prog_1_method_1_code) (nL := 1) (ret := (none)) (F := U_X7_init fu) (fl := fl_BrookStones_i) (nl := nl_BrookStones) (kl := []) (k2 := []) (mv := []) (ms := []) (mi := [(3, 1, 0, oInit), (11, 1, 0, (U_X0_init fu)), (20, 1, 0, (U_X4_init fu)), (27, 1, 0, (U_X6_init fu)), (34, 1, 0, (U_X1_init fu)), (41, 1, 0, (U_X3_init fu)), (48, 1, 0, (U_X2_init fu))]) (ini := true) hI_w fl_BrookStones_i_ok nl_BrookStones_ok nil_all nil_all
    (nil_all)
    (nil_all)
    (cons_all (⟨Or.inr ⟨rfl, rfl, rfl, tblG_of (i := 17) rfl rfl, tblG_of (i := 18) rfl rfl, tblG_of (i := 19) rfl rfl⟩, om_init⟩) (cons_all (⟨Or.inl ⟨show (0 : Nat) ≠ 3 by decide, y_X0_init, prog_2_method_1_code, 1, 2, "BrookStones", 0, (S_X0_init fu (l := l) (D := D) (cA := cA) (base := base) (b := b)).1, by decide, by decide, rfl, H_X0_init fu, rfl, mi_X0_init.1, mi_X0_init.2.1, mi_X0_init.2.2.1, mi_X0_init.2.2.2, Or.inr (tblN_of (i := 22) rfl rfl)⟩, (S_X0_init fu (l := l) (D := D) (cA := cA) (base := base) (b := b)).2⟩) (cons_all (⟨Or.inl ⟨show (0 : Nat) ≠ 3 by decide, y_X4_init, prog_6_method_1_code, 1, 2, "BrookStones", 0, (S_X4_init fu (l := l) (D := D) (cA := cA) (base := base) (b := b)).1, by decide, by decide, rfl, H_X4_init fu, rfl, mi_X4_init.1, mi_X4_init.2.1, mi_X4_init.2.2.1, mi_X4_init.2.2.2, Or.inr (tblN_of (i := 97) rfl rfl)⟩, (S_X4_init fu (l := l) (D := D) (cA := cA) (base := base) (b := b)).2⟩) (cons_all (⟨Or.inl ⟨show (0 : Nat) ≠ 3 by decide, y_X6_init, prog_8_method_1_code, 1, 1, "BrookStones", 0, (S_X6_init fu (l := l) (D := D) (cA := cA) (base := base) (b := b)).1, by decide, by decide, rfl, H_X6_init fu, rfl, mi_X6_init.1, mi_X6_init.2.1, mi_X6_init.2.2.1, mi_X6_init.2.2.2, Or.inr (tblN_of (i := 115) rfl rfl)⟩, (S_X6_init fu (l := l) (D := D) (cA := cA) (base := base) (b := b)).2⟩) (cons_all (⟨Or.inl ⟨show (0 : Nat) ≠ 3 by decide, y_X1_init, prog_3_method_1_code, 1, 1, "BrookStones", 0, (S_X1_init fu (l := l) (D := D) (cA := cA) (base := base) (b := b)).1, by decide, by decide, rfl, H_X1_init fu, rfl, mi_X1_init.1, mi_X1_init.2.1, mi_X1_init.2.2.1, mi_X1_init.2.2.2, Or.inr (tblN_of (i := 141) rfl rfl)⟩, (S_X1_init fu (l := l) (D := D) (cA := cA) (base := base) (b := b)).2⟩) (cons_all (⟨Or.inl ⟨show (0 : Nat) ≠ 3 by decide, y_X3_init, prog_5_method_1_code, 1, 1, "BrookStones", 0, (S_X3_init fu (l := l) (D := D) (cA := cA) (base := base) (b := b)).1, by decide, by decide, rfl, H_X3_init fu, rfl, mi_X3_init.1, mi_X3_init.2.1, mi_X3_init.2.2.1, mi_X3_init.2.2.2, Or.inr (tblN_of (i := 156) rfl rfl)⟩, (S_X3_init fu (l := l) (D := D) (cA := cA) (base := base) (b := b)).2⟩) (cons_all (⟨Or.inl ⟨show (0 : Nat) ≠ 3 by decide, y_X2_init, prog_4_method_1_code, 1, 1, "BrookStones", 0, (S_X2_init fu (l := l) (D := D) (cA := cA) (base := base) (b := b)).1, by decide, by decide, rfl, H_X2_init fu, rfl, mi_X2_init.1, mi_X2_init.2.1, mi_X2_init.2.2.1, mi_X2_init.2.2.2, Or.inr (tblN_of (i := 185) rfl rfl)⟩, (S_X2_init fu (l := l) (D := D) (cA := cA) (base := base) (b := b)).2⟩) (nil_all))))))))
    (T := T_X7_init) (by decide +kernel) (cut := []) (N := 35) (D_X7_init fu) (by decide +kernel) (fun _ => rfl) (fun as w o h => ?_)
  unfold U_X7_init at h
  split at h
  next =>
    exact ⟨Nat.le_of_ble_eq_true rfl, fu, (E_X7_init fu _ w).symm.trans h⟩
  next => cases h
def T_L_cell : List (Nat × Instr) := [(0, .iload_n 1), (1, .aload_n 0), (2, .arraylength), (3, .if_icmp .ge 9), (6, .aload_n 0), (7, .iload_n 1), (8, .iaload), (9, .goto 9), (12, .ldc 7), (14, .iload_n 1), (15, .iconst 1), (16, .iadd), (17, .imul), (18, .ireturn)]
def op_L_cell (fu : Nat) : Nat → Kont → XL → List Value → XW → Instr → Option XO := opK 2 (rzOf (some .int)) [] nl_BrookStonesLaw kl_BrookStonesLaw [] [] [] []
def M_L_cell (fu : Nat) (a0 : Nat) (a1 : Int32) (w : XW) : Option XO :=
  (aL w a0).bind fun x1 =>
  (if a1 < x1 then
    (aI w a0 a1).bind fun x2 =>
    some (some (.int x2), w)
  else
    some (some (.int ((747796405 : Int32) * (a1 + (1 : Int32)))), w))
def U_L_cell (fu : Nat) : Orc := fun as w => match as with
  | [.ref a0, .int a1] => M_L_cell fu a0 a1 w
  | _ => none
def K_L_cell (fu : Nat) (n : Nat) : Kont := fun pc ls st w => none
set_option maxRecDepth 100000 in
set_option maxHeartbeats 4000000 in
theorem E_L_cell (fu : Nat) (a0 : Nat) (a1 : Int32) (w : XW) : M_L_cell fu a0 a1 w = ev T_L_cell (op_L_cell fu) [] (K_L_cell fu fu) 16 0 (lv_args 0 [.ref a0, .int a1]) [] w := by
  rfl
theorem D_L_cell (fu : Nat) : DS T_L_cell (op_L_cell fu) [] 16 (K_L_cell fu) := by
  refine ⟨fun pc ls st w => rfl, fun n pc ls st w o h => ?_⟩
  cases h
set_option maxRecDepth 100000 in
set_option maxHeartbeats 4000000 in
theorem S_L_cell (fu : Nat) {l : Launch} {D : va_G} {cA : Nat → ClassId} {base b : Nat} : CS l D cA base b 1 y_L_cell method_2_code 2 (some .int) (U_L_cell fu) ∧ OM (U_L_cell fu) := by
  refine CS_of (d := 0) (y := y_L_cell) (cc := method_2_code) (nL := 2) (ret := (some .int)) (F := U_L_cell fu) (fl := []) (nl := nl_BrookStonesLaw) (kl := kl_BrookStonesLaw) (k2 := []) (mv := []) (ms := []) (mi := []) (ini := false) hI_w nil_all nl_BrookStonesLaw_ok kl_BrookStonesLaw_ok nil_all
    (nil_all)
    (nil_all)
    (nil_all)
    (T := T_L_cell) (by decide +kernel) (cut := []) (N := 16) (D_L_cell fu) (by decide +kernel) (fun h => absurd h (by decide)) (fun as w o h => ?_)
  unfold U_L_cell at h
  split at h
  next =>
    exact ⟨Nat.le_of_ble_eq_true rfl, fu, (E_L_cell fu _ _ w).symm.trans h⟩
  next => cases h
def T_L_some : List (Nat × Instr) := [(0, .iload_n 0), (1, .ldc 8), (3, .iand), (4, .iload_n 1), (5, .irem), (6, .ireturn)]
def op_L_some (fu : Nat) : Nat → Kont → XL → List Value → XW → Instr → Option XO := opK 2 (rzOf (some .int)) [] nl_BrookStonesLaw kl_BrookStonesLaw [] [] [] []
def M_L_some (fu : Nat) (a0 : Int32) (a1 : Int32) (w : XW) : Option XO :=
  (if a1 = 0 then none else
  some (some (.int ((a0 &&& (2147483647 : Int32)) - (a0 &&& (2147483647 : Int32)) / a1 * a1)), w))
def U_L_some (fu : Nat) : Orc := fun as w => match as with
  | [.int a0, .int a1] => M_L_some fu a0 a1 w
  | _ => none
def K_L_some (fu : Nat) (n : Nat) : Kont := fun pc ls st w => none
set_option maxRecDepth 100000 in
set_option maxHeartbeats 4000000 in
theorem E_L_some (fu : Nat) (a0 : Int32) (a1 : Int32) (w : XW) : M_L_some fu a0 a1 w = ev T_L_some (op_L_some fu) [] (K_L_some fu fu) 8 0 (lv_args 0 [.int a0, .int a1]) [] w := by
  rfl
theorem D_L_some (fu : Nat) : DS T_L_some (op_L_some fu) [] 8 (K_L_some fu) := by
  refine ⟨fun pc ls st w => rfl, fun n pc ls st w o h => ?_⟩
  cases h
set_option maxRecDepth 100000 in
set_option maxHeartbeats 4000000 in
theorem S_L_some (fu : Nat) {l : Launch} {D : va_G} {cA : Nat → ClassId} {base b : Nat} : CS l D cA base b 1 y_L_some method_3_code 2 (some .int) (U_L_some fu) ∧ OM (U_L_some fu) := by
  refine CS_of (d := 0) (y := y_L_some) (cc := method_3_code) (nL := 2) (ret := (some .int)) (F := U_L_some fu) (fl := []) (nl := nl_BrookStonesLaw) (kl := kl_BrookStonesLaw) (k2 := []) (mv := []) (ms := []) (mi := []) (ini := false) hI_w nil_all nl_BrookStonesLaw_ok kl_BrookStonesLaw_ok nil_all
    (nil_all)
    (nil_all)
    (nil_all)
    (T := T_L_some) (by decide +kernel) (cut := []) (N := 8) (D_L_some fu) (by decide +kernel) (fun h => absurd h (by decide)) (fun as w o h => ?_)
  unfold U_L_some at h
  split at h
  next =>
    exact ⟨Nat.le_of_ble_eq_true rfl, fu, (E_L_some fu _ _ w).symm.trans h⟩
  next => cases h
def T_X7_isWithin : List (Nat × Instr) := [(0, .iload_n 0), (1, .iload_n 1), (2, .if_icmp .lt 12), (5, .iload_n 0), (6, .iload_n 2), (7, .if_icmp .gt 7), (10, .iconst 1), (11, .goto 4), (14, .iconst 0), (15, .ireturn)]
def op_X7_isWithin (fu : Nat) : Nat → Kont → XL → List Value → XW → Instr → Option XO := opK 3 (rzOf (some .boolean)) fl_BrookStones nl_BrookStones [] [] [] [] []
def M_X7_isWithin (fu : Nat) (a0 : Int32) (a1 : Int32) (a2 : Int32) (w : XW) : Option XO :=
  (if a0 < a1 then
    retZ (0 : Int32) w
  else
    (if a2 < a0 then
      retZ (0 : Int32) w
    else
      retZ (1 : Int32) w))
def U_X7_isWithin (fu : Nat) : Orc := fun as w => match as with
  | [.int a0, .int a1, .int a2] => M_X7_isWithin fu a0 a1 a2 w
  | _ => none
def K_X7_isWithin (fu : Nat) (n : Nat) : Kont := fun pc ls st w => none
set_option maxRecDepth 100000 in
set_option maxHeartbeats 4000000 in
theorem E_X7_isWithin (fu : Nat) (a0 : Int32) (a1 : Int32) (a2 : Int32) (w : XW) : M_X7_isWithin fu a0 a1 a2 w = ev T_X7_isWithin (op_X7_isWithin fu) [] (K_X7_isWithin fu fu) 12 0 (lv_args 0 [.int a0, .int a1, .int a2]) [] w := by
  rfl
theorem D_X7_isWithin (fu : Nat) : DS T_X7_isWithin (op_X7_isWithin fu) [] 12 (K_X7_isWithin fu) := by
  refine ⟨fun pc ls st w => rfl, fun n pc ls st w o h => ?_⟩
  cases h
set_option maxRecDepth 100000 in
set_option maxHeartbeats 4000000 in
theorem S_X7_isWithin (fu : Nat) {l : Launch} {D : va_G} {cA : Nat → ClassId} {base b : Nat} : CS l D cA base b 1 y_X7_isWithin prog_1_method_46_code 3 (some .boolean) (U_X7_isWithin fu) ∧ OM (U_X7_isWithin fu) := by
  refine CS_of (d := 0) (y := y_X7_isWithin) (cc := prog_1_method_46_code) (nL := 3) (ret := (some .boolean)) (F := U_X7_isWithin fu) (fl := fl_BrookStones) (nl := nl_BrookStones) (kl := []) (k2 := []) (mv := []) (ms := []) (mi := []) (ini := false) hI_w fl_BrookStones_ok nl_BrookStones_ok nil_all nil_all
    (nil_all)
    (nil_all)
    (nil_all)
    (T := T_X7_isWithin) (by decide +kernel) (cut := []) (N := 12) (D_X7_isWithin fu) (by decide +kernel) (fun h => absurd h (by decide)) (fun as w o h => ?_)
  unfold U_X7_isWithin at h
  split at h
  next =>
    exact ⟨Nat.le_of_ble_eq_true rfl, fu, (E_X7_isWithin fu _ _ _ w).symm.trans h⟩
  next => cases h
def T_X4_isSheet : List (Nat × Instr) := [(0, .iload_n 0), (1, .iconst 0), (2, .iconst 3), (3, .invokestatic 27), (6, .ireturn)]
def op_X4_isSheet (fu : Nat) : Nat → Kont → XL → List Value → XW → Instr → Option XO := opK 1 (rzOf (some .boolean)) fl_BrookStones_Sheets [] [] [] [] [(27, 3, 1, (U_X7_isWithin fu))] []
def M_X4_isSheet (fu : Nat) (a0 : Int32) (w : XW) : Option XO :=
  cI (U_X7_isWithin fu [.int a0, .int (0 : Int32), .int (3 : Int32)] w) fun x2 w1 =>
  retZ x2 w1
def U_X4_isSheet (fu : Nat) : Orc := fun as w => match as with
  | [.int a0] => M_X4_isSheet fu a0 w
  | _ => none
def K_X4_isSheet (fu : Nat) (n : Nat) : Kont := fun pc ls st w => none
set_option maxRecDepth 100000 in
set_option maxHeartbeats 4000000 in
theorem E_X4_isSheet (fu : Nat) (a0 : Int32) (w : XW) : M_X4_isSheet fu a0 w = ev T_X4_isSheet (op_X4_isSheet fu) [] (K_X4_isSheet fu fu) 7 0 (lv_args 0 [.int a0]) [] w := by
  rfl
theorem D_X4_isSheet (fu : Nat) : DS T_X4_isSheet (op_X4_isSheet fu) [] 7 (K_X4_isSheet fu) := by
  refine ⟨fun pc ls st w => rfl, fun n pc ls st w o h => ?_⟩
  cases h
set_option maxRecDepth 100000 in
set_option maxHeartbeats 4000000 in
theorem S_X4_isSheet (fu : Nat) {l : Launch} {D : va_G} {cA : Nat → ClassId} {base b : Nat} : CS l D cA base b 2 y_X4_isSheet prog_6_method_2_code 1 (some .boolean) (U_X4_isSheet fu) ∧ OM (U_X4_isSheet fu) := by
  refine CS_of (d := 1) (y := y_X4_isSheet) (cc := prog_6_method_2_code) (nL := 1) (ret := (some .boolean)) (F := U_X4_isSheet fu) (fl := fl_BrookStones_Sheets) (nl := []) (kl := []) (k2 := []) (mv := []) (ms := [(27, 3, 1, (U_X7_isWithin fu))]) (mi := []) (ini := false) hI_w fl_BrookStones_Sheets_ok nil_all nil_all nil_all
    (nil_all)
    (cons_all (⟨Or.inl ⟨show (1 : Nat) ≠ 3 by decide, y_X7_isWithin, prog_1_method_46_code, 3, (some .boolean), 1, "BrookStones", (S_X7_isWithin fu (l := l) (D := D) (cA := cA) (base := base) (b := b)).1, by decide, by decide, mi_X7_isWithin.1, mi_X7_isWithin.2.1, mi_X7_isWithin.2.2.1, mi_X7_isWithin.2.2.2, Or.inr (tblN_of (i := 230) rfl rfl)⟩, (S_X7_isWithin fu (l := l) (D := D) (cA := cA) (base := base) (b := b)).2⟩) (nil_all))
    (nil_all)
    (T := T_X4_isSheet) (by decide +kernel) (cut := []) (N := 7) (D_X4_isSheet fu) (by decide +kernel) (fun h => absurd h (by decide)) (fun as w o h => ?_)
  unfold U_X4_isSheet at h
  split at h
  next =>
    exact ⟨Nat.le_of_ble_eq_true rfl, fu, (E_X4_isSheet fu _ w).symm.trans h⟩
  next => cases h
def T_X4_isSort : List (Nat × Instr) := [(0, .iload_n 0), (1, .iconst 0), (2, .iconst 2), (3, .invokestatic 27), (6, .ireturn)]
def op_X4_isSort (fu : Nat) : Nat → Kont → XL → List Value → XW → Instr → Option XO := opK 1 (rzOf (some .boolean)) fl_BrookStones_Sheets [] [] [] [] [(27, 3, 1, (U_X7_isWithin fu))] []
def M_X4_isSort (fu : Nat) (a0 : Int32) (w : XW) : Option XO :=
  cI (U_X7_isWithin fu [.int a0, .int (0 : Int32), .int (2 : Int32)] w) fun x2 w1 =>
  retZ x2 w1
def U_X4_isSort (fu : Nat) : Orc := fun as w => match as with
  | [.int a0] => M_X4_isSort fu a0 w
  | _ => none
def K_X4_isSort (fu : Nat) (n : Nat) : Kont := fun pc ls st w => none
set_option maxRecDepth 100000 in
set_option maxHeartbeats 4000000 in
theorem E_X4_isSort (fu : Nat) (a0 : Int32) (w : XW) : M_X4_isSort fu a0 w = ev T_X4_isSort (op_X4_isSort fu) [] (K_X4_isSort fu fu) 7 0 (lv_args 0 [.int a0]) [] w := by
  rfl
theorem D_X4_isSort (fu : Nat) : DS T_X4_isSort (op_X4_isSort fu) [] 7 (K_X4_isSort fu) := by
  refine ⟨fun pc ls st w => rfl, fun n pc ls st w o h => ?_⟩
  cases h
set_option maxRecDepth 100000 in
set_option maxHeartbeats 4000000 in
theorem S_X4_isSort (fu : Nat) {l : Launch} {D : va_G} {cA : Nat → ClassId} {base b : Nat} : CS l D cA base b 2 y_X4_isSort prog_6_method_3_code 1 (some .boolean) (U_X4_isSort fu) ∧ OM (U_X4_isSort fu) := by
  refine CS_of (d := 1) (y := y_X4_isSort) (cc := prog_6_method_3_code) (nL := 1) (ret := (some .boolean)) (F := U_X4_isSort fu) (fl := fl_BrookStones_Sheets) (nl := []) (kl := []) (k2 := []) (mv := []) (ms := [(27, 3, 1, (U_X7_isWithin fu))]) (mi := []) (ini := false) hI_w fl_BrookStones_Sheets_ok nil_all nil_all nil_all
    (nil_all)
    (cons_all (⟨Or.inl ⟨show (1 : Nat) ≠ 3 by decide, y_X7_isWithin, prog_1_method_46_code, 3, (some .boolean), 1, "BrookStones", (S_X7_isWithin fu (l := l) (D := D) (cA := cA) (base := base) (b := b)).1, by decide, by decide, mi_X7_isWithin.1, mi_X7_isWithin.2.1, mi_X7_isWithin.2.2.1, mi_X7_isWithin.2.2.2, Or.inr (tblN_of (i := 230) rfl rfl)⟩, (S_X7_isWithin fu (l := l) (D := D) (cA := cA) (base := base) (b := b)).2⟩) (nil_all))
    (nil_all)
    (T := T_X4_isSort) (by decide +kernel) (cut := []) (N := 7) (D_X4_isSort fu) (by decide +kernel) (fun h => absurd h (by decide)) (fun as w o h => ?_)
  unfold U_X4_isSort at h
  split at h
  next =>
    exact ⟨Nat.le_of_ble_eq_true rfl, fu, (E_X4_isSort fu _ w).symm.trans h⟩
  next => cases h
def T_X7_failBy : List (Nat × Instr) := [(0, .aload_n 0), (1, .iload_n 1), (2, .putfield 53), (5, .bipush (-10)), (7, .iload_n 1), (8, .isub), (9, .ireturn)]
def op_X7_failBy (fu : Nat) : Nat → Kont → XL → List Value → XW → Instr → Option XO := opK 2 (rzOf (some .int)) fl_BrookStones nl_BrookStones [] [] [] [] []
def M_X7_failBy (fu : Nat) (a0 : Nat) (a1 : Int32) (w : XW) : Option XO :=
  (pF w a0 6 7 (.int a1)).bind fun w1 =>
  some (some (.int ((-10 : Int32) - a1)), w1)
def U_X7_failBy (fu : Nat) : Orc := fun as w => match as with
  | [.ref a0, .int a1] => if isO w a0 6 = true then M_X7_failBy fu a0 a1 w else none
  | _ => none
def K_X7_failBy (fu : Nat) (n : Nat) : Kont := fun pc ls st w => none
set_option maxRecDepth 100000 in
set_option maxHeartbeats 4000000 in
theorem E_X7_failBy (fu : Nat) (a0 : Nat) (a1 : Int32) (w : XW) : M_X7_failBy fu a0 a1 w = ev T_X7_failBy (op_X7_failBy fu) [] (K_X7_failBy fu fu) 9 0 (lv_args 0 [.ref a0, .int a1]) [] w := by
  rfl
theorem D_X7_failBy (fu : Nat) : DS T_X7_failBy (op_X7_failBy fu) [] 9 (K_X7_failBy fu) := by
  refine ⟨fun pc ls st w => rfl, fun n pc ls st w o h => ?_⟩
  cases h
theorem H_X7_failBy (fu : Nat) : ∀ as w o, U_X7_failBy fu as w = some o → ∃ a r, as = .ref a :: r ∧ r.length = 1 ∧ isO w a 6 = true := by
  intro as w o h
  unfold U_X7_failBy at h
  split at h
  next =>
    split at h
    next hh => exact ⟨_, _, rfl, rfl, hh⟩
    next => cases h
  next => cases h
set_option maxRecDepth 100000 in
set_option maxHeartbeats 4000000 in
theorem S_X7_failBy (fu : Nat) {l : Launch} {D : va_G} {cA : Nat → ClassId} {base b : Nat} : CS l D cA base b 1 y_X7_failBy prog_1_method_40_code 2 (some .int) (U_X7_failBy fu) ∧ OM (U_X7_failBy fu) := by
  refine CS_of (d := 0) (y := y_X7_failBy) (cc := prog_1_method_40_code) (nL := 2) (ret := (some .int)) (F := U_X7_failBy fu) (fl := fl_BrookStones) (nl := nl_BrookStones) (kl := []) (k2 := []) (mv := []) (ms := []) (mi := []) (ini := false) hI_w fl_BrookStones_ok nl_BrookStones_ok nil_all nil_all
    (nil_all)
    (nil_all)
    (nil_all)
    (T := T_X7_failBy) (by decide +kernel) (cut := []) (N := 9) (D_X7_failBy fu) (by decide +kernel) (fun h => absurd h (by decide)) (fun as w o h => ?_)
  unfold U_X7_failBy at h
  split at h
  next =>
    split at h
    next => exact ⟨Nat.le_of_ble_eq_true rfl, fu, (E_X7_failBy fu _ _ w).symm.trans h⟩
    next => cases h
  next => cases h
def T_J7_rangeCheck_23922 : List (Nat × Instr) := [(0, .iload_n 1), (1, .iload_n 2), (2, .if_icmp .le 44), (5, .new 43), (8, .dup), (9, .new 45), (12, .dup), (13, .invokespecial 47), (16, .ldc 48), (18, .invokevirtual 50), (21, .iload_n 1), (22, .invokevirtual 54), (25, .ldc 57), (27, .invokevirtual 50), (30, .iload_n 2), (31, .invokevirtual 54), (34, .ldc 59), (36, .invokevirtual 50), (39, .invokevirtual 61), (42, .invokespecial 65), (45, .athrow), (46, .iload_n 1), (47, .ifCond .ge 12), (50, .new 68), (53, .dup), (54, .iload_n 1), (55, .invokespecial 70), (58, .athrow), (59, .iload_n 2), (60, .iload_n 0), (61, .if_icmp .le 12), (64, .new 68), (67, .dup), (68, .iload_n 2), (69, .invokespecial 70), (72, .athrow), (73, .return_)]
def op_J7_rangeCheck_23922 (fu : Nat) : Nat → Kont → XL → List Value → XW → Instr → Option XO := opK 3 (rzOf (none)) [] [] [] [] [] [] []
def M_J7_rangeCheck_23922 (fu : Nat) (a0 : Int32) (a1 : Int32) (a2 : Int32) (w : XW) : Option XO :=
  (if a2 < a1 then
    none
  else
    (if a1 < 0 then
      none
    else
      (if a0 < a2 then
        none
      else
        some (none, w))))
def U_J7_rangeCheck_23922 (fu : Nat) : Orc := fun as w => match as with
  | [.int a0, .int a1, .int a2] => M_J7_rangeCheck_23922 fu a0 a1 a2 w
  | _ => none
def K_J7_rangeCheck_23922 (fu : Nat) (n : Nat) : Kont := fun pc ls st w => none
set_option maxRecDepth 100000 in
set_option maxHeartbeats 4000000 in
theorem E_J7_rangeCheck_23922 (fu : Nat) (a0 : Int32) (a1 : Int32) (a2 : Int32) (w : XW) : M_J7_rangeCheck_23922 fu a0 a1 a2 w = ev T_J7_rangeCheck_23922 (op_J7_rangeCheck_23922 fu) [] (K_J7_rangeCheck_23922 fu fu) 39 0 (lv_args 0 [.int a0, .int a1, .int a2]) [] w := by
  rfl
theorem D_J7_rangeCheck_23922 (fu : Nat) : DS T_J7_rangeCheck_23922 (op_J7_rangeCheck_23922 fu) [] 39 (K_J7_rangeCheck_23922 fu) := by
  refine ⟨fun pc ls st w => rfl, fun n pc ls st w o h => ?_⟩
  cases h
set_option maxRecDepth 100000 in
set_option maxHeartbeats 4000000 in
theorem S_J7_rangeCheck_23922 (fu : Nat) {l : Launch} {D : va_G} {cA : Nat → ClassId} {base b : Nat} : CS l D cA base b 1 y_J7_rangeCheck_23922 prog_13_method_30_code 3 (none) (U_J7_rangeCheck_23922 fu) ∧ OM (U_J7_rangeCheck_23922 fu) := by
  refine CS_of (d := 0) (y := y_J7_rangeCheck_23922) (cc := prog_13_method_30_code) (nL := 3) (ret := (none)) (F := U_J7_rangeCheck_23922 fu) (fl := []) (nl := []) (kl := []) (k2 := []) (mv := []) (ms := []) (mi := []) (ini := false) hI_w nil_all nil_all nil_all nil_all
    (nil_all)
    (nil_all)
    (nil_all)
    (T := T_J7_rangeCheck_23922) (by decide +kernel) (cut := []) (N := 39) (D_J7_rangeCheck_23922 fu) (by decide +kernel) (fun h => absurd h (by decide)) (fun as w o h => ?_)
  unfold U_J7_rangeCheck_23922 at h
  split at h
  next =>
    exact ⟨Nat.le_of_ble_eq_true rfl, fu, (E_J7_rangeCheck_23922 fu _ _ _ w).symm.trans h⟩
  next => cases h
def T_J7_fill_fda19 : List (Nat × Instr) := [(0, .aload_n 0), (1, .arraylength), (2, .iload_n 1), (3, .iload_n 2), (4, .invokestatic 13), (7, .iload_n 1), (8, .istore 4), (10, .iload 4), (12, .iload_n 2), (13, .if_icmp .ge 14), (16, .aload_n 0), (17, .iload 4), (19, .iload_n 3), (20, .iastore), (21, .iinc 4 1), (24, .goto (-14)), (27, .return_)]
def op_J7_fill_fda19 (fu : Nat) : Nat → Kont → XL → List Value → XW → Instr → Option XO := opK 5 (rzOf (none)) [] [] [] [] [] [(13, 3, 0, (U_J7_rangeCheck_23922 fu))] []
def F_J7_fill_fda19 (fu : Nat) : Nat → (Nat → Int32 → Int32 → Int32 → XW → Option XO)
  | 0 => fun _ _ _ _ _ => none
  | n + 1 => (fun a0 a2 a3 a4 w =>
    (if a4 < a2 then
      (sI w a0 a4 a3).bind fun w1 =>
      (F_J7_fill_fda19 fu n) a0 a2 a3 (a4 + (1 : Int32)) w1
    else
      some (none, w)))
def M_J7_fill_fda19 (fu : Nat) (a0 : Nat) (a1 : Int32) (a2 : Int32) (a3 : Int32) (w : XW) : Option XO :=
  (aL w a0).bind fun x2 =>
  cV (U_J7_rangeCheck_23922 fu [.int x2, .int a1, .int a2] w) fun w3 =>
  (F_J7_fill_fda19 fu fu) a0 a2 a3 a1 w3
def U_J7_fill_fda19 (fu : Nat) : Orc := fun as w => match as with
  | [.ref a0, .int a1, .int a2, .int a3] => M_J7_fill_fda19 fu a0 a1 a2 a3 w
  | _ => none
def K_J7_fill_fda19 (fu : Nat) (n : Nat) : Kont := fun pc ls st w => bif pc == 10 then ((xr ls 0).bind fun a0 => (xi ls 2).bind fun a2 => (xi ls 3).bind fun a3 => (xi ls 4).bind fun a4 => skN st ((F_J7_fill_fda19 fu n) a0 a2 a3 a4 w)) else none
set_option maxRecDepth 100000 in
set_option maxHeartbeats 4000000 in
theorem E_J7_fill_fda19_10 (fu : Nat) (n : Nat) (a0 : Nat) (a2 : Int32) (a3 : Int32) (a4 : Int32) (w : XW) : (F_J7_fill_fda19 fu (n + 1)) a0 a2 a3 a4 w = ev T_J7_fill_fda19 (op_J7_fill_fda19 fu) [10] (K_J7_fill_fda19 fu n) 19 10 [(0, .ref a0), (2, .int a2), (3, .int a3), (4, .int a4)] [] w := by
  rfl
set_option maxRecDepth 100000 in
set_option maxHeartbeats 4000000 in
theorem E_J7_fill_fda19 (fu : Nat) (a0 : Nat) (a1 : Int32) (a2 : Int32) (a3 : Int32) (w : XW) : M_J7_fill_fda19 fu a0 a1 a2 a3 w = ev T_J7_fill_fda19 (op_J7_fill_fda19 fu) [10] (K_J7_fill_fda19 fu fu) 19 0 (lv_args 0 [.ref a0, .int a1, .int a2, .int a3]) [] w := by
  rfl
theorem D_J7_fill_fda19 (fu : Nat) : DS T_J7_fill_fda19 (op_J7_fill_fda19 fu) [10] 19 (K_J7_fill_fda19 fu) := by
  refine ⟨fun pc ls st w => c_none (b_none fun _ => b_none fun _ => b_none fun _ => b_none fun _ => skN_none rfl) (rfl), fun n pc ls st w o h => ?_⟩
  rcases c_some h with ⟨rfl, h⟩ | h
  · obtain ⟨a0, h0, h⟩ := some_of h; obtain ⟨a2, h2, h⟩ := some_of h; obtain ⟨a3, h3, h⟩ := some_of h; obtain ⟨a4, h4, h⟩ := some_of h;
    obtain ⟨e, g⟩ := skN_of h
    subst e
    exact ⟨[(0, .ref a0), (2, .int a2), (3, .int a3), (4, .int a4)], cons_all (xr_of h0) (cons_all (xi_of h2) (cons_all (xi_of h3) (cons_all (xi_of h4) (nil_all)))), (E_J7_fill_fda19_10 fu n a0 a2 a3 a4 w).symm.trans g⟩
  · cases h
set_option maxRecDepth 100000 in
set_option maxHeartbeats 4000000 in
theorem S_J7_fill_fda19 (fu : Nat) {l : Launch} {D : va_G} {cA : Nat → ClassId} {base b : Nat} : CS l D cA base b 2 y_J7_fill_fda19 prog_13_method_104_code 5 (none) (U_J7_fill_fda19 fu) ∧ OM (U_J7_fill_fda19 fu) := by
  refine CS_of (d := 1) (y := y_J7_fill_fda19) (cc := prog_13_method_104_code) (nL := 5) (ret := (none)) (F := U_J7_fill_fda19 fu) (fl := []) (nl := []) (kl := []) (k2 := []) (mv := []) (ms := [(13, 3, 0, (U_J7_rangeCheck_23922 fu))]) (mi := []) (ini := false) hI_w nil_all nil_all nil_all nil_all
    (nil_all)
    (cons_all (⟨Or.inl ⟨show (0 : Nat) ≠ 3 by decide, y_J7_rangeCheck_23922, prog_13_method_30_code, 3, (none), 1, "BrookStones", (S_J7_rangeCheck_23922 fu (l := l) (D := D) (cA := cA) (base := base) (b := b)).1, by decide, by decide, mi_J7_rangeCheck_23922.1, mi_J7_rangeCheck_23922.2.1, mi_J7_rangeCheck_23922.2.2.1, mi_J7_rangeCheck_23922.2.2.2, Or.inl (tblG_of (i := 434) rfl rfl)⟩, (S_J7_rangeCheck_23922 fu (l := l) (D := D) (cA := cA) (base := base) (b := b)).2⟩) (nil_all))
    (nil_all)
    (T := T_J7_fill_fda19) (by decide +kernel) (cut := [10]) (N := 19) (D_J7_fill_fda19 fu) (by decide +kernel) (fun h => absurd h (by decide)) (fun as w o h => ?_)
  unfold U_J7_fill_fda19 at h
  split at h
  next =>
    exact ⟨Nat.le_of_ble_eq_true rfl, fu, (E_J7_fill_fda19 fu _ _ _ _ w).symm.trans h⟩
  next => cases h
def T_X4_renew : List (Nat × Instr) := [(0, .aload_n 0), (1, .getfield 9), (4, .iload_n 1), (5, .iload_n 2), (6, .iastore), (7, .aload_n 0), (8, .getfield 15), (11, .iload_n 1), (12, .iload_n 3), (13, .iastore), (14, .iload_n 1), (15, .bipush 60), (17, .imul), (18, .istore 4), (20, .aload_n 0), (21, .getfield 18), (24, .iload 4), (26, .iload 4), (28, .iload_n 3), (29, .iadd), (30, .iconst 0), (31, .invokestatic 31), (34, .return_)]
def op_X4_renew (fu : Nat) : Nat → Kont → XL → List Value → XW → Instr → Option XO := opK 5 (rzOf (none)) fl_BrookStones_Sheets [] [] [] [] [(31, 4, 0, (U_J7_fill_fda19 fu))] []
def M_X4_renew (fu : Nat) (a0 : Nat) (a1 : Int32) (a2 : Int32) (a3 : Int32) (w : XW) : Option XO :=
  (gR w a0 4 0).bind fun r1 =>
  (sI w r1 a1 a2).bind fun w2 =>
  (gR w2 a0 4 1).bind fun r3 =>
  (sI w2 r3 a1 a3).bind fun w4 =>
  (gR w4 a0 4 2).bind fun r5 =>
  cV (U_J7_fill_fda19 fu [.ref r5, .int (a1 * (60 : Int32)), .int ((a1 * (60 : Int32)) + a3), .int (0 : Int32)] w4) fun w6 =>
  some (none, w6)
def U_X4_renew (fu : Nat) : Orc := fun as w => match as with
  | [.ref a0, .int a1, .int a2, .int a3] => if isO w a0 4 = true then M_X4_renew fu a0 a1 a2 a3 w else none
  | _ => none
def K_X4_renew (fu : Nat) (n : Nat) : Kont := fun pc ls st w => none
set_option maxRecDepth 100000 in
set_option maxHeartbeats 4000000 in
theorem E_X4_renew (fu : Nat) (a0 : Nat) (a1 : Int32) (a2 : Int32) (a3 : Int32) (w : XW) : M_X4_renew fu a0 a1 a2 a3 w = ev T_X4_renew (op_X4_renew fu) [] (K_X4_renew fu fu) 25 0 (lv_args 0 [.ref a0, .int a1, .int a2, .int a3]) [] w := by
  rfl
theorem D_X4_renew (fu : Nat) : DS T_X4_renew (op_X4_renew fu) [] 25 (K_X4_renew fu) := by
  refine ⟨fun pc ls st w => rfl, fun n pc ls st w o h => ?_⟩
  cases h
theorem H_X4_renew (fu : Nat) : ∀ as w o, U_X4_renew fu as w = some o → ∃ a r, as = .ref a :: r ∧ r.length = 3 ∧ isO w a 4 = true := by
  intro as w o h
  unfold U_X4_renew at h
  split at h
  next =>
    split at h
    next hh => exact ⟨_, _, rfl, rfl, hh⟩
    next => cases h
  next => cases h
set_option maxRecDepth 100000 in
set_option maxHeartbeats 4000000 in
theorem S_X4_renew (fu : Nat) {l : Launch} {D : va_G} {cA : Nat → ClassId} {base b : Nat} : CS l D cA base b 3 y_X4_renew prog_6_method_6_code 5 (none) (U_X4_renew fu) ∧ OM (U_X4_renew fu) := by
  refine CS_of (d := 2) (y := y_X4_renew) (cc := prog_6_method_6_code) (nL := 5) (ret := (none)) (F := U_X4_renew fu) (fl := fl_BrookStones_Sheets) (nl := []) (kl := []) (k2 := []) (mv := []) (ms := [(31, 4, 0, (U_J7_fill_fda19 fu))]) (mi := []) (ini := false) hI_w fl_BrookStones_Sheets_ok nil_all nil_all nil_all
    (nil_all)
    (cons_all (⟨Or.inl ⟨show (0 : Nat) ≠ 3 by decide, y_J7_fill_fda19, prog_13_method_104_code, 5, (none), 2, "BrookStones", (S_J7_fill_fda19 fu (l := l) (D := D) (cA := cA) (base := base) (b := b)).1, by decide, by decide, mi_J7_fill_fda19.1, mi_J7_fill_fda19.2.1, mi_J7_fill_fda19.2.2.1, mi_J7_fill_fda19.2.2.2, Or.inl (tblG_of (i := 431) rfl rfl)⟩, (S_J7_fill_fda19 fu (l := l) (D := D) (cA := cA) (base := base) (b := b)).2⟩) (nil_all))
    (nil_all)
    (T := T_X4_renew) (by decide +kernel) (cut := []) (N := 25) (D_X4_renew fu) (by decide +kernel) (fun h => absurd h (by decide)) (fun as w o h => ?_)
  unfold U_X4_renew at h
  split at h
  next =>
    split at h
    next => exact ⟨Nat.le_of_ble_eq_true rfl, fu, (E_X4_renew fu _ _ _ _ w).symm.trans h⟩
    next => cases h
  next => cases h
def T_X7_sheet : List (Nat × Instr) := [(0, .aload_n 0), (1, .iconst 0), (2, .putfield 53), (5, .iload_n 1), (6, .invokestatic 256), (9, .ifCond .ne 5), (12, .iconst (-1)), (13, .ireturn), (14, .iload_n 2), (15, .invokestatic 259), (18, .ifCond .eq 9), (21, .iload_n 3), (22, .bipush 60), (24, .if_icmp .le 6), (27, .bipush (-2)), (29, .ireturn), (30, .iload_n 3), (31, .ifCond .ge 9), (34, .aload_n 0), (35, .iconst 4), (36, .invokevirtual 262), (39, .ireturn), (40, .aload_n 0), (41, .getfield 21), (44, .iload_n 1), (45, .iload_n 2), (46, .iload_n 3), (47, .invokevirtual 265), (50, .iconst 1), (51, .ireturn)]
def op_X7_sheet (fu : Nat) : Nat → Kont → XL → List Value → XW → Instr → Option XO := opK 4 (rzOf (some .int)) fl_BrookStones nl_BrookStones [] [] [(262, 2, 1, (U_X7_failBy fu)), (265, 4, 0, (U_X4_renew fu))] [(256, 1, 1, (U_X4_isSheet fu)), (259, 1, 1, (U_X4_isSort fu))] []
def M_X7_sheet (fu : Nat) (a0 : Nat) (a1 : Int32) (a2 : Int32) (a3 : Int32) (w : XW) : Option XO :=
  (pF w a0 6 7 (.int (0 : Int32))).bind fun w1 =>
  cI (U_X4_isSheet fu [.int a1] w1) fun x3 w2 =>
  (if x3 = 0 then
    some (some (.int (-1 : Int32)), w2)
  else
    cI (U_X4_isSort fu [.int a2] w2) fun x5 w4 =>
    (if x5 = 0 then
      some (some (.int (-2 : Int32)), w4)
    else
      (if (60 : Int32) < a3 then
        some (some (.int (-2 : Int32)), w4)
      else
        (if a3 < 0 then
          cI (U_X7_failBy fu [.ref a0, .int (4 : Int32)] w4) fun x9 w8 =>
          some (some (.int x9), w8)
        else
          (gR w4 a0 6 1).bind fun r6 =>
          cV (U_X4_renew fu [.ref r6, .int a1, .int a2, .int a3] w4) fun w7 =>
          some (some (.int (1 : Int32)), w7)))))
def U_X7_sheet (fu : Nat) : Orc := fun as w => match as with
  | [.ref a0, .int a1, .int a2, .int a3] => if isO w a0 6 = true then M_X7_sheet fu a0 a1 a2 a3 w else none
  | _ => none
def K_X7_sheet (fu : Nat) (n : Nat) : Kont := fun pc ls st w => none
set_option maxRecDepth 100000 in
set_option maxHeartbeats 4000000 in
theorem E_X7_sheet (fu : Nat) (a0 : Nat) (a1 : Int32) (a2 : Int32) (a3 : Int32) (w : XW) : M_X7_sheet fu a0 a1 a2 a3 w = ev T_X7_sheet (op_X7_sheet fu) [] (K_X7_sheet fu fu) 32 0 (lv_args 0 [.ref a0, .int a1, .int a2, .int a3]) [] w := by
  rfl
theorem D_X7_sheet (fu : Nat) : DS T_X7_sheet (op_X7_sheet fu) [] 32 (K_X7_sheet fu) := by
  refine ⟨fun pc ls st w => rfl, fun n pc ls st w o h => ?_⟩
  cases h
theorem H_X7_sheet (fu : Nat) : ∀ as w o, U_X7_sheet fu as w = some o → ∃ a r, as = .ref a :: r ∧ r.length = 3 ∧ isO w a 6 = true := by
  intro as w o h
  unfold U_X7_sheet at h
  split at h
  next =>
    split at h
    next hh => exact ⟨_, _, rfl, rfl, hh⟩
    next => cases h
  next => cases h
set_option maxRecDepth 100000 in
set_option maxHeartbeats 4000000 in
theorem S_X7_sheet (fu : Nat) {l : Launch} {D : va_G} {cA : Nat → ClassId} {base b : Nat} : CS l D cA base b 4 y_X7_sheet prog_1_method_28_code 4 (some .int) (U_X7_sheet fu) ∧ OM (U_X7_sheet fu) := by
  refine CS_of (d := 3) (y := y_X7_sheet) (cc := prog_1_method_28_code) (nL := 4) (ret := (some .int)) (F := U_X7_sheet fu) (fl := fl_BrookStones) (nl := nl_BrookStones) (kl := []) (k2 := []) (mv := [(262, 2, 1, (U_X7_failBy fu)), (265, 4, 0, (U_X4_renew fu))]) (ms := [(256, 1, 1, (U_X4_isSheet fu)), (259, 1, 1, (U_X4_isSort fu))]) (mi := []) (ini := false) hI_w fl_BrookStones_ok nl_BrookStones_ok nil_all nil_all
    (cons_all (⟨⟨show (1 : Nat) ≠ 3 by decide, y_X7_failBy, prog_1_method_40_code, 2, (some .int), 1, "BrookStones", 6, TX7, 8, 1, (S_X7_failBy fu (l := l) (D := D) (cA := cA) (base := base) (b := b)).1, by decide, by decide, rfl, H_X7_failBy fu, rfl, mi_X7_failBy.1, mi_X7_failBy.2.1, mi_X7_failBy.2.2.1, mi_X7_failBy.2.2.2.1, mi_X7_failBy.2.2.2.2, Or.inl (tblG_of (i := 248) rfl rfl)⟩, (S_X7_failBy fu (l := l) (D := D) (cA := cA) (base := base) (b := b)).2⟩) (cons_all (⟨⟨show (0 : Nat) ≠ 3 by decide, y_X4_renew, prog_6_method_6_code, 5, (none), 3, "BrookStones", 4, TX4, 3, 3, (S_X4_renew fu (l := l) (D := D) (cA := cA) (base := base) (b := b)).1, by decide, by decide, rfl, H_X4_renew fu, rfl, mi_X4_renew.1, mi_X4_renew.2.1, mi_X4_renew.2.2.1, mi_X4_renew.2.2.2.1, mi_X4_renew.2.2.2.2, Or.inr (tblN_of (i := 427) rfl rfl)⟩, (S_X4_renew fu (l := l) (D := D) (cA := cA) (base := base) (b := b)).2⟩) (nil_all)))
    (cons_all (⟨Or.inl ⟨show (1 : Nat) ≠ 3 by decide, y_X4_isSheet, prog_6_method_2_code, 1, (some .boolean), 2, "BrookStones", (S_X4_isSheet fu (l := l) (D := D) (cA := cA) (base := base) (b := b)).1, by decide, by decide, mi_X4_isSheet.1, mi_X4_isSheet.2.1, mi_X4_isSheet.2.2.1, mi_X4_isSheet.2.2.2, Or.inr (tblN_of (i := 227) rfl rfl)⟩, (S_X4_isSheet fu (l := l) (D := D) (cA := cA) (base := base) (b := b)).2⟩) (cons_all (⟨Or.inl ⟨show (1 : Nat) ≠ 3 by decide, y_X4_isSort, prog_6_method_3_code, 1, (some .boolean), 2, "BrookStones", (S_X4_isSort fu (l := l) (D := D) (cA := cA) (base := base) (b := b)).1, by decide, by decide, mi_X4_isSort.1, mi_X4_isSort.2.1, mi_X4_isSort.2.2.1, mi_X4_isSort.2.2.2, Or.inr (tblN_of (i := 233) rfl rfl)⟩, (S_X4_isSort fu (l := l) (D := D) (cA := cA) (base := base) (b := b)).2⟩) (nil_all)))
    (nil_all)
    (T := T_X7_sheet) (by decide +kernel) (cut := []) (N := 32) (D_X7_sheet fu) (by decide +kernel) (fun h => absurd h (by decide)) (fun as w o h => ?_)
  unfold U_X7_sheet at h
  split at h
  next =>
    split at h
    next => exact ⟨Nat.le_of_ble_eq_true rfl, fu, (E_X7_sheet fu _ _ _ _ w).symm.trans h⟩
    next => cases h
  next => cases h
def T_X4_isThere : List (Nat × Instr) := [(0, .aload_n 0), (1, .getfield 15), (4, .iload_n 1), (5, .iaload), (6, .iconst (-1)), (7, .if_icmp .eq 7), (10, .iconst 1), (11, .goto 4), (14, .iconst 0), (15, .ireturn)]
def op_X4_isThere (fu : Nat) : Nat → Kont → XL → List Value → XW → Instr → Option XO := opK 2 (rzOf (some .boolean)) fl_BrookStones_Sheets [] [] [] [] [] []
def M_X4_isThere (fu : Nat) (a0 : Nat) (a1 : Int32) (w : XW) : Option XO :=
  (gR w a0 4 1).bind fun r1 =>
  (aI w r1 a1).bind fun x2 =>
  (if x2 = (-1 : Int32) then
    retZ (0 : Int32) w
  else
    retZ (1 : Int32) w)
def U_X4_isThere (fu : Nat) : Orc := fun as w => match as with
  | [.ref a0, .int a1] => if isO w a0 4 = true then M_X4_isThere fu a0 a1 w else none
  | _ => none
def K_X4_isThere (fu : Nat) (n : Nat) : Kont := fun pc ls st w => none
set_option maxRecDepth 100000 in
set_option maxHeartbeats 4000000 in
theorem E_X4_isThere (fu : Nat) (a0 : Nat) (a1 : Int32) (w : XW) : M_X4_isThere fu a0 a1 w = ev T_X4_isThere (op_X4_isThere fu) [] (K_X4_isThere fu fu) 12 0 (lv_args 0 [.ref a0, .int a1]) [] w := by
  rfl
theorem D_X4_isThere (fu : Nat) : DS T_X4_isThere (op_X4_isThere fu) [] 12 (K_X4_isThere fu) := by
  refine ⟨fun pc ls st w => rfl, fun n pc ls st w o h => ?_⟩
  cases h
theorem H_X4_isThere (fu : Nat) : ∀ as w o, U_X4_isThere fu as w = some o → ∃ a r, as = .ref a :: r ∧ r.length = 1 ∧ isO w a 4 = true := by
  intro as w o h
  unfold U_X4_isThere at h
  split at h
  next =>
    split at h
    next hh => exact ⟨_, _, rfl, rfl, hh⟩
    next => cases h
  next => cases h
set_option maxRecDepth 100000 in
set_option maxHeartbeats 4000000 in
theorem S_X4_isThere (fu : Nat) {l : Launch} {D : va_G} {cA : Nat → ClassId} {base b : Nat} : CS l D cA base b 1 y_X4_isThere prog_6_method_4_code 2 (some .boolean) (U_X4_isThere fu) ∧ OM (U_X4_isThere fu) := by
  refine CS_of (d := 0) (y := y_X4_isThere) (cc := prog_6_method_4_code) (nL := 2) (ret := (some .boolean)) (F := U_X4_isThere fu) (fl := fl_BrookStones_Sheets) (nl := []) (kl := []) (k2 := []) (mv := []) (ms := []) (mi := []) (ini := false) hI_w fl_BrookStones_Sheets_ok nil_all nil_all nil_all
    (nil_all)
    (nil_all)
    (nil_all)
    (T := T_X4_isThere) (by decide +kernel) (cut := []) (N := 12) (D_X4_isThere fu) (by decide +kernel) (fun h => absurd h (by decide)) (fun as w o h => ?_)
  unfold U_X4_isThere at h
  split at h
  next =>
    split at h
    next => exact ⟨Nat.le_of_ble_eq_true rfl, fu, (E_X4_isThere fu _ _ w).symm.trans h⟩
    next => cases h
  next => cases h
def T_X4_cut : List (Nat × Instr) := [(0, .iload_n 1), (1, .lookupswitch 33 #[(0, 27), (1, 30)]), (28, .iload_n 0), (29, .i2b), (30, .ireturn), (31, .iload_n 0), (32, .i2s), (33, .ireturn), (34, .iload_n 0), (35, .ireturn)]
def op_X4_cut (fu : Nat) : Nat → Kont → XL → List Value → XW → Instr → Option XO := opK 2 (rzOf (some .int)) fl_BrookStones_Sheets [] [] [] [] [] []
def M_X4_cut (fu : Nat) (a0 : Int32) (a1 : Int32) (w : XW) : Option XO :=
  (if a1 = (0 : Int32) then
    some (some (.int (Int8.toInt32 (Int32.toInt8 a0))), w)
  else
  (if a1 = (1 : Int32) then
    some (some (.int (Int16.toInt32 (Int32.toInt16 a0))), w)
  else
  some (some (.int a0), w)))
def U_X4_cut (fu : Nat) : Orc := fun as w => match as with
  | [.int a0, .int a1] => M_X4_cut fu a0 a1 w
  | _ => none
def K_X4_cut (fu : Nat) (n : Nat) : Kont := fun pc ls st w => none
set_option maxRecDepth 100000 in
set_option maxHeartbeats 4000000 in
theorem E_X4_cut (fu : Nat) (a0 : Int32) (a1 : Int32) (w : XW) : M_X4_cut fu a0 a1 w = ev T_X4_cut (op_X4_cut fu) [] (K_X4_cut fu fu) 12 0 (lv_args 0 [.int a0, .int a1]) [] w := by
  rfl
theorem D_X4_cut (fu : Nat) : DS T_X4_cut (op_X4_cut fu) [] 12 (K_X4_cut fu) := by
  refine ⟨fun pc ls st w => rfl, fun n pc ls st w o h => ?_⟩
  cases h
set_option maxRecDepth 100000 in
set_option maxHeartbeats 4000000 in
theorem S_X4_cut (fu : Nat) {l : Launch} {D : va_G} {cA : Nat → ClassId} {base b : Nat} : CS l D cA base b 1 y_X4_cut prog_6_method_9_code 2 (some .int) (U_X4_cut fu) ∧ OM (U_X4_cut fu) := by
  refine CS_of (d := 0) (y := y_X4_cut) (cc := prog_6_method_9_code) (nL := 2) (ret := (some .int)) (F := U_X4_cut fu) (fl := fl_BrookStones_Sheets) (nl := []) (kl := []) (k2 := []) (mv := []) (ms := []) (mi := []) (ini := false) hI_w fl_BrookStones_Sheets_ok nil_all nil_all nil_all
    (nil_all)
    (nil_all)
    (nil_all)
    (T := T_X4_cut) (by decide +kernel) (cut := []) (N := 12) (D_X4_cut fu) (by decide +kernel) (fun h => absurd h (by decide)) (fun as w o h => ?_)
  unfold U_X4_cut at h
  split at h
  next =>
    exact ⟨Nat.le_of_ble_eq_true rfl, fu, (E_X4_cut fu _ _ w).symm.trans h⟩
  next => cases h
def T_X4_write : List (Nat × Instr) := [(0, .aload_n 0), (1, .getfield 18), (4, .iload_n 1), (5, .bipush 60), (7, .imul), (8, .iload_n 2), (9, .iadd), (10, .iload_n 3), (11, .aload_n 0), (12, .getfield 9), (15, .iload_n 1), (16, .iaload), (17, .invokestatic 34), (20, .iastore), (21, .return_)]
def op_X4_write (fu : Nat) : Nat → Kont → XL → List Value → XW → Instr → Option XO := opK 4 (rzOf (none)) fl_BrookStones_Sheets [] [] [] [] [(34, 2, 1, (U_X4_cut fu))] []
def M_X4_write (fu : Nat) (a0 : Nat) (a1 : Int32) (a2 : Int32) (a3 : Int32) (w : XW) : Option XO :=
  (gR w a0 4 2).bind fun r1 =>
  (gR w a0 4 0).bind fun r2 =>
  (aI w r2 a1).bind fun x3 =>
  cI (U_X4_cut fu [.int a3, .int x3] w) fun x5 w4 =>
  (sI w4 r1 ((a1 * (60 : Int32)) + a2) x5).bind fun w6 =>
  some (none, w6)
def U_X4_write (fu : Nat) : Orc := fun as w => match as with
  | [.ref a0, .int a1, .int a2, .int a3] => if isO w a0 4 = true then M_X4_write fu a0 a1 a2 a3 w else none
  | _ => none
def K_X4_write (fu : Nat) (n : Nat) : Kont := fun pc ls st w => none
set_option maxRecDepth 100000 in
set_option maxHeartbeats 4000000 in
theorem E_X4_write (fu : Nat) (a0 : Nat) (a1 : Int32) (a2 : Int32) (a3 : Int32) (w : XW) : M_X4_write fu a0 a1 a2 a3 w = ev T_X4_write (op_X4_write fu) [] (K_X4_write fu fu) 17 0 (lv_args 0 [.ref a0, .int a1, .int a2, .int a3]) [] w := by
  rfl
theorem D_X4_write (fu : Nat) : DS T_X4_write (op_X4_write fu) [] 17 (K_X4_write fu) := by
  refine ⟨fun pc ls st w => rfl, fun n pc ls st w o h => ?_⟩
  cases h
theorem H_X4_write (fu : Nat) : ∀ as w o, U_X4_write fu as w = some o → ∃ a r, as = .ref a :: r ∧ r.length = 3 ∧ isO w a 4 = true := by
  intro as w o h
  unfold U_X4_write at h
  split at h
  next =>
    split at h
    next hh => exact ⟨_, _, rfl, rfl, hh⟩
    next => cases h
  next => cases h
set_option maxRecDepth 100000 in
set_option maxHeartbeats 4000000 in
theorem S_X4_write (fu : Nat) {l : Launch} {D : va_G} {cA : Nat → ClassId} {base b : Nat} : CS l D cA base b 2 y_X4_write prog_6_method_8_code 4 (none) (U_X4_write fu) ∧ OM (U_X4_write fu) := by
  refine CS_of (d := 1) (y := y_X4_write) (cc := prog_6_method_8_code) (nL := 4) (ret := (none)) (F := U_X4_write fu) (fl := fl_BrookStones_Sheets) (nl := []) (kl := []) (k2 := []) (mv := []) (ms := [(34, 2, 1, (U_X4_cut fu))]) (mi := []) (ini := false) hI_w fl_BrookStones_Sheets_ok nil_all nil_all nil_all
    (nil_all)
    (cons_all (⟨Or.inl ⟨show (1 : Nat) ≠ 3 by decide, y_X4_cut, prog_6_method_9_code, 2, (some .int), 1, "BrookStones", (S_X4_cut fu (l := l) (D := D) (cA := cA) (base := base) (b := b)).1, by decide, by decide, mi_X4_cut.1, mi_X4_cut.2.1, mi_X4_cut.2.2.1, mi_X4_cut.2.2.2, Or.inl (tblG_of (i := 446) rfl rfl)⟩, (S_X4_cut fu (l := l) (D := D) (cA := cA) (base := base) (b := b)).2⟩) (nil_all))
    (nil_all)
    (T := T_X4_write) (by decide +kernel) (cut := []) (N := 17) (D_X4_write fu) (by decide +kernel) (fun h => absurd h (by decide)) (fun as w o h => ?_)
  unfold U_X4_write at h
  split at h
  next =>
    split at h
    next => exact ⟨Nat.le_of_ble_eq_true rfl, fu, (E_X4_write fu _ _ _ _ w).symm.trans h⟩
    next => cases h
  next => cases h
def T_X7_put : List (Nat × Instr) := [(0, .aload_n 0), (1, .iconst 0), (2, .putfield 53), (5, .iload_n 1), (6, .invokestatic 256), (9, .ifCond .ne 5), (12, .iconst (-1)), (13, .ireturn), (14, .aload_n 0), (15, .getfield 21), (18, .iload_n 1), (19, .invokevirtual 269), (22, .ifCond .ne 9), (25, .aload_n 0), (26, .iconst 1), (27, .invokevirtual 262), (30, .ireturn), (31, .iload_n 2), (32, .iconst 0), (33, .aload_n 0), (34, .getfield 21), (37, .getfield 274), (40, .iload_n 1), (41, .iaload), (42, .iconst 1), (43, .isub), (44, .invokestatic 105), (47, .ifCond .ne 9), (50, .aload_n 0), (51, .iconst 3), (52, .invokevirtual 262), (55, .ireturn), (56, .aload_n 0), (57, .getfield 21), (60, .iload_n 1), (61, .iload_n 2), (62, .iload_n 3), (63, .invokevirtual 277), (66, .iconst 1), (67, .ireturn)]
def op_X7_put (fu : Nat) : Nat → Kont → XL → List Value → XW → Instr → Option XO := opK 4 (rzOf (some .int)) fl_BrookStones nl_BrookStones [] [] [(269, 2, 1, (U_X4_isThere fu)), (262, 2, 1, (U_X7_failBy fu)), (277, 4, 0, (U_X4_write fu))] [(256, 1, 1, (U_X4_isSheet fu)), (105, 3, 1, (U_X7_isWithin fu))] []
def M_X7_put (fu : Nat) (a0 : Nat) (a1 : Int32) (a2 : Int32) (a3 : Int32) (w : XW) : Option XO :=
  (pF w a0 6 7 (.int (0 : Int32))).bind fun w1 =>
  cI (U_X4_isSheet fu [.int a1] w1) fun x3 w2 =>
  (if x3 = 0 then
    some (some (.int (-1 : Int32)), w2)
  else
    (gR w2 a0 6 1).bind fun r4 =>
    cI (U_X4_isThere fu [.ref r4, .int a1] w2) fun x6 w5 =>
    (if x6 = 0 then
      cI (U_X7_failBy fu [.ref a0, .int (1 : Int32)] w5) fun x17 w16 =>
      some (some (.int x17), w16)
    else
      (gR w5 a0 6 1).bind fun r7 =>
      (gR w5 r7 4 1).bind fun r8 =>
      (aI w5 r8 a1).bind fun x9 =>
      cI (U_X7_isWithin fu [.int a2, .int (0 : Int32), .int (x9 - (1 : Int32))] w5) fun x11 w10 =>
      (if x11 = 0 then
        cI (U_X7_failBy fu [.ref a0, .int (3 : Int32)] w10) fun x15 w14 =>
        some (some (.int x15), w14)
      else
        (gR w10 a0 6 1).bind fun r12 =>
        cV (U_X4_write fu [.ref r12, .int a1, .int a2, .int a3] w10) fun w13 =>
        some (some (.int (1 : Int32)), w13))))
def U_X7_put (fu : Nat) : Orc := fun as w => match as with
  | [.ref a0, .int a1, .int a2, .int a3] => if isO w a0 6 = true then M_X7_put fu a0 a1 a2 a3 w else none
  | _ => none
def K_X7_put (fu : Nat) (n : Nat) : Kont := fun pc ls st w => none
set_option maxRecDepth 100000 in
set_option maxHeartbeats 4000000 in
theorem E_X7_put (fu : Nat) (a0 : Nat) (a1 : Int32) (a2 : Int32) (a3 : Int32) (w : XW) : M_X7_put fu a0 a1 a2 a3 w = ev T_X7_put (op_X7_put fu) [] (K_X7_put fu fu) 42 0 (lv_args 0 [.ref a0, .int a1, .int a2, .int a3]) [] w := by
  rfl
theorem D_X7_put (fu : Nat) : DS T_X7_put (op_X7_put fu) [] 42 (K_X7_put fu) := by
  refine ⟨fun pc ls st w => rfl, fun n pc ls st w o h => ?_⟩
  cases h
theorem H_X7_put (fu : Nat) : ∀ as w o, U_X7_put fu as w = some o → ∃ a r, as = .ref a :: r ∧ r.length = 3 ∧ isO w a 6 = true := by
  intro as w o h
  unfold U_X7_put at h
  split at h
  next =>
    split at h
    next hh => exact ⟨_, _, rfl, rfl, hh⟩
    next => cases h
  next => cases h
set_option maxRecDepth 100000 in
set_option maxHeartbeats 4000000 in
theorem S_X7_put (fu : Nat) {l : Launch} {D : va_G} {cA : Nat → ClassId} {base b : Nat} : CS l D cA base b 3 y_X7_put prog_1_method_30_code 4 (some .int) (U_X7_put fu) ∧ OM (U_X7_put fu) := by
  refine CS_of (d := 2) (y := y_X7_put) (cc := prog_1_method_30_code) (nL := 4) (ret := (some .int)) (F := U_X7_put fu) (fl := fl_BrookStones) (nl := nl_BrookStones) (kl := []) (k2 := []) (mv := [(269, 2, 1, (U_X4_isThere fu)), (262, 2, 1, (U_X7_failBy fu)), (277, 4, 0, (U_X4_write fu))]) (ms := [(256, 1, 1, (U_X4_isSheet fu)), (105, 3, 1, (U_X7_isWithin fu))]) (mi := []) (ini := false) hI_w fl_BrookStones_ok nl_BrookStones_ok nil_all nil_all
    (cons_all (⟨⟨show (1 : Nat) ≠ 3 by decide, y_X4_isThere, prog_6_method_4_code, 2, (some .boolean), 1, "BrookStones", 4, TX4, 3, 1, (S_X4_isThere fu (l := l) (D := D) (cA := cA) (base := base) (b := b)).1, by decide, by decide, rfl, H_X4_isThere fu, rfl, mi_X4_isThere.1, mi_X4_isThere.2.1, mi_X4_isThere.2.2.1, mi_X4_isThere.2.2.2.1, mi_X4_isThere.2.2.2.2, Or.inr (tblN_of (i := 441) rfl rfl)⟩, (S_X4_isThere fu (l := l) (D := D) (cA := cA) (base := base) (b := b)).2⟩) (cons_all (⟨⟨show (1 : Nat) ≠ 3 by decide, y_X7_failBy, prog_1_method_40_code, 2, (some .int), 1, "BrookStones", 6, TX7, 8, 1, (S_X7_failBy fu (l := l) (D := D) (cA := cA) (base := base) (b := b)).1, by decide, by decide, rfl, H_X7_failBy fu, rfl, mi_X7_failBy.1, mi_X7_failBy.2.1, mi_X7_failBy.2.2.1, mi_X7_failBy.2.2.2.1, mi_X7_failBy.2.2.2.2, Or.inl (tblG_of (i := 248) rfl rfl)⟩, (S_X7_failBy fu (l := l) (D := D) (cA := cA) (base := base) (b := b)).2⟩) (cons_all (⟨⟨show (0 : Nat) ≠ 3 by decide, y_X4_write, prog_6_method_8_code, 4, (none), 2, "BrookStones", 4, TX4, 3, 3, (S_X4_write fu (l := l) (D := D) (cA := cA) (base := base) (b := b)).1, by decide, by decide, rfl, H_X4_write fu, rfl, mi_X4_write.1, mi_X4_write.2.1, mi_X4_write.2.2.1, mi_X4_write.2.2.2.1, mi_X4_write.2.2.2.2, Or.inr (tblN_of (i := 442) rfl rfl)⟩, (S_X4_write fu (l := l) (D := D) (cA := cA) (base := base) (b := b)).2⟩) (nil_all))))
    (cons_all (⟨Or.inl ⟨show (1 : Nat) ≠ 3 by decide, y_X4_isSheet, prog_6_method_2_code, 1, (some .boolean), 2, "BrookStones", (S_X4_isSheet fu (l := l) (D := D) (cA := cA) (base := base) (b := b)).1, by decide, by decide, mi_X4_isSheet.1, mi_X4_isSheet.2.1, mi_X4_isSheet.2.2.1, mi_X4_isSheet.2.2.2, Or.inr (tblN_of (i := 227) rfl rfl)⟩, (S_X4_isSheet fu (l := l) (D := D) (cA := cA) (base := base) (b := b)).2⟩) (cons_all (⟨Or.inl ⟨show (1 : Nat) ≠ 3 by decide, y_X7_isWithin, prog_1_method_46_code, 3, (some .boolean), 1, "BrookStones", (S_X7_isWithin fu (l := l) (D := D) (cA := cA) (base := base) (b := b)).1, by decide, by decide, mi_X7_isWithin.1, mi_X7_isWithin.2.1, mi_X7_isWithin.2.2.1, mi_X7_isWithin.2.2.2, Or.inl (tblG_of (i := 304) rfl rfl)⟩, (S_X7_isWithin fu (l := l) (D := D) (cA := cA) (base := base) (b := b)).2⟩) (nil_all)))
    (nil_all)
    (T := T_X7_put) (by decide +kernel) (cut := []) (N := 42) (D_X7_put fu) (by decide +kernel) (fun h => absurd h (by decide)) (fun as w o h => ?_)
  unfold U_X7_put at h
  split at h
  next =>
    split at h
    next => exact ⟨Nat.le_of_ble_eq_true rfl, fu, (E_X7_put fu _ _ _ _ w).symm.trans h⟩
    next => cases h
  next => cases h
def T_L_put : List (Nat × Instr) := [(0, .aload_n 1), (1, .iload_n 2), (2, .invokestatic 9), (5, .istore 5), (7, .aload 4), (9, .iconst 0), (10, .iconst 3), (11, .iload 5), (13, .iload_n 3), (14, .iconst 2), (15, .isub), (16, .invokestatic 15), (19, .iadd), (20, .iastore), (21, .aload 4), (23, .iconst 1), (24, .iload 5), (26, .iconst 4), (27, .ishr), (28, .iload 5), (30, .bipush 8), (32, .ishr), (33, .iconst 2), (34, .invokestatic 15), (37, .ifCond .ne 8), (40, .bipush 10), (42, .goto 4), (45, .iconst 3), (46, .invokestatic 15), (49, .iastore), (50, .aload_n 0), (51, .iconst 0), (52, .iconst 0), (53, .bipush 30), (55, .invokevirtual 19), (58, .iconst 1), (59, .if_icmp .ne 15), (62, .aload_n 0), (63, .iconst 0), (64, .iconst 0), (65, .bipush 100), (67, .invokevirtual 25), (70, .iconst 1), (71, .if_icmp .eq 6), (74, .bipush (-99)), (76, .ireturn), (77, .iconst 1), (78, .istore 6), (80, .iconst 0), (81, .istore 7), (83, .iload 7), (85, .aload 4), (87, .iconst 0), (88, .iaload), (89, .if_icmp .ge 76), (92, .aload 4), (94, .iconst 2), (95, .iload 7), (97, .iadd), (98, .aload_n 1), (99, .iload_n 2), (100, .iconst 1), (101, .iadd), (102, .invokestatic 9), (105, .iconst 4), (106, .iload 7), (108, .imul), (109, .ishr), (110, .iload 5), (112, .bipush 9), (114, .ishr), (115, .iconst 2), (116, .invokestatic 15), (119, .ifCond .ne 8), (122, .bipush 10), (124, .goto 4), (127, .iconst 4), (128, .invokestatic 15), (131, .iastore), (132, .aload_n 0), (133, .iconst 0), (134, .iload 6), (136, .iinc 6 1), (139, .bipush 48), (141, .aload 4), (143, .iconst 2), (144, .iload 7), (146, .iadd), (147, .iaload), (148, .iadd), (149, .invokevirtual 25), (152, .iconst 1), (153, .if_icmp .eq 6), (156, .bipush (-99)), (158, .ireturn), (159, .iinc 7 1), (162, .goto (-79)), (165, .aload_n 0), (166, .iconst 0), (167, .iload 6), (169, .iinc 6 1), (172, .bipush 59), (174, .invokevirtual 25), (177, .iconst 1), (178, .if_icmp .ne 19), (181, .aload_n 0), (182, .iconst 0), (183, .iload 6), (185, .iinc 6 1), (188, .bipush 98), (190, .invokevirtual 25), (193, .iconst 1), (194, .if_icmp .eq 6), (197, .bipush (-99)), (199, .ireturn), (200, .iconst 0), (201, .istore 7), (203, .iload 7), (205, .aload 4), (207, .iconst 0), (208, .iaload), (209, .if_icmp .ge 78), (212, .aload 4), (214, .bipush 9), (216, .iload 7), (218, .iadd), (219, .aload_n 1), (220, .iload_n 2), (221, .iconst 2), (222, .iadd), (223, .invokestatic 9), (226, .iconst 4), (227, .iload 7), (229, .imul), (230, .ishr), (231, .iload 5), (233, .bipush 10), (235, .ishr), (236, .iconst 2), (237, .invokestatic 15), (240, .ifCond .ne 8), (243, .bipush 10), (245, .goto 4), (248, .iconst 4), (249, .invokestatic 15), (252, .iastore), (253, .aload_n 0), (254, .iconst 0), (255, .iload 6), (257, .iinc 6 1), (260, .bipush 48), (262, .aload 4), (264, .bipush 9), (266, .iload 7), (268, .iadd), (269, .iaload), (270, .iadd), (271, .invokevirtual 25), (274, .iconst 1), (275, .if_icmp .eq 6), (278, .bipush (-99)), (280, .ireturn), (281, .iinc 7 1), (284, .goto (-81)), (287, .aload_n 0), (288, .iconst 0), (289, .iload 6), (291, .iinc 6 1), (294, .bipush 59), (296, .invokevirtual 25), (299, .iconst 1), (300, .if_icmp .ne 40), (303, .aload_n 0), (304, .iconst 0), (305, .iload 6), (307, .iinc 6 1), (310, .bipush 112), (312, .invokevirtual 25), (315, .iconst 1), (316, .if_icmp .ne 24), (319, .aload_n 0), (320, .iconst 0), (321, .iload 6), (323, .iinc 6 1), (326, .bipush 48), (328, .aload 4), (330, .iconst 1), (331, .iaload), (332, .iadd), (333, .invokevirtual 25), (336, .iconst 1), (337, .if_icmp .eq 6), (340, .bipush (-99)), (342, .ireturn), (343, .iload 6), (345, .ireturn)]
def op_L_put (fu : Nat) : Nat → Kont → XL → List Value → XW → Instr → Option XO := opK 8 (rzOf (some .int)) [] nl_BrookStonesLaw kl_BrookStonesLaw [] [(19, 4, 1, (U_X7_sheet fu)), (25, 4, 1, (U_X7_put fu))] [(9, 2, 1, (U_L_cell fu)), (15, 2, 1, (U_L_some fu))] []
def F_L_put (fu : Nat) : Nat → (Nat → Nat → Int32 → Nat → Int32 → Int32 → Int32 → Int32 → Nat → XW → Option XO) × (Nat → Nat → Int32 → Nat → Int32 → Int32 → Int32 → XW → Option XO) × (Nat → Nat → Int32 → Nat → Int32 → Int32 → Int32 → Int32 → Int32 → Int32 → Nat → XW → Option XO) × (Nat → Nat → Int32 → Nat → Int32 → Int32 → Int32 → XW → Option XO) × (Nat → Nat → Int32 → Nat → Int32 → Int32 → Int32 → Int32 → Int32 → Int32 → Nat → XW → Option XO)
  | 0 => (fun _ _ _ _ _ _ _ _ _ _ => none, fun _ _ _ _ _ _ _ _ => none, fun _ _ _ _ _ _ _ _ _ _ _ _ => none, fun _ _ _ _ _ _ _ _ => none, fun _ _ _ _ _ _ _ _ _ _ _ _ => none)
  | n + 1 => ((fun a0 a1 a2 a4 a5 s0 s1 s2 s3 w =>
    cI (U_L_some fu [.int s1, .int s0] w) fun x2 w1 =>
    (sI w1 s3 s2 x2).bind fun w3 =>
    cI (U_X7_sheet fu [.ref a0, .int (0 : Int32), .int (0 : Int32), .int (30 : Int32)] w3) fun x5 w4 =>
    (if x5 = (1 : Int32) then
      cI (U_X7_put fu [.ref a0, .int (0 : Int32), .int (0 : Int32), .int (100 : Int32)] w4) fun x7 w6 =>
      (if x7 = (1 : Int32) then
        (F_L_put fu n).2.1 a0 a1 a2 a4 a5 (1 : Int32) (0 : Int32) w6
      else
        some (some (.int (-99 : Int32)), w6))
    else
      some (some (.int (-99 : Int32)), w4))),
   (fun a0 a1 a2 a4 a5 a6 a7 w =>
    (aI w a4 (0 : Int32)).bind fun x8 =>
    (if a7 < x8 then
      cI (U_L_cell fu [.ref a1, .int (a2 + (1 : Int32))] w) fun x14 w13 =>
      cI (U_L_some fu [.int (a5 >>> ((9 : Int32) &&& 31)), .int (2 : Int32)] w13) fun x16 w15 =>
      (if x16 = 0 then
        (F_L_put fu n).2.2.1 a0 a1 a2 a4 a5 a6 a7 (10 : Int32) (x14 >>> (((4 : Int32) * a7) &&& 31)) ((2 : Int32) + a7) a4 w15
      else
        (F_L_put fu n).2.2.1 a0 a1 a2 a4 a5 a6 a7 (4 : Int32) (x14 >>> (((4 : Int32) * a7) &&& 31)) ((2 : Int32) + a7) a4 w15)
    else
      cI (U_X7_put fu [.ref a0, .int (0 : Int32), .int a6, .int (59 : Int32)] w) fun x10 w9 =>
      (if x10 = (1 : Int32) then
        cI (U_X7_put fu [.ref a0, .int (0 : Int32), .int (a6 + (1 : Int32)), .int (98 : Int32)] w9) fun x12 w11 =>
        (if x12 = (1 : Int32) then
          (F_L_put fu n).2.2.2.1 a0 a1 a2 a4 a5 ((a6 + (1 : Int32)) + (1 : Int32)) (0 : Int32) w11
        else
          some (some (.int (-99 : Int32)), w11))
      else
        some (some (.int (-99 : Int32)), w9)))),
   (fun a0 a1 a2 a4 a5 a6 a7 s0 s1 s2 s3 w =>
    cI (U_L_some fu [.int s1, .int s0] w) fun x18 w17 =>
    (sI w17 s3 s2 x18).bind fun w19 =>
    (aI w19 a4 ((2 : Int32) + a7)).bind fun x20 =>
    cI (U_X7_put fu [.ref a0, .int (0 : Int32), .int a6, .int ((48 : Int32) + x20)] w19) fun x22 w21 =>
    (if x22 = (1 : Int32) then
      (F_L_put fu n).2.1 a0 a1 a2 a4 a5 (a6 + (1 : Int32)) (a7 + (1 : Int32)) w21
    else
      some (some (.int (-99 : Int32)), w21))),
   (fun a0 a1 a2 a4 a5 a6 a7 w =>
    (aI w a4 (0 : Int32)).bind fun x23 =>
    (if a7 < x23 then
      cI (U_L_cell fu [.ref a1, .int (a2 + (2 : Int32))] w) fun x32 w31 =>
      cI (U_L_some fu [.int (a5 >>> ((10 : Int32) &&& 31)), .int (2 : Int32)] w31) fun x34 w33 =>
      (if x34 = 0 then
        (F_L_put fu n).2.2.2.2 a0 a1 a2 a4 a5 a6 a7 (10 : Int32) (x32 >>> (((4 : Int32) * a7) &&& 31)) ((9 : Int32) + a7) a4 w33
      else
        (F_L_put fu n).2.2.2.2 a0 a1 a2 a4 a5 a6 a7 (4 : Int32) (x32 >>> (((4 : Int32) * a7) &&& 31)) ((9 : Int32) + a7) a4 w33)
    else
      cI (U_X7_put fu [.ref a0, .int (0 : Int32), .int a6, .int (59 : Int32)] w) fun x25 w24 =>
      (if x25 = (1 : Int32) then
        cI (U_X7_put fu [.ref a0, .int (0 : Int32), .int (a6 + (1 : Int32)), .int (112 : Int32)] w24) fun x27 w26 =>
        (if x27 = (1 : Int32) then
          (aI w26 a4 (1 : Int32)).bind fun x28 =>
          cI (U_X7_put fu [.ref a0, .int (0 : Int32), .int ((a6 + (1 : Int32)) + (1 : Int32)), .int ((48 : Int32) + x28)] w26) fun x30 w29 =>
          (if x30 = (1 : Int32) then
            some (some (.int (((a6 + (1 : Int32)) + (1 : Int32)) + (1 : Int32))), w29)
          else
            some (some (.int (-99 : Int32)), w29))
        else
          some (some (.int (-99 : Int32)), w26))
      else
        some (some (.int (-99 : Int32)), w24)))),
   (fun a0 a1 a2 a4 a5 a6 a7 s0 s1 s2 s3 w =>
    cI (U_L_some fu [.int s1, .int s0] w) fun x36 w35 =>
    (sI w35 s3 s2 x36).bind fun w37 =>
    (aI w37 a4 ((9 : Int32) + a7)).bind fun x38 =>
    cI (U_X7_put fu [.ref a0, .int (0 : Int32), .int a6, .int ((48 : Int32) + x38)] w37) fun x40 w39 =>
    (if x40 = (1 : Int32) then
      (F_L_put fu n).2.2.2.1 a0 a1 a2 a4 a5 (a6 + (1 : Int32)) (a7 + (1 : Int32)) w39
    else
      some (some (.int (-99 : Int32)), w39))))
def M_L_put (fu : Nat) (a0 : Nat) (a1 : Nat) (a2 : Int32) (a3 : Int32) (a4 : Nat) (w : XW) : Option XO :=
  cI (U_L_cell fu [.ref a1, .int a2] w) fun x42 w41 =>
  cI (U_L_some fu [.int x42, .int (a3 - (2 : Int32))] w41) fun x44 w43 =>
  (sI w43 a4 (0 : Int32) ((3 : Int32) + x44)).bind fun w45 =>
  cI (U_L_some fu [.int (x42 >>> ((8 : Int32) &&& 31)), .int (2 : Int32)] w45) fun x47 w46 =>
  (if x47 = 0 then
    (F_L_put fu fu).1 a0 a1 a2 a4 x42 (10 : Int32) (x42 >>> ((4 : Int32) &&& 31)) (1 : Int32) a4 w46
  else
    (F_L_put fu fu).1 a0 a1 a2 a4 x42 (3 : Int32) (x42 >>> ((4 : Int32) &&& 31)) (1 : Int32) a4 w46)
def U_L_put (fu : Nat) : Orc := fun as w => match as with
  | [.ref a0, .ref a1, .int a2, .int a3, .ref a4] => M_L_put fu a0 a1 a2 a3 a4 w
  | _ => none
def K_L_put (fu : Nat) (n : Nat) : Kont := fun pc ls st w => bif pc == 46 then ((xr ls 0).bind fun a0 => (xr ls 1).bind fun a1 => (xi ls 2).bind fun a2 => (xr ls 4).bind fun a4 => (xi ls 5).bind fun a5 => skI st fun s0 st => skI st fun s1 st => skI st fun s2 st => skR st fun s3 st => skN st ((F_L_put fu n).1 a0 a1 a2 a4 a5 s0 s1 s2 s3 w)) else bif pc == 83 then ((xr ls 0).bind fun a0 => (xr ls 1).bind fun a1 => (xi ls 2).bind fun a2 => (xr ls 4).bind fun a4 => (xi ls 5).bind fun a5 => (xi ls 6).bind fun a6 => (xi ls 7).bind fun a7 => skN st ((F_L_put fu n).2.1 a0 a1 a2 a4 a5 a6 a7 w)) else bif pc == 128 then ((xr ls 0).bind fun a0 => (xr ls 1).bind fun a1 => (xi ls 2).bind fun a2 => (xr ls 4).bind fun a4 => (xi ls 5).bind fun a5 => (xi ls 6).bind fun a6 => (xi ls 7).bind fun a7 => skI st fun s0 st => skI st fun s1 st => skI st fun s2 st => skR st fun s3 st => skN st ((F_L_put fu n).2.2.1 a0 a1 a2 a4 a5 a6 a7 s0 s1 s2 s3 w)) else bif pc == 203 then ((xr ls 0).bind fun a0 => (xr ls 1).bind fun a1 => (xi ls 2).bind fun a2 => (xr ls 4).bind fun a4 => (xi ls 5).bind fun a5 => (xi ls 6).bind fun a6 => (xi ls 7).bind fun a7 => skN st ((F_L_put fu n).2.2.2.1 a0 a1 a2 a4 a5 a6 a7 w)) else bif pc == 249 then ((xr ls 0).bind fun a0 => (xr ls 1).bind fun a1 => (xi ls 2).bind fun a2 => (xr ls 4).bind fun a4 => (xi ls 5).bind fun a5 => (xi ls 6).bind fun a6 => (xi ls 7).bind fun a7 => skI st fun s0 st => skI st fun s1 st => skI st fun s2 st => skR st fun s3 st => skN st ((F_L_put fu n).2.2.2.2 a0 a1 a2 a4 a5 a6 a7 s0 s1 s2 s3 w)) else none
set_option maxRecDepth 100000 in
set_option maxHeartbeats 4000000 in
theorem E_L_put_46 (fu : Nat) (n : Nat) (a0 : Nat) (a1 : Nat) (a2 : Int32) (a4 : Nat) (a5 : Int32) (s0 : Int32) (s1 : Int32) (s2 : Int32) (s3 : Nat) (w : XW) : (F_L_put fu (n + 1)).1 a0 a1 a2 a4 a5 s0 s1 s2 s3 w = ev T_L_put (op_L_put fu) [46, 83, 128, 203, 249] (K_L_put fu n) 198 46 [(0, .ref a0), (1, .ref a1), (2, .int a2), (4, .ref a4), (5, .int a5)] [.int s0, .int s1, .int s2, .ref s3] w := by
  rfl
set_option maxRecDepth 100000 in
set_option maxHeartbeats 4000000 in
theorem E_L_put_83 (fu : Nat) (n : Nat) (a0 : Nat) (a1 : Nat) (a2 : Int32) (a4 : Nat) (a5 : Int32) (a6 : Int32) (a7 : Int32) (w : XW) : (F_L_put fu (n + 1)).2.1 a0 a1 a2 a4 a5 a6 a7 w = ev T_L_put (op_L_put fu) [46, 83, 128, 203, 249] (K_L_put fu n) 198 83 [(0, .ref a0), (1, .ref a1), (2, .int a2), (4, .ref a4), (5, .int a5), (6, .int a6), (7, .int a7)] [] w := by
  rfl
set_option maxRecDepth 100000 in
set_option maxHeartbeats 4000000 in
theorem E_L_put_128 (fu : Nat) (n : Nat) (a0 : Nat) (a1 : Nat) (a2 : Int32) (a4 : Nat) (a5 : Int32) (a6 : Int32) (a7 : Int32) (s0 : Int32) (s1 : Int32) (s2 : Int32) (s3 : Nat) (w : XW) : (F_L_put fu (n + 1)).2.2.1 a0 a1 a2 a4 a5 a6 a7 s0 s1 s2 s3 w = ev T_L_put (op_L_put fu) [46, 83, 128, 203, 249] (K_L_put fu n) 198 128 [(0, .ref a0), (1, .ref a1), (2, .int a2), (4, .ref a4), (5, .int a5), (6, .int a6), (7, .int a7)] [.int s0, .int s1, .int s2, .ref s3] w := by
  rfl
set_option maxRecDepth 100000 in
set_option maxHeartbeats 4000000 in
theorem E_L_put_203 (fu : Nat) (n : Nat) (a0 : Nat) (a1 : Nat) (a2 : Int32) (a4 : Nat) (a5 : Int32) (a6 : Int32) (a7 : Int32) (w : XW) : (F_L_put fu (n + 1)).2.2.2.1 a0 a1 a2 a4 a5 a6 a7 w = ev T_L_put (op_L_put fu) [46, 83, 128, 203, 249] (K_L_put fu n) 198 203 [(0, .ref a0), (1, .ref a1), (2, .int a2), (4, .ref a4), (5, .int a5), (6, .int a6), (7, .int a7)] [] w := by
  rfl
set_option maxRecDepth 100000 in
set_option maxHeartbeats 4000000 in
theorem E_L_put_249 (fu : Nat) (n : Nat) (a0 : Nat) (a1 : Nat) (a2 : Int32) (a4 : Nat) (a5 : Int32) (a6 : Int32) (a7 : Int32) (s0 : Int32) (s1 : Int32) (s2 : Int32) (s3 : Nat) (w : XW) : (F_L_put fu (n + 1)).2.2.2.2 a0 a1 a2 a4 a5 a6 a7 s0 s1 s2 s3 w = ev T_L_put (op_L_put fu) [46, 83, 128, 203, 249] (K_L_put fu n) 198 249 [(0, .ref a0), (1, .ref a1), (2, .int a2), (4, .ref a4), (5, .int a5), (6, .int a6), (7, .int a7)] [.int s0, .int s1, .int s2, .ref s3] w := by
  rfl
set_option maxRecDepth 100000 in
set_option maxHeartbeats 4000000 in
theorem E_L_put (fu : Nat) (a0 : Nat) (a1 : Nat) (a2 : Int32) (a3 : Int32) (a4 : Nat) (w : XW) : M_L_put fu a0 a1 a2 a3 a4 w = ev T_L_put (op_L_put fu) [46, 83, 128, 203, 249] (K_L_put fu fu) 198 0 (lv_args 0 [.ref a0, .ref a1, .int a2, .int a3, .ref a4]) [] w := by
  rfl
theorem D_L_put (fu : Nat) : DS T_L_put (op_L_put fu) [46, 83, 128, 203, 249] 198 (K_L_put fu) := by
  refine ⟨fun pc ls st w => c_none (b_none fun _ => b_none fun _ => b_none fun _ => b_none fun _ => b_none fun _ => skI_none fun _ _ => skI_none fun _ _ => skI_none fun _ _ => skR_none fun _ _ => skN_none rfl) (c_none (b_none fun _ => b_none fun _ => b_none fun _ => b_none fun _ => b_none fun _ => b_none fun _ => b_none fun _ => skN_none rfl) (c_none (b_none fun _ => b_none fun _ => b_none fun _ => b_none fun _ => b_none fun _ => b_none fun _ => b_none fun _ => skI_none fun _ _ => skI_none fun _ _ => skI_none fun _ _ => skR_none fun _ _ => skN_none rfl) (c_none (b_none fun _ => b_none fun _ => b_none fun _ => b_none fun _ => b_none fun _ => b_none fun _ => b_none fun _ => skN_none rfl) (c_none (b_none fun _ => b_none fun _ => b_none fun _ => b_none fun _ => b_none fun _ => b_none fun _ => b_none fun _ => skI_none fun _ _ => skI_none fun _ _ => skI_none fun _ _ => skR_none fun _ _ => skN_none rfl) (rfl))))), fun n pc ls st w o h => ?_⟩
  rcases c_some h with ⟨rfl, h⟩ | h
  · obtain ⟨a0, h0, h⟩ := some_of h; obtain ⟨a1, h1, h⟩ := some_of h; obtain ⟨a2, h2, h⟩ := some_of h; obtain ⟨a4, h4, h⟩ := some_of h; obtain ⟨a5, h5, h⟩ := some_of h;
    obtain ⟨s0, st0, e0, g0⟩ := skI_of h
    obtain ⟨s1, st1, e1, g1⟩ := skI_of g0
    obtain ⟨s2, st2, e2, g2⟩ := skI_of g1
    obtain ⟨s3, st3, e3, g3⟩ := skR_of g2
    obtain ⟨e, g⟩ := skN_of g3
    subst e
    subst e3
    subst e2
    subst e1
    subst e0
    exact ⟨[(0, .ref a0), (1, .ref a1), (2, .int a2), (4, .ref a4), (5, .int a5)], cons_all (xr_of h0) (cons_all (xr_of h1) (cons_all (xi_of h2) (cons_all (xr_of h4) (cons_all (xi_of h5) (nil_all))))), (E_L_put_46 fu n a0 a1 a2 a4 a5 s0 s1 s2 s3 w).symm.trans g⟩
  rcases c_some h with ⟨rfl, h⟩ | h
  · obtain ⟨a0, h0, h⟩ := some_of h; obtain ⟨a1, h1, h⟩ := some_of h; obtain ⟨a2, h2, h⟩ := some_of h; obtain ⟨a4, h4, h⟩ := some_of h; obtain ⟨a5, h5, h⟩ := some_of h; obtain ⟨a6, h6, h⟩ := some_of h; obtain ⟨a7, h7, h⟩ := some_of h;
    obtain ⟨e, g⟩ := skN_of h
    subst e
    exact ⟨[(0, .ref a0), (1, .ref a1), (2, .int a2), (4, .ref a4), (5, .int a5), (6, .int a6), (7, .int a7)], cons_all (xr_of h0) (cons_all (xr_of h1) (cons_all (xi_of h2) (cons_all (xr_of h4) (cons_all (xi_of h5) (cons_all (xi_of h6) (cons_all (xi_of h7) (nil_all))))))), (E_L_put_83 fu n a0 a1 a2 a4 a5 a6 a7 w).symm.trans g⟩
  rcases c_some h with ⟨rfl, h⟩ | h
  · obtain ⟨a0, h0, h⟩ := some_of h; obtain ⟨a1, h1, h⟩ := some_of h; obtain ⟨a2, h2, h⟩ := some_of h; obtain ⟨a4, h4, h⟩ := some_of h; obtain ⟨a5, h5, h⟩ := some_of h; obtain ⟨a6, h6, h⟩ := some_of h; obtain ⟨a7, h7, h⟩ := some_of h;
    obtain ⟨s0, st0, e0, g0⟩ := skI_of h
    obtain ⟨s1, st1, e1, g1⟩ := skI_of g0
    obtain ⟨s2, st2, e2, g2⟩ := skI_of g1
    obtain ⟨s3, st3, e3, g3⟩ := skR_of g2
    obtain ⟨e, g⟩ := skN_of g3
    subst e
    subst e3
    subst e2
    subst e1
    subst e0
    exact ⟨[(0, .ref a0), (1, .ref a1), (2, .int a2), (4, .ref a4), (5, .int a5), (6, .int a6), (7, .int a7)], cons_all (xr_of h0) (cons_all (xr_of h1) (cons_all (xi_of h2) (cons_all (xr_of h4) (cons_all (xi_of h5) (cons_all (xi_of h6) (cons_all (xi_of h7) (nil_all))))))), (E_L_put_128 fu n a0 a1 a2 a4 a5 a6 a7 s0 s1 s2 s3 w).symm.trans g⟩
  rcases c_some h with ⟨rfl, h⟩ | h
  · obtain ⟨a0, h0, h⟩ := some_of h; obtain ⟨a1, h1, h⟩ := some_of h; obtain ⟨a2, h2, h⟩ := some_of h; obtain ⟨a4, h4, h⟩ := some_of h; obtain ⟨a5, h5, h⟩ := some_of h; obtain ⟨a6, h6, h⟩ := some_of h; obtain ⟨a7, h7, h⟩ := some_of h;
    obtain ⟨e, g⟩ := skN_of h
    subst e
    exact ⟨[(0, .ref a0), (1, .ref a1), (2, .int a2), (4, .ref a4), (5, .int a5), (6, .int a6), (7, .int a7)], cons_all (xr_of h0) (cons_all (xr_of h1) (cons_all (xi_of h2) (cons_all (xr_of h4) (cons_all (xi_of h5) (cons_all (xi_of h6) (cons_all (xi_of h7) (nil_all))))))), (E_L_put_203 fu n a0 a1 a2 a4 a5 a6 a7 w).symm.trans g⟩
  rcases c_some h with ⟨rfl, h⟩ | h
  · obtain ⟨a0, h0, h⟩ := some_of h; obtain ⟨a1, h1, h⟩ := some_of h; obtain ⟨a2, h2, h⟩ := some_of h; obtain ⟨a4, h4, h⟩ := some_of h; obtain ⟨a5, h5, h⟩ := some_of h; obtain ⟨a6, h6, h⟩ := some_of h; obtain ⟨a7, h7, h⟩ := some_of h;
    obtain ⟨s0, st0, e0, g0⟩ := skI_of h
    obtain ⟨s1, st1, e1, g1⟩ := skI_of g0
    obtain ⟨s2, st2, e2, g2⟩ := skI_of g1
    obtain ⟨s3, st3, e3, g3⟩ := skR_of g2
    obtain ⟨e, g⟩ := skN_of g3
    subst e
    subst e3
    subst e2
    subst e1
    subst e0
    exact ⟨[(0, .ref a0), (1, .ref a1), (2, .int a2), (4, .ref a4), (5, .int a5), (6, .int a6), (7, .int a7)], cons_all (xr_of h0) (cons_all (xr_of h1) (cons_all (xi_of h2) (cons_all (xr_of h4) (cons_all (xi_of h5) (cons_all (xi_of h6) (cons_all (xi_of h7) (nil_all))))))), (E_L_put_249 fu n a0 a1 a2 a4 a5 a6 a7 s0 s1 s2 s3 w).symm.trans g⟩
  · cases h
set_option maxRecDepth 100000 in
set_option maxHeartbeats 4000000 in
theorem S_L_put (fu : Nat) {l : Launch} {D : va_G} {cA : Nat → ClassId} {base b : Nat} : CS l D cA base b 5 y_L_put method_4_code 8 (some .int) (U_L_put fu) ∧ OM (U_L_put fu) := by
  refine CS_of (d := 4) (y := y_L_put) (cc := method_4_code) (nL := 8) (ret := (some .int)) (F := U_L_put fu) (fl := []) (nl := nl_BrookStonesLaw) (kl := kl_BrookStonesLaw) (k2 := []) (mv := [(19, 4, 1, (U_X7_sheet fu)), (25, 4, 1, (U_X7_put fu))]) (ms := [(9, 2, 1, (U_L_cell fu)), (15, 2, 1, (U_L_some fu))]) (mi := []) (ini := false) hI_w nil_all nl_BrookStonesLaw_ok kl_BrookStonesLaw_ok nil_all
    (cons_all (⟨⟨show (1 : Nat) ≠ 3 by decide, y_X7_sheet, prog_1_method_28_code, 4, (some .int), 4, "BrookStones", 6, TX7, 8, 3, (S_X7_sheet fu (l := l) (D := D) (cA := cA) (base := base) (b := b)).1, by decide, by decide, rfl, H_X7_sheet fu, rfl, mi_X7_sheet.1, mi_X7_sheet.2.1, mi_X7_sheet.2.2.1, mi_X7_sheet.2.2.2.1, mi_X7_sheet.2.2.2.2, Or.inl (tblG_of (i := 423) rfl rfl)⟩, (S_X7_sheet fu (l := l) (D := D) (cA := cA) (base := base) (b := b)).2⟩) (cons_all (⟨⟨show (1 : Nat) ≠ 3 by decide, y_X7_put, prog_1_method_30_code, 4, (some .int), 3, "BrookStones", 6, TX7, 8, 3, (S_X7_put fu (l := l) (D := D) (cA := cA) (base := base) (b := b)).1, by decide, by decide, rfl, H_X7_put fu, rfl, mi_X7_put.1, mi_X7_put.2.1, mi_X7_put.2.2.1, mi_X7_put.2.2.2.1, mi_X7_put.2.2.2.2, Or.inl (tblG_of (i := 437) rfl rfl)⟩, (S_X7_put fu (l := l) (D := D) (cA := cA) (base := base) (b := b)).2⟩) (nil_all)))
    (cons_all (⟨Or.inl ⟨show (1 : Nat) ≠ 3 by decide, y_L_cell, method_2_code, 2, (some .int), 1, "BrookStones", (S_L_cell fu (l := l) (D := D) (cA := cA) (base := base) (b := b)).1, by decide, by decide, mi_L_cell.1, mi_L_cell.2.1, mi_L_cell.2.2.1, mi_L_cell.2.2.2, Or.inl (tblG_of (i := 459) rfl rfl)⟩, (S_L_cell fu (l := l) (D := D) (cA := cA) (base := base) (b := b)).2⟩) (cons_all (⟨Or.inl ⟨show (1 : Nat) ≠ 3 by decide, y_L_some, method_3_code, 2, (some .int), 1, "BrookStones", (S_L_some fu (l := l) (D := D) (cA := cA) (base := base) (b := b)).1, by decide, by decide, mi_L_some.1, mi_L_some.2.1, mi_L_some.2.2.1, mi_L_some.2.2.2, Or.inl (tblG_of (i := 463) rfl rfl)⟩, (S_L_some fu (l := l) (D := D) (cA := cA) (base := base) (b := b)).2⟩) (nil_all)))
    (nil_all)
    (T := T_L_put) (by decide +kernel) (cut := [46, 83, 128, 203, 249]) (N := 198) (D_L_put fu) (by decide +kernel) (fun h => absurd h (by decide)) (fun as w o h => ?_)
  unfold U_L_put at h
  split at h
  next =>
    exact ⟨Nat.le_of_ble_eq_true rfl, fu, (E_L_put fu _ _ _ _ _ w).symm.trans h⟩
  next => cases h
def T_X4_reaches : List (Nat × Instr) := [(0, .iload_n 2), (1, .ifCond .lt 29), (4, .iload_n 2), (5, .aload_n 0), (6, .getfield 15), (9, .iload_n 1), (10, .iaload), (11, .if_icmp .gt 19), (14, .iload_n 3), (15, .aload_n 0), (16, .getfield 15), (19, .iload_n 1), (20, .iaload), (21, .iload_n 2), (22, .isub), (23, .if_icmp .gt 7), (26, .iconst 1), (27, .goto 4), (30, .iconst 0), (31, .ireturn)]
def op_X4_reaches (fu : Nat) : Nat → Kont → XL → List Value → XW → Instr → Option XO := opK 4 (rzOf (some .boolean)) fl_BrookStones_Sheets [] [] [] [] [] []
def M_X4_reaches (fu : Nat) (a0 : Nat) (a1 : Int32) (a2 : Int32) (a3 : Int32) (w : XW) : Option XO :=
  (if a2 < 0 then
    retZ (0 : Int32) w
  else
    (gR w a0 4 1).bind fun r1 =>
    (aI w r1 a1).bind fun x2 =>
    (if x2 < a2 then
      retZ (0 : Int32) w
    else
      (gR w a0 4 1).bind fun r3 =>
      (aI w r3 a1).bind fun x4 =>
      (if (x4 - a2) < a3 then
        retZ (0 : Int32) w
      else
        retZ (1 : Int32) w)))
def U_X4_reaches (fu : Nat) : Orc := fun as w => match as with
  | [.ref a0, .int a1, .int a2, .int a3] => if isO w a0 4 = true then M_X4_reaches fu a0 a1 a2 a3 w else none
  | _ => none
def K_X4_reaches (fu : Nat) (n : Nat) : Kont := fun pc ls st w => none
set_option maxRecDepth 100000 in
set_option maxHeartbeats 4000000 in
theorem E_X4_reaches (fu : Nat) (a0 : Nat) (a1 : Int32) (a2 : Int32) (a3 : Int32) (w : XW) : M_X4_reaches fu a0 a1 a2 a3 w = ev T_X4_reaches (op_X4_reaches fu) [] (K_X4_reaches fu fu) 22 0 (lv_args 0 [.ref a0, .int a1, .int a2, .int a3]) [] w := by
  rfl
theorem D_X4_reaches (fu : Nat) : DS T_X4_reaches (op_X4_reaches fu) [] 22 (K_X4_reaches fu) := by
  refine ⟨fun pc ls st w => rfl, fun n pc ls st w o h => ?_⟩
  cases h
theorem H_X4_reaches (fu : Nat) : ∀ as w o, U_X4_reaches fu as w = some o → ∃ a r, as = .ref a :: r ∧ r.length = 3 ∧ isO w a 4 = true := by
  intro as w o h
  unfold U_X4_reaches at h
  split at h
  next =>
    split at h
    next hh => exact ⟨_, _, rfl, rfl, hh⟩
    next => cases h
  next => cases h
set_option maxRecDepth 100000 in
set_option maxHeartbeats 4000000 in
theorem S_X4_reaches (fu : Nat) {l : Launch} {D : va_G} {cA : Nat → ClassId} {base b : Nat} : CS l D cA base b 1 y_X4_reaches prog_6_method_11_code 4 (some .boolean) (U_X4_reaches fu) ∧ OM (U_X4_reaches fu) := by
  refine CS_of (d := 0) (y := y_X4_reaches) (cc := prog_6_method_11_code) (nL := 4) (ret := (some .boolean)) (F := U_X4_reaches fu) (fl := fl_BrookStones_Sheets) (nl := []) (kl := []) (k2 := []) (mv := []) (ms := []) (mi := []) (ini := false) hI_w fl_BrookStones_Sheets_ok nil_all nil_all nil_all
    (nil_all)
    (nil_all)
    (nil_all)
    (T := T_X4_reaches) (by decide +kernel) (cut := []) (N := 22) (D_X4_reaches fu) (by decide +kernel) (fun h => absurd h (by decide)) (fun as w o h => ?_)
  unfold U_X4_reaches at h
  split at h
  next =>
    split at h
    next => exact ⟨Nat.le_of_ble_eq_true rfl, fu, (E_X4_reaches fu _ _ _ _ w).symm.trans h⟩
    next => cases h
  next => cases h
def T_X4_faultOfCells : List (Nat × Instr) := [(0, .aload_n 0), (1, .iload_n 1), (2, .invokevirtual 44), (5, .ifCond .ne 5), (8, .iconst 1), (9, .ireturn), (10, .aload_n 0), (11, .getfield 9), (14, .iload_n 1), (15, .iaload), (16, .iload_n 2), (17, .if_icmp .eq 5), (20, .iconst 2), (21, .ireturn), (22, .iload 4), (24, .ifCond .ge 5), (27, .iconst 4), (28, .ireturn), (29, .aload_n 0), (30, .iload_n 1), (31, .iload_n 3), (32, .iload 4), (34, .invokevirtual 48), (37, .ifCond .eq 7), (40, .iconst 0), (41, .goto 4), (44, .iconst 3), (45, .ireturn)]
def op_X4_faultOfCells (fu : Nat) : Nat → Kont → XL → List Value → XW → Instr → Option XO := opK 5 (rzOf (some .int)) fl_BrookStones_Sheets [] [] [] [(44, 2, 1, (U_X4_isThere fu)), (48, 4, 1, (U_X4_reaches fu))] [] []
def M_X4_faultOfCells (fu : Nat) (a0 : Nat) (a1 : Int32) (a2 : Int32) (a3 : Int32) (a4 : Int32) (w : XW) : Option XO :=
  cI (U_X4_isThere fu [.ref a0, .int a1] w) fun x2 w1 =>
  (if x2 = 0 then
    some (some (.int (1 : Int32)), w1)
  else
    (gR w1 a0 4 0).bind fun r3 =>
    (aI w1 r3 a1).bind fun x4 =>
    (if x4 = a2 then
      (if a4 < 0 then
        some (some (.int (4 : Int32)), w1)
      else
        cI (U_X4_reaches fu [.ref a0, .int a1, .int a3, .int a4] w1) fun x6 w5 =>
        (if x6 = 0 then
          some (some (.int (3 : Int32)), w5)
        else
          some (some (.int (0 : Int32)), w5)))
    else
      some (some (.int (2 : Int32)), w1)))
def U_X4_faultOfCells (fu : Nat) : Orc := fun as w => match as with
  | [.ref a0, .int a1, .int a2, .int a3, .int a4] => if isO w a0 4 = true then M_X4_faultOfCells fu a0 a1 a2 a3 a4 w else none
  | _ => none
def K_X4_faultOfCells (fu : Nat) (n : Nat) : Kont := fun pc ls st w => none
set_option maxRecDepth 100000 in
set_option maxHeartbeats 4000000 in
theorem E_X4_faultOfCells (fu : Nat) (a0 : Nat) (a1 : Int32) (a2 : Int32) (a3 : Int32) (a4 : Int32) (w : XW) : M_X4_faultOfCells fu a0 a1 a2 a3 a4 w = ev T_X4_faultOfCells (op_X4_faultOfCells fu) [] (K_X4_faultOfCells fu fu) 30 0 (lv_args 0 [.ref a0, .int a1, .int a2, .int a3, .int a4]) [] w := by
  rfl
theorem D_X4_faultOfCells (fu : Nat) : DS T_X4_faultOfCells (op_X4_faultOfCells fu) [] 30 (K_X4_faultOfCells fu) := by
  refine ⟨fun pc ls st w => rfl, fun n pc ls st w o h => ?_⟩
  cases h
theorem H_X4_faultOfCells (fu : Nat) : ∀ as w o, U_X4_faultOfCells fu as w = some o → ∃ a r, as = .ref a :: r ∧ r.length = 4 ∧ isO w a 4 = true := by
  intro as w o h
  unfold U_X4_faultOfCells at h
  split at h
  next =>
    split at h
    next hh => exact ⟨_, _, rfl, rfl, hh⟩
    next => cases h
  next => cases h
set_option maxRecDepth 100000 in
set_option maxHeartbeats 4000000 in
theorem S_X4_faultOfCells (fu : Nat) {l : Launch} {D : va_G} {cA : Nat → ClassId} {base b : Nat} : CS l D cA base b 2 y_X4_faultOfCells prog_6_method_12_code 5 (some .int) (U_X4_faultOfCells fu) ∧ OM (U_X4_faultOfCells fu) := by
  refine CS_of (d := 1) (y := y_X4_faultOfCells) (cc := prog_6_method_12_code) (nL := 5) (ret := (some .int)) (F := U_X4_faultOfCells fu) (fl := fl_BrookStones_Sheets) (nl := []) (kl := []) (k2 := []) (mv := [(44, 2, 1, (U_X4_isThere fu)), (48, 4, 1, (U_X4_reaches fu))]) (ms := []) (mi := []) (ini := false) hI_w fl_BrookStones_Sheets_ok nil_all nil_all nil_all
    (cons_all (⟨⟨show (1 : Nat) ≠ 3 by decide, y_X4_isThere, prog_6_method_4_code, 2, (some .boolean), 1, "BrookStones", 4, TX4, 3, 1, (S_X4_isThere fu (l := l) (D := D) (cA := cA) (base := base) (b := b)).1, by decide, by decide, rfl, H_X4_isThere fu, rfl, mi_X4_isThere.1, mi_X4_isThere.2.1, mi_X4_isThere.2.2.1, mi_X4_isThere.2.2.2.1, mi_X4_isThere.2.2.2.2, Or.inl (tblG_of (i := 240) rfl rfl)⟩, (S_X4_isThere fu (l := l) (D := D) (cA := cA) (base := base) (b := b)).2⟩) (cons_all (⟨⟨show (1 : Nat) ≠ 3 by decide, y_X4_reaches, prog_6_method_11_code, 4, (some .boolean), 1, "BrookStones", 4, TX4, 3, 3, (S_X4_reaches fu (l := l) (D := D) (cA := cA) (base := base) (b := b)).1, by decide, by decide, rfl, H_X4_reaches fu, rfl, mi_X4_reaches.1, mi_X4_reaches.2.1, mi_X4_reaches.2.2.1, mi_X4_reaches.2.2.2.1, mi_X4_reaches.2.2.2.2, Or.inl (tblG_of (i := 244) rfl rfl)⟩, (S_X4_reaches fu (l := l) (D := D) (cA := cA) (base := base) (b := b)).2⟩) (nil_all)))
    (nil_all)
    (nil_all)
    (T := T_X4_faultOfCells) (by decide +kernel) (cut := []) (N := 30) (D_X4_faultOfCells fu) (by decide +kernel) (fun h => absurd h (by decide)) (fun as w o h => ?_)
  unfold U_X4_faultOfCells at h
  split at h
  next =>
    split at h
    next => exact ⟨Nat.le_of_ble_eq_true rfl, fu, (E_X4_faultOfCells fu _ _ _ _ _ w).symm.trans h⟩
    next => cases h
  next => cases h
def T_X7_refusalOfCells : List (Nat × Instr) := [(0, .iload_n 1), (1, .invokestatic 256), (4, .ifCond .ne 5), (7, .iconst (-1)), (8, .ireturn), (9, .iload_n 2), (10, .invokestatic 259), (13, .ifCond .ne 6), (16, .bipush (-2)), (18, .ireturn), (19, .aload_n 0), (20, .getfield 21), (23, .iload_n 1), (24, .iload_n 2), (25, .iload_n 3), (26, .iload 4), (28, .invokevirtual 305), (31, .istore 5), (33, .iload 5), (35, .ifCond .ne 7), (38, .iconst 0), (39, .goto 9), (42, .aload_n 0), (43, .iload 5), (45, .invokevirtual 262), (48, .ireturn)]
def op_X7_refusalOfCells (fu : Nat) : Nat → Kont → XL → List Value → XW → Instr → Option XO := opK 6 (rzOf (some .int)) fl_BrookStones nl_BrookStones [] [] [(305, 5, 1, (U_X4_faultOfCells fu)), (262, 2, 1, (U_X7_failBy fu))] [(256, 1, 1, (U_X4_isSheet fu)), (259, 1, 1, (U_X4_isSort fu))] []
def M_X7_refusalOfCells (fu : Nat) (a0 : Nat) (a1 : Int32) (a2 : Int32) (a3 : Int32) (a4 : Int32) (w : XW) : Option XO :=
  cI (U_X4_isSheet fu [.int a1] w) fun x2 w1 =>
  (if x2 = 0 then
    some (some (.int (-1 : Int32)), w1)
  else
    cI (U_X4_isSort fu [.int a2] w1) fun x4 w3 =>
    (if x4 = 0 then
      some (some (.int (-2 : Int32)), w3)
    else
      (gR w3 a0 6 1).bind fun r5 =>
      cI (U_X4_faultOfCells fu [.ref r5, .int a1, .int a2, .int a3, .int a4] w3) fun x7 w6 =>
      (if x7 = 0 then
        some (some (.int (0 : Int32)), w6)
      else
        cI (U_X7_failBy fu [.ref a0, .int x7] w6) fun x9 w8 =>
        some (some (.int x9), w8))))
def U_X7_refusalOfCells (fu : Nat) : Orc := fun as w => match as with
  | [.ref a0, .int a1, .int a2, .int a3, .int a4] => if isO w a0 6 = true then M_X7_refusalOfCells fu a0 a1 a2 a3 a4 w else none
  | _ => none
def K_X7_refusalOfCells (fu : Nat) (n : Nat) : Kont := fun pc ls st w => none
set_option maxRecDepth 100000 in
set_option maxHeartbeats 4000000 in
theorem E_X7_refusalOfCells (fu : Nat) (a0 : Nat) (a1 : Int32) (a2 : Int32) (a3 : Int32) (a4 : Int32) (w : XW) : M_X7_refusalOfCells fu a0 a1 a2 a3 a4 w = ev T_X7_refusalOfCells (op_X7_refusalOfCells fu) [] (K_X7_refusalOfCells fu fu) 28 0 (lv_args 0 [.ref a0, .int a1, .int a2, .int a3, .int a4]) [] w := by
  rfl
theorem D_X7_refusalOfCells (fu : Nat) : DS T_X7_refusalOfCells (op_X7_refusalOfCells fu) [] 28 (K_X7_refusalOfCells fu) := by
  refine ⟨fun pc ls st w => rfl, fun n pc ls st w o h => ?_⟩
  cases h
theorem H_X7_refusalOfCells (fu : Nat) : ∀ as w o, U_X7_refusalOfCells fu as w = some o → ∃ a r, as = .ref a :: r ∧ r.length = 4 ∧ isO w a 6 = true := by
  intro as w o h
  unfold U_X7_refusalOfCells at h
  split at h
  next =>
    split at h
    next hh => exact ⟨_, _, rfl, rfl, hh⟩
    next => cases h
  next => cases h
set_option maxRecDepth 100000 in
set_option maxHeartbeats 4000000 in
theorem S_X7_refusalOfCells (fu : Nat) {l : Launch} {D : va_G} {cA : Nat → ClassId} {base b : Nat} : CS l D cA base b 3 y_X7_refusalOfCells prog_1_method_39_code 6 (some .int) (U_X7_refusalOfCells fu) ∧ OM (U_X7_refusalOfCells fu) := by
  refine CS_of (d := 2) (y := y_X7_refusalOfCells) (cc := prog_1_method_39_code) (nL := 6) (ret := (some .int)) (F := U_X7_refusalOfCells fu) (fl := fl_BrookStones) (nl := nl_BrookStones) (kl := []) (k2 := []) (mv := [(305, 5, 1, (U_X4_faultOfCells fu)), (262, 2, 1, (U_X7_failBy fu))]) (ms := [(256, 1, 1, (U_X4_isSheet fu)), (259, 1, 1, (U_X4_isSort fu))]) (mi := []) (ini := false) hI_w fl_BrookStones_ok nl_BrookStones_ok nil_all nil_all
    (cons_all (⟨⟨show (1 : Nat) ≠ 3 by decide, y_X4_faultOfCells, prog_6_method_12_code, 5, (some .int), 2, "BrookStones", 4, TX4, 3, 4, (S_X4_faultOfCells fu (l := l) (D := D) (cA := cA) (base := base) (b := b)).1, by decide, by decide, rfl, H_X4_faultOfCells fu, rfl, mi_X4_faultOfCells.1, mi_X4_faultOfCells.2.1, mi_X4_faultOfCells.2.2.1, mi_X4_faultOfCells.2.2.2.1, mi_X4_faultOfCells.2.2.2.2, Or.inr (tblN_of (i := 236) rfl rfl)⟩, (S_X4_faultOfCells fu (l := l) (D := D) (cA := cA) (base := base) (b := b)).2⟩) (cons_all (⟨⟨show (1 : Nat) ≠ 3 by decide, y_X7_failBy, prog_1_method_40_code, 2, (some .int), 1, "BrookStones", 6, TX7, 8, 1, (S_X7_failBy fu (l := l) (D := D) (cA := cA) (base := base) (b := b)).1, by decide, by decide, rfl, H_X7_failBy fu, rfl, mi_X7_failBy.1, mi_X7_failBy.2.1, mi_X7_failBy.2.2.1, mi_X7_failBy.2.2.2.1, mi_X7_failBy.2.2.2.2, Or.inl (tblG_of (i := 248) rfl rfl)⟩, (S_X7_failBy fu (l := l) (D := D) (cA := cA) (base := base) (b := b)).2⟩) (nil_all)))
    (cons_all (⟨Or.inl ⟨show (1 : Nat) ≠ 3 by decide, y_X4_isSheet, prog_6_method_2_code, 1, (some .boolean), 2, "BrookStones", (S_X4_isSheet fu (l := l) (D := D) (cA := cA) (base := base) (b := b)).1, by decide, by decide, mi_X4_isSheet.1, mi_X4_isSheet.2.1, mi_X4_isSheet.2.2.1, mi_X4_isSheet.2.2.2, Or.inr (tblN_of (i := 227) rfl rfl)⟩, (S_X4_isSheet fu (l := l) (D := D) (cA := cA) (base := base) (b := b)).2⟩) (cons_all (⟨Or.inl ⟨show (1 : Nat) ≠ 3 by decide, y_X4_isSort, prog_6_method_3_code, 1, (some .boolean), 2, "BrookStones", (S_X4_isSort fu (l := l) (D := D) (cA := cA) (base := base) (b := b)).1, by decide, by decide, mi_X4_isSort.1, mi_X4_isSort.2.1, mi_X4_isSort.2.2.1, mi_X4_isSort.2.2.2, Or.inr (tblN_of (i := 233) rfl rfl)⟩, (S_X4_isSort fu (l := l) (D := D) (cA := cA) (base := base) (b := b)).2⟩) (nil_all)))
    (nil_all)
    (T := T_X7_refusalOfCells) (by decide +kernel) (cut := []) (N := 28) (D_X7_refusalOfCells fu) (by decide +kernel) (fun h => absurd h (by decide)) (fun as w o h => ?_)
  unfold U_X7_refusalOfCells at h
  split at h
  next =>
    split at h
    next => exact ⟨Nat.le_of_ble_eq_true rfl, fu, (E_X7_refusalOfCells fu _ _ _ _ _ w).symm.trans h⟩
    next => cases h
  next => cases h
def T_X4_at : List (Nat × Instr) := [(0, .aload_n 0), (1, .getfield 18), (4, .iload_n 1), (5, .bipush 60), (7, .imul), (8, .iload_n 2), (9, .iadd), (10, .iaload), (11, .ireturn)]
def op_X4_at (fu : Nat) : Nat → Kont → XL → List Value → XW → Instr → Option XO := opK 3 (rzOf (some .int)) fl_BrookStones_Sheets [] [] [] [] [] []
def M_X4_at (fu : Nat) (a0 : Nat) (a1 : Int32) (a2 : Int32) (w : XW) : Option XO :=
  (gR w a0 4 2).bind fun r1 =>
  (aI w r1 ((a1 * (60 : Int32)) + a2)).bind fun x2 =>
  some (some (.int x2), w)
def U_X4_at (fu : Nat) : Orc := fun as w => match as with
  | [.ref a0, .int a1, .int a2] => if isO w a0 4 = true then M_X4_at fu a0 a1 a2 w else none
  | _ => none
def K_X4_at (fu : Nat) (n : Nat) : Kont := fun pc ls st w => none
set_option maxRecDepth 100000 in
set_option maxHeartbeats 4000000 in
theorem E_X4_at (fu : Nat) (a0 : Nat) (a1 : Int32) (a2 : Int32) (w : XW) : M_X4_at fu a0 a1 a2 w = ev T_X4_at (op_X4_at fu) [] (K_X4_at fu fu) 11 0 (lv_args 0 [.ref a0, .int a1, .int a2]) [] w := by
  rfl
theorem D_X4_at (fu : Nat) : DS T_X4_at (op_X4_at fu) [] 11 (K_X4_at fu) := by
  refine ⟨fun pc ls st w => rfl, fun n pc ls st w o h => ?_⟩
  cases h
theorem H_X4_at (fu : Nat) : ∀ as w o, U_X4_at fu as w = some o → ∃ a r, as = .ref a :: r ∧ r.length = 2 ∧ isO w a 4 = true := by
  intro as w o h
  unfold U_X4_at at h
  split at h
  next =>
    split at h
    next hh => exact ⟨_, _, rfl, rfl, hh⟩
    next => cases h
  next => cases h
set_option maxRecDepth 100000 in
set_option maxHeartbeats 4000000 in
theorem S_X4_at (fu : Nat) {l : Launch} {D : va_G} {cA : Nat → ClassId} {base b : Nat} : CS l D cA base b 1 y_X4_at prog_6_method_7_code 3 (some .int) (U_X4_at fu) ∧ OM (U_X4_at fu) := by
  refine CS_of (d := 0) (y := y_X4_at) (cc := prog_6_method_7_code) (nL := 3) (ret := (some .int)) (F := U_X4_at fu) (fl := fl_BrookStones_Sheets) (nl := []) (kl := []) (k2 := []) (mv := []) (ms := []) (mi := []) (ini := false) hI_w fl_BrookStones_Sheets_ok nil_all nil_all nil_all
    (nil_all)
    (nil_all)
    (nil_all)
    (T := T_X4_at) (by decide +kernel) (cut := []) (N := 11) (D_X4_at fu) (by decide +kernel) (fun h => absurd h (by decide)) (fun as w o h => ?_)
  unfold U_X4_at at h
  split at h
  next =>
    split at h
    next => exact ⟨Nat.le_of_ble_eq_true rfl, fu, (E_X4_at fu _ _ _ w).symm.trans h⟩
    next => cases h
  next => cases h
def T_X5_isDigit : List (Nat × Instr) := [(0, .iload_n 0), (1, .bipush 48), (3, .bipush 57), (5, .invokestatic 57), (8, .ireturn)]
def op_X5_isDigit (fu : Nat) : Nat → Kont → XL → List Value → XW → Instr → Option XO := opK 1 (rzOf (some .boolean)) fl_BrookStones_Text [] [] [] [] [(57, 3, 1, (U_X7_isWithin fu))] []
def M_X5_isDigit (fu : Nat) (a0 : Int32) (w : XW) : Option XO :=
  cI (U_X7_isWithin fu [.int a0, .int (48 : Int32), .int (57 : Int32)] w) fun x2 w1 =>
  retZ x2 w1
def U_X5_isDigit (fu : Nat) : Orc := fun as w => match as with
  | [.int a0] => M_X5_isDigit fu a0 w
  | _ => none
def K_X5_isDigit (fu : Nat) (n : Nat) : Kont := fun pc ls st w => none
set_option maxRecDepth 100000 in
set_option maxHeartbeats 4000000 in
theorem E_X5_isDigit (fu : Nat) (a0 : Int32) (w : XW) : M_X5_isDigit fu a0 w = ev T_X5_isDigit (op_X5_isDigit fu) [] (K_X5_isDigit fu fu) 7 0 (lv_args 0 [.int a0]) [] w := by
  rfl
theorem D_X5_isDigit (fu : Nat) : DS T_X5_isDigit (op_X5_isDigit fu) [] 7 (K_X5_isDigit fu) := by
  refine ⟨fun pc ls st w => rfl, fun n pc ls st w o h => ?_⟩
  cases h
set_option maxRecDepth 100000 in
set_option maxHeartbeats 4000000 in
theorem S_X5_isDigit (fu : Nat) {l : Launch} {D : va_G} {cA : Nat → ClassId} {base b : Nat} : CS l D cA base b 2 y_X5_isDigit prog_7_method_7_code 1 (some .boolean) (U_X5_isDigit fu) ∧ OM (U_X5_isDigit fu) := by
  refine CS_of (d := 1) (y := y_X5_isDigit) (cc := prog_7_method_7_code) (nL := 1) (ret := (some .boolean)) (F := U_X5_isDigit fu) (fl := fl_BrookStones_Text) (nl := []) (kl := []) (k2 := []) (mv := []) (ms := [(57, 3, 1, (U_X7_isWithin fu))]) (mi := []) (ini := false) hI_w fl_BrookStones_Text_ok nil_all nil_all nil_all
    (nil_all)
    (cons_all (⟨Or.inl ⟨show (1 : Nat) ≠ 3 by decide, y_X7_isWithin, prog_1_method_46_code, 3, (some .boolean), 1, "BrookStones", (S_X7_isWithin fu (l := l) (D := D) (cA := cA) (base := base) (b := b)).1, by decide, by decide, mi_X7_isWithin.1, mi_X7_isWithin.2.1, mi_X7_isWithin.2.2.1, mi_X7_isWithin.2.2.2, Or.inr (tblN_of (i := 265) rfl rfl)⟩, (S_X7_isWithin fu (l := l) (D := D) (cA := cA) (base := base) (b := b)).2⟩) (nil_all))
    (nil_all)
    (T := T_X5_isDigit) (by decide +kernel) (cut := []) (N := 7) (D_X5_isDigit fu) (by decide +kernel) (fun h => absurd h (by decide)) (fun as w o h => ?_)
  unfold U_X5_isDigit at h
  split at h
  next =>
    exact ⟨Nat.le_of_ble_eq_true rfl, fu, (E_X5_isDigit fu _ w).symm.trans h⟩
  next => cases h
def T_X5_cellsTold : List (Nat × Instr) := [(0, .iconst 0), (1, .istore 4), (3, .iload 4), (5, .bipush 7), (7, .if_icmp .ge 34), (10, .iload 4), (12, .iconst 1), (13, .iadd), (14, .iload_n 3), (15, .if_icmp .ge 26), (18, .aload_n 0), (19, .iload_n 1), (20, .iload_n 2), (21, .iconst 1), (22, .iadd), (23, .iload 4), (25, .iadd), (26, .invokevirtual 19), (29, .invokestatic 50), (32, .ifCond .eq 9), (35, .iinc 4 1), (38, .goto (-35)), (41, .iload 4), (43, .iconst 3), (44, .invokestatic 54), (47, .ireturn)]
def op_X5_cellsTold (fu : Nat) : Nat → Kont → XL → List Value → XW → Instr → Option XO := opK 5 (rzOf (some .int)) fl_BrookStones_Text [] [] [] [(19, 3, 1, (U_X4_at fu))] [(50, 1, 1, (U_X5_isDigit fu)), (54, 2, 3, oMax)] []
def F_X5_cellsTold (fu : Nat) : Nat → (Nat → Int32 → Int32 → Int32 → Int32 → XW → Option XO)
  | 0 => fun _ _ _ _ _ _ => none
  | n + 1 => (fun a0 a1 a2 a3 a4 w =>
    (if a4 < (7 : Int32) then
      (if (a4 + (1 : Int32)) < a3 then
        cI (U_X4_at fu [.ref a0, .int a1, .int ((a2 + (1 : Int32)) + a4)] w) fun x6 w5 =>
        cI (U_X5_isDigit fu [.int x6] w5) fun x8 w7 =>
        (if x8 = 0 then
          cI (oMax [.int a4, .int (3 : Int32)] w7) fun x10 w9 =>
          some (some (.int x10), w9)
        else
          (F_X5_cellsTold fu n) a0 a1 a2 a3 (a4 + (1 : Int32)) w7)
      else
        cI (oMax [.int a4, .int (3 : Int32)] w) fun x4 w3 =>
        some (some (.int x4), w3))
    else
      cI (oMax [.int a4, .int (3 : Int32)] w) fun x2 w1 =>
      some (some (.int x2), w1)))
def M_X5_cellsTold (fu : Nat) (a0 : Nat) (a1 : Int32) (a2 : Int32) (a3 : Int32) (w : XW) : Option XO :=
  (F_X5_cellsTold fu fu) a0 a1 a2 a3 (0 : Int32) w
def U_X5_cellsTold (fu : Nat) : Orc := fun as w => match as with
  | [.ref a0, .int a1, .int a2, .int a3] => M_X5_cellsTold fu a0 a1 a2 a3 w
  | _ => none
def K_X5_cellsTold (fu : Nat) (n : Nat) : Kont := fun pc ls st w => bif pc == 3 then ((xr ls 0).bind fun a0 => (xi ls 1).bind fun a1 => (xi ls 2).bind fun a2 => (xi ls 3).bind fun a3 => (xi ls 4).bind fun a4 => skN st ((F_X5_cellsTold fu n) a0 a1 a2 a3 a4 w)) else none
set_option maxRecDepth 100000 in
set_option maxHeartbeats 4000000 in
theorem E_X5_cellsTold_3 (fu : Nat) (n : Nat) (a0 : Nat) (a1 : Int32) (a2 : Int32) (a3 : Int32) (a4 : Int32) (w : XW) : (F_X5_cellsTold fu (n + 1)) a0 a1 a2 a3 a4 w = ev T_X5_cellsTold (op_X5_cellsTold fu) [3] (K_X5_cellsTold fu n) 28 3 [(0, .ref a0), (1, .int a1), (2, .int a2), (3, .int a3), (4, .int a4)] [] w := by
  rfl
set_option maxRecDepth 100000 in
set_option maxHeartbeats 4000000 in
theorem E_X5_cellsTold (fu : Nat) (a0 : Nat) (a1 : Int32) (a2 : Int32) (a3 : Int32) (w : XW) : M_X5_cellsTold fu a0 a1 a2 a3 w = ev T_X5_cellsTold (op_X5_cellsTold fu) [3] (K_X5_cellsTold fu fu) 28 0 (lv_args 0 [.ref a0, .int a1, .int a2, .int a3]) [] w := by
  rfl
theorem D_X5_cellsTold (fu : Nat) : DS T_X5_cellsTold (op_X5_cellsTold fu) [3] 28 (K_X5_cellsTold fu) := by
  refine ⟨fun pc ls st w => c_none (b_none fun _ => b_none fun _ => b_none fun _ => b_none fun _ => b_none fun _ => skN_none rfl) (rfl), fun n pc ls st w o h => ?_⟩
  rcases c_some h with ⟨rfl, h⟩ | h
  · obtain ⟨a0, h0, h⟩ := some_of h; obtain ⟨a1, h1, h⟩ := some_of h; obtain ⟨a2, h2, h⟩ := some_of h; obtain ⟨a3, h3, h⟩ := some_of h; obtain ⟨a4, h4, h⟩ := some_of h;
    obtain ⟨e, g⟩ := skN_of h
    subst e
    exact ⟨[(0, .ref a0), (1, .int a1), (2, .int a2), (3, .int a3), (4, .int a4)], cons_all (xr_of h0) (cons_all (xi_of h1) (cons_all (xi_of h2) (cons_all (xi_of h3) (cons_all (xi_of h4) (nil_all))))), (E_X5_cellsTold_3 fu n a0 a1 a2 a3 a4 w).symm.trans g⟩
  · cases h
set_option maxRecDepth 100000 in
set_option maxHeartbeats 4000000 in
theorem S_X5_cellsTold (fu : Nat) {l : Launch} {D : va_G} {cA : Nat → ClassId} {base b : Nat} : CS l D cA base b 3 y_X5_cellsTold prog_7_method_5_code 5 (some .int) (U_X5_cellsTold fu) ∧ OM (U_X5_cellsTold fu) := by
  refine CS_of (d := 2) (y := y_X5_cellsTold) (cc := prog_7_method_5_code) (nL := 5) (ret := (some .int)) (F := U_X5_cellsTold fu) (fl := fl_BrookStones_Text) (nl := []) (kl := []) (k2 := []) (mv := [(19, 3, 1, (U_X4_at fu))]) (ms := [(50, 1, 1, (U_X5_isDigit fu)), (54, 2, 3, oMax)]) (mi := []) (ini := false) hI_w fl_BrookStones_Text_ok nil_all nil_all nil_all
    (cons_all (⟨⟨show (1 : Nat) ≠ 3 by decide, y_X4_at, prog_6_method_7_code, 3, (some .int), 1, "BrookStones", 4, TX4, 3, 2, (S_X4_at fu (l := l) (D := D) (cA := cA) (base := base) (b := b)).1, by decide, by decide, rfl, H_X4_at fu, rfl, mi_X4_at.1, mi_X4_at.2.1, mi_X4_at.2.2.1, mi_X4_at.2.2.2.1, mi_X4_at.2.2.2.2, Or.inr (tblN_of (i := 258) rfl rfl)⟩, (S_X4_at fu (l := l) (D := D) (cA := cA) (base := base) (b := b)).2⟩) (nil_all))
    (cons_all (⟨Or.inl ⟨show (1 : Nat) ≠ 3 by decide, y_X5_isDigit, prog_7_method_7_code, 1, (some .boolean), 2, "BrookStones", (S_X5_isDigit fu (l := l) (D := D) (cA := cA) (base := base) (b := b)).1, by decide, by decide, mi_X5_isDigit.1, mi_X5_isDigit.2.1, mi_X5_isDigit.2.2.1, mi_X5_isDigit.2.2.2, Or.inl (tblG_of (i := 262) rfl rfl)⟩, (S_X5_isDigit fu (l := l) (D := D) (cA := cA) (base := base) (b := b)).2⟩) (cons_all (⟨Or.inr (Or.inr (Or.inl ⟨rfl, rfl, rfl, tblG_of (i := 266) rfl rfl, tblG_of (i := 267) rfl rfl, tblG_of (i := 10) rfl rfl, tblG_of (i := 268) rfl rfl⟩)), om_max⟩) (nil_all)))
    (nil_all)
    (T := T_X5_cellsTold) (by decide +kernel) (cut := [3]) (N := 28) (D_X5_cellsTold fu) (by decide +kernel) (fun h => absurd h (by decide)) (fun as w o h => ?_)
  unfold U_X5_cellsTold at h
  split at h
  next =>
    exact ⟨Nat.le_of_ble_eq_true rfl, fu, (E_X5_cellsTold fu _ _ _ _ w).symm.trans h⟩
  next => cases h
def T_X5_length : List (Nat × Instr) := [(0, .iconst 2), (1, .iload_n 0), (2, .imul), (3, .bipush 6), (5, .iadd), (6, .ireturn)]
def op_X5_length (fu : Nat) : Nat → Kont → XL → List Value → XW → Instr → Option XO := opK 1 (rzOf (some .int)) fl_BrookStones_Text [] [] [] [] [] []
def M_X5_length (fu : Nat) (a0 : Int32) (w : XW) : Option XO :=
  some (some (.int (((2 : Int32) * a0) + (6 : Int32))), w)
def U_X5_length (fu : Nat) : Orc := fun as w => match as with
  | [.int a0] => M_X5_length fu a0 w
  | _ => none
def K_X5_length (fu : Nat) (n : Nat) : Kont := fun pc ls st w => none
set_option maxRecDepth 100000 in
set_option maxHeartbeats 4000000 in
theorem E_X5_length (fu : Nat) (a0 : Int32) (w : XW) : M_X5_length fu a0 w = ev T_X5_length (op_X5_length fu) [] (K_X5_length fu fu) 8 0 (lv_args 0 [.int a0]) [] w := by
  rfl
theorem D_X5_length (fu : Nat) : DS T_X5_length (op_X5_length fu) [] 8 (K_X5_length fu) := by
  refine ⟨fun pc ls st w => rfl, fun n pc ls st w o h => ?_⟩
  cases h
set_option maxRecDepth 100000 in
set_option maxHeartbeats 4000000 in
theorem S_X5_length (fu : Nat) {l : Launch} {D : va_G} {cA : Nat → ClassId} {base b : Nat} : CS l D cA base b 1 y_X5_length prog_7_method_4_code 1 (some .int) (U_X5_length fu) ∧ OM (U_X5_length fu) := by
  refine CS_of (d := 0) (y := y_X5_length) (cc := prog_7_method_4_code) (nL := 1) (ret := (some .int)) (F := U_X5_length fu) (fl := fl_BrookStones_Text) (nl := []) (kl := []) (k2 := []) (mv := []) (ms := []) (mi := []) (ini := false) hI_w fl_BrookStones_Text_ok nil_all nil_all nil_all
    (nil_all)
    (nil_all)
    (nil_all)
    (T := T_X5_length) (by decide +kernel) (cut := []) (N := 8) (D_X5_length fu) (by decide +kernel) (fun h => absurd h (by decide)) (fun as w o h => ?_)
  unfold U_X5_length at h
  split at h
  next =>
    exact ⟨Nat.le_of_ble_eq_true rfl, fu, (E_X5_length fu _ w).symm.trans h⟩
  next => cases h
def T_X5_goesOn : List (Nat × Instr) := [(0, .iload_n 1), (1, .ifCond .ne 15), (4, .iload_n 0), (5, .bipush 100), (7, .if_icmp .ne 7), (10, .iconst 1), (11, .goto 4), (14, .iconst 0), (15, .ireturn), (16, .iload_n 1), (17, .iload_n 2), (18, .iconst 1), (19, .iadd), (20, .if_icmp .eq 12), (23, .iload_n 1), (24, .iconst 2), (25, .iload_n 2), (26, .imul), (27, .iconst 3), (28, .iadd), (29, .if_icmp .ne 15), (32, .iload_n 0), (33, .bipush 59), (35, .if_icmp .ne 7), (38, .iconst 1), (39, .goto 4), (42, .iconst 0), (43, .ireturn), (44, .iload_n 1), (45, .iload_n 2), (46, .iconst 2), (47, .iadd), (48, .if_icmp .ne 15), (51, .iload_n 0), (52, .bipush 98), (54, .if_icmp .ne 7), (57, .iconst 1), (58, .goto 4), (61, .iconst 0), (62, .ireturn), (63, .iload_n 1), (64, .iconst 2), (65, .iload_n 2), (66, .imul), (67, .iconst 4), (68, .iadd), (69, .if_icmp .ne 17), (72, .iload_n 0), (73, .bipush 112), (75, .if_icmp .ne 7), (78, .iconst 1), (79, .goto 11), (82, .iconst 0), (83, .goto 7), (86, .iload_n 0), (87, .invokestatic 50), (90, .ireturn)]
def op_X5_goesOn (fu : Nat) : Nat → Kont → XL → List Value → XW → Instr → Option XO := opK 3 (rzOf (some .boolean)) fl_BrookStones_Text [] [] [] [] [(50, 1, 1, (U_X5_isDigit fu))] []
def M_X5_goesOn (fu : Nat) (a0 : Int32) (a1 : Int32) (a2 : Int32) (w : XW) : Option XO :=
  (if a1 = 0 then
    (if a0 = (100 : Int32) then
      retZ (1 : Int32) w
    else
      retZ (0 : Int32) w)
  else
    (if a1 = (a2 + (1 : Int32)) then
      (if a0 = (59 : Int32) then
        retZ (1 : Int32) w
      else
        retZ (0 : Int32) w)
    else
      (if a1 = (((2 : Int32) * a2) + (3 : Int32)) then
        (if a0 = (59 : Int32) then
          retZ (1 : Int32) w
        else
          retZ (0 : Int32) w)
      else
        (if a1 = (a2 + (2 : Int32)) then
          (if a0 = (98 : Int32) then
            retZ (1 : Int32) w
          else
            retZ (0 : Int32) w)
        else
          (if a1 = (((2 : Int32) * a2) + (4 : Int32)) then
            (if a0 = (112 : Int32) then
              retZ (1 : Int32) w
            else
              retZ (0 : Int32) w)
          else
            cI (U_X5_isDigit fu [.int a0] w) fun x2 w1 =>
            retZ x2 w1)))))
def U_X5_goesOn (fu : Nat) : Orc := fun as w => match as with
  | [.int a0, .int a1, .int a2] => M_X5_goesOn fu a0 a1 a2 w
  | _ => none
def K_X5_goesOn (fu : Nat) (n : Nat) : Kont := fun pc ls st w => none
set_option maxRecDepth 100000 in
set_option maxHeartbeats 4000000 in
theorem E_X5_goesOn (fu : Nat) (a0 : Int32) (a1 : Int32) (a2 : Int32) (w : XW) : M_X5_goesOn fu a0 a1 a2 w = ev T_X5_goesOn (op_X5_goesOn fu) [] (K_X5_goesOn fu fu) 59 0 (lv_args 0 [.int a0, .int a1, .int a2]) [] w := by
  rfl
theorem D_X5_goesOn (fu : Nat) : DS T_X5_goesOn (op_X5_goesOn fu) [] 59 (K_X5_goesOn fu) := by
  refine ⟨fun pc ls st w => rfl, fun n pc ls st w o h => ?_⟩
  cases h
set_option maxRecDepth 100000 in
set_option maxHeartbeats 4000000 in
theorem S_X5_goesOn (fu : Nat) {l : Launch} {D : va_G} {cA : Nat → ClassId} {base b : Nat} : CS l D cA base b 3 y_X5_goesOn prog_7_method_6_code 3 (some .boolean) (U_X5_goesOn fu) ∧ OM (U_X5_goesOn fu) := by
  refine CS_of (d := 2) (y := y_X5_goesOn) (cc := prog_7_method_6_code) (nL := 3) (ret := (some .boolean)) (F := U_X5_goesOn fu) (fl := fl_BrookStones_Text) (nl := []) (kl := []) (k2 := []) (mv := []) (ms := [(50, 1, 1, (U_X5_isDigit fu))]) (mi := []) (ini := false) hI_w fl_BrookStones_Text_ok nil_all nil_all nil_all
    (nil_all)
    (cons_all (⟨Or.inl ⟨show (1 : Nat) ≠ 3 by decide, y_X5_isDigit, prog_7_method_7_code, 1, (some .boolean), 2, "BrookStones", (S_X5_isDigit fu (l := l) (D := D) (cA := cA) (base := base) (b := b)).1, by decide, by decide, mi_X5_isDigit.1, mi_X5_isDigit.2.1, mi_X5_isDigit.2.2.1, mi_X5_isDigit.2.2.2, Or.inl (tblG_of (i := 262) rfl rfl)⟩, (S_X5_isDigit fu (l := l) (D := D) (cA := cA) (base := base) (b := b)).2⟩) (nil_all))
    (nil_all)
    (T := T_X5_goesOn) (by decide +kernel) (cut := []) (N := 59) (D_X5_goesOn fu) (by decide +kernel) (fun h => absurd h (by decide)) (fun as w o h => ?_)
  unfold U_X5_goesOn at h
  split at h
  next =>
    exact ⟨Nat.le_of_ble_eq_true rfl, fu, (E_X5_goesOn fu _ _ _ w).symm.trans h⟩
  next => cases h
def T_X5_firstFault : List (Nat × Instr) := [(0, .aload_n 0), (1, .iload_n 1), (2, .iload_n 2), (3, .iload_n 3), (4, .invokestatic 9), (7, .istore 4), (9, .iload 4), (11, .invokestatic 15), (14, .istore 5), (16, .iconst 0), (17, .istore 6), (19, .iload 6), (21, .iload_n 3), (22, .if_icmp .ge 38), (25, .iload 6), (27, .iload 5), (29, .if_icmp .ge 31), (32, .aload_n 0), (33, .iload_n 1), (34, .iload_n 2), (35, .iload 6), (37, .iadd), (38, .invokevirtual 19), (41, .iload 6), (43, .iload 4), (45, .invokestatic 25), (48, .ifCond .ne 6), (51, .iload 6), (53, .ireturn), (54, .iinc 6 1), (57, .goto (-38)), (60, .iload_n 3), (61, .iload 5), (63, .if_icmp .ne 7), (66, .iconst (-1)), (67, .goto 9), (70, .iload_n 3), (71, .iload 5), (73, .invokestatic 29), (76, .ireturn)]
def op_X5_firstFault (fu : Nat) : Nat → Kont → XL → List Value → XW → Instr → Option XO := opK 7 (rzOf (some .int)) fl_BrookStones_Text [] [] [] [(19, 3, 1, (U_X4_at fu))] [(9, 4, 1, (U_X5_cellsTold fu)), (15, 1, 1, (U_X5_length fu)), (25, 3, 1, (U_X5_goesOn fu)), (29, 2, 3, oMin)] []
def F_X5_firstFault (fu : Nat) : Nat → (Nat → Int32 → Int32 → Int32 → Int32 → Int32 → Int32 → XW → Option XO)
  | 0 => fun _ _ _ _ _ _ _ _ => none
  | n + 1 => (fun a0 a1 a2 a3 a4 a5 a6 w =>
    (if a6 < a3 then
      (if a6 < a5 then
        cI (U_X4_at fu [.ref a0, .int a1, .int (a2 + a6)] w) fun x6 w5 =>
        cI (U_X5_goesOn fu [.int x6, .int a6, .int a4] w5) fun x8 w7 =>
        (if x8 = 0 then
          some (some (.int a6), w7)
        else
          (F_X5_firstFault fu n) a0 a1 a2 a3 a4 a5 (a6 + (1 : Int32)) w7)
      else
        (if a3 = a5 then
          some (some (.int (-1 : Int32)), w)
        else
          cI (oMin [.int a3, .int a5] w) fun x4 w3 =>
          some (some (.int x4), w3)))
    else
      (if a3 = a5 then
        some (some (.int (-1 : Int32)), w)
      else
        cI (oMin [.int a3, .int a5] w) fun x2 w1 =>
        some (some (.int x2), w1))))
def M_X5_firstFault (fu : Nat) (a0 : Nat) (a1 : Int32) (a2 : Int32) (a3 : Int32) (w : XW) : Option XO :=
  cI (U_X5_cellsTold fu [.ref a0, .int a1, .int a2, .int a3] w) fun x10 w9 =>
  cI (U_X5_length fu [.int x10] w9) fun x12 w11 =>
  (F_X5_firstFault fu fu) a0 a1 a2 a3 x10 x12 (0 : Int32) w11
def U_X5_firstFault (fu : Nat) : Orc := fun as w => match as with
  | [.ref a0, .int a1, .int a2, .int a3] => M_X5_firstFault fu a0 a1 a2 a3 w
  | _ => none
def K_X5_firstFault (fu : Nat) (n : Nat) : Kont := fun pc ls st w => bif pc == 19 then ((xr ls 0).bind fun a0 => (xi ls 1).bind fun a1 => (xi ls 2).bind fun a2 => (xi ls 3).bind fun a3 => (xi ls 4).bind fun a4 => (xi ls 5).bind fun a5 => (xi ls 6).bind fun a6 => skN st ((F_X5_firstFault fu n) a0 a1 a2 a3 a4 a5 a6 w)) else none
set_option maxRecDepth 100000 in
set_option maxHeartbeats 4000000 in
theorem E_X5_firstFault_19 (fu : Nat) (n : Nat) (a0 : Nat) (a1 : Int32) (a2 : Int32) (a3 : Int32) (a4 : Int32) (a5 : Int32) (a6 : Int32) (w : XW) : (F_X5_firstFault fu (n + 1)) a0 a1 a2 a3 a4 a5 a6 w = ev T_X5_firstFault (op_X5_firstFault fu) [19] (K_X5_firstFault fu n) 42 19 [(0, .ref a0), (1, .int a1), (2, .int a2), (3, .int a3), (4, .int a4), (5, .int a5), (6, .int a6)] [] w := by
  rfl
set_option maxRecDepth 100000 in
set_option maxHeartbeats 4000000 in
theorem E_X5_firstFault (fu : Nat) (a0 : Nat) (a1 : Int32) (a2 : Int32) (a3 : Int32) (w : XW) : M_X5_firstFault fu a0 a1 a2 a3 w = ev T_X5_firstFault (op_X5_firstFault fu) [19] (K_X5_firstFault fu fu) 42 0 (lv_args 0 [.ref a0, .int a1, .int a2, .int a3]) [] w := by
  rfl
theorem D_X5_firstFault (fu : Nat) : DS T_X5_firstFault (op_X5_firstFault fu) [19] 42 (K_X5_firstFault fu) := by
  refine ⟨fun pc ls st w => c_none (b_none fun _ => b_none fun _ => b_none fun _ => b_none fun _ => b_none fun _ => b_none fun _ => b_none fun _ => skN_none rfl) (rfl), fun n pc ls st w o h => ?_⟩
  rcases c_some h with ⟨rfl, h⟩ | h
  · obtain ⟨a0, h0, h⟩ := some_of h; obtain ⟨a1, h1, h⟩ := some_of h; obtain ⟨a2, h2, h⟩ := some_of h; obtain ⟨a3, h3, h⟩ := some_of h; obtain ⟨a4, h4, h⟩ := some_of h; obtain ⟨a5, h5, h⟩ := some_of h; obtain ⟨a6, h6, h⟩ := some_of h;
    obtain ⟨e, g⟩ := skN_of h
    subst e
    exact ⟨[(0, .ref a0), (1, .int a1), (2, .int a2), (3, .int a3), (4, .int a4), (5, .int a5), (6, .int a6)], cons_all (xr_of h0) (cons_all (xi_of h1) (cons_all (xi_of h2) (cons_all (xi_of h3) (cons_all (xi_of h4) (cons_all (xi_of h5) (cons_all (xi_of h6) (nil_all))))))), (E_X5_firstFault_19 fu n a0 a1 a2 a3 a4 a5 a6 w).symm.trans g⟩
  · cases h
set_option maxRecDepth 100000 in
set_option maxHeartbeats 4000000 in
theorem S_X5_firstFault (fu : Nat) {l : Launch} {D : va_G} {cA : Nat → ClassId} {base b : Nat} : CS l D cA base b 4 y_X5_firstFault prog_7_method_2_code 7 (some .int) (U_X5_firstFault fu) ∧ OM (U_X5_firstFault fu) := by
  refine CS_of (d := 3) (y := y_X5_firstFault) (cc := prog_7_method_2_code) (nL := 7) (ret := (some .int)) (F := U_X5_firstFault fu) (fl := fl_BrookStones_Text) (nl := []) (kl := []) (k2 := []) (mv := [(19, 3, 1, (U_X4_at fu))]) (ms := [(9, 4, 1, (U_X5_cellsTold fu)), (15, 1, 1, (U_X5_length fu)), (25, 3, 1, (U_X5_goesOn fu)), (29, 2, 3, oMin)]) (mi := []) (ini := false) hI_w fl_BrookStones_Text_ok nil_all nil_all nil_all
    (cons_all (⟨⟨show (1 : Nat) ≠ 3 by decide, y_X4_at, prog_6_method_7_code, 3, (some .int), 1, "BrookStones", 4, TX4, 3, 2, (S_X4_at fu (l := l) (D := D) (cA := cA) (base := base) (b := b)).1, by decide, by decide, rfl, H_X4_at fu, rfl, mi_X4_at.1, mi_X4_at.2.1, mi_X4_at.2.2.1, mi_X4_at.2.2.2.1, mi_X4_at.2.2.2.2, Or.inr (tblN_of (i := 258) rfl rfl)⟩, (S_X4_at fu (l := l) (D := D) (cA := cA) (base := base) (b := b)).2⟩) (nil_all))
    (cons_all (⟨Or.inl ⟨show (1 : Nat) ≠ 3 by decide, y_X5_cellsTold, prog_7_method_5_code, 5, (some .int), 3, "BrookStones", (S_X5_cellsTold fu (l := l) (D := D) (cA := cA) (base := base) (b := b)).1, by decide, by decide, mi_X5_cellsTold.1, mi_X5_cellsTold.2.1, mi_X5_cellsTold.2.2.1, mi_X5_cellsTold.2.2.2, Or.inl (tblG_of (i := 255) rfl rfl)⟩, (S_X5_cellsTold fu (l := l) (D := D) (cA := cA) (base := base) (b := b)).2⟩) (cons_all (⟨Or.inl ⟨show (1 : Nat) ≠ 3 by decide, y_X5_length, prog_7_method_4_code, 1, (some .int), 1, "BrookStones", (S_X5_length fu (l := l) (D := D) (cA := cA) (base := base) (b := b)).1, by decide, by decide, mi_X5_length.1, mi_X5_length.2.1, mi_X5_length.2.2.1, mi_X5_length.2.2.2, Or.inl (tblG_of (i := 269) rfl rfl)⟩, (S_X5_length fu (l := l) (D := D) (cA := cA) (base := base) (b := b)).2⟩) (cons_all (⟨Or.inl ⟨show (1 : Nat) ≠ 3 by decide, y_X5_goesOn, prog_7_method_6_code, 3, (some .boolean), 3, "BrookStones", (S_X5_goesOn fu (l := l) (D := D) (cA := cA) (base := base) (b := b)).1, by decide, by decide, mi_X5_goesOn.1, mi_X5_goesOn.2.1, mi_X5_goesOn.2.2.1, mi_X5_goesOn.2.2.2, Or.inl (tblG_of (i := 272) rfl rfl)⟩, (S_X5_goesOn fu (l := l) (D := D) (cA := cA) (base := base) (b := b)).2⟩) (cons_all (⟨Or.inr (Or.inr (Or.inr ⟨rfl, rfl, rfl, tblG_of (i := 275) rfl rfl, tblG_of (i := 276) rfl rfl, tblG_of (i := 10) rfl rfl, tblG_of (i := 277) rfl rfl⟩)), om_min⟩) (nil_all)))))
    (nil_all)
    (T := T_X5_firstFault) (by decide +kernel) (cut := [19]) (N := 42) (D_X5_firstFault fu) (by decide +kernel) (fun h => absurd h (by decide)) (fun as w o h => ?_)
  unfold U_X5_firstFault at h
  split at h
  next =>
    exact ⟨Nat.le_of_ble_eq_true rfl, fu, (E_X5_firstFault fu _ _ _ _ w).symm.trans h⟩
  next => cases h
def T_X0_makeAnew : List (Nat × Instr) := [(0, .aload_n 0), (1, .getfield 18), (4, .bipush (-9)), (6, .invokestatic 36), (9, .aload_n 0), (10, .iconst 0), (11, .putfield 42), (14, .aload_n 0), (15, .iconst 0), (16, .putfield 46), (19, .aload_n 0), (20, .iconst 0), (21, .putfield 49), (24, .aload_n 0), (25, .iconst 0), (26, .putfield 52), (29, .aload_n 0), (30, .iconst 0), (31, .putfield 55), (34, .return_)]
def op_X0_makeAnew (fu : Nat) : Nat → Kont → XL → List Value → XW → Instr → Option XO := opK 1 (rzOf (none)) fl_BrookStones_Brook [] [] [] [] [(36, 2, 0, (U_J7_fill_53178 fu))] []
def M_X0_makeAnew (fu : Nat) (a0 : Nat) (w : XW) : Option XO :=
  (gR w a0 0 2).bind fun r1 =>
  cV (U_J7_fill_53178 fu [.ref r1, .int (-9 : Int32)] w) fun w2 =>
  (pF w2 a0 0 10 (.int (0 : Int32))).bind fun w3 =>
  (pF w3 a0 0 11 (.int (0 : Int32))).bind fun w4 =>
  (pF w4 a0 0 12 (.int (0 : Int32))).bind fun w5 =>
  (pF w5 a0 0 13 (.int (0 : Int32))).bind fun w6 =>
  (pF w6 a0 0 14 (.int (0 : Int32))).bind fun w7 =>
  some (none, w7)
def U_X0_makeAnew (fu : Nat) : Orc := fun as w => match as with
  | [.ref a0] => if isO w a0 0 = true then M_X0_makeAnew fu a0 w else none
  | _ => none
def K_X0_makeAnew (fu : Nat) (n : Nat) : Kont := fun pc ls st w => none
set_option maxRecDepth 100000 in
set_option maxHeartbeats 4000000 in
theorem E_X0_makeAnew (fu : Nat) (a0 : Nat) (w : XW) : M_X0_makeAnew fu a0 w = ev T_X0_makeAnew (op_X0_makeAnew fu) [] (K_X0_makeAnew fu fu) 22 0 (lv_args 0 [.ref a0]) [] w := by
  rfl
theorem D_X0_makeAnew (fu : Nat) : DS T_X0_makeAnew (op_X0_makeAnew fu) [] 22 (K_X0_makeAnew fu) := by
  refine ⟨fun pc ls st w => rfl, fun n pc ls st w o h => ?_⟩
  cases h
theorem H_X0_makeAnew (fu : Nat) : ∀ as w o, U_X0_makeAnew fu as w = some o → ∃ a r, as = .ref a :: r ∧ r.length = 0 ∧ isO w a 0 = true := by
  intro as w o h
  unfold U_X0_makeAnew at h
  split at h
  next =>
    split at h
    next hh => exact ⟨_, _, rfl, rfl, hh⟩
    next => cases h
  next => cases h
set_option maxRecDepth 100000 in
set_option maxHeartbeats 4000000 in
theorem S_X0_makeAnew (fu : Nat) {l : Launch} {D : va_G} {cA : Nat → ClassId} {base b : Nat} : CS l D cA base b 2 y_X0_makeAnew prog_2_method_2_code 1 (none) (U_X0_makeAnew fu) ∧ OM (U_X0_makeAnew fu) := by
  refine CS_of (d := 1) (y := y_X0_makeAnew) (cc := prog_2_method_2_code) (nL := 1) (ret := (none)) (F := U_X0_makeAnew fu) (fl := fl_BrookStones_Brook) (nl := []) (kl := []) (k2 := []) (mv := []) (ms := [(36, 2, 0, (U_J7_fill_53178 fu))]) (mi := []) (ini := false) hI_w fl_BrookStones_Brook_ok nil_all nil_all nil_all
    (nil_all)
    (cons_all (⟨Or.inl ⟨show (0 : Nat) ≠ 3 by decide, y_J7_fill_53178, prog_13_method_103_code, 4, (none), 1, "BrookStones", (S_J7_fill_53178 fu (l := l) (D := D) (cA := cA) (base := base) (b := b)).1, by decide, by decide, mi_J7_fill_53178.1, mi_J7_fill_53178.2.1, mi_J7_fill_53178.2.2.1, mi_J7_fill_53178.2.2.2, Or.inl (tblG_of (i := 26) rfl rfl)⟩, (S_J7_fill_53178 fu (l := l) (D := D) (cA := cA) (base := base) (b := b)).2⟩) (nil_all))
    (nil_all)
    (T := T_X0_makeAnew) (by decide +kernel) (cut := []) (N := 22) (D_X0_makeAnew fu) (by decide +kernel) (fun h => absurd h (by decide)) (fun as w o h => ?_)
  unfold U_X0_makeAnew at h
  split at h
  next =>
    split at h
    next => exact ⟨Nat.le_of_ble_eq_true rfl, fu, (E_X0_makeAnew fu _ w).symm.trans h⟩
    next => cases h
  next => cases h
def T_X5_readInto : List (Nat × Instr) := [(0, .aload_n 1), (1, .iload_n 2), (2, .iload_n 3), (3, .iload 4), (5, .invokestatic 9), (8, .istore 5), (10, .iconst 0), (11, .istore 6), (13, .iload 6), (15, .iload 5), (17, .if_icmp .ge 54), (20, .aload_n 0), (21, .getfield 34), (24, .iload 6), (26, .aload_n 1), (27, .iload_n 2), (28, .iload_n 3), (29, .iconst 1), (30, .iadd), (31, .iload 6), (33, .iadd), (34, .invokevirtual 19), (37, .bipush 48), (39, .isub), (40, .iastore), (41, .aload_n 0), (42, .getfield 40), (45, .iload 6), (47, .aload_n 1), (48, .iload_n 2), (49, .iload_n 3), (50, .iload 5), (52, .iadd), (53, .iconst 3), (54, .iadd), (55, .iload 6), (57, .iadd), (58, .invokevirtual 19), (61, .bipush 48), (63, .isub), (64, .iastore), (65, .iinc 6 1), (68, .goto (-55)), (71, .aload_n 0), (72, .aload_n 1), (73, .iload_n 2), (74, .iload_n 3), (75, .iconst 2), (76, .iload 5), (78, .imul), (79, .iadd), (80, .iconst 5), (81, .iadd), (82, .invokevirtual 19), (85, .bipush 48), (87, .isub), (88, .putfield 43), (91, .aload_n 0), (92, .iload 5), (94, .putfield 47), (97, .return_)]
def op_X5_readInto (fu : Nat) : Nat → Kont → XL → List Value → XW → Instr → Option XO := opK 7 (rzOf (none)) fl_BrookStones_Text [] [] [] [(19, 3, 1, (U_X4_at fu))] [(9, 4, 1, (U_X5_cellsTold fu))] []
def F_X5_readInto (fu : Nat) : Nat → (Nat → Nat → Int32 → Int32 → Int32 → Int32 → XW → Option XO)
  | 0 => fun _ _ _ _ _ _ _ => none
  | n + 1 => (fun a0 a1 a2 a3 a5 a6 w =>
    (if a6 < a5 then
      (gR w a0 0 0).bind fun r5 =>
      cI (U_X4_at fu [.ref a1, .int a2, .int ((a3 + (1 : Int32)) + a6)] w) fun x7 w6 =>
      (sI w6 r5 a6 (x7 - (48 : Int32))).bind fun w8 =>
      (gR w8 a0 0 1).bind fun r9 =>
      cI (U_X4_at fu [.ref a1, .int a2, .int (((a3 + a5) + (3 : Int32)) + a6)] w8) fun x11 w10 =>
      (sI w10 r9 a6 (x11 - (48 : Int32))).bind fun w12 =>
      (F_X5_readInto fu n) a0 a1 a2 a3 a5 (a6 + (1 : Int32)) w12
    else
      cI (U_X4_at fu [.ref a1, .int a2, .int ((a3 + ((2 : Int32) * a5)) + (5 : Int32))] w) fun x2 w1 =>
      (pF w1 a0 0 9 (.int (x2 - (48 : Int32)))).bind fun w3 =>
      (pF w3 a0 0 8 (.int a5)).bind fun w4 =>
      some (none, w4)))
def M_X5_readInto (fu : Nat) (a0 : Nat) (a1 : Nat) (a2 : Int32) (a3 : Int32) (a4 : Int32) (w : XW) : Option XO :=
  cI (U_X5_cellsTold fu [.ref a1, .int a2, .int a3, .int a4] w) fun x14 w13 =>
  (F_X5_readInto fu fu) a0 a1 a2 a3 x14 (0 : Int32) w13
def U_X5_readInto (fu : Nat) : Orc := fun as w => match as with
  | [.ref a0, .ref a1, .int a2, .int a3, .int a4] => M_X5_readInto fu a0 a1 a2 a3 a4 w
  | _ => none
def K_X5_readInto (fu : Nat) (n : Nat) : Kont := fun pc ls st w => bif pc == 13 then ((xr ls 0).bind fun a0 => (xr ls 1).bind fun a1 => (xi ls 2).bind fun a2 => (xi ls 3).bind fun a3 => (xi ls 5).bind fun a5 => (xi ls 6).bind fun a6 => skN st ((F_X5_readInto fu n) a0 a1 a2 a3 a5 a6 w)) else none
set_option maxRecDepth 100000 in
set_option maxHeartbeats 4000000 in
theorem E_X5_readInto_13 (fu : Nat) (n : Nat) (a0 : Nat) (a1 : Nat) (a2 : Int32) (a3 : Int32) (a5 : Int32) (a6 : Int32) (w : XW) : (F_X5_readInto fu (n + 1)) a0 a1 a2 a3 a5 a6 w = ev T_X5_readInto (op_X5_readInto fu) [13] (K_X5_readInto fu n) 63 13 [(0, .ref a0), (1, .ref a1), (2, .int a2), (3, .int a3), (5, .int a5), (6, .int a6)] [] w := by
  rfl
set_option maxRecDepth 100000 in
set_option maxHeartbeats 4000000 in
theorem E_X5_readInto (fu : Nat) (a0 : Nat) (a1 : Nat) (a2 : Int32) (a3 : Int32) (a4 : Int32) (w : XW) : M_X5_readInto fu a0 a1 a2 a3 a4 w = ev T_X5_readInto (op_X5_readInto fu) [13] (K_X5_readInto fu fu) 63 0 (lv_args 0 [.ref a0, .ref a1, .int a2, .int a3, .int a4]) [] w := by
  rfl
theorem D_X5_readInto (fu : Nat) : DS T_X5_readInto (op_X5_readInto fu) [13] 63 (K_X5_readInto fu) := by
  refine ⟨fun pc ls st w => c_none (b_none fun _ => b_none fun _ => b_none fun _ => b_none fun _ => b_none fun _ => b_none fun _ => skN_none rfl) (rfl), fun n pc ls st w o h => ?_⟩
  rcases c_some h with ⟨rfl, h⟩ | h
  · obtain ⟨a0, h0, h⟩ := some_of h; obtain ⟨a1, h1, h⟩ := some_of h; obtain ⟨a2, h2, h⟩ := some_of h; obtain ⟨a3, h3, h⟩ := some_of h; obtain ⟨a5, h5, h⟩ := some_of h; obtain ⟨a6, h6, h⟩ := some_of h;
    obtain ⟨e, g⟩ := skN_of h
    subst e
    exact ⟨[(0, .ref a0), (1, .ref a1), (2, .int a2), (3, .int a3), (5, .int a5), (6, .int a6)], cons_all (xr_of h0) (cons_all (xr_of h1) (cons_all (xi_of h2) (cons_all (xi_of h3) (cons_all (xi_of h5) (cons_all (xi_of h6) (nil_all)))))), (E_X5_readInto_13 fu n a0 a1 a2 a3 a5 a6 w).symm.trans g⟩
  · cases h
set_option maxRecDepth 100000 in
set_option maxHeartbeats 4000000 in
theorem S_X5_readInto (fu : Nat) {l : Launch} {D : va_G} {cA : Nat → ClassId} {base b : Nat} : CS l D cA base b 4 y_X5_readInto prog_7_method_3_code 7 (none) (U_X5_readInto fu) ∧ OM (U_X5_readInto fu) := by
  refine CS_of (d := 3) (y := y_X5_readInto) (cc := prog_7_method_3_code) (nL := 7) (ret := (none)) (F := U_X5_readInto fu) (fl := fl_BrookStones_Text) (nl := []) (kl := []) (k2 := []) (mv := [(19, 3, 1, (U_X4_at fu))]) (ms := [(9, 4, 1, (U_X5_cellsTold fu))]) (mi := []) (ini := false) hI_w fl_BrookStones_Text_ok nil_all nil_all nil_all
    (cons_all (⟨⟨show (1 : Nat) ≠ 3 by decide, y_X4_at, prog_6_method_7_code, 3, (some .int), 1, "BrookStones", 4, TX4, 3, 2, (S_X4_at fu (l := l) (D := D) (cA := cA) (base := base) (b := b)).1, by decide, by decide, rfl, H_X4_at fu, rfl, mi_X4_at.1, mi_X4_at.2.1, mi_X4_at.2.2.1, mi_X4_at.2.2.2.1, mi_X4_at.2.2.2.2, Or.inr (tblN_of (i := 258) rfl rfl)⟩, (S_X4_at fu (l := l) (D := D) (cA := cA) (base := base) (b := b)).2⟩) (nil_all))
    (cons_all (⟨Or.inl ⟨show (1 : Nat) ≠ 3 by decide, y_X5_cellsTold, prog_7_method_5_code, 5, (some .int), 3, "BrookStones", (S_X5_cellsTold fu (l := l) (D := D) (cA := cA) (base := base) (b := b)).1, by decide, by decide, mi_X5_cellsTold.1, mi_X5_cellsTold.2.1, mi_X5_cellsTold.2.2.1, mi_X5_cellsTold.2.2.2, Or.inl (tblG_of (i := 255) rfl rfl)⟩, (S_X5_cellsTold fu (l := l) (D := D) (cA := cA) (base := base) (b := b)).2⟩) (nil_all))
    (nil_all)
    (T := T_X5_readInto) (by decide +kernel) (cut := [13]) (N := 63) (D_X5_readInto fu) (by decide +kernel) (fun h => absurd h (by decide)) (fun as w o h => ?_)
  unfold U_X5_readInto at h
  split at h
  next =>
    exact ⟨Nat.le_of_ble_eq_true rfl, fu, (E_X5_readInto fu _ _ _ _ _ w).symm.trans h⟩
  next => cases h
def T_X7_brook : List (Nat × Instr) := [(0, .aload_n 0), (1, .iconst 0), (2, .putfield 53), (5, .aload_n 0), (6, .iload_n 1), (7, .iload_n 2), (8, .iload_n 3), (9, .iload 4), (11, .invokevirtual 57), (14, .istore 5), (16, .iload 5), (18, .ifCond .eq 6), (21, .iload 5), (23, .ireturn), (24, .aload_n 0), (25, .getfield 21), (28, .iload_n 1), (29, .iload_n 3), (30, .iload 4), (32, .invokestatic 61), (35, .istore 6), (37, .iload 6), (39, .ifCond .lt 9), (42, .bipush (-100)), (44, .iload 6), (46, .isub), (47, .ireturn), (48, .aload_n 0), (49, .getfield 12), (52, .invokevirtual 67), (55, .aload_n 0), (56, .getfield 12), (59, .aload_n 0), (60, .getfield 21), (63, .iload_n 1), (64, .iload_n 3), (65, .iload 4), (67, .invokestatic 70), (70, .aload_n 0), (71, .getfield 12), (74, .getfield 74), (77, .ireturn)]
def op_X7_brook (fu : Nat) : Nat → Kont → XL → List Value → XW → Instr → Option XO := opK 7 (rzOf (some .int)) fl_BrookStones nl_BrookStones [] [] [(57, 5, 1, (U_X7_refusalOfCells fu)), (67, 1, 0, (U_X0_makeAnew fu))] [(61, 4, 1, (U_X5_firstFault fu)), (70, 5, 0, (U_X5_readInto fu))] []
def M_X7_brook (fu : Nat) (a0 : Nat) (a1 : Int32) (a2 : Int32) (a3 : Int32) (a4 : Int32) (w : XW) : Option XO :=
  (pF w a0 6 7 (.int (0 : Int32))).bind fun w1 =>
  cI (U_X7_refusalOfCells fu [.ref a0, .int a1, .int a2, .int a3, .int a4] w1) fun x3 w2 =>
  (if x3 = 0 then
    (gR w2 a0 6 1).bind fun r4 =>
    cI (U_X5_firstFault fu [.ref r4, .int a1, .int a3, .int a4] w2) fun x6 w5 =>
    (if x6 < 0 then
      (gR w5 a0 6 0).bind fun r7 =>
      cV (U_X0_makeAnew fu [.ref r7] w5) fun w8 =>
      (gR w8 a0 6 0).bind fun r9 =>
      (gR w8 a0 6 1).bind fun r10 =>
      cV (U_X5_readInto fu [.ref r9, .ref r10, .int a1, .int a3, .int a4] w8) fun w11 =>
      (gR w11 a0 6 0).bind fun r12 =>
      (gI w11 r12 0 8).bind fun x13 =>
      some (some (.int x13), w11)
    else
      some (some (.int ((-100 : Int32) - x6)), w5))
  else
    some (some (.int x3), w2))
def U_X7_brook (fu : Nat) : Orc := fun as w => match as with
  | [.ref a0, .int a1, .int a2, .int a3, .int a4] => if isO w a0 6 = true then M_X7_brook fu a0 a1 a2 a3 a4 w else none
  | _ => none
def K_X7_brook (fu : Nat) (n : Nat) : Kont := fun pc ls st w => none
set_option maxRecDepth 100000 in
set_option maxHeartbeats 4000000 in
theorem E_X7_brook (fu : Nat) (a0 : Nat) (a1 : Int32) (a2 : Int32) (a3 : Int32) (a4 : Int32) (w : XW) : M_X7_brook fu a0 a1 a2 a3 a4 w = ev T_X7_brook (op_X7_brook fu) [] (K_X7_brook fu fu) 44 0 (lv_args 0 [.ref a0, .int a1, .int a2, .int a3, .int a4]) [] w := by
  rfl
theorem D_X7_brook (fu : Nat) : DS T_X7_brook (op_X7_brook fu) [] 44 (K_X7_brook fu) := by
  refine ⟨fun pc ls st w => rfl, fun n pc ls st w o h => ?_⟩
  cases h
theorem H_X7_brook (fu : Nat) : ∀ as w o, U_X7_brook fu as w = some o → ∃ a r, as = .ref a :: r ∧ r.length = 4 ∧ isO w a 6 = true := by
  intro as w o h
  unfold U_X7_brook at h
  split at h
  next =>
    split at h
    next hh => exact ⟨_, _, rfl, rfl, hh⟩
    next => cases h
  next => cases h
set_option maxRecDepth 100000 in
set_option maxHeartbeats 4000000 in
theorem S_X7_brook (fu : Nat) {l : Launch} {D : va_G} {cA : Nat → ClassId} {base b : Nat} : CS l D cA base b 5 y_X7_brook prog_1_method_2_code 7 (some .int) (U_X7_brook fu) ∧ OM (U_X7_brook fu) := by
  refine CS_of (d := 4) (y := y_X7_brook) (cc := prog_1_method_2_code) (nL := 7) (ret := (some .int)) (F := U_X7_brook fu) (fl := fl_BrookStones) (nl := nl_BrookStones) (kl := []) (k2 := []) (mv := [(57, 5, 1, (U_X7_refusalOfCells fu)), (67, 1, 0, (U_X0_makeAnew fu))]) (ms := [(61, 4, 1, (U_X5_firstFault fu)), (70, 5, 0, (U_X5_readInto fu))]) (mi := []) (ini := false) hI_w fl_BrookStones_ok nl_BrookStones_ok nil_all nil_all
    (cons_all (⟨⟨show (1 : Nat) ≠ 3 by decide, y_X7_refusalOfCells, prog_1_method_39_code, 6, (some .int), 3, "BrookStones", 6, TX7, 8, 4, (S_X7_refusalOfCells fu (l := l) (D := D) (cA := cA) (base := base) (b := b)).1, by decide, by decide, rfl, H_X7_refusalOfCells fu, rfl, mi_X7_refusalOfCells.1, mi_X7_refusalOfCells.2.1, mi_X7_refusalOfCells.2.2.1, mi_X7_refusalOfCells.2.2.2.1, mi_X7_refusalOfCells.2.2.2.2, Or.inl (tblG_of (i := 223) rfl rfl)⟩, (S_X7_refusalOfCells fu (l := l) (D := D) (cA := cA) (base := base) (b := b)).2⟩) (cons_all (⟨⟨show (0 : Nat) ≠ 3 by decide, y_X0_makeAnew, prog_2_method_2_code, 1, (none), 2, "BrookStones", 0, TX0, 15, 0, (S_X0_makeAnew fu (l := l) (D := D) (cA := cA) (base := base) (b := b)).1, by decide, by decide, rfl, H_X0_makeAnew fu, rfl, mi_X0_makeAnew.1, mi_X0_makeAnew.2.1, mi_X0_makeAnew.2.2.1, mi_X0_makeAnew.2.2.2.1, mi_X0_makeAnew.2.2.2.2, Or.inr (tblN_of (i := 278) rfl rfl)⟩, (S_X0_makeAnew fu (l := l) (D := D) (cA := cA) (base := base) (b := b)).2⟩) (nil_all)))
    (cons_all (⟨Or.inl ⟨show (1 : Nat) ≠ 3 by decide, y_X5_firstFault, prog_7_method_2_code, 7, (some .int), 4, "BrookStones", (S_X5_firstFault fu (l := l) (D := D) (cA := cA) (base := base) (b := b)).1, by decide, by decide, mi_X5_firstFault.1, mi_X5_firstFault.2.1, mi_X5_firstFault.2.2.1, mi_X5_firstFault.2.2.2, Or.inr (tblN_of (i := 252) rfl rfl)⟩, (S_X5_firstFault fu (l := l) (D := D) (cA := cA) (base := base) (b := b)).2⟩) (cons_all (⟨Or.inl ⟨show (0 : Nat) ≠ 3 by decide, y_X5_readInto, prog_7_method_3_code, 7, (none), 4, "BrookStones", (S_X5_readInto fu (l := l) (D := D) (cA := cA) (base := base) (b := b)).1, by decide, by decide, mi_X5_readInto.1, mi_X5_readInto.2.1, mi_X5_readInto.2.2.1, mi_X5_readInto.2.2.2, Or.inr (tblN_of (i := 282) rfl rfl)⟩, (S_X5_readInto fu (l := l) (D := D) (cA := cA) (base := base) (b := b)).2⟩) (nil_all)))
    (nil_all)
    (T := T_X7_brook) (by decide +kernel) (cut := []) (N := 44) (D_X7_brook fu) (by decide +kernel) (fun h => absurd h (by decide)) (fun as w o h => ?_)
  unfold U_X7_brook at h
  split at h
  next =>
    split at h
    next => exact ⟨Nat.le_of_ble_eq_true rfl, fu, (E_X7_brook fu _ _ _ _ _ w).symm.trans h⟩
    next => cases h
  next => cases h
def T_X0_isThere : List (Nat × Instr) := [(0, .aload_n 0), (1, .getfield 58), (4, .ifCond .le 7), (7, .iconst 1), (8, .goto 4), (11, .iconst 0), (12, .ireturn)]
def op_X0_isThere (fu : Nat) : Nat → Kont → XL → List Value → XW → Instr → Option XO := opK 1 (rzOf (some .boolean)) fl_BrookStones_Brook [] [] [] [] [] []
def M_X0_isThere (fu : Nat) (a0 : Nat) (w : XW) : Option XO :=
  (gI w a0 0 8).bind fun x1 =>
  (if 0 < x1 then
    retZ (1 : Int32) w
  else
    retZ (0 : Int32) w)
def U_X0_isThere (fu : Nat) : Orc := fun as w => match as with
  | [.ref a0] => if isO w a0 0 = true then M_X0_isThere fu a0 w else none
  | _ => none
def K_X0_isThere (fu : Nat) (n : Nat) : Kont := fun pc ls st w => none
set_option maxRecDepth 100000 in
set_option maxHeartbeats 4000000 in
theorem E_X0_isThere (fu : Nat) (a0 : Nat) (w : XW) : M_X0_isThere fu a0 w = ev T_X0_isThere (op_X0_isThere fu) [] (K_X0_isThere fu fu) 9 0 (lv_args 0 [.ref a0]) [] w := by
  rfl
theorem D_X0_isThere (fu : Nat) : DS T_X0_isThere (op_X0_isThere fu) [] 9 (K_X0_isThere fu) := by
  refine ⟨fun pc ls st w => rfl, fun n pc ls st w o h => ?_⟩
  cases h
theorem H_X0_isThere (fu : Nat) : ∀ as w o, U_X0_isThere fu as w = some o → ∃ a r, as = .ref a :: r ∧ r.length = 0 ∧ isO w a 0 = true := by
  intro as w o h
  unfold U_X0_isThere at h
  split at h
  next =>
    split at h
    next hh => exact ⟨_, _, rfl, rfl, hh⟩
    next => cases h
  next => cases h
set_option maxRecDepth 100000 in
set_option maxHeartbeats 4000000 in
theorem S_X0_isThere (fu : Nat) {l : Launch} {D : va_G} {cA : Nat → ClassId} {base b : Nat} : CS l D cA base b 1 y_X0_isThere prog_2_method_3_code 1 (some .boolean) (U_X0_isThere fu) ∧ OM (U_X0_isThere fu) := by
  refine CS_of (d := 0) (y := y_X0_isThere) (cc := prog_2_method_3_code) (nL := 1) (ret := (some .boolean)) (F := U_X0_isThere fu) (fl := fl_BrookStones_Brook) (nl := []) (kl := []) (k2 := []) (mv := []) (ms := []) (mi := []) (ini := false) hI_w fl_BrookStones_Brook_ok nil_all nil_all nil_all
    (nil_all)
    (nil_all)
    (nil_all)
    (T := T_X0_isThere) (by decide +kernel) (cut := []) (N := 9) (D_X0_isThere fu) (by decide +kernel) (fun h => absurd h (by decide)) (fun as w o h => ?_)
  unfold U_X0_isThere at h
  split at h
  next =>
    split at h
    next => exact ⟨Nat.le_of_ble_eq_true rfl, fu, (E_X0_isThere fu _ w).symm.trans h⟩
    next => cases h
  next => cases h
def T_X0_addStone : List (Nat × Instr) := [(0, .aload_n 0), (1, .getfield 21), (4, .aload_n 0), (5, .getfield 49), (8, .iload_n 1), (9, .iastore), (10, .aload_n 0), (11, .getfield 24), (14, .aload_n 0), (15, .getfield 49), (18, .iload_n 2), (19, .iastore), (20, .aload_n 0), (21, .getfield 27), (24, .aload_n 0), (25, .getfield 49), (28, .iload_n 3), (29, .iastore), (30, .aload_n 0), (31, .getfield 30), (34, .aload_n 0), (35, .getfield 49), (38, .iload 4), (40, .iastore), (41, .aload_n 0), (42, .dup), (43, .getfield 49), (46, .iconst 1), (47, .iadd), (48, .putfield 49), (51, .aload_n 0), (52, .getfield 49), (55, .iconst 1), (56, .isub), (57, .ireturn)]
def op_X0_addStone (fu : Nat) : Nat → Kont → XL → List Value → XW → Instr → Option XO := opK 5 (rzOf (some .int)) fl_BrookStones_Brook [] [] [] [] [] []
def M_X0_addStone (fu : Nat) (a0 : Nat) (a1 : Int32) (a2 : Int32) (a3 : Int32) (a4 : Int32) (w : XW) : Option XO :=
  (gR w a0 0 3).bind fun r1 =>
  (gI w a0 0 12).bind fun x2 =>
  (sI w r1 x2 a1).bind fun w3 =>
  (gR w3 a0 0 4).bind fun r4 =>
  (gI w3 a0 0 12).bind fun x5 =>
  (sI w3 r4 x5 a2).bind fun w6 =>
  (gR w6 a0 0 5).bind fun r7 =>
  (gI w6 a0 0 12).bind fun x8 =>
  (sI w6 r7 x8 a3).bind fun w9 =>
  (gR w9 a0 0 6).bind fun r10 =>
  (gI w9 a0 0 12).bind fun x11 =>
  (sI w9 r10 x11 a4).bind fun w12 =>
  (gI w12 a0 0 12).bind fun x13 =>
  (pF w12 a0 0 12 (.int (x13 + (1 : Int32)))).bind fun w14 =>
  (gI w14 a0 0 12).bind fun x15 =>
  some (some (.int (x15 - (1 : Int32))), w14)
def U_X0_addStone (fu : Nat) : Orc := fun as w => match as with
  | [.ref a0, .int a1, .int a2, .int a3, .int a4] => if isO w a0 0 = true then M_X0_addStone fu a0 a1 a2 a3 a4 w else none
  | _ => none
def K_X0_addStone (fu : Nat) (n : Nat) : Kont := fun pc ls st w => none
set_option maxRecDepth 100000 in
set_option maxHeartbeats 4000000 in
theorem E_X0_addStone (fu : Nat) (a0 : Nat) (a1 : Int32) (a2 : Int32) (a3 : Int32) (a4 : Int32) (w : XW) : M_X0_addStone fu a0 a1 a2 a3 a4 w = ev T_X0_addStone (op_X0_addStone fu) [] (K_X0_addStone fu fu) 37 0 (lv_args 0 [.ref a0, .int a1, .int a2, .int a3, .int a4]) [] w := by
  rfl
theorem D_X0_addStone (fu : Nat) : DS T_X0_addStone (op_X0_addStone fu) [] 37 (K_X0_addStone fu) := by
  refine ⟨fun pc ls st w => rfl, fun n pc ls st w o h => ?_⟩
  cases h
theorem H_X0_addStone (fu : Nat) : ∀ as w o, U_X0_addStone fu as w = some o → ∃ a r, as = .ref a :: r ∧ r.length = 4 ∧ isO w a 0 = true := by
  intro as w o h
  unfold U_X0_addStone at h
  split at h
  next =>
    split at h
    next hh => exact ⟨_, _, rfl, rfl, hh⟩
    next => cases h
  next => cases h
set_option maxRecDepth 100000 in
set_option maxHeartbeats 4000000 in
theorem S_X0_addStone (fu : Nat) {l : Launch} {D : va_G} {cA : Nat → ClassId} {base b : Nat} : CS l D cA base b 1 y_X0_addStone prog_2_method_7_code 5 (some .int) (U_X0_addStone fu) ∧ OM (U_X0_addStone fu) := by
  refine CS_of (d := 0) (y := y_X0_addStone) (cc := prog_2_method_7_code) (nL := 5) (ret := (some .int)) (F := U_X0_addStone fu) (fl := fl_BrookStones_Brook) (nl := []) (kl := []) (k2 := []) (mv := []) (ms := []) (mi := []) (ini := false) hI_w fl_BrookStones_Brook_ok nil_all nil_all nil_all
    (nil_all)
    (nil_all)
    (nil_all)
    (T := T_X0_addStone) (by decide +kernel) (cut := []) (N := 37) (D_X0_addStone fu) (by decide +kernel) (fun h => absurd h (by decide)) (fun as w o h => ?_)
  unfold U_X0_addStone at h
  split at h
  next =>
    split at h
    next => exact ⟨Nat.le_of_ble_eq_true rfl, fu, (E_X0_addStone fu _ _ _ _ _ w).symm.trans h⟩
    next => cases h
  next => cases h
def T_X7_stone : List (Nat × Instr) := [(0, .iload_n 1), (1, .iconst 0), (2, .iconst 2), (3, .invokestatic 105), (6, .ifCond .eq 13), (9, .iload_n 2), (10, .iconst 1), (11, .bipush 20), (13, .invokestatic 105), (16, .ifCond .ne 6), (19, .bipush (-2)), (21, .ireturn), (22, .iload_n 3), (23, .iconst 1), (24, .bipush 9), (26, .invokestatic 105), (29, .ifCond .eq 14), (32, .iload 4), (34, .iconst 0), (35, .bipush 9), (37, .invokestatic 105), (40, .ifCond .ne 6), (43, .bipush (-2)), (45, .ireturn), (46, .aload_n 0), (47, .getfield 12), (50, .invokevirtual 109), (53, .ifCond .ne 6), (56, .bipush (-3)), (58, .ireturn), (59, .aload_n 0), (60, .getfield 12), (63, .getfield 113), (66, .bipush 6), (68, .if_icmp .lt 6), (71, .bipush (-4)), (73, .ireturn), (74, .aload_n 0), (75, .getfield 12), (78, .iload_n 1), (79, .iload_n 2), (80, .iload_n 3), (81, .iload 4), (83, .invokevirtual 116), (86, .ireturn)]
def op_X7_stone (fu : Nat) : Nat → Kont → XL → List Value → XW → Instr → Option XO := opK 5 (rzOf (some .int)) fl_BrookStones nl_BrookStones [] [] [(109, 1, 1, (U_X0_isThere fu)), (116, 5, 1, (U_X0_addStone fu))] [(105, 3, 1, (U_X7_isWithin fu))] []
def M_X7_stone (fu : Nat) (a0 : Nat) (a1 : Int32) (a2 : Int32) (a3 : Int32) (a4 : Int32) (w : XW) : Option XO :=
  cI (U_X7_isWithin fu [.int a1, .int (0 : Int32), .int (2 : Int32)] w) fun x2 w1 =>
  (if x2 = 0 then
    some (some (.int (-2 : Int32)), w1)
  else
    cI (U_X7_isWithin fu [.int a2, .int (1 : Int32), .int (20 : Int32)] w1) fun x4 w3 =>
    (if x4 = 0 then
      some (some (.int (-2 : Int32)), w3)
    else
      cI (U_X7_isWithin fu [.int a3, .int (1 : Int32), .int (9 : Int32)] w3) fun x6 w5 =>
      (if x6 = 0 then
        some (some (.int (-2 : Int32)), w5)
      else
        cI (U_X7_isWithin fu [.int a4, .int (0 : Int32), .int (9 : Int32)] w5) fun x8 w7 =>
        (if x8 = 0 then
          some (some (.int (-2 : Int32)), w7)
        else
          (gR w7 a0 6 0).bind fun r9 =>
          cI (U_X0_isThere fu [.ref r9] w7) fun x11 w10 =>
          (if x11 = 0 then
            some (some (.int (-3 : Int32)), w10)
          else
            (gR w10 a0 6 0).bind fun r12 =>
            (gI w10 r12 0 12).bind fun x13 =>
            (if x13 < (6 : Int32) then
              (gR w10 a0 6 0).bind fun r14 =>
              cI (U_X0_addStone fu [.ref r14, .int a1, .int a2, .int a3, .int a4] w10) fun x16 w15 =>
              some (some (.int x16), w15)
            else
              some (some (.int (-4 : Int32)), w10)))))))
def U_X7_stone (fu : Nat) : Orc := fun as w => match as with
  | [.ref a0, .int a1, .int a2, .int a3, .int a4] => if isO w a0 6 = true then M_X7_stone fu a0 a1 a2 a3 a4 w else none
  | _ => none
def K_X7_stone (fu : Nat) (n : Nat) : Kont := fun pc ls st w => none
set_option maxRecDepth 100000 in
set_option maxHeartbeats 4000000 in
theorem E_X7_stone (fu : Nat) (a0 : Nat) (a1 : Int32) (a2 : Int32) (a3 : Int32) (a4 : Int32) (w : XW) : M_X7_stone fu a0 a1 a2 a3 a4 w = ev T_X7_stone (op_X7_stone fu) [] (K_X7_stone fu fu) 47 0 (lv_args 0 [.ref a0, .int a1, .int a2, .int a3, .int a4]) [] w := by
  rfl
theorem D_X7_stone (fu : Nat) : DS T_X7_stone (op_X7_stone fu) [] 47 (K_X7_stone fu) := by
  refine ⟨fun pc ls st w => rfl, fun n pc ls st w o h => ?_⟩
  cases h
theorem H_X7_stone (fu : Nat) : ∀ as w o, U_X7_stone fu as w = some o → ∃ a r, as = .ref a :: r ∧ r.length = 4 ∧ isO w a 6 = true := by
  intro as w o h
  unfold U_X7_stone at h
  split at h
  next =>
    split at h
    next hh => exact ⟨_, _, rfl, rfl, hh⟩
    next => cases h
  next => cases h
set_option maxRecDepth 100000 in
set_option maxHeartbeats 4000000 in
theorem S_X7_stone (fu : Nat) {l : Launch} {D : va_G} {cA : Nat → ClassId} {base b : Nat} : CS l D cA base b 2 y_X7_stone prog_1_method_6_code 5 (some .int) (U_X7_stone fu) ∧ OM (U_X7_stone fu) := by
  refine CS_of (d := 1) (y := y_X7_stone) (cc := prog_1_method_6_code) (nL := 5) (ret := (some .int)) (F := U_X7_stone fu) (fl := fl_BrookStones) (nl := nl_BrookStones) (kl := []) (k2 := []) (mv := [(109, 1, 1, (U_X0_isThere fu)), (116, 5, 1, (U_X0_addStone fu))]) (ms := [(105, 3, 1, (U_X7_isWithin fu))]) (mi := []) (ini := false) hI_w fl_BrookStones_ok nl_BrookStones_ok nil_all nil_all
    (cons_all (⟨⟨show (1 : Nat) ≠ 3 by decide, y_X0_isThere, prog_2_method_3_code, 1, (some .boolean), 1, "BrookStones", 0, TX0, 15, 0, (S_X0_isThere fu (l := l) (D := D) (cA := cA) (base := base) (b := b)).1, by decide, by decide, rfl, H_X0_isThere fu, rfl, mi_X0_isThere.1, mi_X0_isThere.2.1, mi_X0_isThere.2.2.1, mi_X0_isThere.2.2.2.1, mi_X0_isThere.2.2.2.2, Or.inr (tblN_of (i := 305) rfl rfl)⟩, (S_X0_isThere fu (l := l) (D := D) (cA := cA) (base := base) (b := b)).2⟩) (cons_all (⟨⟨show (1 : Nat) ≠ 3 by decide, y_X0_addStone, prog_2_method_7_code, 5, (some .int), 1, "BrookStones", 0, TX0, 15, 4, (S_X0_addStone fu (l := l) (D := D) (cA := cA) (base := base) (b := b)).1, by decide, by decide, rfl, H_X0_addStone fu, rfl, mi_X0_addStone.1, mi_X0_addStone.2.1, mi_X0_addStone.2.2.1, mi_X0_addStone.2.2.2.1, mi_X0_addStone.2.2.2.2, Or.inr (tblN_of (i := 477) rfl rfl)⟩, (S_X0_addStone fu (l := l) (D := D) (cA := cA) (base := base) (b := b)).2⟩) (nil_all)))
    (cons_all (⟨Or.inl ⟨show (1 : Nat) ≠ 3 by decide, y_X7_isWithin, prog_1_method_46_code, 3, (some .boolean), 1, "BrookStones", (S_X7_isWithin fu (l := l) (D := D) (cA := cA) (base := base) (b := b)).1, by decide, by decide, mi_X7_isWithin.1, mi_X7_isWithin.2.1, mi_X7_isWithin.2.2.1, mi_X7_isWithin.2.2.2, Or.inl (tblG_of (i := 304) rfl rfl)⟩, (S_X7_isWithin fu (l := l) (D := D) (cA := cA) (base := base) (b := b)).2⟩) (nil_all))
    (nil_all)
    (T := T_X7_stone) (by decide +kernel) (cut := []) (N := 47) (D_X7_stone fu) (by decide +kernel) (fun h => absurd h (by decide)) (fun as w o h => ?_)
  unfold U_X7_stone at h
  split at h
  next =>
    split at h
    next => exact ⟨Nat.le_of_ble_eq_true rfl, fu, (E_X7_stone fu _ _ _ _ _ w).symm.trans h⟩
    next => cases h
  next => cases h
def T_L_stones : List (Nat × Instr) := [(0, .aload_n 1), (1, .iload_n 2), (2, .invokestatic 9), (5, .iload_n 3), (6, .iconst 1), (7, .iadd), (8, .invokestatic 15), (11, .istore 5), (13, .iconst 0), (14, .istore 6), (16, .iload 6), (18, .iload 5), (20, .if_icmp .ge 159), (23, .aload_n 1), (24, .iload_n 2), (25, .iconst 1), (26, .iadd), (27, .iload 6), (29, .iconst 3), (30, .irem), (31, .iadd), (32, .invokestatic 9), (35, .iload 6), (37, .iconst 3), (38, .idiv), (39, .bipush 12), (41, .imul), (42, .ishr), (43, .istore 7), (45, .aload 4), (47, .iload 6), (49, .iload 7), (51, .iconst 3), (52, .invokestatic 15), (55, .iastore), (56, .aload 4), (58, .bipush 6), (60, .iload 6), (62, .iadd), (63, .iconst 1), (64, .iload 7), (66, .iconst 2), (67, .ishr), (68, .aload_n 1), (69, .iload_n 2), (70, .invokestatic 9), (73, .bipush 6), (75, .ishr), (76, .iconst 2), (77, .invokestatic 15), (80, .ifCond .ne 8), (83, .bipush 20), (85, .goto 5), (88, .bipush 8), (90, .invokestatic 15), (93, .iadd), (94, .iastore), (95, .aload 4), (97, .bipush 12), (99, .iload 6), (101, .iadd), (102, .iconst 1), (103, .iload 7), (105, .iconst 5), (106, .ishr), (107, .bipush 9), (109, .invokestatic 15), (112, .iadd), (113, .iastore), (114, .aload 4), (116, .bipush 18), (118, .iload 6), (120, .iadd), (121, .iload 7), (123, .bipush 8), (125, .ishr), (126, .bipush 10), (128, .invokestatic 15), (131, .iastore), (132, .aload_n 0), (133, .aload 4), (135, .iload 6), (137, .iaload), (138, .aload 4), (140, .bipush 6), (142, .iload 6), (144, .iadd), (145, .iaload), (146, .aload 4), (148, .bipush 12), (150, .iload 6), (152, .iadd), (153, .iaload), (154, .aload 4), (156, .bipush 18), (158, .iload 6), (160, .iadd), (161, .iaload), (162, .invokevirtual 28), (165, .iload 6), (167, .if_icmp .eq 6), (170, .bipush (-99)), (172, .ireturn), (173, .iinc 6 1), (176, .goto (-160)), (179, .iload 5), (181, .ireturn)]
def op_L_stones (fu : Nat) : Nat → Kont → XL → List Value → XW → Instr → Option XO := opK 8 (rzOf (some .int)) [] nl_BrookStonesLaw kl_BrookStonesLaw [] [(28, 5, 1, (U_X7_stone fu))] [(9, 2, 1, (U_L_cell fu)), (15, 2, 1, (U_L_some fu))] []
def F_L_stones (fu : Nat) : Nat → (Nat → Nat → Int32 → Nat → Int32 → Int32 → XW → Option XO) × (Nat → Nat → Int32 → Nat → Int32 → Int32 → Int32 → Int32 → Int32 → Int32 → Int32 → Nat → XW → Option XO)
  | 0 => (fun _ _ _ _ _ _ _ => none, fun _ _ _ _ _ _ _ _ _ _ _ _ _ => none)
  | n + 1 => ((fun a0 a1 a2 a4 a5 a6 w =>
    (if a6 < a5 then
      (if (3 : Int32) = 0 then none else
      cI (U_L_cell fu [.ref a1, .int ((a2 + (1 : Int32)) + (a6 - a6 / (3 : Int32) * (3 : Int32)))] w) fun x2 w1 =>
      (if (3 : Int32) = 0 then none else
      cI (U_L_some fu [.int (x2 >>> (((a6 / (3 : Int32)) * (12 : Int32)) &&& 31)), .int (3 : Int32)] w1) fun x4 w3 =>
      (sI w3 a4 a6 x4).bind fun w5 =>
      cI (U_L_cell fu [.ref a1, .int a2] w5) fun x7 w6 =>
      cI (U_L_some fu [.int (x7 >>> ((6 : Int32) &&& 31)), .int (2 : Int32)] w6) fun x9 w8 =>
      (if x9 = 0 then
        (F_L_stones fu n).2 a0 a1 a2 a4 a5 a6 (x2 >>> (((a6 / (3 : Int32)) * (12 : Int32)) &&& 31)) (20 : Int32) ((x2 >>> (((a6 / (3 : Int32)) * (12 : Int32)) &&& 31)) >>> ((2 : Int32) &&& 31)) (1 : Int32) ((6 : Int32) + a6) a4 w8
      else
        (F_L_stones fu n).2 a0 a1 a2 a4 a5 a6 (x2 >>> (((a6 / (3 : Int32)) * (12 : Int32)) &&& 31)) (8 : Int32) ((x2 >>> (((a6 / (3 : Int32)) * (12 : Int32)) &&& 31)) >>> ((2 : Int32) &&& 31)) (1 : Int32) ((6 : Int32) + a6) a4 w8)))
    else
      some (some (.int a5), w))),
   (fun a0 a1 a2 a4 a5 a6 a7 s0 s1 s2 s3 s4 w =>
    cI (U_L_some fu [.int s1, .int s0] w) fun x11 w10 =>
    (sI w10 s4 s3 (s2 + x11)).bind fun w12 =>
    cI (U_L_some fu [.int (a7 >>> ((5 : Int32) &&& 31)), .int (9 : Int32)] w12) fun x14 w13 =>
    (sI w13 a4 ((12 : Int32) + a6) ((1 : Int32) + x14)).bind fun w15 =>
    cI (U_L_some fu [.int (a7 >>> ((8 : Int32) &&& 31)), .int (10 : Int32)] w15) fun x17 w16 =>
    (sI w16 a4 ((18 : Int32) + a6) x17).bind fun w18 =>
    (aI w18 a4 a6).bind fun x19 =>
    (aI w18 a4 ((6 : Int32) + a6)).bind fun x20 =>
    (aI w18 a4 ((12 : Int32) + a6)).bind fun x21 =>
    (aI w18 a4 ((18 : Int32) + a6)).bind fun x22 =>
    cI (U_X7_stone fu [.ref a0, .int x19, .int x20, .int x21, .int x22] w18) fun x24 w23 =>
    (if x24 = a6 then
      (F_L_stones fu n).1 a0 a1 a2 a4 a5 (a6 + (1 : Int32)) w23
    else
      some (some (.int (-99 : Int32)), w23))))
def M_L_stones (fu : Nat) (a0 : Nat) (a1 : Nat) (a2 : Int32) (a3 : Int32) (a4 : Nat) (w : XW) : Option XO :=
  cI (U_L_cell fu [.ref a1, .int a2] w) fun x26 w25 =>
  cI (U_L_some fu [.int x26, .int (a3 + (1 : Int32))] w25) fun x28 w27 =>
  (F_L_stones fu fu).1 a0 a1 a2 a4 x28 (0 : Int32) w27
def U_L_stones (fu : Nat) : Orc := fun as w => match as with
  | [.ref a0, .ref a1, .int a2, .int a3, .ref a4] => M_L_stones fu a0 a1 a2 a3 a4 w
  | _ => none
def K_L_stones (fu : Nat) (n : Nat) : Kont := fun pc ls st w => bif pc == 16 then ((xr ls 0).bind fun a0 => (xr ls 1).bind fun a1 => (xi ls 2).bind fun a2 => (xr ls 4).bind fun a4 => (xi ls 5).bind fun a5 => (xi ls 6).bind fun a6 => skN st ((F_L_stones fu n).1 a0 a1 a2 a4 a5 a6 w)) else bif pc == 90 then ((xr ls 0).bind fun a0 => (xr ls 1).bind fun a1 => (xi ls 2).bind fun a2 => (xr ls 4).bind fun a4 => (xi ls 5).bind fun a5 => (xi ls 6).bind fun a6 => (xi ls 7).bind fun a7 => skI st fun s0 st => skI st fun s1 st => skI st fun s2 st => skI st fun s3 st => skR st fun s4 st => skN st ((F_L_stones fu n).2 a0 a1 a2 a4 a5 a6 a7 s0 s1 s2 s3 s4 w)) else none
set_option maxRecDepth 100000 in
set_option maxHeartbeats 4000000 in
theorem E_L_stones_16 (fu : Nat) (n : Nat) (a0 : Nat) (a1 : Nat) (a2 : Int32) (a4 : Nat) (a5 : Int32) (a6 : Int32) (w : XW) : (F_L_stones fu (n + 1)).1 a0 a1 a2 a4 a5 a6 w = ev T_L_stones (op_L_stones fu) [16, 90] (K_L_stones fu n) 109 16 [(0, .ref a0), (1, .ref a1), (2, .int a2), (4, .ref a4), (5, .int a5), (6, .int a6)] [] w := by
  rfl
set_option maxRecDepth 100000 in
set_option maxHeartbeats 4000000 in
theorem E_L_stones_90 (fu : Nat) (n : Nat) (a0 : Nat) (a1 : Nat) (a2 : Int32) (a4 : Nat) (a5 : Int32) (a6 : Int32) (a7 : Int32) (s0 : Int32) (s1 : Int32) (s2 : Int32) (s3 : Int32) (s4 : Nat) (w : XW) : (F_L_stones fu (n + 1)).2 a0 a1 a2 a4 a5 a6 a7 s0 s1 s2 s3 s4 w = ev T_L_stones (op_L_stones fu) [16, 90] (K_L_stones fu n) 109 90 [(0, .ref a0), (1, .ref a1), (2, .int a2), (4, .ref a4), (5, .int a5), (6, .int a6), (7, .int a7)] [.int s0, .int s1, .int s2, .int s3, .ref s4] w := by
  rfl
set_option maxRecDepth 100000 in
set_option maxHeartbeats 4000000 in
theorem E_L_stones (fu : Nat) (a0 : Nat) (a1 : Nat) (a2 : Int32) (a3 : Int32) (a4 : Nat) (w : XW) : M_L_stones fu a0 a1 a2 a3 a4 w = ev T_L_stones (op_L_stones fu) [16, 90] (K_L_stones fu fu) 109 0 (lv_args 0 [.ref a0, .ref a1, .int a2, .int a3, .ref a4]) [] w := by
  rfl
theorem D_L_stones (fu : Nat) : DS T_L_stones (op_L_stones fu) [16, 90] 109 (K_L_stones fu) := by
  refine ⟨fun pc ls st w => c_none (b_none fun _ => b_none fun _ => b_none fun _ => b_none fun _ => b_none fun _ => b_none fun _ => skN_none rfl) (c_none (b_none fun _ => b_none fun _ => b_none fun _ => b_none fun _ => b_none fun _ => b_none fun _ => b_none fun _ => skI_none fun _ _ => skI_none fun _ _ => skI_none fun _ _ => skI_none fun _ _ => skR_none fun _ _ => skN_none rfl) (rfl)), fun n pc ls st w o h => ?_⟩
  rcases c_some h with ⟨rfl, h⟩ | h
  · obtain ⟨a0, h0, h⟩ := some_of h; obtain ⟨a1, h1, h⟩ := some_of h; obtain ⟨a2, h2, h⟩ := some_of h; obtain ⟨a4, h4, h⟩ := some_of h; obtain ⟨a5, h5, h⟩ := some_of h; obtain ⟨a6, h6, h⟩ := some_of h;
    obtain ⟨e, g⟩ := skN_of h
    subst e
    exact ⟨[(0, .ref a0), (1, .ref a1), (2, .int a2), (4, .ref a4), (5, .int a5), (6, .int a6)], cons_all (xr_of h0) (cons_all (xr_of h1) (cons_all (xi_of h2) (cons_all (xr_of h4) (cons_all (xi_of h5) (cons_all (xi_of h6) (nil_all)))))), (E_L_stones_16 fu n a0 a1 a2 a4 a5 a6 w).symm.trans g⟩
  rcases c_some h with ⟨rfl, h⟩ | h
  · obtain ⟨a0, h0, h⟩ := some_of h; obtain ⟨a1, h1, h⟩ := some_of h; obtain ⟨a2, h2, h⟩ := some_of h; obtain ⟨a4, h4, h⟩ := some_of h; obtain ⟨a5, h5, h⟩ := some_of h; obtain ⟨a6, h6, h⟩ := some_of h; obtain ⟨a7, h7, h⟩ := some_of h;
    obtain ⟨s0, st0, e0, g0⟩ := skI_of h
    obtain ⟨s1, st1, e1, g1⟩ := skI_of g0
    obtain ⟨s2, st2, e2, g2⟩ := skI_of g1
    obtain ⟨s3, st3, e3, g3⟩ := skI_of g2
    obtain ⟨s4, st4, e4, g4⟩ := skR_of g3
    obtain ⟨e, g⟩ := skN_of g4
    subst e
    subst e4
    subst e3
    subst e2
    subst e1
    subst e0
    exact ⟨[(0, .ref a0), (1, .ref a1), (2, .int a2), (4, .ref a4), (5, .int a5), (6, .int a6), (7, .int a7)], cons_all (xr_of h0) (cons_all (xr_of h1) (cons_all (xi_of h2) (cons_all (xr_of h4) (cons_all (xi_of h5) (cons_all (xi_of h6) (cons_all (xi_of h7) (nil_all))))))), (E_L_stones_90 fu n a0 a1 a2 a4 a5 a6 a7 s0 s1 s2 s3 s4 w).symm.trans g⟩
  · cases h
set_option maxRecDepth 100000 in
set_option maxHeartbeats 4000000 in
theorem S_L_stones (fu : Nat) {l : Launch} {D : va_G} {cA : Nat → ClassId} {base b : Nat} : CS l D cA base b 3 y_L_stones method_5_code 8 (some .int) (U_L_stones fu) ∧ OM (U_L_stones fu) := by
  refine CS_of (d := 2) (y := y_L_stones) (cc := method_5_code) (nL := 8) (ret := (some .int)) (F := U_L_stones fu) (fl := []) (nl := nl_BrookStonesLaw) (kl := kl_BrookStonesLaw) (k2 := []) (mv := [(28, 5, 1, (U_X7_stone fu))]) (ms := [(9, 2, 1, (U_L_cell fu)), (15, 2, 1, (U_L_some fu))]) (mi := []) (ini := false) hI_w nil_all nl_BrookStonesLaw_ok kl_BrookStonesLaw_ok nil_all
    (cons_all (⟨⟨show (1 : Nat) ≠ 3 by decide, y_X7_stone, prog_1_method_6_code, 5, (some .int), 2, "BrookStones", 6, TX7, 8, 4, (S_X7_stone fu (l := l) (D := D) (cA := cA) (base := base) (b := b)).1, by decide, by decide, rfl, H_X7_stone fu, rfl, mi_X7_stone.1, mi_X7_stone.2.1, mi_X7_stone.2.2.1, mi_X7_stone.2.2.2.1, mi_X7_stone.2.2.2.2, Or.inl (tblG_of (i := 473) rfl rfl)⟩, (S_X7_stone fu (l := l) (D := D) (cA := cA) (base := base) (b := b)).2⟩) (nil_all))
    (cons_all (⟨Or.inl ⟨show (1 : Nat) ≠ 3 by decide, y_L_cell, method_2_code, 2, (some .int), 1, "BrookStones", (S_L_cell fu (l := l) (D := D) (cA := cA) (base := base) (b := b)).1, by decide, by decide, mi_L_cell.1, mi_L_cell.2.1, mi_L_cell.2.2.1, mi_L_cell.2.2.2, Or.inl (tblG_of (i := 459) rfl rfl)⟩, (S_L_cell fu (l := l) (D := D) (cA := cA) (base := base) (b := b)).2⟩) (cons_all (⟨Or.inl ⟨show (1 : Nat) ≠ 3 by decide, y_L_some, method_3_code, 2, (some .int), 1, "BrookStones", (S_L_some fu (l := l) (D := D) (cA := cA) (base := base) (b := b)).1, by decide, by decide, mi_L_some.1, mi_L_some.2.1, mi_L_some.2.2.1, mi_L_some.2.2.2, Or.inl (tblG_of (i := 463) rfl rfl)⟩, (S_L_some fu (l := l) (D := D) (cA := cA) (base := base) (b := b)).2⟩) (nil_all)))
    (nil_all)
    (T := T_L_stones) (by decide +kernel) (cut := [16, 90]) (N := 109) (D_L_stones fu) (by decide +kernel) (fun h => absurd h (by decide)) (fun as w o h => ?_)
  unfold U_L_stones at h
  split at h
  next =>
    exact ⟨Nat.le_of_ble_eq_true rfl, fu, (E_L_stones fu _ _ _ _ _ w).symm.trans h⟩
  next => cases h
def T_X0_addWalker : List (Nat × Instr) := [(0, .aload_n 0), (1, .getfield 33), (4, .aload_n 0), (5, .getfield 55), (8, .iload_n 1), (9, .iastore), (10, .aload_n 0), (11, .dup), (12, .getfield 55), (15, .iconst 1), (16, .iadd), (17, .putfield 55), (20, .aload_n 0), (21, .getfield 55), (24, .iconst 1), (25, .isub), (26, .ireturn)]
def op_X0_addWalker (fu : Nat) : Nat → Kont → XL → List Value → XW → Instr → Option XO := opK 2 (rzOf (some .int)) fl_BrookStones_Brook [] [] [] [] [] []
def M_X0_addWalker (fu : Nat) (a0 : Nat) (a1 : Int32) (w : XW) : Option XO :=
  (gR w a0 0 7).bind fun r1 =>
  (gI w a0 0 14).bind fun x2 =>
  (sI w r1 x2 a1).bind fun w3 =>
  (gI w3 a0 0 14).bind fun x4 =>
  (pF w3 a0 0 14 (.int (x4 + (1 : Int32)))).bind fun w5 =>
  (gI w5 a0 0 14).bind fun x6 =>
  some (some (.int (x6 - (1 : Int32))), w5)
def U_X0_addWalker (fu : Nat) : Orc := fun as w => match as with
  | [.ref a0, .int a1] => if isO w a0 0 = true then M_X0_addWalker fu a0 a1 w else none
  | _ => none
def K_X0_addWalker (fu : Nat) (n : Nat) : Kont := fun pc ls st w => none
set_option maxRecDepth 100000 in
set_option maxHeartbeats 4000000 in
theorem E_X0_addWalker (fu : Nat) (a0 : Nat) (a1 : Int32) (w : XW) : M_X0_addWalker fu a0 a1 w = ev T_X0_addWalker (op_X0_addWalker fu) [] (K_X0_addWalker fu fu) 19 0 (lv_args 0 [.ref a0, .int a1]) [] w := by
  rfl
theorem D_X0_addWalker (fu : Nat) : DS T_X0_addWalker (op_X0_addWalker fu) [] 19 (K_X0_addWalker fu) := by
  refine ⟨fun pc ls st w => rfl, fun n pc ls st w o h => ?_⟩
  cases h
theorem H_X0_addWalker (fu : Nat) : ∀ as w o, U_X0_addWalker fu as w = some o → ∃ a r, as = .ref a :: r ∧ r.length = 1 ∧ isO w a 0 = true := by
  intro as w o h
  unfold U_X0_addWalker at h
  split at h
  next =>
    split at h
    next hh => exact ⟨_, _, rfl, rfl, hh⟩
    next => cases h
  next => cases h
set_option maxRecDepth 100000 in
set_option maxHeartbeats 4000000 in
theorem S_X0_addWalker (fu : Nat) {l : Launch} {D : va_G} {cA : Nat → ClassId} {base b : Nat} : CS l D cA base b 1 y_X0_addWalker prog_2_method_8_code 2 (some .int) (U_X0_addWalker fu) ∧ OM (U_X0_addWalker fu) := by
  refine CS_of (d := 0) (y := y_X0_addWalker) (cc := prog_2_method_8_code) (nL := 2) (ret := (some .int)) (F := U_X0_addWalker fu) (fl := fl_BrookStones_Brook) (nl := []) (kl := []) (k2 := []) (mv := []) (ms := []) (mi := []) (ini := false) hI_w fl_BrookStones_Brook_ok nil_all nil_all nil_all
    (nil_all)
    (nil_all)
    (nil_all)
    (T := T_X0_addWalker) (by decide +kernel) (cut := []) (N := 19) (D_X0_addWalker fu) (by decide +kernel) (fun h => absurd h (by decide)) (fun as w o h => ?_)
  unfold U_X0_addWalker at h
  split at h
  next =>
    split at h
    next => exact ⟨Nat.le_of_ble_eq_true rfl, fu, (E_X0_addWalker fu _ _ w).symm.trans h⟩
    next => cases h
  next => cases h
def T_X7_walker : List (Nat × Instr) := [(0, .iload_n 1), (1, .iconst 1), (2, .bipush 9), (4, .invokestatic 105), (7, .ifCond .ne 6), (10, .bipush (-2)), (12, .ireturn), (13, .aload_n 0), (14, .getfield 12), (17, .invokevirtual 109), (20, .ifCond .ne 6), (23, .bipush (-3)), (25, .ireturn), (26, .aload_n 0), (27, .getfield 12), (30, .getfield 152), (33, .bipush 6), (35, .if_icmp .lt 6), (38, .bipush (-4)), (40, .ireturn), (41, .aload_n 0), (42, .getfield 12), (45, .iload_n 1), (46, .invokevirtual 155), (49, .ireturn)]
def op_X7_walker (fu : Nat) : Nat → Kont → XL → List Value → XW → Instr → Option XO := opK 2 (rzOf (some .int)) fl_BrookStones nl_BrookStones [] [] [(109, 1, 1, (U_X0_isThere fu)), (155, 2, 1, (U_X0_addWalker fu))] [(105, 3, 1, (U_X7_isWithin fu))] []
def M_X7_walker (fu : Nat) (a0 : Nat) (a1 : Int32) (w : XW) : Option XO :=
  cI (U_X7_isWithin fu [.int a1, .int (1 : Int32), .int (9 : Int32)] w) fun x2 w1 =>
  (if x2 = 0 then
    some (some (.int (-2 : Int32)), w1)
  else
    (gR w1 a0 6 0).bind fun r3 =>
    cI (U_X0_isThere fu [.ref r3] w1) fun x5 w4 =>
    (if x5 = 0 then
      some (some (.int (-3 : Int32)), w4)
    else
      (gR w4 a0 6 0).bind fun r6 =>
      (gI w4 r6 0 14).bind fun x7 =>
      (if x7 < (6 : Int32) then
        (gR w4 a0 6 0).bind fun r8 =>
        cI (U_X0_addWalker fu [.ref r8, .int a1] w4) fun x10 w9 =>
        some (some (.int x10), w9)
      else
        some (some (.int (-4 : Int32)), w4))))
def U_X7_walker (fu : Nat) : Orc := fun as w => match as with
  | [.ref a0, .int a1] => if isO w a0 6 = true then M_X7_walker fu a0 a1 w else none
  | _ => none
def K_X7_walker (fu : Nat) (n : Nat) : Kont := fun pc ls st w => none
set_option maxRecDepth 100000 in
set_option maxHeartbeats 4000000 in
theorem E_X7_walker (fu : Nat) (a0 : Nat) (a1 : Int32) (w : XW) : M_X7_walker fu a0 a1 w = ev T_X7_walker (op_X7_walker fu) [] (K_X7_walker fu fu) 27 0 (lv_args 0 [.ref a0, .int a1]) [] w := by
  rfl
theorem D_X7_walker (fu : Nat) : DS T_X7_walker (op_X7_walker fu) [] 27 (K_X7_walker fu) := by
  refine ⟨fun pc ls st w => rfl, fun n pc ls st w o h => ?_⟩
  cases h
theorem H_X7_walker (fu : Nat) : ∀ as w o, U_X7_walker fu as w = some o → ∃ a r, as = .ref a :: r ∧ r.length = 1 ∧ isO w a 6 = true := by
  intro as w o h
  unfold U_X7_walker at h
  split at h
  next =>
    split at h
    next hh => exact ⟨_, _, rfl, rfl, hh⟩
    next => cases h
  next => cases h
set_option maxRecDepth 100000 in
set_option maxHeartbeats 4000000 in
theorem S_X7_walker (fu : Nat) {l : Launch} {D : va_G} {cA : Nat → ClassId} {base b : Nat} : CS l D cA base b 2 y_X7_walker prog_1_method_10_code 2 (some .int) (U_X7_walker fu) ∧ OM (U_X7_walker fu) := by
  refine CS_of (d := 1) (y := y_X7_walker) (cc := prog_1_method_10_code) (nL := 2) (ret := (some .int)) (F := U_X7_walker fu) (fl := fl_BrookStones) (nl := nl_BrookStones) (kl := []) (k2 := []) (mv := [(109, 1, 1, (U_X0_isThere fu)), (155, 2, 1, (U_X0_addWalker fu))]) (ms := [(105, 3, 1, (U_X7_isWithin fu))]) (mi := []) (ini := false) hI_w fl_BrookStones_ok nl_BrookStones_ok nil_all nil_all
    (cons_all (⟨⟨show (1 : Nat) ≠ 3 by decide, y_X0_isThere, prog_2_method_3_code, 1, (some .boolean), 1, "BrookStones", 0, TX0, 15, 0, (S_X0_isThere fu (l := l) (D := D) (cA := cA) (base := base) (b := b)).1, by decide, by decide, rfl, H_X0_isThere fu, rfl, mi_X0_isThere.1, mi_X0_isThere.2.1, mi_X0_isThere.2.2.1, mi_X0_isThere.2.2.2.1, mi_X0_isThere.2.2.2.2, Or.inr (tblN_of (i := 305) rfl rfl)⟩, (S_X0_isThere fu (l := l) (D := D) (cA := cA) (base := base) (b := b)).2⟩) (cons_all (⟨⟨show (1 : Nat) ≠ 3 by decide, y_X0_addWalker, prog_2_method_8_code, 2, (some .int), 1, "BrookStones", 0, TX0, 15, 1, (S_X0_addWalker fu (l := l) (D := D) (cA := cA) (base := base) (b := b)).1, by decide, by decide, rfl, H_X0_addWalker fu, rfl, mi_X0_addWalker.1, mi_X0_addWalker.2.1, mi_X0_addWalker.2.2.1, mi_X0_addWalker.2.2.2.1, mi_X0_addWalker.2.2.2.2, Or.inr (tblN_of (i := 338) rfl rfl)⟩, (S_X0_addWalker fu (l := l) (D := D) (cA := cA) (base := base) (b := b)).2⟩) (nil_all)))
    (cons_all (⟨Or.inl ⟨show (1 : Nat) ≠ 3 by decide, y_X7_isWithin, prog_1_method_46_code, 3, (some .boolean), 1, "BrookStones", (S_X7_isWithin fu (l := l) (D := D) (cA := cA) (base := base) (b := b)).1, by decide, by decide, mi_X7_isWithin.1, mi_X7_isWithin.2.1, mi_X7_isWithin.2.2.1, mi_X7_isWithin.2.2.2, Or.inl (tblG_of (i := 304) rfl rfl)⟩, (S_X7_isWithin fu (l := l) (D := D) (cA := cA) (base := base) (b := b)).2⟩) (nil_all))
    (nil_all)
    (T := T_X7_walker) (by decide +kernel) (cut := []) (N := 27) (D_X7_walker fu) (by decide +kernel) (fun h => absurd h (by decide)) (fun as w o h => ?_)
  unfold U_X7_walker at h
  split at h
  next =>
    split at h
    next => exact ⟨Nat.le_of_ble_eq_true rfl, fu, (E_X7_walker fu _ _ w).symm.trans h⟩
    next => cases h
  next => cases h
def T_X0_isWalker : List (Nat × Instr) := [(0, .iload_n 1), (1, .ifCond .lt 15), (4, .iload_n 1), (5, .aload_n 0), (6, .getfield 55), (9, .if_icmp .ge 7), (12, .iconst 1), (13, .goto 4), (16, .iconst 0), (17, .ireturn)]
def op_X0_isWalker (fu : Nat) : Nat → Kont → XL → List Value → XW → Instr → Option XO := opK 2 (rzOf (some .boolean)) fl_BrookStones_Brook [] [] [] [] [] []
def M_X0_isWalker (fu : Nat) (a0 : Nat) (a1 : Int32) (w : XW) : Option XO :=
  (if a1 < 0 then
    retZ (0 : Int32) w
  else
    (gI w a0 0 14).bind fun x1 =>
    (if a1 < x1 then
      retZ (1 : Int32) w
    else
      retZ (0 : Int32) w))
def U_X0_isWalker (fu : Nat) : Orc := fun as w => match as with
  | [.ref a0, .int a1] => if isO w a0 0 = true then M_X0_isWalker fu a0 a1 w else none
  | _ => none
def K_X0_isWalker (fu : Nat) (n : Nat) : Kont := fun pc ls st w => none
set_option maxRecDepth 100000 in
set_option maxHeartbeats 4000000 in
theorem E_X0_isWalker (fu : Nat) (a0 : Nat) (a1 : Int32) (w : XW) : M_X0_isWalker fu a0 a1 w = ev T_X0_isWalker (op_X0_isWalker fu) [] (K_X0_isWalker fu fu) 12 0 (lv_args 0 [.ref a0, .int a1]) [] w := by
  rfl
theorem D_X0_isWalker (fu : Nat) : DS T_X0_isWalker (op_X0_isWalker fu) [] 12 (K_X0_isWalker fu) := by
  refine ⟨fun pc ls st w => rfl, fun n pc ls st w o h => ?_⟩
  cases h
theorem H_X0_isWalker (fu : Nat) : ∀ as w o, U_X0_isWalker fu as w = some o → ∃ a r, as = .ref a :: r ∧ r.length = 1 ∧ isO w a 0 = true := by
  intro as w o h
  unfold U_X0_isWalker at h
  split at h
  next =>
    split at h
    next hh => exact ⟨_, _, rfl, rfl, hh⟩
    next => cases h
  next => cases h
set_option maxRecDepth 100000 in
set_option maxHeartbeats 4000000 in
theorem S_X0_isWalker (fu : Nat) {l : Launch} {D : va_G} {cA : Nat → ClassId} {base b : Nat} : CS l D cA base b 1 y_X0_isWalker prog_2_method_6_code 2 (some .boolean) (U_X0_isWalker fu) ∧ OM (U_X0_isWalker fu) := by
  refine CS_of (d := 0) (y := y_X0_isWalker) (cc := prog_2_method_6_code) (nL := 2) (ret := (some .boolean)) (F := U_X0_isWalker fu) (fl := fl_BrookStones_Brook) (nl := []) (kl := []) (k2 := []) (mv := []) (ms := []) (mi := []) (ini := false) hI_w fl_BrookStones_Brook_ok nil_all nil_all nil_all
    (nil_all)
    (nil_all)
    (nil_all)
    (T := T_X0_isWalker) (by decide +kernel) (cut := []) (N := 12) (D_X0_isWalker fu) (by decide +kernel) (fun h => absurd h (by decide)) (fun as w o h => ?_)
  unfold U_X0_isWalker at h
  split at h
  next =>
    split at h
    next => exact ⟨Nat.le_of_ble_eq_true rfl, fu, (E_X0_isWalker fu _ _ w).symm.trans h⟩
    next => cases h
  next => cases h
def T_X7_stride : List (Nat × Instr) := [(0, .aload_n 0), (1, .getfield 12), (4, .iload_n 1), (5, .invokevirtual 158), (8, .ifCond .eq 15), (11, .aload_n 0), (12, .getfield 12), (15, .getfield 161), (18, .iload_n 1), (19, .iaload), (20, .goto 4), (23, .iconst (-1)), (24, .ireturn)]
def op_X7_stride (fu : Nat) : Nat → Kont → XL → List Value → XW → Instr → Option XO := opK 2 (rzOf (some .int)) fl_BrookStones nl_BrookStones [] [] [(158, 2, 1, (U_X0_isWalker fu))] [] []
def M_X7_stride (fu : Nat) (a0 : Nat) (a1 : Int32) (w : XW) : Option XO :=
  (gR w a0 6 0).bind fun r1 =>
  cI (U_X0_isWalker fu [.ref r1, .int a1] w) fun x3 w2 =>
  (if x3 = 0 then
    some (some (.int (-1 : Int32)), w2)
  else
    (gR w2 a0 6 0).bind fun r4 =>
    (gR w2 r4 0 7).bind fun r5 =>
    (aI w2 r5 a1).bind fun x6 =>
    some (some (.int x6), w2))
def U_X7_stride (fu : Nat) : Orc := fun as w => match as with
  | [.ref a0, .int a1] => if isO w a0 6 = true then M_X7_stride fu a0 a1 w else none
  | _ => none
def K_X7_stride (fu : Nat) (n : Nat) : Kont := fun pc ls st w => none
set_option maxRecDepth 100000 in
set_option maxHeartbeats 4000000 in
theorem E_X7_stride (fu : Nat) (a0 : Nat) (a1 : Int32) (w : XW) : M_X7_stride fu a0 a1 w = ev T_X7_stride (op_X7_stride fu) [] (K_X7_stride fu fu) 15 0 (lv_args 0 [.ref a0, .int a1]) [] w := by
  rfl
theorem D_X7_stride (fu : Nat) : DS T_X7_stride (op_X7_stride fu) [] 15 (K_X7_stride fu) := by
  refine ⟨fun pc ls st w => rfl, fun n pc ls st w o h => ?_⟩
  cases h
theorem H_X7_stride (fu : Nat) : ∀ as w o, U_X7_stride fu as w = some o → ∃ a r, as = .ref a :: r ∧ r.length = 1 ∧ isO w a 6 = true := by
  intro as w o h
  unfold U_X7_stride at h
  split at h
  next =>
    split at h
    next hh => exact ⟨_, _, rfl, rfl, hh⟩
    next => cases h
  next => cases h
set_option maxRecDepth 100000 in
set_option maxHeartbeats 4000000 in
theorem S_X7_stride (fu : Nat) {l : Launch} {D : va_G} {cA : Nat → ClassId} {base b : Nat} : CS l D cA base b 2 y_X7_stride prog_1_method_11_code 2 (some .int) (U_X7_stride fu) ∧ OM (U_X7_stride fu) := by
  refine CS_of (d := 1) (y := y_X7_stride) (cc := prog_1_method_11_code) (nL := 2) (ret := (some .int)) (F := U_X7_stride fu) (fl := fl_BrookStones) (nl := nl_BrookStones) (kl := []) (k2 := []) (mv := [(158, 2, 1, (U_X0_isWalker fu))]) (ms := []) (mi := []) (ini := false) hI_w fl_BrookStones_ok nl_BrookStones_ok nil_all nil_all
    (cons_all (⟨⟨show (1 : Nat) ≠ 3 by decide, y_X0_isWalker, prog_2_method_6_code, 2, (some .boolean), 1, "BrookStones", 0, TX0, 15, 1, (S_X0_isWalker fu (l := l) (D := D) (cA := cA) (base := base) (b := b)).1, by decide, by decide, rfl, H_X0_isWalker fu, rfl, mi_X0_isWalker.1, mi_X0_isWalker.2.1, mi_X0_isWalker.2.2.1, mi_X0_isWalker.2.2.2.1, mi_X0_isWalker.2.2.2.2, Or.inr (tblN_of (i := 346) rfl rfl)⟩, (S_X0_isWalker fu (l := l) (D := D) (cA := cA) (base := base) (b := b)).2⟩) (nil_all))
    (nil_all)
    (nil_all)
    (T := T_X7_stride) (by decide +kernel) (cut := []) (N := 15) (D_X7_stride fu) (by decide +kernel) (fun h => absurd h (by decide)) (fun as w o h => ?_)
  unfold U_X7_stride at h
  split at h
  next =>
    split at h
    next => exact ⟨Nat.le_of_ble_eq_true rfl, fu, (E_X7_stride fu _ _ w).symm.trans h⟩
    next => cases h
  next => cases h
def T_X0_isStone : List (Nat × Instr) := [(0, .iload_n 1), (1, .ifCond .lt 15), (4, .iload_n 1), (5, .aload_n 0), (6, .getfield 49), (9, .if_icmp .ge 7), (12, .iconst 1), (13, .goto 4), (16, .iconst 0), (17, .ireturn)]
def op_X0_isStone (fu : Nat) : Nat → Kont → XL → List Value → XW → Instr → Option XO := opK 2 (rzOf (some .boolean)) fl_BrookStones_Brook [] [] [] [] [] []
def M_X0_isStone (fu : Nat) (a0 : Nat) (a1 : Int32) (w : XW) : Option XO :=
  (if a1 < 0 then
    retZ (0 : Int32) w
  else
    (gI w a0 0 12).bind fun x1 =>
    (if a1 < x1 then
      retZ (1 : Int32) w
    else
      retZ (0 : Int32) w))
def U_X0_isStone (fu : Nat) : Orc := fun as w => match as with
  | [.ref a0, .int a1] => if isO w a0 0 = true then M_X0_isStone fu a0 a1 w else none
  | _ => none
def K_X0_isStone (fu : Nat) (n : Nat) : Kont := fun pc ls st w => none
set_option maxRecDepth 100000 in
set_option maxHeartbeats 4000000 in
theorem E_X0_isStone (fu : Nat) (a0 : Nat) (a1 : Int32) (w : XW) : M_X0_isStone fu a0 a1 w = ev T_X0_isStone (op_X0_isStone fu) [] (K_X0_isStone fu fu) 12 0 (lv_args 0 [.ref a0, .int a1]) [] w := by
  rfl
theorem D_X0_isStone (fu : Nat) : DS T_X0_isStone (op_X0_isStone fu) [] 12 (K_X0_isStone fu) := by
  refine ⟨fun pc ls st w => rfl, fun n pc ls st w o h => ?_⟩
  cases h
theorem H_X0_isStone (fu : Nat) : ∀ as w o, U_X0_isStone fu as w = some o → ∃ a r, as = .ref a :: r ∧ r.length = 1 ∧ isO w a 0 = true := by
  intro as w o h
  unfold U_X0_isStone at h
  split at h
  next =>
    split at h
    next hh => exact ⟨_, _, rfl, rfl, hh⟩
    next => cases h
  next => cases h
set_option maxRecDepth 100000 in
set_option maxHeartbeats 4000000 in
theorem S_X0_isStone (fu : Nat) {l : Launch} {D : va_G} {cA : Nat → ClassId} {base b : Nat} : CS l D cA base b 1 y_X0_isStone prog_2_method_5_code 2 (some .boolean) (U_X0_isStone fu) ∧ OM (U_X0_isStone fu) := by
  refine CS_of (d := 0) (y := y_X0_isStone) (cc := prog_2_method_5_code) (nL := 2) (ret := (some .boolean)) (F := U_X0_isStone fu) (fl := fl_BrookStones_Brook) (nl := []) (kl := []) (k2 := []) (mv := []) (ms := []) (mi := []) (ini := false) hI_w fl_BrookStones_Brook_ok nil_all nil_all nil_all
    (nil_all)
    (nil_all)
    (nil_all)
    (T := T_X0_isStone) (by decide +kernel) (cut := []) (N := 12) (D_X0_isStone fu) (by decide +kernel) (fun h => absurd h (by decide)) (fun as w o h => ?_)
  unfold U_X0_isStone at h
  split at h
  next =>
    split at h
    next => exact ⟨Nat.le_of_ble_eq_true rfl, fu, (E_X0_isStone fu _ _ w).symm.trans h⟩
    next => cases h
  next => cases h
def T_X0_isCell : List (Nat × Instr) := [(0, .iload_n 1), (1, .ifCond .lt 15), (4, .iload_n 1), (5, .aload_n 0), (6, .getfield 58), (9, .if_icmp .ge 7), (12, .iconst 1), (13, .goto 4), (16, .iconst 0), (17, .ireturn)]
def op_X0_isCell (fu : Nat) : Nat → Kont → XL → List Value → XW → Instr → Option XO := opK 2 (rzOf (some .boolean)) fl_BrookStones_Brook [] [] [] [] [] []
def M_X0_isCell (fu : Nat) (a0 : Nat) (a1 : Int32) (w : XW) : Option XO :=
  (if a1 < 0 then
    retZ (0 : Int32) w
  else
    (gI w a0 0 8).bind fun x1 =>
    (if a1 < x1 then
      retZ (1 : Int32) w
    else
      retZ (0 : Int32) w))
def U_X0_isCell (fu : Nat) : Orc := fun as w => match as with
  | [.ref a0, .int a1] => if isO w a0 0 = true then M_X0_isCell fu a0 a1 w else none
  | _ => none
def K_X0_isCell (fu : Nat) (n : Nat) : Kont := fun pc ls st w => none
set_option maxRecDepth 100000 in
set_option maxHeartbeats 4000000 in
theorem E_X0_isCell (fu : Nat) (a0 : Nat) (a1 : Int32) (w : XW) : M_X0_isCell fu a0 a1 w = ev T_X0_isCell (op_X0_isCell fu) [] (K_X0_isCell fu fu) 12 0 (lv_args 0 [.ref a0, .int a1]) [] w := by
  rfl
theorem D_X0_isCell (fu : Nat) : DS T_X0_isCell (op_X0_isCell fu) [] 12 (K_X0_isCell fu) := by
  refine ⟨fun pc ls st w => rfl, fun n pc ls st w o h => ?_⟩
  cases h
theorem H_X0_isCell (fu : Nat) : ∀ as w o, U_X0_isCell fu as w = some o → ∃ a r, as = .ref a :: r ∧ r.length = 1 ∧ isO w a 0 = true := by
  intro as w o h
  unfold U_X0_isCell at h
  split at h
  next =>
    split at h
    next hh => exact ⟨_, _, rfl, rfl, hh⟩
    next => cases h
  next => cases h
set_option maxRecDepth 100000 in
set_option maxHeartbeats 4000000 in
theorem S_X0_isCell (fu : Nat) {l : Launch} {D : va_G} {cA : Nat → ClassId} {base b : Nat} : CS l D cA base b 1 y_X0_isCell prog_2_method_4_code 2 (some .boolean) (U_X0_isCell fu) ∧ OM (U_X0_isCell fu) := by
  refine CS_of (d := 0) (y := y_X0_isCell) (cc := prog_2_method_4_code) (nL := 2) (ret := (some .boolean)) (F := U_X0_isCell fu) (fl := fl_BrookStones_Brook) (nl := []) (kl := []) (k2 := []) (mv := []) (ms := []) (mi := []) (ini := false) hI_w fl_BrookStones_Brook_ok nil_all nil_all nil_all
    (nil_all)
    (nil_all)
    (nil_all)
    (T := T_X0_isCell) (by decide +kernel) (cut := []) (N := 12) (D_X0_isCell fu) (by decide +kernel) (fun h => absurd h (by decide)) (fun as w o h => ?_)
  unfold U_X0_isCell at h
  split at h
  next =>
    split at h
    next => exact ⟨Nat.le_of_ble_eq_true rfl, fu, (E_X0_isCell fu _ _ w).symm.trans h⟩
    next => cases h
  next => cases h
def T_X7_has : List (Nat × Instr) := [(0, .iload_n 0), (1, .iload_n 1), (2, .ishr), (3, .iconst 1), (4, .iand), (5, .ifCond .eq 7), (8, .iconst 1), (9, .goto 4), (12, .iconst 0), (13, .ireturn)]
def op_X7_has (fu : Nat) : Nat → Kont → XL → List Value → XW → Instr → Option XO := opK 2 (rzOf (some .boolean)) fl_BrookStones nl_BrookStones [] [] [] [] []
def M_X7_has (fu : Nat) (a0 : Int32) (a1 : Int32) (w : XW) : Option XO :=
  (if ((a0 >>> (a1 &&& 31)) &&& (1 : Int32)) = 0 then
    retZ (0 : Int32) w
  else
    retZ (1 : Int32) w)
def U_X7_has (fu : Nat) : Orc := fun as w => match as with
  | [.int a0, .int a1] => M_X7_has fu a0 a1 w
  | _ => none
def K_X7_has (fu : Nat) (n : Nat) : Kont := fun pc ls st w => none
set_option maxRecDepth 100000 in
set_option maxHeartbeats 4000000 in
theorem E_X7_has (fu : Nat) (a0 : Int32) (a1 : Int32) (w : XW) : M_X7_has fu a0 a1 w = ev T_X7_has (op_X7_has fu) [] (K_X7_has fu fu) 12 0 (lv_args 0 [.int a0, .int a1]) [] w := by
  rfl
theorem D_X7_has (fu : Nat) : DS T_X7_has (op_X7_has fu) [] 12 (K_X7_has fu) := by
  refine ⟨fun pc ls st w => rfl, fun n pc ls st w o h => ?_⟩
  cases h
set_option maxRecDepth 100000 in
set_option maxHeartbeats 4000000 in
theorem S_X7_has (fu : Nat) {l : Launch} {D : va_G} {cA : Nat → ClassId} {base b : Nat} : CS l D cA base b 1 y_X7_has prog_1_method_47_code 2 (some .boolean) (U_X7_has fu) ∧ OM (U_X7_has fu) := by
  refine CS_of (d := 0) (y := y_X7_has) (cc := prog_1_method_47_code) (nL := 2) (ret := (some .boolean)) (F := U_X7_has fu) (fl := fl_BrookStones) (nl := nl_BrookStones) (kl := []) (k2 := []) (mv := []) (ms := []) (mi := []) (ini := false) hI_w fl_BrookStones_ok nl_BrookStones_ok nil_all nil_all
    (nil_all)
    (nil_all)
    (nil_all)
    (T := T_X7_has) (by decide +kernel) (cut := []) (N := 12) (D_X7_has fu) (by decide +kernel) (fun h => absurd h (by decide)) (fun as w o h => ?_)
  unfold U_X7_has at h
  split at h
  next =>
    exact ⟨Nat.le_of_ble_eq_true rfl, fu, (E_X7_has fu _ _ w).symm.trans h⟩
  next => cases h
def T_X0_cellOf : List (Nat × Instr) := [(0, .iconst 0), (1, .istore_n 2), (2, .iload_n 2), (3, .aload_n 0), (4, .getfield 58), (7, .if_icmp .ge 21), (10, .aload_n 0), (11, .getfield 18), (14, .iload_n 2), (15, .iaload), (16, .iload_n 1), (17, .if_icmp .ne 5), (20, .iload_n 2), (21, .ireturn), (22, .iinc 2 1), (25, .goto (-23)), (28, .bipush (-9)), (30, .ireturn)]
def op_X0_cellOf (fu : Nat) : Nat → Kont → XL → List Value → XW → Instr → Option XO := opK 3 (rzOf (some .int)) fl_BrookStones_Brook [] [] [] [] [] []
def F_X0_cellOf (fu : Nat) : Nat → (Nat → Int32 → Int32 → XW → Option XO)
  | 0 => fun _ _ _ _ => none
  | n + 1 => (fun a0 a1 a2 w =>
    (gI w a0 0 8).bind fun x1 =>
    (if a2 < x1 then
      (gR w a0 0 2).bind fun r2 =>
      (aI w r2 a2).bind fun x3 =>
      (if x3 = a1 then
        some (some (.int a2), w)
      else
        (F_X0_cellOf fu n) a0 a1 (a2 + (1 : Int32)) w)
    else
      some (some (.int (-9 : Int32)), w)))
def M_X0_cellOf (fu : Nat) (a0 : Nat) (a1 : Int32) (w : XW) : Option XO :=
  (F_X0_cellOf fu fu) a0 a1 (0 : Int32) w
def U_X0_cellOf (fu : Nat) : Orc := fun as w => match as with
  | [.ref a0, .int a1] => if isO w a0 0 = true then M_X0_cellOf fu a0 a1 w else none
  | _ => none
def K_X0_cellOf (fu : Nat) (n : Nat) : Kont := fun pc ls st w => bif pc == 2 then ((xr ls 0).bind fun a0 => (xi ls 1).bind fun a1 => (xi ls 2).bind fun a2 => skN st ((F_X0_cellOf fu n) a0 a1 a2 w)) else none
set_option maxRecDepth 100000 in
set_option maxHeartbeats 4000000 in
theorem E_X0_cellOf_2 (fu : Nat) (n : Nat) (a0 : Nat) (a1 : Int32) (a2 : Int32) (w : XW) : (F_X0_cellOf fu (n + 1)) a0 a1 a2 w = ev T_X0_cellOf (op_X0_cellOf fu) [2] (K_X0_cellOf fu n) 20 2 [(0, .ref a0), (1, .int a1), (2, .int a2)] [] w := by
  rfl
set_option maxRecDepth 100000 in
set_option maxHeartbeats 4000000 in
theorem E_X0_cellOf (fu : Nat) (a0 : Nat) (a1 : Int32) (w : XW) : M_X0_cellOf fu a0 a1 w = ev T_X0_cellOf (op_X0_cellOf fu) [2] (K_X0_cellOf fu fu) 20 0 (lv_args 0 [.ref a0, .int a1]) [] w := by
  rfl
theorem D_X0_cellOf (fu : Nat) : DS T_X0_cellOf (op_X0_cellOf fu) [2] 20 (K_X0_cellOf fu) := by
  refine ⟨fun pc ls st w => c_none (b_none fun _ => b_none fun _ => b_none fun _ => skN_none rfl) (rfl), fun n pc ls st w o h => ?_⟩
  rcases c_some h with ⟨rfl, h⟩ | h
  · obtain ⟨a0, h0, h⟩ := some_of h; obtain ⟨a1, h1, h⟩ := some_of h; obtain ⟨a2, h2, h⟩ := some_of h;
    obtain ⟨e, g⟩ := skN_of h
    subst e
    exact ⟨[(0, .ref a0), (1, .int a1), (2, .int a2)], cons_all (xr_of h0) (cons_all (xi_of h1) (cons_all (xi_of h2) (nil_all))), (E_X0_cellOf_2 fu n a0 a1 a2 w).symm.trans g⟩
  · cases h
theorem H_X0_cellOf (fu : Nat) : ∀ as w o, U_X0_cellOf fu as w = some o → ∃ a r, as = .ref a :: r ∧ r.length = 1 ∧ isO w a 0 = true := by
  intro as w o h
  unfold U_X0_cellOf at h
  split at h
  next =>
    split at h
    next hh => exact ⟨_, _, rfl, rfl, hh⟩
    next => cases h
  next => cases h
set_option maxRecDepth 100000 in
set_option maxHeartbeats 4000000 in
theorem S_X0_cellOf (fu : Nat) {l : Launch} {D : va_G} {cA : Nat → ClassId} {base b : Nat} : CS l D cA base b 1 y_X0_cellOf prog_2_method_14_code 3 (some .int) (U_X0_cellOf fu) ∧ OM (U_X0_cellOf fu) := by
  refine CS_of (d := 0) (y := y_X0_cellOf) (cc := prog_2_method_14_code) (nL := 3) (ret := (some .int)) (F := U_X0_cellOf fu) (fl := fl_BrookStones_Brook) (nl := []) (kl := []) (k2 := []) (mv := []) (ms := []) (mi := []) (ini := false) hI_w fl_BrookStones_Brook_ok nil_all nil_all nil_all
    (nil_all)
    (nil_all)
    (nil_all)
    (T := T_X0_cellOf) (by decide +kernel) (cut := [2]) (N := 20) (D_X0_cellOf fu) (by decide +kernel) (fun h => absurd h (by decide)) (fun as w o h => ?_)
  unfold U_X0_cellOf at h
  split at h
  next =>
    split at h
    next => exact ⟨Nat.le_of_ble_eq_true rfl, fu, (E_X0_cellOf fu _ _ w).symm.trans h⟩
    next => cases h
  next => cases h
def T_X0_takeUp : List (Nat × Instr) := [(0, .aload_n 0), (1, .iload_n 1), (2, .invokevirtual 61), (5, .istore_n 2), (6, .iload_n 2), (7, .bipush (-9)), (9, .if_icmp .eq 11), (12, .aload_n 0), (13, .getfield 18), (16, .iload_n 2), (17, .bipush (-9)), (19, .iastore), (20, .return_)]
def op_X0_takeUp (fu : Nat) : Nat → Kont → XL → List Value → XW → Instr → Option XO := opK 3 (rzOf (none)) fl_BrookStones_Brook [] [] [] [(61, 2, 1, (U_X0_cellOf fu))] [] []
def M_X0_takeUp (fu : Nat) (a0 : Nat) (a1 : Int32) (w : XW) : Option XO :=
  cI (U_X0_cellOf fu [.ref a0, .int a1] w) fun x2 w1 =>
  (if x2 = (-9 : Int32) then
    some (none, w1)
  else
    (gR w1 a0 0 2).bind fun r3 =>
    (sI w1 r3 x2 (-9 : Int32)).bind fun w4 =>
    some (none, w4))
def U_X0_takeUp (fu : Nat) : Orc := fun as w => match as with
  | [.ref a0, .int a1] => if isO w a0 0 = true then M_X0_takeUp fu a0 a1 w else none
  | _ => none
def K_X0_takeUp (fu : Nat) (n : Nat) : Kont := fun pc ls st w => none
set_option maxRecDepth 100000 in
set_option maxHeartbeats 4000000 in
theorem E_X0_takeUp (fu : Nat) (a0 : Nat) (a1 : Int32) (w : XW) : M_X0_takeUp fu a0 a1 w = ev T_X0_takeUp (op_X0_takeUp fu) [] (K_X0_takeUp fu fu) 15 0 (lv_args 0 [.ref a0, .int a1]) [] w := by
  rfl
theorem D_X0_takeUp (fu : Nat) : DS T_X0_takeUp (op_X0_takeUp fu) [] 15 (K_X0_takeUp fu) := by
  refine ⟨fun pc ls st w => rfl, fun n pc ls st w o h => ?_⟩
  cases h
theorem H_X0_takeUp (fu : Nat) : ∀ as w o, U_X0_takeUp fu as w = some o → ∃ a r, as = .ref a :: r ∧ r.length = 1 ∧ isO w a 0 = true := by
  intro as w o h
  unfold U_X0_takeUp at h
  split at h
  next =>
    split at h
    next hh => exact ⟨_, _, rfl, rfl, hh⟩
    next => cases h
  next => cases h
set_option maxRecDepth 100000 in
set_option maxHeartbeats 4000000 in
theorem S_X0_takeUp (fu : Nat) {l : Launch} {D : va_G} {cA : Nat → ClassId} {base b : Nat} : CS l D cA base b 2 y_X0_takeUp prog_2_method_15_code 3 (none) (U_X0_takeUp fu) ∧ OM (U_X0_takeUp fu) := by
  refine CS_of (d := 1) (y := y_X0_takeUp) (cc := prog_2_method_15_code) (nL := 3) (ret := (none)) (F := U_X0_takeUp fu) (fl := fl_BrookStones_Brook) (nl := []) (kl := []) (k2 := []) (mv := [(61, 2, 1, (U_X0_cellOf fu))]) (ms := []) (mi := []) (ini := false) hI_w fl_BrookStones_Brook_ok nil_all nil_all nil_all
    (cons_all (⟨⟨show (1 : Nat) ≠ 3 by decide, y_X0_cellOf, prog_2_method_14_code, 3, (some .int), 1, "BrookStones", 0, TX0, 15, 1, (S_X0_cellOf fu (l := l) (D := D) (cA := cA) (base := base) (b := b)).1, by decide, by decide, rfl, H_X0_cellOf fu, rfl, mi_X0_cellOf.1, mi_X0_cellOf.2.1, mi_X0_cellOf.2.2.1, mi_X0_cellOf.2.2.2.1, mi_X0_cellOf.2.2.2.2, Or.inl (tblG_of (i := 333) rfl rfl)⟩, (S_X0_cellOf fu (l := l) (D := D) (cA := cA) (base := base) (b := b)).2⟩) (nil_all))
    (nil_all)
    (nil_all)
    (T := T_X0_takeUp) (by decide +kernel) (cut := []) (N := 15) (D_X0_takeUp fu) (by decide +kernel) (fun h => absurd h (by decide)) (fun as w o h => ?_)
  unfold U_X0_takeUp at h
  split at h
  next =>
    split at h
    next => exact ⟨Nat.le_of_ble_eq_true rfl, fu, (E_X0_takeUp fu _ _ w).symm.trans h⟩
    next => cases h
  next => cases h
def T_X7_set : List (Nat × Instr) := [(0, .aload_n 0), (1, .getfield 12), (4, .iload_n 1), (5, .invokevirtual 119), (8, .ifCond .eq 20), (11, .iload_n 2), (12, .bipush (-9)), (14, .if_icmp .eq 16), (17, .aload_n 0), (18, .getfield 12), (21, .iload_n 2), (22, .invokevirtual 77), (25, .ifCond .ne 5), (28, .iconst (-1)), (29, .ireturn), (30, .aload_n 0), (31, .getfield 12), (34, .getfield 138), (37, .iload_n 1), (38, .invokestatic 94), (41, .ifCond .ne 23), (44, .iload_n 2), (45, .bipush (-9)), (47, .if_icmp .eq 20), (50, .aload_n 0), (51, .getfield 12), (54, .getfield 81), (57, .iload_n 2), (58, .iaload), (59, .bipush (-9)), (61, .if_icmp .eq 6), (64, .bipush (-3)), (66, .ireturn), (67, .aload_n 0), (68, .getfield 12), (71, .iload_n 1), (72, .invokevirtual 144), (75, .iload_n 2), (76, .bipush (-9)), (78, .if_icmp .eq 13), (81, .aload_n 0), (82, .getfield 12), (85, .getfield 81), (88, .iload_n 2), (89, .iload_n 1), (90, .iastore), (91, .iconst 1), (92, .ireturn)]
def op_X7_set (fu : Nat) : Nat → Kont → XL → List Value → XW → Instr → Option XO := opK 3 (rzOf (some .int)) fl_BrookStones nl_BrookStones [] [] [(119, 2, 1, (U_X0_isStone fu)), (77, 2, 1, (U_X0_isCell fu)), (144, 2, 0, (U_X0_takeUp fu))] [(94, 2, 1, (U_X7_has fu))] []
def F_X7_set (fu : Nat) : Nat → (Nat → Int32 → Int32 → XW → Option XO) × (Nat → Int32 → Int32 → XW → Option XO)
  | 0 => (fun _ _ _ _ => none, fun _ _ _ _ => none)
  | n + 1 => ((fun a0 a1 a2 w =>
    (gR w a0 6 0).bind fun r1 =>
    (gI w r1 0 13).bind fun x2 =>
    cI (U_X7_has fu [.int x2, .int a1] w) fun x4 w3 =>
    (if x4 = 0 then
      (if a2 = (-9 : Int32) then
        (F_X7_set fu n).2 a0 a1 a2 w3
      else
        (gR w3 a0 6 0).bind fun r5 =>
        (gR w3 r5 0 2).bind fun r6 =>
        (aI w3 r6 a2).bind fun x7 =>
        (if x7 = (-9 : Int32) then
          (F_X7_set fu n).2 a0 a1 a2 w3
        else
          some (some (.int (-3 : Int32)), w3)))
    else
      some (some (.int (-3 : Int32)), w3))),
   (fun a0 a1 a2 w =>
    (gR w a0 6 0).bind fun r8 =>
    cV (U_X0_takeUp fu [.ref r8, .int a1] w) fun w9 =>
    (if a2 = (-9 : Int32) then
      some (some (.int (1 : Int32)), w9)
    else
      (gR w9 a0 6 0).bind fun r10 =>
      (gR w9 r10 0 2).bind fun r11 =>
      (sI w9 r11 a2 a1).bind fun w12 =>
      some (some (.int (1 : Int32)), w12))))
def M_X7_set (fu : Nat) (a0 : Nat) (a1 : Int32) (a2 : Int32) (w : XW) : Option XO :=
  (gR w a0 6 0).bind fun r13 =>
  cI (U_X0_isStone fu [.ref r13, .int a1] w) fun x15 w14 =>
  (if x15 = 0 then
    some (some (.int (-1 : Int32)), w14)
  else
    (if a2 = (-9 : Int32) then
      (F_X7_set fu fu).1 a0 a1 a2 w14
    else
      (gR w14 a0 6 0).bind fun r16 =>
      cI (U_X0_isCell fu [.ref r16, .int a2] w14) fun x18 w17 =>
      (if x18 = 0 then
        some (some (.int (-1 : Int32)), w17)
      else
        (F_X7_set fu fu).1 a0 a1 a2 w17)))
def U_X7_set (fu : Nat) : Orc := fun as w => match as with
  | [.ref a0, .int a1, .int a2] => if isO w a0 6 = true then M_X7_set fu a0 a1 a2 w else none
  | _ => none
def K_X7_set (fu : Nat) (n : Nat) : Kont := fun pc ls st w => bif pc == 30 then ((xr ls 0).bind fun a0 => (xi ls 1).bind fun a1 => (xi ls 2).bind fun a2 => skN st ((F_X7_set fu n).1 a0 a1 a2 w)) else bif pc == 67 then ((xr ls 0).bind fun a0 => (xi ls 1).bind fun a1 => (xi ls 2).bind fun a2 => skN st ((F_X7_set fu n).2 a0 a1 a2 w)) else none
set_option maxRecDepth 100000 in
set_option maxHeartbeats 4000000 in
theorem E_X7_set_30 (fu : Nat) (n : Nat) (a0 : Nat) (a1 : Int32) (a2 : Int32) (w : XW) : (F_X7_set fu (n + 1)).1 a0 a1 a2 w = ev T_X7_set (op_X7_set fu) [30, 67] (K_X7_set fu n) 50 30 [(0, .ref a0), (1, .int a1), (2, .int a2)] [] w := by
  rfl
set_option maxRecDepth 100000 in
set_option maxHeartbeats 4000000 in
theorem E_X7_set_67 (fu : Nat) (n : Nat) (a0 : Nat) (a1 : Int32) (a2 : Int32) (w : XW) : (F_X7_set fu (n + 1)).2 a0 a1 a2 w = ev T_X7_set (op_X7_set fu) [30, 67] (K_X7_set fu n) 50 67 [(0, .ref a0), (1, .int a1), (2, .int a2)] [] w := by
  rfl
set_option maxRecDepth 100000 in
set_option maxHeartbeats 4000000 in
theorem E_X7_set (fu : Nat) (a0 : Nat) (a1 : Int32) (a2 : Int32) (w : XW) : M_X7_set fu a0 a1 a2 w = ev T_X7_set (op_X7_set fu) [30, 67] (K_X7_set fu fu) 50 0 (lv_args 0 [.ref a0, .int a1, .int a2]) [] w := by
  rfl
theorem D_X7_set (fu : Nat) : DS T_X7_set (op_X7_set fu) [30, 67] 50 (K_X7_set fu) := by
  refine ⟨fun pc ls st w => c_none (b_none fun _ => b_none fun _ => b_none fun _ => skN_none rfl) (c_none (b_none fun _ => b_none fun _ => b_none fun _ => skN_none rfl) (rfl)), fun n pc ls st w o h => ?_⟩
  rcases c_some h with ⟨rfl, h⟩ | h
  · obtain ⟨a0, h0, h⟩ := some_of h; obtain ⟨a1, h1, h⟩ := some_of h; obtain ⟨a2, h2, h⟩ := some_of h;
    obtain ⟨e, g⟩ := skN_of h
    subst e
    exact ⟨[(0, .ref a0), (1, .int a1), (2, .int a2)], cons_all (xr_of h0) (cons_all (xi_of h1) (cons_all (xi_of h2) (nil_all))), (E_X7_set_30 fu n a0 a1 a2 w).symm.trans g⟩
  rcases c_some h with ⟨rfl, h⟩ | h
  · obtain ⟨a0, h0, h⟩ := some_of h; obtain ⟨a1, h1, h⟩ := some_of h; obtain ⟨a2, h2, h⟩ := some_of h;
    obtain ⟨e, g⟩ := skN_of h
    subst e
    exact ⟨[(0, .ref a0), (1, .int a1), (2, .int a2)], cons_all (xr_of h0) (cons_all (xi_of h1) (cons_all (xi_of h2) (nil_all))), (E_X7_set_67 fu n a0 a1 a2 w).symm.trans g⟩
  · cases h
theorem H_X7_set (fu : Nat) : ∀ as w o, U_X7_set fu as w = some o → ∃ a r, as = .ref a :: r ∧ r.length = 2 ∧ isO w a 6 = true := by
  intro as w o h
  unfold U_X7_set at h
  split at h
  next =>
    split at h
    next hh => exact ⟨_, _, rfl, rfl, hh⟩
    next => cases h
  next => cases h
set_option maxRecDepth 100000 in
set_option maxHeartbeats 4000000 in
theorem S_X7_set (fu : Nat) {l : Launch} {D : va_G} {cA : Nat → ClassId} {base b : Nat} : CS l D cA base b 3 y_X7_set prog_1_method_8_code 3 (some .int) (U_X7_set fu) ∧ OM (U_X7_set fu) := by
  refine CS_of (d := 2) (y := y_X7_set) (cc := prog_1_method_8_code) (nL := 3) (ret := (some .int)) (F := U_X7_set fu) (fl := fl_BrookStones) (nl := nl_BrookStones) (kl := []) (k2 := []) (mv := [(119, 2, 1, (U_X0_isStone fu)), (77, 2, 1, (U_X0_isCell fu)), (144, 2, 0, (U_X0_takeUp fu))]) (ms := [(94, 2, 1, (U_X7_has fu))]) (mi := []) (ini := false) hI_w fl_BrookStones_ok nl_BrookStones_ok nil_all nil_all
    (cons_all (⟨⟨show (1 : Nat) ≠ 3 by decide, y_X0_isStone, prog_2_method_5_code, 2, (some .boolean), 1, "BrookStones", 0, TX0, 15, 1, (S_X0_isStone fu (l := l) (D := D) (cA := cA) (base := base) (b := b)).1, by decide, by decide, rfl, H_X0_isStone fu, rfl, mi_X0_isStone.1, mi_X0_isStone.2.1, mi_X0_isStone.2.2.1, mi_X0_isStone.2.2.2.1, mi_X0_isStone.2.2.2.2, Or.inr (tblN_of (i := 313) rfl rfl)⟩, (S_X0_isStone fu (l := l) (D := D) (cA := cA) (base := base) (b := b)).2⟩) (cons_all (⟨⟨show (1 : Nat) ≠ 3 by decide, y_X0_isCell, prog_2_method_4_code, 2, (some .boolean), 1, "BrookStones", 0, TX0, 15, 1, (S_X0_isCell fu (l := l) (D := D) (cA := cA) (base := base) (b := b)).1, by decide, by decide, rfl, H_X0_isCell fu, rfl, mi_X0_isCell.1, mi_X0_isCell.2.1, mi_X0_isCell.2.2.1, mi_X0_isCell.2.2.2.1, mi_X0_isCell.2.2.2.2, Or.inr (tblN_of (i := 289) rfl rfl)⟩, (S_X0_isCell fu (l := l) (D := D) (cA := cA) (base := base) (b := b)).2⟩) (cons_all (⟨⟨show (0 : Nat) ≠ 3 by decide, y_X0_takeUp, prog_2_method_15_code, 3, (none), 2, "BrookStones", 0, TX0, 15, 1, (S_X0_takeUp fu (l := l) (D := D) (cA := cA) (base := base) (b := b)).1, by decide, by decide, rfl, H_X0_takeUp fu, rfl, mi_X0_takeUp.1, mi_X0_takeUp.2.1, mi_X0_takeUp.2.2.1, mi_X0_takeUp.2.2.2.1, mi_X0_takeUp.2.2.2.2, Or.inr (tblN_of (i := 329) rfl rfl)⟩, (S_X0_takeUp fu (l := l) (D := D) (cA := cA) (base := base) (b := b)).2⟩) (nil_all))))
    (cons_all (⟨Or.inl ⟨show (1 : Nat) ≠ 3 by decide, y_X7_has, prog_1_method_47_code, 2, (some .boolean), 1, "BrookStones", (S_X7_has fu (l := l) (D := D) (cA := cA) (base := base) (b := b)).1, by decide, by decide, mi_X7_has.1, mi_X7_has.2.1, mi_X7_has.2.2.1, mi_X7_has.2.2.2, Or.inl (tblG_of (i := 293) rfl rfl)⟩, (S_X7_has fu (l := l) (D := D) (cA := cA) (base := base) (b := b)).2⟩) (nil_all))
    (nil_all)
    (T := T_X7_set) (by decide +kernel) (cut := [30, 67]) (N := 50) (D_X7_set fu) (by decide +kernel) (fun h => absurd h (by decide)) (fun as w o h => ?_)
  unfold U_X7_set at h
  split at h
  next =>
    split at h
    next => exact ⟨Nat.le_of_ble_eq_true rfl, fu, (E_X7_set fu _ _ _ w).symm.trans h⟩
    next => cases h
  next => cases h
def T_X0_holdOf : List (Nat × Instr) := [(0, .aload_n 0), (1, .getfield 21), (4, .iload_n 1), (5, .iaload), (6, .iconst 1), (7, .if_icmp .lt 14), (10, .aload_n 0), (11, .getfield 27), (14, .iload_n 1), (15, .iaload), (16, .iconst 3), (17, .iadd), (18, .goto 9), (21, .aload_n 0), (22, .getfield 27), (25, .iload_n 1), (26, .iaload), (27, .ireturn)]
def op_X0_holdOf (fu : Nat) : Nat → Kont → XL → List Value → XW → Instr → Option XO := opK 2 (rzOf (some .int)) fl_BrookStones_Brook [] [] [] [] [] []
def M_X0_holdOf (fu : Nat) (a0 : Nat) (a1 : Int32) (w : XW) : Option XO :=
  (gR w a0 0 3).bind fun r1 =>
  (aI w r1 a1).bind fun x2 =>
  (if x2 < (1 : Int32) then
    (gR w a0 0 5).bind fun r3 =>
    (aI w r3 a1).bind fun x4 =>
    some (some (.int x4), w)
  else
    (gR w a0 0 5).bind fun r5 =>
    (aI w r5 a1).bind fun x6 =>
    some (some (.int (x6 + (3 : Int32))), w))
def U_X0_holdOf (fu : Nat) : Orc := fun as w => match as with
  | [.ref a0, .int a1] => if isO w a0 0 = true then M_X0_holdOf fu a0 a1 w else none
  | _ => none
def K_X0_holdOf (fu : Nat) (n : Nat) : Kont := fun pc ls st w => none
set_option maxRecDepth 100000 in
set_option maxHeartbeats 4000000 in
theorem E_X0_holdOf (fu : Nat) (a0 : Nat) (a1 : Int32) (w : XW) : M_X0_holdOf fu a0 a1 w = ev T_X0_holdOf (op_X0_holdOf fu) [] (K_X0_holdOf fu fu) 20 0 (lv_args 0 [.ref a0, .int a1]) [] w := by
  rfl
theorem D_X0_holdOf (fu : Nat) : DS T_X0_holdOf (op_X0_holdOf fu) [] 20 (K_X0_holdOf fu) := by
  refine ⟨fun pc ls st w => rfl, fun n pc ls st w o h => ?_⟩
  cases h
theorem H_X0_holdOf (fu : Nat) : ∀ as w o, U_X0_holdOf fu as w = some o → ∃ a r, as = .ref a :: r ∧ r.length = 1 ∧ isO w a 0 = true := by
  intro as w o h
  unfold U_X0_holdOf at h
  split at h
  next =>
    split at h
    next hh => exact ⟨_, _, rfl, rfl, hh⟩
    next => cases h
  next => cases h
set_option maxRecDepth 100000 in
set_option maxHeartbeats 4000000 in
theorem S_X0_holdOf (fu : Nat) {l : Launch} {D : va_G} {cA : Nat → ClassId} {base b : Nat} : CS l D cA base b 1 y_X0_holdOf prog_2_method_10_code 2 (some .int) (U_X0_holdOf fu) ∧ OM (U_X0_holdOf fu) := by
  refine CS_of (d := 0) (y := y_X0_holdOf) (cc := prog_2_method_10_code) (nL := 2) (ret := (some .int)) (F := U_X0_holdOf fu) (fl := fl_BrookStones_Brook) (nl := []) (kl := []) (k2 := []) (mv := []) (ms := []) (mi := []) (ini := false) hI_w fl_BrookStones_Brook_ok nil_all nil_all nil_all
    (nil_all)
    (nil_all)
    (nil_all)
    (T := T_X0_holdOf) (by decide +kernel) (cut := []) (N := 20) (D_X0_holdOf fu) (by decide +kernel) (fun h => absurd h (by decide)) (fun as w o h => ?_)
  unfold U_X0_holdOf at h
  split at h
  next =>
    split at h
    next => exact ⟨Nat.le_of_ble_eq_true rfl, fu, (E_X0_holdOf fu _ _ w).symm.trans h⟩
    next => cases h
  next => cases h
end
section
def T_X7_ofStone : List (Nat × Instr) := [(0, .aload_n 0), (1, .getfield 12), (4, .iload_n 1), (5, .invokevirtual 119), (8, .ifCond .ne 5), (11, .iconst (-1)), (12, .ireturn), (13, .iload_n 2), (14, .tableswitch 115 0 5 #[38, 48, 58, 68, 78, 87]), (52, .aload_n 0), (53, .getfield 12), (56, .getfield 122), (59, .iload_n 1), (60, .iaload), (61, .ireturn), (62, .aload_n 0), (63, .getfield 12), (66, .getfield 125), (69, .iload_n 1), (70, .iaload), (71, .ireturn), (72, .aload_n 0), (73, .getfield 12), (76, .getfield 128), (79, .iload_n 1), (80, .iaload), (81, .ireturn), (82, .aload_n 0), (83, .getfield 12), (86, .getfield 131), (89, .iload_n 1), (90, .iaload), (91, .ireturn), (92, .aload_n 0), (93, .getfield 12), (96, .iload_n 1), (97, .invokevirtual 134), (100, .ireturn), (101, .aload_n 0), (102, .getfield 12), (105, .getfield 138), (108, .iload_n 1), (109, .invokestatic 94), (112, .ifCond .eq 8), (115, .bipush (-5)), (117, .goto 11), (120, .aload_n 0), (121, .getfield 12), (124, .iload_n 1), (125, .invokevirtual 141), (128, .ireturn), (129, .bipush (-2)), (131, .ireturn)]
def op_X7_ofStone (fu : Nat) : Nat → Kont → XL → List Value → XW → Instr → Option XO := opK 3 (rzOf (some .int)) fl_BrookStones nl_BrookStones [] [] [(119, 2, 1, (U_X0_isStone fu)), (134, 2, 1, (U_X0_holdOf fu)), (141, 2, 1, (U_X0_cellOf fu))] [(94, 2, 1, (U_X7_has fu))] []
def M_X7_ofStone (fu : Nat) (a0 : Nat) (a1 : Int32) (a2 : Int32) (w : XW) : Option XO :=
  (gR w a0 6 0).bind fun r1 =>
  cI (U_X0_isStone fu [.ref r1, .int a1] w) fun x3 w2 =>
  (if x3 = 0 then
    some (some (.int (-1 : Int32)), w2)
  else
    (if a2 = (0 : Int32) then
      (gR w2 a0 6 0).bind fun r4 =>
      (gR w2 r4 0 3).bind fun r5 =>
      (aI w2 r5 a1).bind fun x6 =>
      some (some (.int x6), w2)
    else
    (if a2 = (1 : Int32) then
      (gR w2 a0 6 0).bind fun r7 =>
      (gR w2 r7 0 4).bind fun r8 =>
      (aI w2 r8 a1).bind fun x9 =>
      some (some (.int x9), w2)
    else
    (if a2 = (2 : Int32) then
      (gR w2 a0 6 0).bind fun r10 =>
      (gR w2 r10 0 5).bind fun r11 =>
      (aI w2 r11 a1).bind fun x12 =>
      some (some (.int x12), w2)
    else
    (if a2 = (3 : Int32) then
      (gR w2 a0 6 0).bind fun r13 =>
      (gR w2 r13 0 6).bind fun r14 =>
      (aI w2 r14 a1).bind fun x15 =>
      some (some (.int x15), w2)
    else
    (if a2 = (4 : Int32) then
      (gR w2 a0 6 0).bind fun r16 =>
      cI (U_X0_holdOf fu [.ref r16, .int a1] w2) fun x18 w17 =>
      some (some (.int x18), w17)
    else
    (if a2 = (5 : Int32) then
      (gR w2 a0 6 0).bind fun r19 =>
      (gI w2 r19 0 13).bind fun x20 =>
      cI (U_X7_has fu [.int x20, .int a1] w2) fun x22 w21 =>
      (if x22 = 0 then
        (gR w21 a0 6 0).bind fun r23 =>
        cI (U_X0_cellOf fu [.ref r23, .int a1] w21) fun x25 w24 =>
        some (some (.int x25), w24)
      else
        some (some (.int (-5 : Int32)), w21))
    else
    some (some (.int (-2 : Int32)), w2))))))))
def U_X7_ofStone (fu : Nat) : Orc := fun as w => match as with
  | [.ref a0, .int a1, .int a2] => if isO w a0 6 = true then M_X7_ofStone fu a0 a1 a2 w else none
  | _ => none
def K_X7_ofStone (fu : Nat) (n : Nat) : Kont := fun pc ls st w => none
set_option maxRecDepth 100000 in
set_option maxHeartbeats 4000000 in
theorem E_X7_ofStone (fu : Nat) (a0 : Nat) (a1 : Int32) (a2 : Int32) (w : XW) : M_X7_ofStone fu a0 a1 a2 w = ev T_X7_ofStone (op_X7_ofStone fu) [] (K_X7_ofStone fu fu) 55 0 (lv_args 0 [.ref a0, .int a1, .int a2]) [] w := by
  rfl
theorem D_X7_ofStone (fu : Nat) : DS T_X7_ofStone (op_X7_ofStone fu) [] 55 (K_X7_ofStone fu) := by
  refine ⟨fun pc ls st w => rfl, fun n pc ls st w o h => ?_⟩
  cases h
theorem H_X7_ofStone (fu : Nat) : ∀ as w o, U_X7_ofStone fu as w = some o → ∃ a r, as = .ref a :: r ∧ r.length = 2 ∧ isO w a 6 = true := by
  intro as w o h
  unfold U_X7_ofStone at h
  split at h
  next =>
    split at h
    next hh => exact ⟨_, _, rfl, rfl, hh⟩
    next => cases h
  next => cases h
set_option maxRecDepth 100000 in
set_option maxHeartbeats 4000000 in
theorem S_X7_ofStone (fu : Nat) {l : Launch} {D : va_G} {cA : Nat → ClassId} {base b : Nat} : CS l D cA base b 2 y_X7_ofStone prog_1_method_7_code 3 (some .int) (U_X7_ofStone fu) ∧ OM (U_X7_ofStone fu) := by
  refine CS_of (d := 1) (y := y_X7_ofStone) (cc := prog_1_method_7_code) (nL := 3) (ret := (some .int)) (F := U_X7_ofStone fu) (fl := fl_BrookStones) (nl := nl_BrookStones) (kl := []) (k2 := []) (mv := [(119, 2, 1, (U_X0_isStone fu)), (134, 2, 1, (U_X0_holdOf fu)), (141, 2, 1, (U_X0_cellOf fu))]) (ms := [(94, 2, 1, (U_X7_has fu))]) (mi := []) (ini := false) hI_w fl_BrookStones_ok nl_BrookStones_ok nil_all nil_all
    (cons_all (⟨⟨show (1 : Nat) ≠ 3 by decide, y_X0_isStone, prog_2_method_5_code, 2, (some .boolean), 1, "BrookStones", 0, TX0, 15, 1, (S_X0_isStone fu (l := l) (D := D) (cA := cA) (base := base) (b := b)).1, by decide, by decide, rfl, H_X0_isStone fu, rfl, mi_X0_isStone.1, mi_X0_isStone.2.1, mi_X0_isStone.2.2.1, mi_X0_isStone.2.2.2.1, mi_X0_isStone.2.2.2.2, Or.inr (tblN_of (i := 313) rfl rfl)⟩, (S_X0_isStone fu (l := l) (D := D) (cA := cA) (base := base) (b := b)).2⟩) (cons_all (⟨⟨show (1 : Nat) ≠ 3 by decide, y_X0_holdOf, prog_2_method_10_code, 2, (some .int), 1, "BrookStones", 0, TX0, 15, 1, (S_X0_holdOf fu (l := l) (D := D) (cA := cA) (base := base) (b := b)).1, by decide, by decide, rfl, H_X0_holdOf fu, rfl, mi_X0_holdOf.1, mi_X0_holdOf.2.1, mi_X0_holdOf.2.2.1, mi_X0_holdOf.2.2.2.1, mi_X0_holdOf.2.2.2.2, Or.inr (tblN_of (i := 317) rfl rfl)⟩, (S_X0_holdOf fu (l := l) (D := D) (cA := cA) (base := base) (b := b)).2⟩) (cons_all (⟨⟨show (1 : Nat) ≠ 3 by decide, y_X0_cellOf, prog_2_method_14_code, 3, (some .int), 1, "BrookStones", 0, TX0, 15, 1, (S_X0_cellOf fu (l := l) (D := D) (cA := cA) (base := base) (b := b)).1, by decide, by decide, rfl, H_X0_cellOf fu, rfl, mi_X0_cellOf.1, mi_X0_cellOf.2.1, mi_X0_cellOf.2.2.1, mi_X0_cellOf.2.2.2.1, mi_X0_cellOf.2.2.2.2, Or.inr (tblN_of (i := 321) rfl rfl)⟩, (S_X0_cellOf fu (l := l) (D := D) (cA := cA) (base := base) (b := b)).2⟩) (nil_all))))
    (cons_all (⟨Or.inl ⟨show (1 : Nat) ≠ 3 by decide, y_X7_has, prog_1_method_47_code, 2, (some .boolean), 1, "BrookStones", (S_X7_has fu (l := l) (D := D) (cA := cA) (base := base) (b := b)).1, by decide, by decide, mi_X7_has.1, mi_X7_has.2.1, mi_X7_has.2.2.1, mi_X7_has.2.2.2, Or.inl (tblG_of (i := 293) rfl rfl)⟩, (S_X7_has fu (l := l) (D := D) (cA := cA) (base := base) (b := b)).2⟩) (nil_all))
    (nil_all)
    (T := T_X7_ofStone) (by decide +kernel) (cut := []) (N := 55) (D_X7_ofStone fu) (by decide +kernel) (fun h => absurd h (by decide)) (fun as w o h => ?_)
  unfold U_X7_ofStone at h
  split at h
  next =>
    split at h
    next => exact ⟨Nat.le_of_ble_eq_true rfl, fu, (E_X7_ofStone fu _ _ _ w).symm.trans h⟩
    next => cases h
  next => cases h
def T_X7_water : List (Nat × Instr) := [(0, .iload_n 1), (1, .iconst 0), (2, .bipush 9), (4, .invokestatic 105), (7, .ifCond .ne 6), (10, .bipush (-2)), (12, .ireturn), (13, .aload_n 0), (14, .getfield 12), (17, .invokevirtual 109), (20, .ifCond .ne 6), (23, .bipush (-3)), (25, .ireturn), (26, .aload_n 0), (27, .getfield 12), (30, .getfield 98), (33, .istore_n 2), (34, .aload_n 0), (35, .getfield 12), (38, .iload_n 1), (39, .putfield 98), (42, .iload_n 2), (43, .ireturn)]
def op_X7_water (fu : Nat) : Nat → Kont → XL → List Value → XW → Instr → Option XO := opK 3 (rzOf (some .int)) fl_BrookStones nl_BrookStones [] [] [(109, 1, 1, (U_X0_isThere fu))] [(105, 3, 1, (U_X7_isWithin fu))] []
def M_X7_water (fu : Nat) (a0 : Nat) (a1 : Int32) (w : XW) : Option XO :=
  cI (U_X7_isWithin fu [.int a1, .int (0 : Int32), .int (9 : Int32)] w) fun x2 w1 =>
  (if x2 = 0 then
    some (some (.int (-2 : Int32)), w1)
  else
    (gR w1 a0 6 0).bind fun r3 =>
    cI (U_X0_isThere fu [.ref r3] w1) fun x5 w4 =>
    (if x5 = 0 then
      some (some (.int (-3 : Int32)), w4)
    else
      (gR w4 a0 6 0).bind fun r6 =>
      (gI w4 r6 0 11).bind fun x7 =>
      (gR w4 a0 6 0).bind fun r8 =>
      (pF w4 r8 0 11 (.int a1)).bind fun w9 =>
      some (some (.int x7), w9)))
def U_X7_water (fu : Nat) : Orc := fun as w => match as with
  | [.ref a0, .int a1] => if isO w a0 6 = true then M_X7_water fu a0 a1 w else none
  | _ => none
def K_X7_water (fu : Nat) (n : Nat) : Kont := fun pc ls st w => none
set_option maxRecDepth 100000 in
set_option maxHeartbeats 4000000 in
theorem E_X7_water (fu : Nat) (a0 : Nat) (a1 : Int32) (w : XW) : M_X7_water fu a0 a1 w = ev T_X7_water (op_X7_water fu) [] (K_X7_water fu fu) 25 0 (lv_args 0 [.ref a0, .int a1]) [] w := by
  rfl
theorem D_X7_water (fu : Nat) : DS T_X7_water (op_X7_water fu) [] 25 (K_X7_water fu) := by
  refine ⟨fun pc ls st w => rfl, fun n pc ls st w o h => ?_⟩
  cases h
theorem H_X7_water (fu : Nat) : ∀ as w o, U_X7_water fu as w = some o → ∃ a r, as = .ref a :: r ∧ r.length = 1 ∧ isO w a 6 = true := by
  intro as w o h
  unfold U_X7_water at h
  split at h
  next =>
    split at h
    next hh => exact ⟨_, _, rfl, rfl, hh⟩
    next => cases h
  next => cases h
set_option maxRecDepth 100000 in
set_option maxHeartbeats 4000000 in
theorem S_X7_water (fu : Nat) {l : Launch} {D : va_G} {cA : Nat → ClassId} {base b : Nat} : CS l D cA base b 2 y_X7_water prog_1_method_5_code 3 (some .int) (U_X7_water fu) ∧ OM (U_X7_water fu) := by
  refine CS_of (d := 1) (y := y_X7_water) (cc := prog_1_method_5_code) (nL := 3) (ret := (some .int)) (F := U_X7_water fu) (fl := fl_BrookStones) (nl := nl_BrookStones) (kl := []) (k2 := []) (mv := [(109, 1, 1, (U_X0_isThere fu))]) (ms := [(105, 3, 1, (U_X7_isWithin fu))]) (mi := []) (ini := false) hI_w fl_BrookStones_ok nl_BrookStones_ok nil_all nil_all
    (cons_all (⟨⟨show (1 : Nat) ≠ 3 by decide, y_X0_isThere, prog_2_method_3_code, 1, (some .boolean), 1, "BrookStones", 0, TX0, 15, 0, (S_X0_isThere fu (l := l) (D := D) (cA := cA) (base := base) (b := b)).1, by decide, by decide, rfl, H_X0_isThere fu, rfl, mi_X0_isThere.1, mi_X0_isThere.2.1, mi_X0_isThere.2.2.1, mi_X0_isThere.2.2.2.1, mi_X0_isThere.2.2.2.2, Or.inr (tblN_of (i := 305) rfl rfl)⟩, (S_X0_isThere fu (l := l) (D := D) (cA := cA) (base := base) (b := b)).2⟩) (nil_all))
    (cons_all (⟨Or.inl ⟨show (1 : Nat) ≠ 3 by decide, y_X7_isWithin, prog_1_method_46_code, 3, (some .boolean), 1, "BrookStones", (S_X7_isWithin fu (l := l) (D := D) (cA := cA) (base := base) (b := b)).1, by decide, by decide, mi_X7_isWithin.1, mi_X7_isWithin.2.1, mi_X7_isWithin.2.2.1, mi_X7_isWithin.2.2.2, Or.inl (tblG_of (i := 304) rfl rfl)⟩, (S_X7_isWithin fu (l := l) (D := D) (cA := cA) (base := base) (b := b)).2⟩) (nil_all))
    (nil_all)
    (T := T_X7_water) (by decide +kernel) (cut := []) (N := 25) (D_X7_water fu) (by decide +kernel) (fun h => absurd h (by decide)) (fun as w o h => ?_)
  unfold U_X7_water at h
  split at h
  next =>
    split at h
    next => exact ⟨Nat.le_of_ble_eq_true rfl, fu, (E_X7_water fu _ _ w).symm.trans h⟩
    next => cases h
  next => cases h
def T_X0_topOf : List (Nat × Instr) := [(0, .aload_n 0), (1, .getfield 24), (4, .iload_n 1), (5, .iaload), (6, .aload_n 0), (7, .getfield 9), (10, .iload_n 2), (11, .iaload), (12, .isub), (13, .iload_n 3), (14, .isub), (15, .ireturn)]
def op_X0_topOf (fu : Nat) : Nat → Kont → XL → List Value → XW → Instr → Option XO := opK 4 (rzOf (some .int)) fl_BrookStones_Brook [] [] [] [] [] []
def M_X0_topOf (fu : Nat) (a0 : Nat) (a1 : Int32) (a2 : Int32) (a3 : Int32) (w : XW) : Option XO :=
  (gR w a0 0 4).bind fun r1 =>
  (aI w r1 a1).bind fun x2 =>
  (gR w a0 0 0).bind fun r3 =>
  (aI w r3 a2).bind fun x4 =>
  some (some (.int ((x2 - x4) - a3)), w)
def U_X0_topOf (fu : Nat) : Orc := fun as w => match as with
  | [.ref a0, .int a1, .int a2, .int a3] => if isO w a0 0 = true then M_X0_topOf fu a0 a1 a2 a3 w else none
  | _ => none
def K_X0_topOf (fu : Nat) (n : Nat) : Kont := fun pc ls st w => none
set_option maxRecDepth 100000 in
set_option maxHeartbeats 4000000 in
theorem E_X0_topOf (fu : Nat) (a0 : Nat) (a1 : Int32) (a2 : Int32) (a3 : Int32) (w : XW) : M_X0_topOf fu a0 a1 a2 a3 w = ev T_X0_topOf (op_X0_topOf fu) [] (K_X0_topOf fu fu) 14 0 (lv_args 0 [.ref a0, .int a1, .int a2, .int a3]) [] w := by
  rfl
theorem D_X0_topOf (fu : Nat) : DS T_X0_topOf (op_X0_topOf fu) [] 14 (K_X0_topOf fu) := by
  refine ⟨fun pc ls st w => rfl, fun n pc ls st w o h => ?_⟩
  cases h
theorem H_X0_topOf (fu : Nat) : ∀ as w o, U_X0_topOf fu as w = some o → ∃ a r, as = .ref a :: r ∧ r.length = 3 ∧ isO w a 0 = true := by
  intro as w o h
  unfold U_X0_topOf at h
  split at h
  next =>
    split at h
    next hh => exact ⟨_, _, rfl, rfl, hh⟩
    next => cases h
  next => cases h
set_option maxRecDepth 100000 in
set_option maxHeartbeats 4000000 in
theorem S_X0_topOf (fu : Nat) {l : Launch} {D : va_G} {cA : Nat → ClassId} {base b : Nat} : CS l D cA base b 1 y_X0_topOf prog_2_method_13_code 4 (some .int) (U_X0_topOf fu) ∧ OM (U_X0_topOf fu) := by
  refine CS_of (d := 0) (y := y_X0_topOf) (cc := prog_2_method_13_code) (nL := 4) (ret := (some .int)) (F := U_X0_topOf fu) (fl := fl_BrookStones_Brook) (nl := []) (kl := []) (k2 := []) (mv := []) (ms := []) (mi := []) (ini := false) hI_w fl_BrookStones_Brook_ok nil_all nil_all nil_all
    (nil_all)
    (nil_all)
    (nil_all)
    (T := T_X0_topOf) (by decide +kernel) (cut := []) (N := 14) (D_X0_topOf fu) (by decide +kernel) (fun h => absurd h (by decide)) (fun as w o h => ?_)
  unfold U_X0_topOf at h
  split at h
  next =>
    split at h
    next => exact ⟨Nat.le_of_ble_eq_true rfl, fu, (E_X0_topOf fu _ _ _ _ w).symm.trans h⟩
    next => cases h
  next => cases h
def T_X7_ofCell : List (Nat × Instr) := [(0, .aload_n 0), (1, .getfield 12), (4, .iload_n 1), (5, .invokevirtual 77), (8, .ifCond .ne 5), (11, .iconst (-1)), (12, .ireturn), (13, .aload_n 0), (14, .getfield 12), (17, .getfield 81), (20, .iload_n 1), (21, .iaload), (22, .istore_n 3), (23, .iload_n 2), (24, .tableswitch 106 0 4 #[36, 46, 56, 58, 78]), (60, .aload_n 0), (61, .getfield 12), (64, .getfield 85), (67, .iload_n 1), (68, .iaload), (69, .ireturn), (70, .aload_n 0), (71, .getfield 12), (74, .getfield 88), (77, .iload_n 1), (78, .iaload), (79, .ireturn), (80, .iload_n 3), (81, .ireturn), (82, .aload_n 0), (83, .getfield 12), (86, .getfield 91), (89, .iload_n 1), (90, .invokestatic 94), (93, .ifCond .eq 7), (96, .iconst 1), (97, .goto 4), (100, .iconst 0), (101, .ireturn), (102, .iload_n 3), (103, .bipush (-9)), (105, .if_icmp .ne 8), (108, .bipush (-99)), (110, .goto 19), (113, .aload_n 0), (114, .getfield 12), (117, .iload_n 3), (118, .iload_n 1), (119, .aload_n 0), (120, .getfield 12), (123, .getfield 98), (126, .invokevirtual 101), (129, .ireturn), (130, .bipush (-2)), (132, .ireturn)]
def op_X7_ofCell (fu : Nat) : Nat → Kont → XL → List Value → XW → Instr → Option XO := opK 4 (rzOf (some .int)) fl_BrookStones nl_BrookStones [] [] [(77, 2, 1, (U_X0_isCell fu)), (101, 4, 1, (U_X0_topOf fu))] [(94, 2, 1, (U_X7_has fu))] []
def M_X7_ofCell (fu : Nat) (a0 : Nat) (a1 : Int32) (a2 : Int32) (w : XW) : Option XO :=
  (gR w a0 6 0).bind fun r1 =>
  cI (U_X0_isCell fu [.ref r1, .int a1] w) fun x3 w2 =>
  (if x3 = 0 then
    some (some (.int (-1 : Int32)), w2)
  else
    (gR w2 a0 6 0).bind fun r4 =>
    (gR w2 r4 0 2).bind fun r5 =>
    (aI w2 r5 a1).bind fun x6 =>
    (if a2 = (0 : Int32) then
      (gR w2 a0 6 0).bind fun r7 =>
      (gR w2 r7 0 0).bind fun r8 =>
      (aI w2 r8 a1).bind fun x9 =>
      some (some (.int x9), w2)
    else
    (if a2 = (1 : Int32) then
      (gR w2 a0 6 0).bind fun r10 =>
      (gR w2 r10 0 1).bind fun r11 =>
      (aI w2 r11 a1).bind fun x12 =>
      some (some (.int x12), w2)
    else
    (if a2 = (2 : Int32) then
      some (some (.int x6), w2)
    else
    (if a2 = (3 : Int32) then
      (gR w2 a0 6 0).bind fun r13 =>
      (gI w2 r13 0 10).bind fun x14 =>
      cI (U_X7_has fu [.int x14, .int a1] w2) fun x16 w15 =>
      (if x16 = 0 then
        some (some (.int (0 : Int32)), w15)
      else
        some (some (.int (1 : Int32)), w15))
    else
    (if a2 = (4 : Int32) then
      (if x6 = (-9 : Int32) then
        some (some (.int (-99 : Int32)), w2)
      else
        (gR w2 a0 6 0).bind fun r17 =>
        (gR w2 a0 6 0).bind fun r18 =>
        (gI w2 r18 0 11).bind fun x19 =>
        cI (U_X0_topOf fu [.ref r17, .int x6, .int a1, .int x19] w2) fun x21 w20 =>
        some (some (.int x21), w20))
    else
    some (some (.int (-2 : Int32)), w2)))))))
def U_X7_ofCell (fu : Nat) : Orc := fun as w => match as with
  | [.ref a0, .int a1, .int a2] => if isO w a0 6 = true then M_X7_ofCell fu a0 a1 a2 w else none
  | _ => none
def K_X7_ofCell (fu : Nat) (n : Nat) : Kont := fun pc ls st w => none
set_option maxRecDepth 100000 in
set_option maxHeartbeats 4000000 in
theorem E_X7_ofCell (fu : Nat) (a0 : Nat) (a1 : Int32) (a2 : Int32) (w : XW) : M_X7_ofCell fu a0 a1 a2 w = ev T_X7_ofCell (op_X7_ofCell fu) [] (K_X7_ofCell fu fu) 57 0 (lv_args 0 [.ref a0, .int a1, .int a2]) [] w := by
  rfl
theorem D_X7_ofCell (fu : Nat) : DS T_X7_ofCell (op_X7_ofCell fu) [] 57 (K_X7_ofCell fu) := by
  refine ⟨fun pc ls st w => rfl, fun n pc ls st w o h => ?_⟩
  cases h
theorem H_X7_ofCell (fu : Nat) : ∀ as w o, U_X7_ofCell fu as w = some o → ∃ a r, as = .ref a :: r ∧ r.length = 2 ∧ isO w a 6 = true := by
  intro as w o h
  unfold U_X7_ofCell at h
  split at h
  next =>
    split at h
    next hh => exact ⟨_, _, rfl, rfl, hh⟩
    next => cases h
  next => cases h
set_option maxRecDepth 100000 in
set_option maxHeartbeats 4000000 in
theorem S_X7_ofCell (fu : Nat) {l : Launch} {D : va_G} {cA : Nat → ClassId} {base b : Nat} : CS l D cA base b 2 y_X7_ofCell prog_1_method_3_code 4 (some .int) (U_X7_ofCell fu) ∧ OM (U_X7_ofCell fu) := by
  refine CS_of (d := 1) (y := y_X7_ofCell) (cc := prog_1_method_3_code) (nL := 4) (ret := (some .int)) (F := U_X7_ofCell fu) (fl := fl_BrookStones) (nl := nl_BrookStones) (kl := []) (k2 := []) (mv := [(77, 2, 1, (U_X0_isCell fu)), (101, 4, 1, (U_X0_topOf fu))]) (ms := [(94, 2, 1, (U_X7_has fu))]) (mi := []) (ini := false) hI_w fl_BrookStones_ok nl_BrookStones_ok nil_all nil_all
    (cons_all (⟨⟨show (1 : Nat) ≠ 3 by decide, y_X0_isCell, prog_2_method_4_code, 2, (some .boolean), 1, "BrookStones", 0, TX0, 15, 1, (S_X0_isCell fu (l := l) (D := D) (cA := cA) (base := base) (b := b)).1, by decide, by decide, rfl, H_X0_isCell fu, rfl, mi_X0_isCell.1, mi_X0_isCell.2.1, mi_X0_isCell.2.2.1, mi_X0_isCell.2.2.2.1, mi_X0_isCell.2.2.2.2, Or.inr (tblN_of (i := 289) rfl rfl)⟩, (S_X0_isCell fu (l := l) (D := D) (cA := cA) (base := base) (b := b)).2⟩) (cons_all (⟨⟨show (1 : Nat) ≠ 3 by decide, y_X0_topOf, prog_2_method_13_code, 4, (some .int), 1, "BrookStones", 0, TX0, 15, 3, (S_X0_topOf fu (l := l) (D := D) (cA := cA) (base := base) (b := b)).1, by decide, by decide, rfl, H_X0_topOf fu, rfl, mi_X0_topOf.1, mi_X0_topOf.2.1, mi_X0_topOf.2.2.1, mi_X0_topOf.2.2.2.1, mi_X0_topOf.2.2.2.2, Or.inr (tblN_of (i := 296) rfl rfl)⟩, (S_X0_topOf fu (l := l) (D := D) (cA := cA) (base := base) (b := b)).2⟩) (nil_all)))
    (cons_all (⟨Or.inl ⟨show (1 : Nat) ≠ 3 by decide, y_X7_has, prog_1_method_47_code, 2, (some .boolean), 1, "BrookStones", (S_X7_has fu (l := l) (D := D) (cA := cA) (base := base) (b := b)).1, by decide, by decide, mi_X7_has.1, mi_X7_has.2.1, mi_X7_has.2.2.1, mi_X7_has.2.2.2, Or.inl (tblG_of (i := 293) rfl rfl)⟩, (S_X7_has fu (l := l) (D := D) (cA := cA) (base := base) (b := b)).2⟩) (nil_all))
    (nil_all)
    (T := T_X7_ofCell) (by decide +kernel) (cut := []) (N := 57) (D_X7_ofCell fu) (by decide +kernel) (fun h => absurd h (by decide)) (fun as w o h => ?_)
  unfold U_X7_ofCell at h
  split at h
  next =>
    split at h
    next => exact ⟨Nat.le_of_ble_eq_true rfl, fu, (E_X7_ofCell fu _ _ _ w).symm.trans h⟩
    next => cases h
  next => cases h
def T_X0_ofKind : List (Nat × Instr) := [(0, .iconst 0), (1, .istore_n 2), (2, .iconst 0), (3, .istore_n 3), (4, .iload_n 3), (5, .aload_n 0), (6, .getfield 58), (9, .if_icmp .ge 41), (12, .aload_n 0), (13, .getfield 18), (16, .iload_n 3), (17, .iaload), (18, .bipush (-9)), (20, .if_icmp .eq 24), (23, .aload_n 0), (24, .getfield 21), (27, .aload_n 0), (28, .getfield 18), (31, .iload_n 3), (32, .iaload), (33, .iaload), (34, .iload_n 1), (35, .if_icmp .lt 9), (38, .iload_n 2), (39, .iconst 1), (40, .iload_n 3), (41, .ishl), (42, .ior), (43, .istore_n 2), (44, .iinc 3 1), (47, .goto (-43)), (50, .iload_n 2), (51, .ireturn)]
def op_X0_ofKind (fu : Nat) : Nat → Kont → XL → List Value → XW → Instr → Option XO := opK 4 (rzOf (some .int)) fl_BrookStones_Brook [] [] [] [] [] []
def F_X0_ofKind (fu : Nat) : Nat → (Nat → Int32 → Int32 → Int32 → XW → Option XO)
  | 0 => fun _ _ _ _ _ => none
  | n + 1 => (fun a0 a1 a2 a3 w =>
    (gI w a0 0 8).bind fun x1 =>
    (if a3 < x1 then
      (gR w a0 0 2).bind fun r2 =>
      (aI w r2 a3).bind fun x3 =>
      (if x3 = (-9 : Int32) then
        (F_X0_ofKind fu n) a0 a1 a2 (a3 + (1 : Int32)) w
      else
        (gR w a0 0 3).bind fun r4 =>
        (gR w a0 0 2).bind fun r5 =>
        (aI w r5 a3).bind fun x6 =>
        (aI w r4 x6).bind fun x7 =>
        (if x7 < a1 then
          (F_X0_ofKind fu n) a0 a1 a2 (a3 + (1 : Int32)) w
        else
          (F_X0_ofKind fu n) a0 a1 (a2 ||| ((1 : Int32) <<< (a3 &&& 31))) (a3 + (1 : Int32)) w))
    else
      some (some (.int a2), w)))
def M_X0_ofKind (fu : Nat) (a0 : Nat) (a1 : Int32) (w : XW) : Option XO :=
  (F_X0_ofKind fu fu) a0 a1 (0 : Int32) (0 : Int32) w
def U_X0_ofKind (fu : Nat) : Orc := fun as w => match as with
  | [.ref a0, .int a1] => if isO w a0 0 = true then M_X0_ofKind fu a0 a1 w else none
  | _ => none
def K_X0_ofKind (fu : Nat) (n : Nat) : Kont := fun pc ls st w => bif pc == 4 then ((xr ls 0).bind fun a0 => (xi ls 1).bind fun a1 => (xi ls 2).bind fun a2 => (xi ls 3).bind fun a3 => skN st ((F_X0_ofKind fu n) a0 a1 a2 a3 w)) else none
set_option maxRecDepth 100000 in
set_option maxHeartbeats 4000000 in
theorem E_X0_ofKind_4 (fu : Nat) (n : Nat) (a0 : Nat) (a1 : Int32) (a2 : Int32) (a3 : Int32) (w : XW) : (F_X0_ofKind fu (n + 1)) a0 a1 a2 a3 w = ev T_X0_ofKind (op_X0_ofKind fu) [4] (K_X0_ofKind fu n) 35 4 [(0, .ref a0), (1, .int a1), (2, .int a2), (3, .int a3)] [] w := by
  rfl
set_option maxRecDepth 100000 in
set_option maxHeartbeats 4000000 in
theorem E_X0_ofKind (fu : Nat) (a0 : Nat) (a1 : Int32) (w : XW) : M_X0_ofKind fu a0 a1 w = ev T_X0_ofKind (op_X0_ofKind fu) [4] (K_X0_ofKind fu fu) 35 0 (lv_args 0 [.ref a0, .int a1]) [] w := by
  rfl
theorem D_X0_ofKind (fu : Nat) : DS T_X0_ofKind (op_X0_ofKind fu) [4] 35 (K_X0_ofKind fu) := by
  refine ⟨fun pc ls st w => c_none (b_none fun _ => b_none fun _ => b_none fun _ => b_none fun _ => skN_none rfl) (rfl), fun n pc ls st w o h => ?_⟩
  rcases c_some h with ⟨rfl, h⟩ | h
  · obtain ⟨a0, h0, h⟩ := some_of h; obtain ⟨a1, h1, h⟩ := some_of h; obtain ⟨a2, h2, h⟩ := some_of h; obtain ⟨a3, h3, h⟩ := some_of h;
    obtain ⟨e, g⟩ := skN_of h
    subst e
    exact ⟨[(0, .ref a0), (1, .int a1), (2, .int a2), (3, .int a3)], cons_all (xr_of h0) (cons_all (xi_of h1) (cons_all (xi_of h2) (cons_all (xi_of h3) (nil_all)))), (E_X0_ofKind_4 fu n a0 a1 a2 a3 w).symm.trans g⟩
  · cases h
theorem H_X0_ofKind (fu : Nat) : ∀ as w o, U_X0_ofKind fu as w = some o → ∃ a r, as = .ref a :: r ∧ r.length = 1 ∧ isO w a 0 = true := by
  intro as w o h
  unfold U_X0_ofKind at h
  split at h
  next =>
    split at h
    next hh => exact ⟨_, _, rfl, rfl, hh⟩
    next => cases h
  next => cases h
set_option maxRecDepth 100000 in
set_option maxHeartbeats 4000000 in
theorem S_X0_ofKind (fu : Nat) {l : Launch} {D : va_G} {cA : Nat → ClassId} {base b : Nat} : CS l D cA base b 1 y_X0_ofKind prog_2_method_18_code 4 (some .int) (U_X0_ofKind fu) ∧ OM (U_X0_ofKind fu) := by
  refine CS_of (d := 0) (y := y_X0_ofKind) (cc := prog_2_method_18_code) (nL := 4) (ret := (some .int)) (F := U_X0_ofKind fu) (fl := fl_BrookStones_Brook) (nl := []) (kl := []) (k2 := []) (mv := []) (ms := []) (mi := []) (ini := false) hI_w fl_BrookStones_Brook_ok nil_all nil_all nil_all
    (nil_all)
    (nil_all)
    (nil_all)
    (T := T_X0_ofKind) (by decide +kernel) (cut := [4]) (N := 35) (D_X0_ofKind fu) (by decide +kernel) (fun h => absurd h (by decide)) (fun as w o h => ?_)
  unfold U_X0_ofKind at h
  split at h
  next =>
    split at h
    next => exact ⟨Nat.le_of_ble_eq_true rfl, fu, (E_X0_ofKind fu _ _ w).symm.trans h⟩
    next => cases h
  next => cases h
def T_X0_filled : List (Nat × Instr) := [(0, .aload_n 0), (1, .iconst 0), (2, .invokevirtual 69), (5, .ireturn)]
def op_X0_filled (fu : Nat) : Nat → Kont → XL → List Value → XW → Instr → Option XO := opK 1 (rzOf (some .int)) fl_BrookStones_Brook [] [] [] [(69, 2, 1, (U_X0_ofKind fu))] [] []
def M_X0_filled (fu : Nat) (a0 : Nat) (w : XW) : Option XO :=
  cI (U_X0_ofKind fu [.ref a0, .int (0 : Int32)] w) fun x2 w1 =>
  some (some (.int x2), w1)
def U_X0_filled (fu : Nat) : Orc := fun as w => match as with
  | [.ref a0] => if isO w a0 0 = true then M_X0_filled fu a0 w else none
  | _ => none
def K_X0_filled (fu : Nat) (n : Nat) : Kont := fun pc ls st w => none
set_option maxRecDepth 100000 in
set_option maxHeartbeats 4000000 in
theorem E_X0_filled (fu : Nat) (a0 : Nat) (w : XW) : M_X0_filled fu a0 w = ev T_X0_filled (op_X0_filled fu) [] (K_X0_filled fu fu) 6 0 (lv_args 0 [.ref a0]) [] w := by
  rfl
theorem D_X0_filled (fu : Nat) : DS T_X0_filled (op_X0_filled fu) [] 6 (K_X0_filled fu) := by
  refine ⟨fun pc ls st w => rfl, fun n pc ls st w o h => ?_⟩
  cases h
theorem H_X0_filled (fu : Nat) : ∀ as w o, U_X0_filled fu as w = some o → ∃ a r, as = .ref a :: r ∧ r.length = 0 ∧ isO w a 0 = true := by
  intro as w o h
  unfold U_X0_filled at h
  split at h
  next =>
    split at h
    next hh => exact ⟨_, _, rfl, rfl, hh⟩
    next => cases h
  next => cases h
set_option maxRecDepth 100000 in
set_option maxHeartbeats 4000000 in
theorem S_X0_filled (fu : Nat) {l : Launch} {D : va_G} {cA : Nat → ClassId} {base b : Nat} : CS l D cA base b 2 y_X0_filled prog_2_method_17_code 1 (some .int) (U_X0_filled fu) ∧ OM (U_X0_filled fu) := by
  refine CS_of (d := 1) (y := y_X0_filled) (cc := prog_2_method_17_code) (nL := 1) (ret := (some .int)) (F := U_X0_filled fu) (fl := fl_BrookStones_Brook) (nl := []) (kl := []) (k2 := []) (mv := [(69, 2, 1, (U_X0_ofKind fu))]) (ms := []) (mi := []) (ini := false) hI_w fl_BrookStones_Brook_ok nil_all nil_all nil_all
    (cons_all (⟨⟨show (1 : Nat) ≠ 3 by decide, y_X0_ofKind, prog_2_method_18_code, 4, (some .int), 1, "BrookStones", 0, TX0, 15, 1, (S_X0_ofKind fu (l := l) (D := D) (cA := cA) (base := base) (b := b)).1, by decide, by decide, rfl, H_X0_ofKind fu, rfl, mi_X0_ofKind.1, mi_X0_ofKind.2.1, mi_X0_ofKind.2.2.1, mi_X0_ofKind.2.2.2.1, mi_X0_ofKind.2.2.2.2, Or.inl (tblG_of (i := 358) rfl rfl)⟩, (S_X0_ofKind fu (l := l) (D := D) (cA := cA) (base := base) (b := b)).2⟩) (nil_all))
    (nil_all)
    (nil_all)
    (T := T_X0_filled) (by decide +kernel) (cut := []) (N := 6) (D_X0_filled fu) (by decide +kernel) (fun h => absurd h (by decide)) (fun as w o h => ?_)
  unfold U_X0_filled at h
  split at h
  next =>
    split at h
    next => exact ⟨Nat.le_of_ble_eq_true rfl, fu, (E_X0_filled fu _ w).symm.trans h⟩
    next => cases h
  next => cases h
def T_J6_bitCount_0f7a4 : List (Nat × Instr) := [(0, .iload_n 0), (1, .iload_n 0), (2, .iconst 1), (3, .iushr), (4, .ldc_w 265), (7, .iand), (8, .isub), (9, .istore_n 0), (10, .iload_n 0), (11, .ldc_w 266), (14, .iand), (15, .iload_n 0), (16, .iconst 2), (17, .iushr), (18, .ldc_w 266), (21, .iand), (22, .iadd), (23, .istore_n 0), (24, .iload_n 0), (25, .iload_n 0), (26, .iconst 4), (27, .iushr), (28, .iadd), (29, .ldc_w 267), (32, .iand), (33, .istore_n 0), (34, .iload_n 0), (35, .iload_n 0), (36, .bipush 8), (38, .iushr), (39, .iadd), (40, .istore_n 0), (41, .iload_n 0), (42, .iload_n 0), (43, .bipush 16), (45, .iushr), (46, .iadd), (47, .istore_n 0), (48, .iload_n 0), (49, .bipush 63), (51, .iand), (52, .ireturn)]
def op_J6_bitCount_0f7a4 (fu : Nat) : Nat → Kont → XL → List Value → XW → Instr → Option XO := opK 1 (rzOf (some .int)) [] [] kl_java_lang_Integer [] [] [] []
def M_J6_bitCount_0f7a4 (fu : Nat) (a0 : Int32) (w : XW) : Option XO :=
  some (some (.int ((((((((a0 - ((Int32.toUInt32 a0 >>> (Int32.toUInt32 (1 : Int32) &&& Int32.toUInt32 31)).toInt32 &&& (1431655765 : Int32))) &&& (858993459 : Int32)) + ((Int32.toUInt32 (a0 - ((Int32.toUInt32 a0 >>> (Int32.toUInt32 (1 : Int32) &&& Int32.toUInt32 31)).toInt32 &&& (1431655765 : Int32))) >>> (Int32.toUInt32 (2 : Int32) &&& Int32.toUInt32 31)).toInt32 &&& (858993459 : Int32))) + (Int32.toUInt32 (((a0 - ((Int32.toUInt32 a0 >>> (Int32.toUInt32 (1 : Int32) &&& Int32.toUInt32 31)).toInt32 &&& (1431655765 : Int32))) &&& (858993459 : Int32)) + ((Int32.toUInt32 (a0 - ((Int32.toUInt32 a0 >>> (Int32.toUInt32 (1 : Int32) &&& Int32.toUInt32 31)).toInt32 &&& (1431655765 : Int32))) >>> (Int32.toUInt32 (2 : Int32) &&& Int32.toUInt32 31)).toInt32 &&& (858993459 : Int32))) >>> (Int32.toUInt32 (4 : Int32) &&& Int32.toUInt32 31)).toInt32) &&& (252645135 : Int32)) + (Int32.toUInt32 (((((a0 - ((Int32.toUInt32 a0 >>> (Int32.toUInt32 (1 : Int32) &&& Int32.toUInt32 31)).toInt32 &&& (1431655765 : Int32))) &&& (858993459 : Int32)) + ((Int32.toUInt32 (a0 - ((Int32.toUInt32 a0 >>> (Int32.toUInt32 (1 : Int32) &&& Int32.toUInt32 31)).toInt32 &&& (1431655765 : Int32))) >>> (Int32.toUInt32 (2 : Int32) &&& Int32.toUInt32 31)).toInt32 &&& (858993459 : Int32))) + (Int32.toUInt32 (((a0 - ((Int32.toUInt32 a0 >>> (Int32.toUInt32 (1 : Int32) &&& Int32.toUInt32 31)).toInt32 &&& (1431655765 : Int32))) &&& (858993459 : Int32)) + ((Int32.toUInt32 (a0 - ((Int32.toUInt32 a0 >>> (Int32.toUInt32 (1 : Int32) &&& Int32.toUInt32 31)).toInt32 &&& (1431655765 : Int32))) >>> (Int32.toUInt32 (2 : Int32) &&& Int32.toUInt32 31)).toInt32 &&& (858993459 : Int32))) >>> (Int32.toUInt32 (4 : Int32) &&& Int32.toUInt32 31)).toInt32) &&& (252645135 : Int32)) >>> (Int32.toUInt32 (8 : Int32) &&& Int32.toUInt32 31)).toInt32) + (Int32.toUInt32 ((((((a0 - ((Int32.toUInt32 a0 >>> (Int32.toUInt32 (1 : Int32) &&& Int32.toUInt32 31)).toInt32 &&& (1431655765 : Int32))) &&& (858993459 : Int32)) + ((Int32.toUInt32 (a0 - ((Int32.toUInt32 a0 >>> (Int32.toUInt32 (1 : Int32) &&& Int32.toUInt32 31)).toInt32 &&& (1431655765 : Int32))) >>> (Int32.toUInt32 (2 : Int32) &&& Int32.toUInt32 31)).toInt32 &&& (858993459 : Int32))) + (Int32.toUInt32 (((a0 - ((Int32.toUInt32 a0 >>> (Int32.toUInt32 (1 : Int32) &&& Int32.toUInt32 31)).toInt32 &&& (1431655765 : Int32))) &&& (858993459 : Int32)) + ((Int32.toUInt32 (a0 - ((Int32.toUInt32 a0 >>> (Int32.toUInt32 (1 : Int32) &&& Int32.toUInt32 31)).toInt32 &&& (1431655765 : Int32))) >>> (Int32.toUInt32 (2 : Int32) &&& Int32.toUInt32 31)).toInt32 &&& (858993459 : Int32))) >>> (Int32.toUInt32 (4 : Int32) &&& Int32.toUInt32 31)).toInt32) &&& (252645135 : Int32)) + (Int32.toUInt32 (((((a0 - ((Int32.toUInt32 a0 >>> (Int32.toUInt32 (1 : Int32) &&& Int32.toUInt32 31)).toInt32 &&& (1431655765 : Int32))) &&& (858993459 : Int32)) + ((Int32.toUInt32 (a0 - ((Int32.toUInt32 a0 >>> (Int32.toUInt32 (1 : Int32) &&& Int32.toUInt32 31)).toInt32 &&& (1431655765 : Int32))) >>> (Int32.toUInt32 (2 : Int32) &&& Int32.toUInt32 31)).toInt32 &&& (858993459 : Int32))) + (Int32.toUInt32 (((a0 - ((Int32.toUInt32 a0 >>> (Int32.toUInt32 (1 : Int32) &&& Int32.toUInt32 31)).toInt32 &&& (1431655765 : Int32))) &&& (858993459 : Int32)) + ((Int32.toUInt32 (a0 - ((Int32.toUInt32 a0 >>> (Int32.toUInt32 (1 : Int32) &&& Int32.toUInt32 31)).toInt32 &&& (1431655765 : Int32))) >>> (Int32.toUInt32 (2 : Int32) &&& Int32.toUInt32 31)).toInt32 &&& (858993459 : Int32))) >>> (Int32.toUInt32 (4 : Int32) &&& Int32.toUInt32 31)).toInt32) &&& (252645135 : Int32)) >>> (Int32.toUInt32 (8 : Int32) &&& Int32.toUInt32 31)).toInt32) >>> (Int32.toUInt32 (16 : Int32) &&& Int32.toUInt32 31)).toInt32) &&& (63 : Int32))), w)
def U_J6_bitCount_0f7a4 (fu : Nat) : Orc := fun as w => match as with
  | [.int a0] => M_J6_bitCount_0f7a4 fu a0 w
  | _ => none
def K_J6_bitCount_0f7a4 (fu : Nat) (n : Nat) : Kont := fun pc ls st w => none
set_option maxRecDepth 100000 in
set_option maxHeartbeats 4000000 in
theorem E_J6_bitCount_0f7a4 (fu : Nat) (a0 : Int32) (w : XW) : M_J6_bitCount_0f7a4 fu a0 w = ev T_J6_bitCount_0f7a4 (op_J6_bitCount_0f7a4 fu) [] (K_J6_bitCount_0f7a4 fu fu) 44 0 (lv_args 0 [.int a0]) [] w := by
  rfl
theorem D_J6_bitCount_0f7a4 (fu : Nat) : DS T_J6_bitCount_0f7a4 (op_J6_bitCount_0f7a4 fu) [] 44 (K_J6_bitCount_0f7a4 fu) := by
  refine ⟨fun pc ls st w => rfl, fun n pc ls st w o h => ?_⟩
  cases h
set_option maxRecDepth 100000 in
set_option maxHeartbeats 4000000 in
theorem S_J6_bitCount_0f7a4 (fu : Nat) {l : Launch} {D : va_G} {cA : Nat → ClassId} {base b : Nat} : CS l D cA base b 1 y_J6_bitCount_0f7a4 prog_11_method_49_code 1 (some .int) (U_J6_bitCount_0f7a4 fu) ∧ OM (U_J6_bitCount_0f7a4 fu) := by
  refine CS_of (d := 0) (y := y_J6_bitCount_0f7a4) (cc := prog_11_method_49_code) (nL := 1) (ret := (some .int)) (F := U_J6_bitCount_0f7a4 fu) (fl := []) (nl := []) (kl := kl_java_lang_Integer) (k2 := []) (mv := []) (ms := []) (mi := []) (ini := false) hI_w nil_all nil_all kl_java_lang_Integer_ok nil_all
    (nil_all)
    (nil_all)
    (nil_all)
    (T := T_J6_bitCount_0f7a4) (by decide +kernel) (cut := []) (N := 44) (D_J6_bitCount_0f7a4 fu) (by decide +kernel) (fun h => absurd h (by decide)) (fun as w o h => ?_)
  unfold U_J6_bitCount_0f7a4 at h
  split at h
  next =>
    exact ⟨Nat.le_of_ble_eq_true rfl, fu, (E_J6_bitCount_0f7a4 fu _ w).symm.trans h⟩
  next => cases h
def T_X7_many : List (Nat × Instr) := [(0, .iload_n 1), (1, .tableswitch 108 0 6 #[43, 51, 59, 67, 78, 89, 100]), (44, .aload_n 0), (45, .getfield 12), (48, .getfield 74), (51, .ireturn), (52, .aload_n 0), (53, .getfield 12), (56, .getfield 113), (59, .ireturn), (60, .aload_n 0), (61, .getfield 12), (64, .getfield 152), (67, .ireturn), (68, .aload_n 0), (69, .getfield 12), (72, .invokevirtual 164), (75, .invokestatic 219), (78, .ireturn), (79, .aload_n 0), (80, .getfield 12), (83, .getfield 138), (86, .invokestatic 219), (89, .ireturn), (90, .aload_n 0), (91, .getfield 12), (94, .getfield 91), (97, .invokestatic 219), (100, .ireturn), (101, .aload_n 0), (102, .getfield 12), (105, .getfield 98), (108, .ireturn), (109, .bipush (-2)), (111, .ireturn)]
def op_X7_many (fu : Nat) : Nat → Kont → XL → List Value → XW → Instr → Option XO := opK 2 (rzOf (some .int)) fl_BrookStones nl_BrookStones [] [] [(164, 1, 1, (U_X0_filled fu))] [(219, 1, 1, (U_J6_bitCount_0f7a4 fu))] []
def M_X7_many (fu : Nat) (a0 : Nat) (a1 : Int32) (w : XW) : Option XO :=
  (if a1 = (0 : Int32) then
    (gR w a0 6 0).bind fun r1 =>
    (gI w r1 0 8).bind fun x2 =>
    some (some (.int x2), w)
  else
  (if a1 = (1 : Int32) then
    (gR w a0 6 0).bind fun r3 =>
    (gI w r3 0 12).bind fun x4 =>
    some (some (.int x4), w)
  else
  (if a1 = (2 : Int32) then
    (gR w a0 6 0).bind fun r5 =>
    (gI w r5 0 14).bind fun x6 =>
    some (some (.int x6), w)
  else
  (if a1 = (3 : Int32) then
    (gR w a0 6 0).bind fun r7 =>
    cI (U_X0_filled fu [.ref r7] w) fun x9 w8 =>
    cI (U_J6_bitCount_0f7a4 fu [.int x9] w8) fun x11 w10 =>
    some (some (.int x11), w10)
  else
  (if a1 = (4 : Int32) then
    (gR w a0 6 0).bind fun r12 =>
    (gI w r12 0 13).bind fun x13 =>
    cI (U_J6_bitCount_0f7a4 fu [.int x13] w) fun x15 w14 =>
    some (some (.int x15), w14)
  else
  (if a1 = (5 : Int32) then
    (gR w a0 6 0).bind fun r16 =>
    (gI w r16 0 10).bind fun x17 =>
    cI (U_J6_bitCount_0f7a4 fu [.int x17] w) fun x19 w18 =>
    some (some (.int x19), w18)
  else
  (if a1 = (6 : Int32) then
    (gR w a0 6 0).bind fun r20 =>
    (gI w r20 0 11).bind fun x21 =>
    some (some (.int x21), w)
  else
  some (some (.int (-2 : Int32)), w))))))))
def U_X7_many (fu : Nat) : Orc := fun as w => match as with
  | [.ref a0, .int a1] => if isO w a0 6 = true then M_X7_many fu a0 a1 w else none
  | _ => none
def K_X7_many (fu : Nat) (n : Nat) : Kont := fun pc ls st w => none
set_option maxRecDepth 100000 in
set_option maxHeartbeats 4000000 in
theorem E_X7_many (fu : Nat) (a0 : Nat) (a1 : Int32) (w : XW) : M_X7_many fu a0 a1 w = ev T_X7_many (op_X7_many fu) [] (K_X7_many fu fu) 37 0 (lv_args 0 [.ref a0, .int a1]) [] w := by
  rfl
theorem D_X7_many (fu : Nat) : DS T_X7_many (op_X7_many fu) [] 37 (K_X7_many fu) := by
  refine ⟨fun pc ls st w => rfl, fun n pc ls st w o h => ?_⟩
  cases h
theorem H_X7_many (fu : Nat) : ∀ as w o, U_X7_many fu as w = some o → ∃ a r, as = .ref a :: r ∧ r.length = 1 ∧ isO w a 6 = true := by
  intro as w o h
  unfold U_X7_many at h
  split at h
  next =>
    split at h
    next hh => exact ⟨_, _, rfl, rfl, hh⟩
    next => cases h
  next => cases h
set_option maxRecDepth 100000 in
set_option maxHeartbeats 4000000 in
theorem S_X7_many (fu : Nat) {l : Launch} {D : va_G} {cA : Nat → ClassId} {base b : Nat} : CS l D cA base b 3 y_X7_many prog_1_method_38_code 2 (some .int) (U_X7_many fu) ∧ OM (U_X7_many fu) := by
  refine CS_of (d := 2) (y := y_X7_many) (cc := prog_1_method_38_code) (nL := 2) (ret := (some .int)) (F := U_X7_many fu) (fl := fl_BrookStones) (nl := nl_BrookStones) (kl := []) (k2 := []) (mv := [(164, 1, 1, (U_X0_filled fu))]) (ms := [(219, 1, 1, (U_J6_bitCount_0f7a4 fu))]) (mi := []) (ini := false) hI_w fl_BrookStones_ok nl_BrookStones_ok nil_all nil_all
    (cons_all (⟨⟨show (1 : Nat) ≠ 3 by decide, y_X0_filled, prog_2_method_17_code, 1, (some .int), 2, "BrookStones", 0, TX0, 15, 0, (S_X0_filled fu (l := l) (D := D) (cA := cA) (base := base) (b := b)).1, by decide, by decide, rfl, H_X0_filled fu, rfl, mi_X0_filled.1, mi_X0_filled.2.1, mi_X0_filled.2.2.1, mi_X0_filled.2.2.2.1, mi_X0_filled.2.2.2.2, Or.inr (tblN_of (i := 354) rfl rfl)⟩, (S_X0_filled fu (l := l) (D := D) (cA := cA) (base := base) (b := b)).2⟩) (nil_all))
    (cons_all (⟨Or.inl ⟨show (1 : Nat) ≠ 3 by decide, y_J6_bitCount_0f7a4, prog_11_method_49_code, 1, (some .int), 1, "BrookStones", (S_J6_bitCount_0f7a4 fu (l := l) (D := D) (cA := cA) (base := base) (b := b)).1, by decide, by decide, mi_J6_bitCount_0f7a4.1, mi_J6_bitCount_0f7a4.2.1, mi_J6_bitCount_0f7a4.2.2.1, mi_J6_bitCount_0f7a4.2.2.2, Or.inl (tblG_of (i := 453) rfl rfl)⟩, (S_J6_bitCount_0f7a4 fu (l := l) (D := D) (cA := cA) (base := base) (b := b)).2⟩) (nil_all))
    (nil_all)
    (T := T_X7_many) (by decide +kernel) (cut := []) (N := 37) (D_X7_many fu) (by decide +kernel) (fun h => absurd h (by decide)) (fun as w o h => ?_)
  unfold U_X7_many at h
  split at h
  next =>
    split at h
    next => exact ⟨Nat.le_of_ble_eq_true rfl, fu, (E_X7_many fu _ _ w).symm.trans h⟩
    next => cases h
  next => cases h
def T_X0_reachOf : List (Nat × Instr) := [(0, .iload_n 2), (1, .ifCond .eq 14), (4, .aload_n 0), (5, .getfield 33), (8, .iload_n 1), (9, .iaload), (10, .iconst 1), (11, .isub), (12, .goto 9), (15, .aload_n 0), (16, .getfield 33), (19, .iload_n 1), (20, .iaload), (21, .ireturn)]
def op_X0_reachOf (fu : Nat) : Nat → Kont → XL → List Value → XW → Instr → Option XO := opK 3 (rzOf (some .int)) fl_BrookStones_Brook [] [] [] [] [] []
def M_X0_reachOf (fu : Nat) (a0 : Nat) (a1 : Int32) (a2 : Int32) (w : XW) : Option XO :=
  (if a2 = 0 then
    (gR w a0 0 7).bind fun r1 =>
    (aI w r1 a1).bind fun x2 =>
    some (some (.int x2), w)
  else
    (gR w a0 0 7).bind fun r3 =>
    (aI w r3 a1).bind fun x4 =>
    some (some (.int (x4 - (1 : Int32))), w))
def U_X0_reachOf (fu : Nat) : Orc := fun as w => match as with
  | [.ref a0, .int a1, .int a2] => if isO w a0 0 = true then M_X0_reachOf fu a0 a1 a2 w else none
  | _ => none
def K_X0_reachOf (fu : Nat) (n : Nat) : Kont := fun pc ls st w => none
set_option maxRecDepth 100000 in
set_option maxHeartbeats 4000000 in
theorem E_X0_reachOf (fu : Nat) (a0 : Nat) (a1 : Int32) (a2 : Int32) (w : XW) : M_X0_reachOf fu a0 a1 a2 w = ev T_X0_reachOf (op_X0_reachOf fu) [] (K_X0_reachOf fu fu) 16 0 (lv_args 0 [.ref a0, .int a1, .int a2]) [] w := by
  rfl
theorem D_X0_reachOf (fu : Nat) : DS T_X0_reachOf (op_X0_reachOf fu) [] 16 (K_X0_reachOf fu) := by
  refine ⟨fun pc ls st w => rfl, fun n pc ls st w o h => ?_⟩
  cases h
theorem H_X0_reachOf (fu : Nat) : ∀ as w o, U_X0_reachOf fu as w = some o → ∃ a r, as = .ref a :: r ∧ r.length = 2 ∧ isO w a 0 = true := by
  intro as w o h
  unfold U_X0_reachOf at h
  split at h
  next =>
    split at h
    next hh => exact ⟨_, _, rfl, rfl, hh⟩
    next => cases h
  next => cases h
set_option maxRecDepth 100000 in
set_option maxHeartbeats 4000000 in
theorem S_X0_reachOf (fu : Nat) {l : Launch} {D : va_G} {cA : Nat → ClassId} {base b : Nat} : CS l D cA base b 1 y_X0_reachOf prog_2_method_9_code 3 (some .int) (U_X0_reachOf fu) ∧ OM (U_X0_reachOf fu) := by
  refine CS_of (d := 0) (y := y_X0_reachOf) (cc := prog_2_method_9_code) (nL := 3) (ret := (some .int)) (F := U_X0_reachOf fu) (fl := fl_BrookStones_Brook) (nl := []) (kl := []) (k2 := []) (mv := []) (ms := []) (mi := []) (ini := false) hI_w fl_BrookStones_Brook_ok nil_all nil_all nil_all
    (nil_all)
    (nil_all)
    (nil_all)
    (T := T_X0_reachOf) (by decide +kernel) (cut := []) (N := 16) (D_X0_reachOf fu) (by decide +kernel) (fun h => absurd h (by decide)) (fun as w o h => ?_)
  unfold U_X0_reachOf at h
  split at h
  next =>
    split at h
    next => exact ⟨Nat.le_of_ble_eq_true rfl, fu, (E_X0_reachOf fu _ _ _ w).symm.trans h⟩
    next => cases h
  next => cases h
def T_X0_dry : List (Nat × Instr) := [(0, .iconst 0), (1, .istore_n 2), (2, .iconst 0), (3, .istore_n 3), (4, .iload_n 3), (5, .aload_n 0), (6, .getfield 58), (9, .if_icmp .ge 42), (12, .aload_n 0), (13, .getfield 18), (16, .iload_n 3), (17, .iaload), (18, .bipush (-9)), (20, .if_icmp .eq 25), (23, .aload_n 0), (24, .aload_n 0), (25, .getfield 18), (28, .iload_n 3), (29, .iaload), (30, .iload_n 3), (31, .iload_n 1), (32, .invokevirtual 72), (35, .iconst 1), (36, .if_icmp .lt 9), (39, .iload_n 2), (40, .iconst 1), (41, .iload_n 3), (42, .ishl), (43, .ior), (44, .istore_n 2), (45, .iinc 3 1), (48, .goto (-44)), (51, .iload_n 2), (52, .ireturn)]
def op_X0_dry (fu : Nat) : Nat → Kont → XL → List Value → XW → Instr → Option XO := opK 4 (rzOf (some .int)) fl_BrookStones_Brook [] [] [] [(72, 4, 1, (U_X0_topOf fu))] [] []
def F_X0_dry (fu : Nat) : Nat → (Nat → Int32 → Int32 → Int32 → XW → Option XO)
  | 0 => fun _ _ _ _ _ => none
  | n + 1 => (fun a0 a1 a2 a3 w =>
    (gI w a0 0 8).bind fun x1 =>
    (if a3 < x1 then
      (gR w a0 0 2).bind fun r2 =>
      (aI w r2 a3).bind fun x3 =>
      (if x3 = (-9 : Int32) then
        (F_X0_dry fu n) a0 a1 a2 (a3 + (1 : Int32)) w
      else
        (gR w a0 0 2).bind fun r4 =>
        (aI w r4 a3).bind fun x5 =>
        cI (U_X0_topOf fu [.ref a0, .int x5, .int a3, .int a1] w) fun x7 w6 =>
        (if x7 < (1 : Int32) then
          (F_X0_dry fu n) a0 a1 a2 (a3 + (1 : Int32)) w6
        else
          (F_X0_dry fu n) a0 a1 (a2 ||| ((1 : Int32) <<< (a3 &&& 31))) (a3 + (1 : Int32)) w6))
    else
      some (some (.int a2), w)))
def M_X0_dry (fu : Nat) (a0 : Nat) (a1 : Int32) (w : XW) : Option XO :=
  (F_X0_dry fu fu) a0 a1 (0 : Int32) (0 : Int32) w
def U_X0_dry (fu : Nat) : Orc := fun as w => match as with
  | [.ref a0, .int a1] => if isO w a0 0 = true then M_X0_dry fu a0 a1 w else none
  | _ => none
def K_X0_dry (fu : Nat) (n : Nat) : Kont := fun pc ls st w => bif pc == 4 then ((xr ls 0).bind fun a0 => (xi ls 1).bind fun a1 => (xi ls 2).bind fun a2 => (xi ls 3).bind fun a3 => skN st ((F_X0_dry fu n) a0 a1 a2 a3 w)) else none
set_option maxRecDepth 100000 in
set_option maxHeartbeats 4000000 in
theorem E_X0_dry_4 (fu : Nat) (n : Nat) (a0 : Nat) (a1 : Int32) (a2 : Int32) (a3 : Int32) (w : XW) : (F_X0_dry fu (n + 1)) a0 a1 a2 a3 w = ev T_X0_dry (op_X0_dry fu) [4] (K_X0_dry fu n) 36 4 [(0, .ref a0), (1, .int a1), (2, .int a2), (3, .int a3)] [] w := by
  rfl
set_option maxRecDepth 100000 in
set_option maxHeartbeats 4000000 in
theorem E_X0_dry (fu : Nat) (a0 : Nat) (a1 : Int32) (w : XW) : M_X0_dry fu a0 a1 w = ev T_X0_dry (op_X0_dry fu) [4] (K_X0_dry fu fu) 36 0 (lv_args 0 [.ref a0, .int a1]) [] w := by
  rfl
theorem D_X0_dry (fu : Nat) : DS T_X0_dry (op_X0_dry fu) [4] 36 (K_X0_dry fu) := by
  refine ⟨fun pc ls st w => c_none (b_none fun _ => b_none fun _ => b_none fun _ => b_none fun _ => skN_none rfl) (rfl), fun n pc ls st w o h => ?_⟩
  rcases c_some h with ⟨rfl, h⟩ | h
  · obtain ⟨a0, h0, h⟩ := some_of h; obtain ⟨a1, h1, h⟩ := some_of h; obtain ⟨a2, h2, h⟩ := some_of h; obtain ⟨a3, h3, h⟩ := some_of h;
    obtain ⟨e, g⟩ := skN_of h
    subst e
    exact ⟨[(0, .ref a0), (1, .int a1), (2, .int a2), (3, .int a3)], cons_all (xr_of h0) (cons_all (xi_of h1) (cons_all (xi_of h2) (cons_all (xi_of h3) (nil_all)))), (E_X0_dry_4 fu n a0 a1 a2 a3 w).symm.trans g⟩
  · cases h
theorem H_X0_dry (fu : Nat) : ∀ as w o, U_X0_dry fu as w = some o → ∃ a r, as = .ref a :: r ∧ r.length = 1 ∧ isO w a 0 = true := by
  intro as w o h
  unfold U_X0_dry at h
  split at h
  next =>
    split at h
    next hh => exact ⟨_, _, rfl, rfl, hh⟩
    next => cases h
  next => cases h
set_option maxRecDepth 100000 in
set_option maxHeartbeats 4000000 in
theorem S_X0_dry (fu : Nat) {l : Launch} {D : va_G} {cA : Nat → ClassId} {base b : Nat} : CS l D cA base b 2 y_X0_dry prog_2_method_19_code 4 (some .int) (U_X0_dry fu) ∧ OM (U_X0_dry fu) := by
  refine CS_of (d := 1) (y := y_X0_dry) (cc := prog_2_method_19_code) (nL := 4) (ret := (some .int)) (F := U_X0_dry fu) (fl := fl_BrookStones_Brook) (nl := []) (kl := []) (k2 := []) (mv := [(72, 4, 1, (U_X0_topOf fu))]) (ms := []) (mi := []) (ini := false) hI_w fl_BrookStones_Brook_ok nil_all nil_all nil_all
    (cons_all (⟨⟨show (1 : Nat) ≠ 3 by decide, y_X0_topOf, prog_2_method_13_code, 4, (some .int), 1, "BrookStones", 0, TX0, 15, 3, (S_X0_topOf fu (l := l) (D := D) (cA := cA) (base := base) (b := b)).1, by decide, by decide, rfl, H_X0_topOf fu, rfl, mi_X0_topOf.1, mi_X0_topOf.2.1, mi_X0_topOf.2.2.1, mi_X0_topOf.2.2.2.1, mi_X0_topOf.2.2.2.2, Or.inl (tblG_of (i := 374) rfl rfl)⟩, (S_X0_topOf fu (l := l) (D := D) (cA := cA) (base := base) (b := b)).2⟩) (nil_all))
    (nil_all)
    (nil_all)
    (T := T_X0_dry) (by decide +kernel) (cut := [4]) (N := 36) (D_X0_dry fu) (by decide +kernel) (fun h => absurd h (by decide)) (fun as w o h => ?_)
  unfold U_X0_dry at h
  split at h
  next =>
    split at h
    next => exact ⟨Nat.le_of_ble_eq_true rfl, fu, (E_X0_dry fu _ _ w).symm.trans h⟩
    next => cases h
  next => cases h
def T_X7_farthest : List (Nat × Instr) := [(0, .iload_n 3), (1, .iconst 1), (2, .isub), (3, .istore 4), (5, .iconst 0), (6, .istore 5), (8, .iload 5), (10, .iload_n 2), (11, .if_icmp .ge 56), (14, .iload_n 0), (15, .iload 5), (17, .invokestatic 94), (20, .ifCond .eq 41), (23, .iload_n 1), (24, .iload 5), (26, .invokestatic 94), (29, .ifCond .eq 7), (32, .iconst 1), (33, .goto 4), (36, .iconst 0), (37, .istore 6), (39, .iload 5), (41, .iload 6), (43, .isub), (44, .iload 4), (46, .if_icmp .le 6), (49, .iload 4), (51, .ireturn), (52, .iload 5), (54, .iload 6), (56, .iadd), (57, .iload_n 3), (58, .iadd), (59, .istore 4), (61, .iinc 5 1), (64, .goto (-56)), (67, .iload 4), (69, .ireturn)]
def op_X7_farthest (fu : Nat) : Nat → Kont → XL → List Value → XW → Instr → Option XO := opK 7 (rzOf (some .int)) fl_BrookStones nl_BrookStones [] [] [] [(94, 2, 1, (U_X7_has fu))] []
def F_X7_farthest (fu : Nat) : Nat → (Int32 → Int32 → Int32 → Int32 → Int32 → Int32 → XW → Option XO) × (Int32 → Int32 → Int32 → Int32 → Int32 → Int32 → Int32 → XW → Option XO)
  | 0 => (fun _ _ _ _ _ _ _ => none, fun _ _ _ _ _ _ _ _ => none)
  | n + 1 => ((fun a0 a1 a2 a3 a4 a5 w =>
    (if a5 < a2 then
      cI (U_X7_has fu [.int a0, .int a5] w) fun x2 w1 =>
      (if x2 = 0 then
        (F_X7_farthest fu n).1 a0 a1 a2 a3 a4 (a5 + (1 : Int32)) w1
      else
        cI (U_X7_has fu [.int a1, .int a5] w1) fun x4 w3 =>
        (if x4 = 0 then
          (F_X7_farthest fu n).2 a0 a1 a2 a3 a4 a5 (0 : Int32) w3
        else
          (F_X7_farthest fu n).2 a0 a1 a2 a3 a4 a5 (1 : Int32) w3))
    else
      some (some (.int a4), w))),
   (fun a0 a1 a2 a3 a4 a5 s0 w =>
    (if a4 < (a5 - s0) then
      some (some (.int a4), w)
    else
      (F_X7_farthest fu n).1 a0 a1 a2 a3 ((a5 + s0) + a3) (a5 + (1 : Int32)) w)))
def M_X7_farthest (fu : Nat) (a0 : Int32) (a1 : Int32) (a2 : Int32) (a3 : Int32) (w : XW) : Option XO :=
  (F_X7_farthest fu fu).1 a0 a1 a2 a3 (a3 - (1 : Int32)) (0 : Int32) w
def U_X7_farthest (fu : Nat) : Orc := fun as w => match as with
  | [.int a0, .int a1, .int a2, .int a3] => M_X7_farthest fu a0 a1 a2 a3 w
  | _ => none
def K_X7_farthest (fu : Nat) (n : Nat) : Kont := fun pc ls st w => bif pc == 8 then ((xi ls 0).bind fun a0 => (xi ls 1).bind fun a1 => (xi ls 2).bind fun a2 => (xi ls 3).bind fun a3 => (xi ls 4).bind fun a4 => (xi ls 5).bind fun a5 => skN st ((F_X7_farthest fu n).1 a0 a1 a2 a3 a4 a5 w)) else bif pc == 37 then ((xi ls 0).bind fun a0 => (xi ls 1).bind fun a1 => (xi ls 2).bind fun a2 => (xi ls 3).bind fun a3 => (xi ls 4).bind fun a4 => (xi ls 5).bind fun a5 => skI st fun s0 st => skN st ((F_X7_farthest fu n).2 a0 a1 a2 a3 a4 a5 s0 w)) else none
set_option maxRecDepth 100000 in
set_option maxHeartbeats 4000000 in
theorem E_X7_farthest_8 (fu : Nat) (n : Nat) (a0 : Int32) (a1 : Int32) (a2 : Int32) (a3 : Int32) (a4 : Int32) (a5 : Int32) (w : XW) : (F_X7_farthest fu (n + 1)).1 a0 a1 a2 a3 a4 a5 w = ev T_X7_farthest (op_X7_farthest fu) [8, 37] (K_X7_farthest fu n) 40 8 [(0, .int a0), (1, .int a1), (2, .int a2), (3, .int a3), (4, .int a4), (5, .int a5)] [] w := by
  rfl
set_option maxRecDepth 100000 in
set_option maxHeartbeats 4000000 in
theorem E_X7_farthest_37 (fu : Nat) (n : Nat) (a0 : Int32) (a1 : Int32) (a2 : Int32) (a3 : Int32) (a4 : Int32) (a5 : Int32) (s0 : Int32) (w : XW) : (F_X7_farthest fu (n + 1)).2 a0 a1 a2 a3 a4 a5 s0 w = ev T_X7_farthest (op_X7_farthest fu) [8, 37] (K_X7_farthest fu n) 40 37 [(0, .int a0), (1, .int a1), (2, .int a2), (3, .int a3), (4, .int a4), (5, .int a5)] [.int s0] w := by
  rfl
set_option maxRecDepth 100000 in
set_option maxHeartbeats 4000000 in
theorem E_X7_farthest (fu : Nat) (a0 : Int32) (a1 : Int32) (a2 : Int32) (a3 : Int32) (w : XW) : M_X7_farthest fu a0 a1 a2 a3 w = ev T_X7_farthest (op_X7_farthest fu) [8, 37] (K_X7_farthest fu fu) 40 0 (lv_args 0 [.int a0, .int a1, .int a2, .int a3]) [] w := by
  rfl
theorem D_X7_farthest (fu : Nat) : DS T_X7_farthest (op_X7_farthest fu) [8, 37] 40 (K_X7_farthest fu) := by
  refine ⟨fun pc ls st w => c_none (b_none fun _ => b_none fun _ => b_none fun _ => b_none fun _ => b_none fun _ => b_none fun _ => skN_none rfl) (c_none (b_none fun _ => b_none fun _ => b_none fun _ => b_none fun _ => b_none fun _ => b_none fun _ => skI_none fun _ _ => skN_none rfl) (rfl)), fun n pc ls st w o h => ?_⟩
  rcases c_some h with ⟨rfl, h⟩ | h
  · obtain ⟨a0, h0, h⟩ := some_of h; obtain ⟨a1, h1, h⟩ := some_of h; obtain ⟨a2, h2, h⟩ := some_of h; obtain ⟨a3, h3, h⟩ := some_of h; obtain ⟨a4, h4, h⟩ := some_of h; obtain ⟨a5, h5, h⟩ := some_of h;
    obtain ⟨e, g⟩ := skN_of h
    subst e
    exact ⟨[(0, .int a0), (1, .int a1), (2, .int a2), (3, .int a3), (4, .int a4), (5, .int a5)], cons_all (xi_of h0) (cons_all (xi_of h1) (cons_all (xi_of h2) (cons_all (xi_of h3) (cons_all (xi_of h4) (cons_all (xi_of h5) (nil_all)))))), (E_X7_farthest_8 fu n a0 a1 a2 a3 a4 a5 w).symm.trans g⟩
  rcases c_some h with ⟨rfl, h⟩ | h
  · obtain ⟨a0, h0, h⟩ := some_of h; obtain ⟨a1, h1, h⟩ := some_of h; obtain ⟨a2, h2, h⟩ := some_of h; obtain ⟨a3, h3, h⟩ := some_of h; obtain ⟨a4, h4, h⟩ := some_of h; obtain ⟨a5, h5, h⟩ := some_of h;
    obtain ⟨s0, st0, e0, g0⟩ := skI_of h
    obtain ⟨e, g⟩ := skN_of g0
    subst e
    subst e0
    exact ⟨[(0, .int a0), (1, .int a1), (2, .int a2), (3, .int a3), (4, .int a4), (5, .int a5)], cons_all (xi_of h0) (cons_all (xi_of h1) (cons_all (xi_of h2) (cons_all (xi_of h3) (cons_all (xi_of h4) (cons_all (xi_of h5) (nil_all)))))), (E_X7_farthest_37 fu n a0 a1 a2 a3 a4 a5 s0 w).symm.trans g⟩
  · cases h
set_option maxRecDepth 100000 in
set_option maxHeartbeats 4000000 in
theorem S_X7_farthest (fu : Nat) {l : Launch} {D : va_G} {cA : Nat → ClassId} {base b : Nat} : CS l D cA base b 2 y_X7_farthest prog_1_method_49_code 7 (some .int) (U_X7_farthest fu) ∧ OM (U_X7_farthest fu) := by
  refine CS_of (d := 1) (y := y_X7_farthest) (cc := prog_1_method_49_code) (nL := 7) (ret := (some .int)) (F := U_X7_farthest fu) (fl := fl_BrookStones) (nl := nl_BrookStones) (kl := []) (k2 := []) (mv := []) (ms := [(94, 2, 1, (U_X7_has fu))]) (mi := []) (ini := false) hI_w fl_BrookStones_ok nl_BrookStones_ok nil_all nil_all
    (nil_all)
    (cons_all (⟨Or.inl ⟨show (1 : Nat) ≠ 3 by decide, y_X7_has, prog_1_method_47_code, 2, (some .boolean), 1, "BrookStones", (S_X7_has fu (l := l) (D := D) (cA := cA) (base := base) (b := b)).1, by decide, by decide, mi_X7_has.1, mi_X7_has.2.1, mi_X7_has.2.2.1, mi_X7_has.2.2.2, Or.inl (tblG_of (i := 293) rfl rfl)⟩, (S_X7_has fu (l := l) (D := D) (cA := cA) (base := base) (b := b)).2⟩) (nil_all))
    (nil_all)
    (T := T_X7_farthest) (by decide +kernel) (cut := [8, 37]) (N := 40) (D_X7_farthest fu) (by decide +kernel) (fun h => absurd h (by decide)) (fun as w o h => ?_)
  unfold U_X7_farthest at h
  split at h
  next =>
    exact ⟨Nat.le_of_ble_eq_true rfl, fu, (E_X7_farthest fu _ _ _ _ w).symm.trans h⟩
  next => cases h
def T_X0_isCrossed : List (Nat × Instr) := [(0, .aload_n 0), (1, .iload_n 2), (2, .invokevirtual 76), (5, .iload_n 1), (6, .iand), (7, .aload_n 0), (8, .iconst 2), (9, .invokevirtual 69), (12, .aload_n 0), (13, .getfield 58), (16, .iload_n 3), (17, .invokestatic 79), (20, .aload_n 0), (21, .getfield 58), (24, .if_icmp .lt 7), (27, .iconst 1), (28, .goto 4), (31, .iconst 0), (32, .ireturn)]
def op_X0_isCrossed (fu : Nat) : Nat → Kont → XL → List Value → XW → Instr → Option XO := opK 4 (rzOf (some .boolean)) fl_BrookStones_Brook [] [] [] [(76, 2, 1, (U_X0_dry fu)), (69, 2, 1, (U_X0_ofKind fu))] [(79, 4, 1, (U_X7_farthest fu))] []
def M_X0_isCrossed (fu : Nat) (a0 : Nat) (a1 : Int32) (a2 : Int32) (a3 : Int32) (w : XW) : Option XO :=
  cI (U_X0_dry fu [.ref a0, .int a2] w) fun x2 w1 =>
  cI (U_X0_ofKind fu [.ref a0, .int (2 : Int32)] w1) fun x4 w3 =>
  (gI w3 a0 0 8).bind fun x5 =>
  cI (U_X7_farthest fu [.int (x2 &&& a1), .int x4, .int x5, .int a3] w3) fun x7 w6 =>
  (gI w6 a0 0 8).bind fun x8 =>
  (if x7 < x8 then
    retZ (0 : Int32) w6
  else
    retZ (1 : Int32) w6)
def U_X0_isCrossed (fu : Nat) : Orc := fun as w => match as with
  | [.ref a0, .int a1, .int a2, .int a3] => if isO w a0 0 = true then M_X0_isCrossed fu a0 a1 a2 a3 w else none
  | _ => none
def K_X0_isCrossed (fu : Nat) (n : Nat) : Kont := fun pc ls st w => none
set_option maxRecDepth 100000 in
set_option maxHeartbeats 4000000 in
theorem E_X0_isCrossed (fu : Nat) (a0 : Nat) (a1 : Int32) (a2 : Int32) (a3 : Int32) (w : XW) : M_X0_isCrossed fu a0 a1 a2 a3 w = ev T_X0_isCrossed (op_X0_isCrossed fu) [] (K_X0_isCrossed fu fu) 21 0 (lv_args 0 [.ref a0, .int a1, .int a2, .int a3]) [] w := by
  rfl
theorem D_X0_isCrossed (fu : Nat) : DS T_X0_isCrossed (op_X0_isCrossed fu) [] 21 (K_X0_isCrossed fu) := by
  refine ⟨fun pc ls st w => rfl, fun n pc ls st w o h => ?_⟩
  cases h
theorem H_X0_isCrossed (fu : Nat) : ∀ as w o, U_X0_isCrossed fu as w = some o → ∃ a r, as = .ref a :: r ∧ r.length = 3 ∧ isO w a 0 = true := by
  intro as w o h
  unfold U_X0_isCrossed at h
  split at h
  next =>
    split at h
    next hh => exact ⟨_, _, rfl, rfl, hh⟩
    next => cases h
  next => cases h
set_option maxRecDepth 100000 in
set_option maxHeartbeats 4000000 in
theorem S_X0_isCrossed (fu : Nat) {l : Launch} {D : va_G} {cA : Nat → ClassId} {base b : Nat} : CS l D cA base b 3 y_X0_isCrossed prog_2_method_20_code 4 (some .boolean) (U_X0_isCrossed fu) ∧ OM (U_X0_isCrossed fu) := by
  refine CS_of (d := 2) (y := y_X0_isCrossed) (cc := prog_2_method_20_code) (nL := 4) (ret := (some .boolean)) (F := U_X0_isCrossed fu) (fl := fl_BrookStones_Brook) (nl := []) (kl := []) (k2 := []) (mv := [(76, 2, 1, (U_X0_dry fu)), (69, 2, 1, (U_X0_ofKind fu))]) (ms := [(79, 4, 1, (U_X7_farthest fu))]) (mi := []) (ini := false) hI_w fl_BrookStones_Brook_ok nil_all nil_all nil_all
    (cons_all (⟨⟨show (1 : Nat) ≠ 3 by decide, y_X0_dry, prog_2_method_19_code, 4, (some .int), 2, "BrookStones", 0, TX0, 15, 1, (S_X0_dry fu (l := l) (D := D) (cA := cA) (base := base) (b := b)).1, by decide, by decide, rfl, H_X0_dry fu, rfl, mi_X0_dry.1, mi_X0_dry.2.1, mi_X0_dry.2.2.1, mi_X0_dry.2.2.2.1, mi_X0_dry.2.2.2.2, Or.inl (tblG_of (i := 370) rfl rfl)⟩, (S_X0_dry fu (l := l) (D := D) (cA := cA) (base := base) (b := b)).2⟩) (cons_all (⟨⟨show (1 : Nat) ≠ 3 by decide, y_X0_ofKind, prog_2_method_18_code, 4, (some .int), 1, "BrookStones", 0, TX0, 15, 1, (S_X0_ofKind fu (l := l) (D := D) (cA := cA) (base := base) (b := b)).1, by decide, by decide, rfl, H_X0_ofKind fu, rfl, mi_X0_ofKind.1, mi_X0_ofKind.2.1, mi_X0_ofKind.2.2.1, mi_X0_ofKind.2.2.2.1, mi_X0_ofKind.2.2.2.2, Or.inl (tblG_of (i := 358) rfl rfl)⟩, (S_X0_ofKind fu (l := l) (D := D) (cA := cA) (base := base) (b := b)).2⟩) (nil_all)))
    (cons_all (⟨Or.inl ⟨show (1 : Nat) ≠ 3 by decide, y_X7_farthest, prog_1_method_49_code, 7, (some .int), 2, "BrookStones", (S_X7_farthest fu (l := l) (D := D) (cA := cA) (base := base) (b := b)).1, by decide, by decide, mi_X7_farthest.1, mi_X7_farthest.2.1, mi_X7_farthest.2.2.1, mi_X7_farthest.2.2.2, Or.inr (tblN_of (i := 375) rfl rfl)⟩, (S_X7_farthest fu (l := l) (D := D) (cA := cA) (base := base) (b := b)).2⟩) (nil_all))
    (nil_all)
    (T := T_X0_isCrossed) (by decide +kernel) (cut := []) (N := 21) (D_X0_isCrossed fu) (by decide +kernel) (fun h => absurd h (by decide)) (fun as w o h => ?_)
  unfold U_X0_isCrossed at h
  split at h
  next =>
    split at h
    next => exact ⟨Nat.le_of_ble_eq_true rfl, fu, (E_X0_isCrossed fu _ _ _ _ w).symm.trans h⟩
    next => cases h
  next => cases h
def T_X7_can : List (Nat × Instr) := [(0, .aload_n 0), (1, .getfield 12), (4, .iload_n 1), (5, .invokevirtual 158), (8, .ifCond .ne 5), (11, .iconst (-1)), (12, .ireturn), (13, .aload_n 0), (14, .getfield 12), (17, .aload_n 0), (18, .getfield 12), (21, .invokevirtual 164), (24, .aload_n 0), (25, .getfield 12), (28, .getfield 98), (31, .aload_n 0), (32, .getfield 12), (35, .iload_n 1), (36, .iload_n 2), (37, .invokevirtual 168), (40, .invokevirtual 172), (43, .ifCond .eq 7), (46, .iconst 1), (47, .goto 4), (50, .iconst 0), (51, .ireturn)]
def op_X7_can (fu : Nat) : Nat → Kont → XL → List Value → XW → Instr → Option XO := opK 3 (rzOf (some .int)) fl_BrookStones nl_BrookStones [] [] [(158, 2, 1, (U_X0_isWalker fu)), (164, 1, 1, (U_X0_filled fu)), (168, 3, 1, (U_X0_reachOf fu)), (172, 4, 1, (U_X0_isCrossed fu))] [] []
def M_X7_can (fu : Nat) (a0 : Nat) (a1 : Int32) (a2 : Int32) (w : XW) : Option XO :=
  (gR w a0 6 0).bind fun r1 =>
  cI (U_X0_isWalker fu [.ref r1, .int a1] w) fun x3 w2 =>
  (if x3 = 0 then
    some (some (.int (-1 : Int32)), w2)
  else
    (gR w2 a0 6 0).bind fun r4 =>
    (gR w2 a0 6 0).bind fun r5 =>
    cI (U_X0_filled fu [.ref r5] w2) fun x7 w6 =>
    (gR w6 a0 6 0).bind fun r8 =>
    (gI w6 r8 0 11).bind fun x9 =>
    (gR w6 a0 6 0).bind fun r10 =>
    cI (U_X0_reachOf fu [.ref r10, .int a1, .int a2] w6) fun x12 w11 =>
    cI (U_X0_isCrossed fu [.ref r4, .int x7, .int x9, .int x12] w11) fun x14 w13 =>
    (if x14 = 0 then
      some (some (.int (0 : Int32)), w13)
    else
      some (some (.int (1 : Int32)), w13)))
def U_X7_can (fu : Nat) : Orc := fun as w => match as with
  | [.ref a0, .int a1, .int a2] => if isO w a0 6 = true then M_X7_can fu a0 a1 a2 w else none
  | _ => none
def K_X7_can (fu : Nat) (n : Nat) : Kont := fun pc ls st w => none
set_option maxRecDepth 100000 in
set_option maxHeartbeats 4000000 in
theorem E_X7_can (fu : Nat) (a0 : Nat) (a1 : Int32) (a2 : Int32) (w : XW) : M_X7_can fu a0 a1 a2 w = ev T_X7_can (op_X7_can fu) [] (K_X7_can fu fu) 28 0 (lv_args 0 [.ref a0, .int a1, .int a2]) [] w := by
  rfl
theorem D_X7_can (fu : Nat) : DS T_X7_can (op_X7_can fu) [] 28 (K_X7_can fu) := by
  refine ⟨fun pc ls st w => rfl, fun n pc ls st w o h => ?_⟩
  cases h
theorem H_X7_can (fu : Nat) : ∀ as w o, U_X7_can fu as w = some o → ∃ a r, as = .ref a :: r ∧ r.length = 2 ∧ isO w a 6 = true := by
  intro as w o h
  unfold U_X7_can at h
  split at h
  next =>
    split at h
    next hh => exact ⟨_, _, rfl, rfl, hh⟩
    next => cases h
  next => cases h
set_option maxRecDepth 100000 in
set_option maxHeartbeats 4000000 in
theorem S_X7_can (fu : Nat) {l : Launch} {D : va_G} {cA : Nat → ClassId} {base b : Nat} : CS l D cA base b 4 y_X7_can prog_1_method_12_code 3 (some .int) (U_X7_can fu) ∧ OM (U_X7_can fu) := by
  refine CS_of (d := 3) (y := y_X7_can) (cc := prog_1_method_12_code) (nL := 3) (ret := (some .int)) (F := U_X7_can fu) (fl := fl_BrookStones) (nl := nl_BrookStones) (kl := []) (k2 := []) (mv := [(158, 2, 1, (U_X0_isWalker fu)), (164, 1, 1, (U_X0_filled fu)), (168, 3, 1, (U_X0_reachOf fu)), (172, 4, 1, (U_X0_isCrossed fu))]) (ms := []) (mi := []) (ini := false) hI_w fl_BrookStones_ok nl_BrookStones_ok nil_all nil_all
    (cons_all (⟨⟨show (1 : Nat) ≠ 3 by decide, y_X0_isWalker, prog_2_method_6_code, 2, (some .boolean), 1, "BrookStones", 0, TX0, 15, 1, (S_X0_isWalker fu (l := l) (D := D) (cA := cA) (base := base) (b := b)).1, by decide, by decide, rfl, H_X0_isWalker fu, rfl, mi_X0_isWalker.1, mi_X0_isWalker.2.1, mi_X0_isWalker.2.2.1, mi_X0_isWalker.2.2.2.1, mi_X0_isWalker.2.2.2.2, Or.inr (tblN_of (i := 346) rfl rfl)⟩, (S_X0_isWalker fu (l := l) (D := D) (cA := cA) (base := base) (b := b)).2⟩) (cons_all (⟨⟨show (1 : Nat) ≠ 3 by decide, y_X0_filled, prog_2_method_17_code, 1, (some .int), 2, "BrookStones", 0, TX0, 15, 0, (S_X0_filled fu (l := l) (D := D) (cA := cA) (base := base) (b := b)).1, by decide, by decide, rfl, H_X0_filled fu, rfl, mi_X0_filled.1, mi_X0_filled.2.1, mi_X0_filled.2.2.1, mi_X0_filled.2.2.2.1, mi_X0_filled.2.2.2.2, Or.inr (tblN_of (i := 354) rfl rfl)⟩, (S_X0_filled fu (l := l) (D := D) (cA := cA) (base := base) (b := b)).2⟩) (cons_all (⟨⟨show (1 : Nat) ≠ 3 by decide, y_X0_reachOf, prog_2_method_9_code, 3, (some .int), 1, "BrookStones", 0, TX0, 15, 2, (S_X0_reachOf fu (l := l) (D := D) (cA := cA) (base := base) (b := b)).1, by decide, by decide, rfl, H_X0_reachOf fu, rfl, mi_X0_reachOf.1, mi_X0_reachOf.2.1, mi_X0_reachOf.2.2.1, mi_X0_reachOf.2.2.2.1, mi_X0_reachOf.2.2.2.2, Or.inr (tblN_of (i := 362) rfl rfl)⟩, (S_X0_reachOf fu (l := l) (D := D) (cA := cA) (base := base) (b := b)).2⟩) (cons_all (⟨⟨show (1 : Nat) ≠ 3 by decide, y_X0_isCrossed, prog_2_method_20_code, 4, (some .boolean), 3, "BrookStones", 0, TX0, 15, 3, (S_X0_isCrossed fu (l := l) (D := D) (cA := cA) (base := base) (b := b)).1, by decide, by decide, rfl, H_X0_isCrossed fu, rfl, mi_X0_isCrossed.1, mi_X0_isCrossed.2.1, mi_X0_isCrossed.2.2.1, mi_X0_isCrossed.2.2.2.1, mi_X0_isCrossed.2.2.2.2, Or.inr (tblN_of (i := 366) rfl rfl)⟩, (S_X0_isCrossed fu (l := l) (D := D) (cA := cA) (base := base) (b := b)).2⟩) (nil_all)))))
    (nil_all)
    (nil_all)
    (T := T_X7_can) (by decide +kernel) (cut := []) (N := 28) (D_X7_can fu) (by decide +kernel) (fun h => absurd h (by decide)) (fun as w o h => ?_)
  unfold U_X7_can at h
  split at h
  next =>
    split at h
    next => exact ⟨Nat.le_of_ble_eq_true rfl, fu, (E_X7_can fu _ _ _ w).symm.trans h⟩
    next => cases h
  next => cases h
def T_L_stands : List (Nat × Instr) := [(0, .iload 4), (2, .ifCond .eq 13), (5, .iload 4), (7, .aload_n 0), (8, .iconst 0), (9, .iaload), (10, .iconst 1), (11, .iadd), (12, .if_icmp .ne 5), (15, .iconst 1), (16, .ireturn), (17, .aload_n 2), (18, .iload 4), (20, .iconst 1), (21, .isub), (22, .iaload), (23, .istore 5), (25, .iload 5), (27, .ifCond .lt 25), (30, .aload_n 1), (31, .bipush 6), (33, .iload 5), (35, .iadd), (36, .iaload), (37, .aload_n 0), (38, .iconst 1), (39, .iload 4), (41, .iadd), (42, .iaload), (43, .iload_n 3), (44, .iadd), (45, .if_icmp .le 7), (48, .iconst 1), (49, .goto 4), (52, .iconst 0), (53, .ireturn)]
def op_L_stands (fu : Nat) : Nat → Kont → XL → List Value → XW → Instr → Option XO := opK 6 (rzOf (some .boolean)) [] nl_BrookStonesLaw kl_BrookStonesLaw [] [] [] []
def M_L_stands (fu : Nat) (a0 : Nat) (a1 : Nat) (a2 : Nat) (a3 : Int32) (a4 : Int32) (w : XW) : Option XO :=
  (if a4 = 0 then
    retZ (1 : Int32) w
  else
    (aI w a0 (0 : Int32)).bind fun x1 =>
    (if a4 = (x1 + (1 : Int32)) then
      retZ (1 : Int32) w
    else
      (aI w a2 (a4 - (1 : Int32))).bind fun x2 =>
      (if x2 < 0 then
        retZ (0 : Int32) w
      else
        (aI w a1 ((6 : Int32) + x2)).bind fun x3 =>
        (aI w a0 ((1 : Int32) + a4)).bind fun x4 =>
        (if (x4 + a3) < x3 then
          retZ (1 : Int32) w
        else
          retZ (0 : Int32) w))))
def U_L_stands (fu : Nat) : Orc := fun as w => match as with
  | [.ref a0, .ref a1, .ref a2, .int a3, .int a4] => M_L_stands fu a0 a1 a2 a3 a4 w
  | _ => none
def K_L_stands (fu : Nat) (n : Nat) : Kont := fun pc ls st w => none
set_option maxRecDepth 100000 in
set_option maxHeartbeats 4000000 in
theorem E_L_stands (fu : Nat) (a0 : Nat) (a1 : Nat) (a2 : Nat) (a3 : Int32) (a4 : Int32) (w : XW) : M_L_stands fu a0 a1 a2 a3 a4 w = ev T_L_stands (op_L_stands fu) [] (K_L_stands fu fu) 38 0 (lv_args 0 [.ref a0, .ref a1, .ref a2, .int a3, .int a4]) [] w := by
  rfl
theorem D_L_stands (fu : Nat) : DS T_L_stands (op_L_stands fu) [] 38 (K_L_stands fu) := by
  refine ⟨fun pc ls st w => rfl, fun n pc ls st w o h => ?_⟩
  cases h
set_option maxRecDepth 100000 in
set_option maxHeartbeats 4000000 in
theorem S_L_stands (fu : Nat) {l : Launch} {D : va_G} {cA : Nat → ClassId} {base b : Nat} : CS l D cA base b 1 y_L_stands method_6_code 6 (some .boolean) (U_L_stands fu) ∧ OM (U_L_stands fu) := by
  refine CS_of (d := 0) (y := y_L_stands) (cc := method_6_code) (nL := 6) (ret := (some .boolean)) (F := U_L_stands fu) (fl := []) (nl := nl_BrookStonesLaw) (kl := kl_BrookStonesLaw) (k2 := []) (mv := []) (ms := []) (mi := []) (ini := false) hI_w nil_all nl_BrookStonesLaw_ok kl_BrookStonesLaw_ok nil_all
    (nil_all)
    (nil_all)
    (nil_all)
    (T := T_L_stands) (by decide +kernel) (cut := []) (N := 38) (D_L_stands fu) (by decide +kernel) (fun h => absurd h (by decide)) (fun as w o h => ?_)
  unfold U_L_stands at h
  split at h
  next =>
    exact ⟨Nat.le_of_ble_eq_true rfl, fu, (E_L_stands fu _ _ _ _ _ w).symm.trans h⟩
  next => cases h
def T_L_goes : List (Nat × Instr) := [(0, .iload 4), (2, .iload 5), (4, .if_icmp .ge 11), (7, .iload 5), (9, .iload 4), (11, .isub), (12, .goto 8), (15, .iload 4), (17, .iload 5), (19, .isub), (20, .istore 6), (22, .iload 4), (24, .ifCond .le 35), (27, .iload 4), (29, .aload_n 0), (30, .iconst 0), (31, .iaload), (32, .if_icmp .gt 27), (35, .aload_n 2), (36, .iload 4), (38, .iconst 1), (39, .isub), (40, .iaload), (41, .ifCond .lt 18), (44, .aload_n 1), (45, .aload_n 2), (46, .iload 4), (48, .iconst 1), (49, .isub), (50, .iaload), (51, .iaload), (52, .iconst 2), (53, .if_icmp .ne 6), (56, .iinc 6 (-1)), (59, .iload 5), (61, .ifCond .le 35), (64, .iload 5), (66, .aload_n 0), (67, .iconst 0), (68, .iaload), (69, .if_icmp .gt 27), (72, .aload_n 2), (73, .iload 5), (75, .iconst 1), (76, .isub), (77, .iaload), (78, .ifCond .lt 18), (81, .aload_n 1), (82, .aload_n 2), (83, .iload 5), (85, .iconst 1), (86, .isub), (87, .iaload), (88, .iaload), (89, .iconst 2), (90, .if_icmp .ne 6), (93, .iinc 6 (-1)), (96, .iload 6), (98, .iload_n 3), (99, .if_icmp .gt 7), (102, .iconst 1), (103, .goto 4), (106, .iconst 0), (107, .ireturn)]
def op_L_goes (fu : Nat) : Nat → Kont → XL → List Value → XW → Instr → Option XO := opK 7 (rzOf (some .boolean)) [] nl_BrookStonesLaw kl_BrookStonesLaw [] [] [] []
def F_L_goes (fu : Nat) : Nat → (Nat → Nat → Nat → Int32 → Int32 → Int32 → Int32 → XW → Option XO) × (Nat → Nat → Nat → Int32 → Int32 → Int32 → XW → Option XO) × (Int32 → Int32 → XW → Option XO)
  | 0 => (fun _ _ _ _ _ _ _ _ => none, fun _ _ _ _ _ _ _ => none, fun _ _ _ => none)
  | n + 1 => ((fun a0 a1 a2 a3 a4 a5 s0 w =>
    (if 0 < a4 then
      (aI w a0 (0 : Int32)).bind fun x1 =>
      (if x1 < a4 then
        (F_L_goes fu n).2.1 a0 a1 a2 a3 a5 s0 w
      else
        (aI w a2 (a4 - (1 : Int32))).bind fun x2 =>
        (if x2 < 0 then
          (F_L_goes fu n).2.1 a0 a1 a2 a3 a5 s0 w
        else
          (aI w a2 (a4 - (1 : Int32))).bind fun x3 =>
          (aI w a1 x3).bind fun x4 =>
          (if x4 = (2 : Int32) then
            (F_L_goes fu n).2.1 a0 a1 a2 a3 a5 (s0 + (-1 : Int32)) w
          else
            (F_L_goes fu n).2.1 a0 a1 a2 a3 a5 s0 w)))
    else
      (F_L_goes fu n).2.1 a0 a1 a2 a3 a5 s0 w)),
   (fun a0 a1 a2 a3 a5 a6 w =>
    (if 0 < a5 then
      (aI w a0 (0 : Int32)).bind fun x5 =>
      (if x5 < a5 then
        (F_L_goes fu n).2.2 a3 a6 w
      else
        (aI w a2 (a5 - (1 : Int32))).bind fun x6 =>
        (if x6 < 0 then
          (F_L_goes fu n).2.2 a3 a6 w
        else
          (aI w a2 (a5 - (1 : Int32))).bind fun x7 =>
          (aI w a1 x7).bind fun x8 =>
          (if x8 = (2 : Int32) then
            (F_L_goes fu n).2.2 a3 (a6 + (-1 : Int32)) w
          else
            (F_L_goes fu n).2.2 a3 a6 w)))
    else
      (F_L_goes fu n).2.2 a3 a6 w)),
   (fun a3 a6 w =>
    (if a3 < a6 then
      retZ (0 : Int32) w
    else
      retZ (1 : Int32) w)))
def M_L_goes (fu : Nat) (a0 : Nat) (a1 : Nat) (a2 : Nat) (a3 : Int32) (a4 : Int32) (a5 : Int32) (w : XW) : Option XO :=
  (if a4 < a5 then
    (F_L_goes fu fu).1 a0 a1 a2 a3 a4 a5 (a5 - a4) w
  else
    (F_L_goes fu fu).1 a0 a1 a2 a3 a4 a5 (a4 - a5) w)
def U_L_goes (fu : Nat) : Orc := fun as w => match as with
  | [.ref a0, .ref a1, .ref a2, .int a3, .int a4, .int a5] => M_L_goes fu a0 a1 a2 a3 a4 a5 w
  | _ => none
def K_L_goes (fu : Nat) (n : Nat) : Kont := fun pc ls st w => bif pc == 20 then ((xr ls 0).bind fun a0 => (xr ls 1).bind fun a1 => (xr ls 2).bind fun a2 => (xi ls 3).bind fun a3 => (xi ls 4).bind fun a4 => (xi ls 5).bind fun a5 => skI st fun s0 st => skN st ((F_L_goes fu n).1 a0 a1 a2 a3 a4 a5 s0 w)) else bif pc == 59 then ((xr ls 0).bind fun a0 => (xr ls 1).bind fun a1 => (xr ls 2).bind fun a2 => (xi ls 3).bind fun a3 => (xi ls 5).bind fun a5 => (xi ls 6).bind fun a6 => skN st ((F_L_goes fu n).2.1 a0 a1 a2 a3 a5 a6 w)) else bif pc == 96 then ((xi ls 3).bind fun a3 => (xi ls 6).bind fun a6 => skN st ((F_L_goes fu n).2.2 a3 a6 w)) else none
set_option maxRecDepth 100000 in
set_option maxHeartbeats 4000000 in
theorem E_L_goes_20 (fu : Nat) (n : Nat) (a0 : Nat) (a1 : Nat) (a2 : Nat) (a3 : Int32) (a4 : Int32) (a5 : Int32) (s0 : Int32) (w : XW) : (F_L_goes fu (n + 1)).1 a0 a1 a2 a3 a4 a5 s0 w = ev T_L_goes (op_L_goes fu) [20, 59, 96] (K_L_goes fu n) 66 20 [(0, .ref a0), (1, .ref a1), (2, .ref a2), (3, .int a3), (4, .int a4), (5, .int a5)] [.int s0] w := by
  rfl
set_option maxRecDepth 100000 in
set_option maxHeartbeats 4000000 in
theorem E_L_goes_59 (fu : Nat) (n : Nat) (a0 : Nat) (a1 : Nat) (a2 : Nat) (a3 : Int32) (a5 : Int32) (a6 : Int32) (w : XW) : (F_L_goes fu (n + 1)).2.1 a0 a1 a2 a3 a5 a6 w = ev T_L_goes (op_L_goes fu) [20, 59, 96] (K_L_goes fu n) 66 59 [(0, .ref a0), (1, .ref a1), (2, .ref a2), (3, .int a3), (5, .int a5), (6, .int a6)] [] w := by
  rfl
set_option maxRecDepth 100000 in
set_option maxHeartbeats 4000000 in
theorem E_L_goes_96 (fu : Nat) (n : Nat) (a3 : Int32) (a6 : Int32) (w : XW) : (F_L_goes fu (n + 1)).2.2 a3 a6 w = ev T_L_goes (op_L_goes fu) [20, 59, 96] (K_L_goes fu n) 66 96 [(3, .int a3), (6, .int a6)] [] w := by
  rfl
set_option maxRecDepth 100000 in
set_option maxHeartbeats 4000000 in
theorem E_L_goes (fu : Nat) (a0 : Nat) (a1 : Nat) (a2 : Nat) (a3 : Int32) (a4 : Int32) (a5 : Int32) (w : XW) : M_L_goes fu a0 a1 a2 a3 a4 a5 w = ev T_L_goes (op_L_goes fu) [20, 59, 96] (K_L_goes fu fu) 66 0 (lv_args 0 [.ref a0, .ref a1, .ref a2, .int a3, .int a4, .int a5]) [] w := by
  rfl
theorem D_L_goes (fu : Nat) : DS T_L_goes (op_L_goes fu) [20, 59, 96] 66 (K_L_goes fu) := by
  refine ⟨fun pc ls st w => c_none (b_none fun _ => b_none fun _ => b_none fun _ => b_none fun _ => b_none fun _ => b_none fun _ => skI_none fun _ _ => skN_none rfl) (c_none (b_none fun _ => b_none fun _ => b_none fun _ => b_none fun _ => b_none fun _ => b_none fun _ => skN_none rfl) (c_none (b_none fun _ => b_none fun _ => skN_none rfl) (rfl))), fun n pc ls st w o h => ?_⟩
  rcases c_some h with ⟨rfl, h⟩ | h
  · obtain ⟨a0, h0, h⟩ := some_of h; obtain ⟨a1, h1, h⟩ := some_of h; obtain ⟨a2, h2, h⟩ := some_of h; obtain ⟨a3, h3, h⟩ := some_of h; obtain ⟨a4, h4, h⟩ := some_of h; obtain ⟨a5, h5, h⟩ := some_of h;
    obtain ⟨s0, st0, e0, g0⟩ := skI_of h
    obtain ⟨e, g⟩ := skN_of g0
    subst e
    subst e0
    exact ⟨[(0, .ref a0), (1, .ref a1), (2, .ref a2), (3, .int a3), (4, .int a4), (5, .int a5)], cons_all (xr_of h0) (cons_all (xr_of h1) (cons_all (xr_of h2) (cons_all (xi_of h3) (cons_all (xi_of h4) (cons_all (xi_of h5) (nil_all)))))), (E_L_goes_20 fu n a0 a1 a2 a3 a4 a5 s0 w).symm.trans g⟩
  rcases c_some h with ⟨rfl, h⟩ | h
  · obtain ⟨a0, h0, h⟩ := some_of h; obtain ⟨a1, h1, h⟩ := some_of h; obtain ⟨a2, h2, h⟩ := some_of h; obtain ⟨a3, h3, h⟩ := some_of h; obtain ⟨a5, h5, h⟩ := some_of h; obtain ⟨a6, h6, h⟩ := some_of h;
    obtain ⟨e, g⟩ := skN_of h
    subst e
    exact ⟨[(0, .ref a0), (1, .ref a1), (2, .ref a2), (3, .int a3), (5, .int a5), (6, .int a6)], cons_all (xr_of h0) (cons_all (xr_of h1) (cons_all (xr_of h2) (cons_all (xi_of h3) (cons_all (xi_of h5) (cons_all (xi_of h6) (nil_all)))))), (E_L_goes_59 fu n a0 a1 a2 a3 a5 a6 w).symm.trans g⟩
  rcases c_some h with ⟨rfl, h⟩ | h
  · obtain ⟨a3, h3, h⟩ := some_of h; obtain ⟨a6, h6, h⟩ := some_of h;
    obtain ⟨e, g⟩ := skN_of h
    subst e
    exact ⟨[(3, .int a3), (6, .int a6)], cons_all (xi_of h3) (cons_all (xi_of h6) (nil_all)), (E_L_goes_96 fu n a3 a6 w).symm.trans g⟩
  · cases h
set_option maxRecDepth 100000 in
set_option maxHeartbeats 4000000 in
theorem S_L_goes (fu : Nat) {l : Launch} {D : va_G} {cA : Nat → ClassId} {base b : Nat} : CS l D cA base b 1 y_L_goes method_7_code 7 (some .boolean) (U_L_goes fu) ∧ OM (U_L_goes fu) := by
  refine CS_of (d := 0) (y := y_L_goes) (cc := method_7_code) (nL := 7) (ret := (some .boolean)) (F := U_L_goes fu) (fl := []) (nl := nl_BrookStonesLaw) (kl := kl_BrookStonesLaw) (k2 := []) (mv := []) (ms := []) (mi := []) (ini := false) hI_w nil_all nl_BrookStonesLaw_ok kl_BrookStonesLaw_ok nil_all
    (nil_all)
    (nil_all)
    (nil_all)
    (T := T_L_goes) (by decide +kernel) (cut := [20, 59, 96]) (N := 66) (D_L_goes fu) (by decide +kernel) (fun h => absurd h (by decide)) (fun as w o h => ?_)
  unfold U_L_goes at h
  split at h
  next =>
    exact ⟨Nat.le_of_ble_eq_true rfl, fu, (E_L_goes fu _ _ _ _ _ _ w).symm.trans h⟩
  next => cases h
def T_L_come : List (Nat × Instr) := [(0, .iconst 1), (1, .iload 5), (3, .ishl), (4, .istore 7), (6, .iconst 0), (7, .istore 8), (9, .iload 8), (11, .iload 6), (13, .if_icmp .ge 102), (16, .iload 7), (18, .istore 9), (20, .iconst 0), (21, .istore 10), (23, .iload 10), (25, .aload_n 0), (26, .iconst 0), (27, .iaload), (28, .iconst 2), (29, .iadd), (30, .if_icmp .ge 75), (33, .iconst 0), (34, .istore 11), (36, .iload 11), (38, .aload_n 0), (39, .iconst 0), (40, .iaload), (41, .iconst 2), (42, .iadd), (43, .if_icmp .ge 56), (46, .iload 7), (48, .iload 10), (50, .ishr), (51, .iconst 1), (52, .iand), (53, .iconst 1), (54, .if_icmp .ne 45), (57, .aload_n 0), (58, .aload_n 1), (59, .aload_n 2), (60, .iload_n 3), (61, .iload 11), (63, .invokestatic 32), (66, .ifCond .eq 27), (69, .aload_n 0), (70, .aload_n 1), (71, .aload_n 2), (72, .iload 4), (74, .iload 10), (76, .iload 11), (78, .invokestatic 36), (81, .ifCond .eq 12), (84, .iload 9), (86, .iconst 1), (87, .iload 11), (89, .ishl), (90, .ior), (91, .istore 9), (93, .iinc 11 1), (96, .goto (-60)), (99, .iinc 10 1), (102, .goto (-79)), (105, .iload 9), (107, .istore 7), (109, .iinc 8 1), (112, .goto (-103)), (115, .iload 7), (117, .ireturn)]
def op_L_come (fu : Nat) : Nat → Kont → XL → List Value → XW → Instr → Option XO := opK 12 (rzOf (some .int)) [] nl_BrookStonesLaw kl_BrookStonesLaw [] [] [(32, 5, 1, (U_L_stands fu)), (36, 6, 1, (U_L_goes fu))] []
def F_L_come (fu : Nat) : Nat → (Nat → Nat → Nat → Int32 → Int32 → Int32 → Int32 → Int32 → XW → Option XO) × (Nat → Nat → Nat → Int32 → Int32 → Int32 → Int32 → Int32 → Int32 → Int32 → XW → Option XO) × (Nat → Nat → Nat → Int32 → Int32 → Int32 → Int32 → Int32 → Int32 → Int32 → Int32 → XW → Option XO)
  | 0 => (fun _ _ _ _ _ _ _ _ _ => none, fun _ _ _ _ _ _ _ _ _ _ _ => none, fun _ _ _ _ _ _ _ _ _ _ _ _ => none)
  | n + 1 => ((fun a0 a1 a2 a3 a4 a6 a7 a8 w =>
    (if a8 < a6 then
      (F_L_come fu n).2.1 a0 a1 a2 a3 a4 a6 a7 a8 a7 (0 : Int32) w
    else
      some (some (.int a7), w))),
   (fun a0 a1 a2 a3 a4 a6 a7 a8 a9 a10 w =>
    (aI w a0 (0 : Int32)).bind fun x1 =>
    (if a10 < (x1 + (2 : Int32)) then
      (F_L_come fu n).2.2 a0 a1 a2 a3 a4 a6 a7 a8 a9 a10 (0 : Int32) w
    else
      (F_L_come fu n).1 a0 a1 a2 a3 a4 a6 a9 (a8 + (1 : Int32)) w)),
   (fun a0 a1 a2 a3 a4 a6 a7 a8 a9 a10 a11 w =>
    (aI w a0 (0 : Int32)).bind fun x2 =>
    (if a11 < (x2 + (2 : Int32)) then
      (if ((a7 >>> (a10 &&& 31)) &&& (1 : Int32)) = (1 : Int32) then
        cI (U_L_stands fu [.ref a0, .ref a1, .ref a2, .int a3, .int a11] w) fun x4 w3 =>
        (if x4 = 0 then
          (F_L_come fu n).2.2 a0 a1 a2 a3 a4 a6 a7 a8 a9 a10 (a11 + (1 : Int32)) w3
        else
          cI (U_L_goes fu [.ref a0, .ref a1, .ref a2, .int a4, .int a10, .int a11] w3) fun x6 w5 =>
          (if x6 = 0 then
            (F_L_come fu n).2.2 a0 a1 a2 a3 a4 a6 a7 a8 a9 a10 (a11 + (1 : Int32)) w5
          else
            (F_L_come fu n).2.2 a0 a1 a2 a3 a4 a6 a7 a8 (a9 ||| ((1 : Int32) <<< (a11 &&& 31))) a10 (a11 + (1 : Int32)) w5))
      else
        (F_L_come fu n).2.1 a0 a1 a2 a3 a4 a6 a7 a8 a9 (a10 + (1 : Int32)) w)
    else
      (F_L_come fu n).2.1 a0 a1 a2 a3 a4 a6 a7 a8 a9 (a10 + (1 : Int32)) w)))
def M_L_come (fu : Nat) (a0 : Nat) (a1 : Nat) (a2 : Nat) (a3 : Int32) (a4 : Int32) (a5 : Int32) (a6 : Int32) (w : XW) : Option XO :=
  (F_L_come fu fu).1 a0 a1 a2 a3 a4 a6 ((1 : Int32) <<< (a5 &&& 31)) (0 : Int32) w
def U_L_come (fu : Nat) : Orc := fun as w => match as with
  | [.ref a0, .ref a1, .ref a2, .int a3, .int a4, .int a5, .int a6] => M_L_come fu a0 a1 a2 a3 a4 a5 a6 w
  | _ => none
def K_L_come (fu : Nat) (n : Nat) : Kont := fun pc ls st w => bif pc == 9 then ((xr ls 0).bind fun a0 => (xr ls 1).bind fun a1 => (xr ls 2).bind fun a2 => (xi ls 3).bind fun a3 => (xi ls 4).bind fun a4 => (xi ls 6).bind fun a6 => (xi ls 7).bind fun a7 => (xi ls 8).bind fun a8 => skN st ((F_L_come fu n).1 a0 a1 a2 a3 a4 a6 a7 a8 w)) else bif pc == 23 then ((xr ls 0).bind fun a0 => (xr ls 1).bind fun a1 => (xr ls 2).bind fun a2 => (xi ls 3).bind fun a3 => (xi ls 4).bind fun a4 => (xi ls 6).bind fun a6 => (xi ls 7).bind fun a7 => (xi ls 8).bind fun a8 => (xi ls 9).bind fun a9 => (xi ls 10).bind fun a10 => skN st ((F_L_come fu n).2.1 a0 a1 a2 a3 a4 a6 a7 a8 a9 a10 w)) else bif pc == 36 then ((xr ls 0).bind fun a0 => (xr ls 1).bind fun a1 => (xr ls 2).bind fun a2 => (xi ls 3).bind fun a3 => (xi ls 4).bind fun a4 => (xi ls 6).bind fun a6 => (xi ls 7).bind fun a7 => (xi ls 8).bind fun a8 => (xi ls 9).bind fun a9 => (xi ls 10).bind fun a10 => (xi ls 11).bind fun a11 => skN st ((F_L_come fu n).2.2 a0 a1 a2 a3 a4 a6 a7 a8 a9 a10 a11 w)) else none
set_option maxRecDepth 100000 in
set_option maxHeartbeats 4000000 in
theorem E_L_come_9 (fu : Nat) (n : Nat) (a0 : Nat) (a1 : Nat) (a2 : Nat) (a3 : Int32) (a4 : Int32) (a6 : Int32) (a7 : Int32) (a8 : Int32) (w : XW) : (F_L_come fu (n + 1)).1 a0 a1 a2 a3 a4 a6 a7 a8 w = ev T_L_come (op_L_come fu) [9, 23, 36] (K_L_come fu n) 69 9 [(0, .ref a0), (1, .ref a1), (2, .ref a2), (3, .int a3), (4, .int a4), (6, .int a6), (7, .int a7), (8, .int a8)] [] w := by
  rfl
set_option maxRecDepth 100000 in
set_option maxHeartbeats 4000000 in
theorem E_L_come_23 (fu : Nat) (n : Nat) (a0 : Nat) (a1 : Nat) (a2 : Nat) (a3 : Int32) (a4 : Int32) (a6 : Int32) (a7 : Int32) (a8 : Int32) (a9 : Int32) (a10 : Int32) (w : XW) : (F_L_come fu (n + 1)).2.1 a0 a1 a2 a3 a4 a6 a7 a8 a9 a10 w = ev T_L_come (op_L_come fu) [9, 23, 36] (K_L_come fu n) 69 23 [(0, .ref a0), (1, .ref a1), (2, .ref a2), (3, .int a3), (4, .int a4), (6, .int a6), (7, .int a7), (8, .int a8), (9, .int a9), (10, .int a10)] [] w := by
  rfl
set_option maxRecDepth 100000 in
set_option maxHeartbeats 4000000 in
theorem E_L_come_36 (fu : Nat) (n : Nat) (a0 : Nat) (a1 : Nat) (a2 : Nat) (a3 : Int32) (a4 : Int32) (a6 : Int32) (a7 : Int32) (a8 : Int32) (a9 : Int32) (a10 : Int32) (a11 : Int32) (w : XW) : (F_L_come fu (n + 1)).2.2 a0 a1 a2 a3 a4 a6 a7 a8 a9 a10 a11 w = ev T_L_come (op_L_come fu) [9, 23, 36] (K_L_come fu n) 69 36 [(0, .ref a0), (1, .ref a1), (2, .ref a2), (3, .int a3), (4, .int a4), (6, .int a6), (7, .int a7), (8, .int a8), (9, .int a9), (10, .int a10), (11, .int a11)] [] w := by
  rfl
set_option maxRecDepth 100000 in
set_option maxHeartbeats 4000000 in
theorem E_L_come (fu : Nat) (a0 : Nat) (a1 : Nat) (a2 : Nat) (a3 : Int32) (a4 : Int32) (a5 : Int32) (a6 : Int32) (w : XW) : M_L_come fu a0 a1 a2 a3 a4 a5 a6 w = ev T_L_come (op_L_come fu) [9, 23, 36] (K_L_come fu fu) 69 0 (lv_args 0 [.ref a0, .ref a1, .ref a2, .int a3, .int a4, .int a5, .int a6]) [] w := by
  rfl
theorem D_L_come (fu : Nat) : DS T_L_come (op_L_come fu) [9, 23, 36] 69 (K_L_come fu) := by
  refine ⟨fun pc ls st w => c_none (b_none fun _ => b_none fun _ => b_none fun _ => b_none fun _ => b_none fun _ => b_none fun _ => b_none fun _ => b_none fun _ => skN_none rfl) (c_none (b_none fun _ => b_none fun _ => b_none fun _ => b_none fun _ => b_none fun _ => b_none fun _ => b_none fun _ => b_none fun _ => b_none fun _ => b_none fun _ => skN_none rfl) (c_none (b_none fun _ => b_none fun _ => b_none fun _ => b_none fun _ => b_none fun _ => b_none fun _ => b_none fun _ => b_none fun _ => b_none fun _ => b_none fun _ => b_none fun _ => skN_none rfl) (rfl))), fun n pc ls st w o h => ?_⟩
  rcases c_some h with ⟨rfl, h⟩ | h
  · obtain ⟨a0, h0, h⟩ := some_of h; obtain ⟨a1, h1, h⟩ := some_of h; obtain ⟨a2, h2, h⟩ := some_of h; obtain ⟨a3, h3, h⟩ := some_of h; obtain ⟨a4, h4, h⟩ := some_of h; obtain ⟨a6, h6, h⟩ := some_of h; obtain ⟨a7, h7, h⟩ := some_of h; obtain ⟨a8, h8, h⟩ := some_of h;
    obtain ⟨e, g⟩ := skN_of h
    subst e
    exact ⟨[(0, .ref a0), (1, .ref a1), (2, .ref a2), (3, .int a3), (4, .int a4), (6, .int a6), (7, .int a7), (8, .int a8)], cons_all (xr_of h0) (cons_all (xr_of h1) (cons_all (xr_of h2) (cons_all (xi_of h3) (cons_all (xi_of h4) (cons_all (xi_of h6) (cons_all (xi_of h7) (cons_all (xi_of h8) (nil_all)))))))), (E_L_come_9 fu n a0 a1 a2 a3 a4 a6 a7 a8 w).symm.trans g⟩
  rcases c_some h with ⟨rfl, h⟩ | h
  · obtain ⟨a0, h0, h⟩ := some_of h; obtain ⟨a1, h1, h⟩ := some_of h; obtain ⟨a2, h2, h⟩ := some_of h; obtain ⟨a3, h3, h⟩ := some_of h; obtain ⟨a4, h4, h⟩ := some_of h; obtain ⟨a6, h6, h⟩ := some_of h; obtain ⟨a7, h7, h⟩ := some_of h; obtain ⟨a8, h8, h⟩ := some_of h; obtain ⟨a9, h9, h⟩ := some_of h; obtain ⟨a10, h10, h⟩ := some_of h;
    obtain ⟨e, g⟩ := skN_of h
    subst e
    exact ⟨[(0, .ref a0), (1, .ref a1), (2, .ref a2), (3, .int a3), (4, .int a4), (6, .int a6), (7, .int a7), (8, .int a8), (9, .int a9), (10, .int a10)], cons_all (xr_of h0) (cons_all (xr_of h1) (cons_all (xr_of h2) (cons_all (xi_of h3) (cons_all (xi_of h4) (cons_all (xi_of h6) (cons_all (xi_of h7) (cons_all (xi_of h8) (cons_all (xi_of h9) (cons_all (xi_of h10) (nil_all)))))))))), (E_L_come_23 fu n a0 a1 a2 a3 a4 a6 a7 a8 a9 a10 w).symm.trans g⟩
  rcases c_some h with ⟨rfl, h⟩ | h
  · obtain ⟨a0, h0, h⟩ := some_of h; obtain ⟨a1, h1, h⟩ := some_of h; obtain ⟨a2, h2, h⟩ := some_of h; obtain ⟨a3, h3, h⟩ := some_of h; obtain ⟨a4, h4, h⟩ := some_of h; obtain ⟨a6, h6, h⟩ := some_of h; obtain ⟨a7, h7, h⟩ := some_of h; obtain ⟨a8, h8, h⟩ := some_of h; obtain ⟨a9, h9, h⟩ := some_of h; obtain ⟨a10, h10, h⟩ := some_of h; obtain ⟨a11, h11, h⟩ := some_of h;
    obtain ⟨e, g⟩ := skN_of h
    subst e
    exact ⟨[(0, .ref a0), (1, .ref a1), (2, .ref a2), (3, .int a3), (4, .int a4), (6, .int a6), (7, .int a7), (8, .int a8), (9, .int a9), (10, .int a10), (11, .int a11)], cons_all (xr_of h0) (cons_all (xr_of h1) (cons_all (xr_of h2) (cons_all (xi_of h3) (cons_all (xi_of h4) (cons_all (xi_of h6) (cons_all (xi_of h7) (cons_all (xi_of h8) (cons_all (xi_of h9) (cons_all (xi_of h10) (cons_all (xi_of h11) (nil_all))))))))))), (E_L_come_36 fu n a0 a1 a2 a3 a4 a6 a7 a8 a9 a10 a11 w).symm.trans g⟩
  · cases h
set_option maxRecDepth 100000 in
set_option maxHeartbeats 4000000 in
theorem S_L_come (fu : Nat) {l : Launch} {D : va_G} {cA : Nat → ClassId} {base b : Nat} : CS l D cA base b 2 y_L_come method_8_code 12 (some .int) (U_L_come fu) ∧ OM (U_L_come fu) := by
  refine CS_of (d := 1) (y := y_L_come) (cc := method_8_code) (nL := 12) (ret := (some .int)) (F := U_L_come fu) (fl := []) (nl := nl_BrookStonesLaw) (kl := kl_BrookStonesLaw) (k2 := []) (mv := []) (ms := [(32, 5, 1, (U_L_stands fu)), (36, 6, 1, (U_L_goes fu))]) (mi := []) (ini := false) hI_w nil_all nl_BrookStonesLaw_ok kl_BrookStonesLaw_ok nil_all
    (nil_all)
    (cons_all (⟨Or.inl ⟨show (1 : Nat) ≠ 3 by decide, y_L_stands, method_6_code, 6, (some .boolean), 1, "BrookStones", (S_L_stands fu (l := l) (D := D) (cA := cA) (base := base) (b := b)).1, by decide, by decide, mi_L_stands.1, mi_L_stands.2.1, mi_L_stands.2.2.1, mi_L_stands.2.2.2, Or.inl (tblG_of (i := 481) rfl rfl)⟩, (S_L_stands fu (l := l) (D := D) (cA := cA) (base := base) (b := b)).2⟩) (cons_all (⟨Or.inl ⟨show (1 : Nat) ≠ 3 by decide, y_L_goes, method_7_code, 7, (some .boolean), 1, "BrookStones", (S_L_goes fu (l := l) (D := D) (cA := cA) (base := base) (b := b)).1, by decide, by decide, mi_L_goes.1, mi_L_goes.2.1, mi_L_goes.2.2.1, mi_L_goes.2.2.2, Or.inl (tblG_of (i := 484) rfl rfl)⟩, (S_L_goes fu (l := l) (D := D) (cA := cA) (base := base) (b := b)).2⟩) (nil_all)))
    (nil_all)
    (T := T_L_come) (by decide +kernel) (cut := [9, 23, 36]) (N := 69) (D_L_come fu) (by decide +kernel) (fun h => absurd h (by decide)) (fun as w o h => ?_)
  unfold U_L_come at h
  split at h
  next =>
    exact ⟨Nat.le_of_ble_eq_true rfl, fu, (E_L_come fu _ _ _ _ _ _ _ w).symm.trans h⟩
  next => cases h
def T_L_can : List (Nat × Instr) := [(0, .aload_n 0), (1, .aload_n 1), (2, .aload_n 2), (3, .iload_n 3), (4, .iload 4), (6, .iconst 0), (7, .bipush 9), (9, .invokestatic 40), (12, .aload_n 0), (13, .iconst 0), (14, .iaload), (15, .iconst 1), (16, .iadd), (17, .ishr), (18, .iconst 1), (19, .iand), (20, .iconst 1), (21, .if_icmp .ne 7), (24, .iconst 1), (25, .goto 4), (28, .iconst 0), (29, .ireturn)]
def op_L_can (fu : Nat) : Nat → Kont → XL → List Value → XW → Instr → Option XO := opK 5 (rzOf (some .boolean)) [] nl_BrookStonesLaw kl_BrookStonesLaw [] [] [(40, 7, 1, (U_L_come fu))] []
def M_L_can (fu : Nat) (a0 : Nat) (a1 : Nat) (a2 : Nat) (a3 : Int32) (a4 : Int32) (w : XW) : Option XO :=
  cI (U_L_come fu [.ref a0, .ref a1, .ref a2, .int a3, .int a4, .int (0 : Int32), .int (9 : Int32)] w) fun x2 w1 =>
  (aI w1 a0 (0 : Int32)).bind fun x3 =>
  (if ((x2 >>> ((x3 + (1 : Int32)) &&& 31)) &&& (1 : Int32)) = (1 : Int32) then
    retZ (1 : Int32) w1
  else
    retZ (0 : Int32) w1)
def U_L_can (fu : Nat) : Orc := fun as w => match as with
  | [.ref a0, .ref a1, .ref a2, .int a3, .int a4] => M_L_can fu a0 a1 a2 a3 a4 w
  | _ => none
def K_L_can (fu : Nat) (n : Nat) : Kont := fun pc ls st w => none
set_option maxRecDepth 100000 in
set_option maxHeartbeats 4000000 in
theorem E_L_can (fu : Nat) (a0 : Nat) (a1 : Nat) (a2 : Nat) (a3 : Int32) (a4 : Int32) (w : XW) : M_L_can fu a0 a1 a2 a3 a4 w = ev T_L_can (op_L_can fu) [] (K_L_can fu fu) 24 0 (lv_args 0 [.ref a0, .ref a1, .ref a2, .int a3, .int a4]) [] w := by
  rfl
theorem D_L_can (fu : Nat) : DS T_L_can (op_L_can fu) [] 24 (K_L_can fu) := by
  refine ⟨fun pc ls st w => rfl, fun n pc ls st w o h => ?_⟩
  cases h
set_option maxRecDepth 100000 in
set_option maxHeartbeats 4000000 in
theorem S_L_can (fu : Nat) {l : Launch} {D : va_G} {cA : Nat → ClassId} {base b : Nat} : CS l D cA base b 3 y_L_can method_9_code 5 (some .boolean) (U_L_can fu) ∧ OM (U_L_can fu) := by
  refine CS_of (d := 2) (y := y_L_can) (cc := method_9_code) (nL := 5) (ret := (some .boolean)) (F := U_L_can fu) (fl := []) (nl := nl_BrookStonesLaw) (kl := kl_BrookStonesLaw) (k2 := []) (mv := []) (ms := [(40, 7, 1, (U_L_come fu))]) (mi := []) (ini := false) hI_w nil_all nl_BrookStonesLaw_ok kl_BrookStonesLaw_ok nil_all
    (nil_all)
    (cons_all (⟨Or.inl ⟨show (1 : Nat) ≠ 3 by decide, y_L_come, method_8_code, 12, (some .int), 2, "BrookStones", (S_L_come fu (l := l) (D := D) (cA := cA) (base := base) (b := b)).1, by decide, by decide, mi_L_come.1, mi_L_come.2.1, mi_L_come.2.2.1, mi_L_come.2.2.2, Or.inl (tblG_of (i := 487) rfl rfl)⟩, (S_L_come fu (l := l) (D := D) (cA := cA) (base := base) (b := b)).2⟩) (nil_all))
    (nil_all)
    (T := T_L_can) (by decide +kernel) (cut := []) (N := 24) (D_L_can fu) (by decide +kernel) (fun h => absurd h (by decide)) (fun as w o h => ?_)
  unfold U_L_can at h
  split at h
  next =>
    exact ⟨Nat.le_of_ble_eq_true rfl, fu, (E_L_can fu _ _ _ _ _ w).symm.trans h⟩
  next => cases h
def T_X7_highest : List (Nat × Instr) := [(0, .aload_n 0), (1, .getfield 12), (4, .iload_n 1), (5, .invokevirtual 158), (8, .ifCond .ne 5), (11, .iconst (-1)), (12, .ireturn), (13, .bipush 9), (15, .istore_n 3), (16, .iload_n 3), (17, .ifCond .lt 38), (20, .aload_n 0), (21, .getfield 12), (24, .aload_n 0), (25, .getfield 12), (28, .invokevirtual 164), (31, .iload_n 3), (32, .aload_n 0), (33, .getfield 12), (36, .iload_n 1), (37, .iload_n 2), (38, .invokevirtual 168), (41, .invokevirtual 172), (44, .ifCond .eq 5), (47, .iload_n 3), (48, .ireturn), (49, .iinc 3 (-1)), (52, .goto (-36)), (55, .bipush (-9)), (57, .ireturn)]
def op_X7_highest (fu : Nat) : Nat → Kont → XL → List Value → XW → Instr → Option XO := opK 4 (rzOf (some .int)) fl_BrookStones nl_BrookStones [] [] [(158, 2, 1, (U_X0_isWalker fu)), (164, 1, 1, (U_X0_filled fu)), (168, 3, 1, (U_X0_reachOf fu)), (172, 4, 1, (U_X0_isCrossed fu))] [] []
def F_X7_highest (fu : Nat) : Nat → (Nat → Int32 → Int32 → Int32 → XW → Option XO)
  | 0 => fun _ _ _ _ _ => none
  | n + 1 => (fun a0 a1 a2 a3 w =>
    (if a3 < 0 then
      some (some (.int (-9 : Int32)), w)
    else
      (gR w a0 6 0).bind fun r1 =>
      (gR w a0 6 0).bind fun r2 =>
      cI (U_X0_filled fu [.ref r2] w) fun x4 w3 =>
      (gR w3 a0 6 0).bind fun r5 =>
      cI (U_X0_reachOf fu [.ref r5, .int a1, .int a2] w3) fun x7 w6 =>
      cI (U_X0_isCrossed fu [.ref r1, .int x4, .int a3, .int x7] w6) fun x9 w8 =>
      (if x9 = 0 then
        (F_X7_highest fu n) a0 a1 a2 (a3 + (-1 : Int32)) w8
      else
        some (some (.int a3), w8))))
def M_X7_highest (fu : Nat) (a0 : Nat) (a1 : Int32) (a2 : Int32) (w : XW) : Option XO :=
  (gR w a0 6 0).bind fun r10 =>
  cI (U_X0_isWalker fu [.ref r10, .int a1] w) fun x12 w11 =>
  (if x12 = 0 then
    some (some (.int (-1 : Int32)), w11)
  else
    (F_X7_highest fu fu) a0 a1 a2 (9 : Int32) w11)
def U_X7_highest (fu : Nat) : Orc := fun as w => match as with
  | [.ref a0, .int a1, .int a2] => if isO w a0 6 = true then M_X7_highest fu a0 a1 a2 w else none
  | _ => none
def K_X7_highest (fu : Nat) (n : Nat) : Kont := fun pc ls st w => bif pc == 16 then ((xr ls 0).bind fun a0 => (xi ls 1).bind fun a1 => (xi ls 2).bind fun a2 => (xi ls 3).bind fun a3 => skN st ((F_X7_highest fu n) a0 a1 a2 a3 w)) else none
set_option maxRecDepth 100000 in
set_option maxHeartbeats 4000000 in
theorem E_X7_highest_16 (fu : Nat) (n : Nat) (a0 : Nat) (a1 : Int32) (a2 : Int32) (a3 : Int32) (w : XW) : (F_X7_highest fu (n + 1)) a0 a1 a2 a3 w = ev T_X7_highest (op_X7_highest fu) [16] (K_X7_highest fu n) 32 16 [(0, .ref a0), (1, .int a1), (2, .int a2), (3, .int a3)] [] w := by
  rfl
set_option maxRecDepth 100000 in
set_option maxHeartbeats 4000000 in
theorem E_X7_highest (fu : Nat) (a0 : Nat) (a1 : Int32) (a2 : Int32) (w : XW) : M_X7_highest fu a0 a1 a2 w = ev T_X7_highest (op_X7_highest fu) [16] (K_X7_highest fu fu) 32 0 (lv_args 0 [.ref a0, .int a1, .int a2]) [] w := by
  rfl
theorem D_X7_highest (fu : Nat) : DS T_X7_highest (op_X7_highest fu) [16] 32 (K_X7_highest fu) := by
  refine ⟨fun pc ls st w => c_none (b_none fun _ => b_none fun _ => b_none fun _ => b_none fun _ => skN_none rfl) (rfl), fun n pc ls st w o h => ?_⟩
  rcases c_some h with ⟨rfl, h⟩ | h
  · obtain ⟨a0, h0, h⟩ := some_of h; obtain ⟨a1, h1, h⟩ := some_of h; obtain ⟨a2, h2, h⟩ := some_of h; obtain ⟨a3, h3, h⟩ := some_of h;
    obtain ⟨e, g⟩ := skN_of h
    subst e
    exact ⟨[(0, .ref a0), (1, .int a1), (2, .int a2), (3, .int a3)], cons_all (xr_of h0) (cons_all (xi_of h1) (cons_all (xi_of h2) (cons_all (xi_of h3) (nil_all)))), (E_X7_highest_16 fu n a0 a1 a2 a3 w).symm.trans g⟩
  · cases h
theorem H_X7_highest (fu : Nat) : ∀ as w o, U_X7_highest fu as w = some o → ∃ a r, as = .ref a :: r ∧ r.length = 2 ∧ isO w a 6 = true := by
  intro as w o h
  unfold U_X7_highest at h
  split at h
  next =>
    split at h
    next hh => exact ⟨_, _, rfl, rfl, hh⟩
    next => cases h
  next => cases h
set_option maxRecDepth 100000 in
set_option maxHeartbeats 4000000 in
theorem S_X7_highest (fu : Nat) {l : Launch} {D : va_G} {cA : Nat → ClassId} {base b : Nat} : CS l D cA base b 4 y_X7_highest prog_1_method_14_code 4 (some .int) (U_X7_highest fu) ∧ OM (U_X7_highest fu) := by
  refine CS_of (d := 3) (y := y_X7_highest) (cc := prog_1_method_14_code) (nL := 4) (ret := (some .int)) (F := U_X7_highest fu) (fl := fl_BrookStones) (nl := nl_BrookStones) (kl := []) (k2 := []) (mv := [(158, 2, 1, (U_X0_isWalker fu)), (164, 1, 1, (U_X0_filled fu)), (168, 3, 1, (U_X0_reachOf fu)), (172, 4, 1, (U_X0_isCrossed fu))]) (ms := []) (mi := []) (ini := false) hI_w fl_BrookStones_ok nl_BrookStones_ok nil_all nil_all
    (cons_all (⟨⟨show (1 : Nat) ≠ 3 by decide, y_X0_isWalker, prog_2_method_6_code, 2, (some .boolean), 1, "BrookStones", 0, TX0, 15, 1, (S_X0_isWalker fu (l := l) (D := D) (cA := cA) (base := base) (b := b)).1, by decide, by decide, rfl, H_X0_isWalker fu, rfl, mi_X0_isWalker.1, mi_X0_isWalker.2.1, mi_X0_isWalker.2.2.1, mi_X0_isWalker.2.2.2.1, mi_X0_isWalker.2.2.2.2, Or.inr (tblN_of (i := 346) rfl rfl)⟩, (S_X0_isWalker fu (l := l) (D := D) (cA := cA) (base := base) (b := b)).2⟩) (cons_all (⟨⟨show (1 : Nat) ≠ 3 by decide, y_X0_filled, prog_2_method_17_code, 1, (some .int), 2, "BrookStones", 0, TX0, 15, 0, (S_X0_filled fu (l := l) (D := D) (cA := cA) (base := base) (b := b)).1, by decide, by decide, rfl, H_X0_filled fu, rfl, mi_X0_filled.1, mi_X0_filled.2.1, mi_X0_filled.2.2.1, mi_X0_filled.2.2.2.1, mi_X0_filled.2.2.2.2, Or.inr (tblN_of (i := 354) rfl rfl)⟩, (S_X0_filled fu (l := l) (D := D) (cA := cA) (base := base) (b := b)).2⟩) (cons_all (⟨⟨show (1 : Nat) ≠ 3 by decide, y_X0_reachOf, prog_2_method_9_code, 3, (some .int), 1, "BrookStones", 0, TX0, 15, 2, (S_X0_reachOf fu (l := l) (D := D) (cA := cA) (base := base) (b := b)).1, by decide, by decide, rfl, H_X0_reachOf fu, rfl, mi_X0_reachOf.1, mi_X0_reachOf.2.1, mi_X0_reachOf.2.2.1, mi_X0_reachOf.2.2.2.1, mi_X0_reachOf.2.2.2.2, Or.inr (tblN_of (i := 362) rfl rfl)⟩, (S_X0_reachOf fu (l := l) (D := D) (cA := cA) (base := base) (b := b)).2⟩) (cons_all (⟨⟨show (1 : Nat) ≠ 3 by decide, y_X0_isCrossed, prog_2_method_20_code, 4, (some .boolean), 3, "BrookStones", 0, TX0, 15, 3, (S_X0_isCrossed fu (l := l) (D := D) (cA := cA) (base := base) (b := b)).1, by decide, by decide, rfl, H_X0_isCrossed fu, rfl, mi_X0_isCrossed.1, mi_X0_isCrossed.2.1, mi_X0_isCrossed.2.2.1, mi_X0_isCrossed.2.2.2.1, mi_X0_isCrossed.2.2.2.2, Or.inr (tblN_of (i := 366) rfl rfl)⟩, (S_X0_isCrossed fu (l := l) (D := D) (cA := cA) (base := base) (b := b)).2⟩) (nil_all)))))
    (nil_all)
    (nil_all)
    (T := T_X7_highest) (by decide +kernel) (cut := [16]) (N := 32) (D_X7_highest fu) (by decide +kernel) (fun h => absurd h (by decide)) (fun as w o h => ?_)
  unfold U_X7_highest at h
  split at h
  next =>
    split at h
    next => exact ⟨Nat.le_of_ble_eq_true rfl, fu, (E_X7_highest fu _ _ _ w).symm.trans h⟩
    next => cases h
  next => cases h
def T_X6_isStride : List (Nat × Instr) := [(0, .iload_n 2), (1, .iload_n 1), (2, .isub), (3, .aload_n 0), (4, .getfield 43), (7, .iload_n 1), (8, .ishr), (9, .iconst 1), (10, .iand), (11, .isub), (12, .aload_n 0), (13, .getfield 43), (16, .iload_n 2), (17, .ishr), (18, .iconst 1), (19, .iand), (20, .isub), (21, .istore_n 3), (22, .aload_n 0), (23, .getfield 37), (26, .iload_n 1), (27, .invokestatic 62), (30, .ifCond .eq 26), (33, .aload_n 0), (34, .getfield 37), (37, .iload_n 2), (38, .invokestatic 62), (41, .ifCond .eq 15), (44, .iload_n 3), (45, .aload_n 0), (46, .getfield 18), (49, .if_icmp .gt 7), (52, .iconst 1), (53, .goto 4), (56, .iconst 0), (57, .ireturn)]
def op_X6_isStride (fu : Nat) : Nat → Kont → XL → List Value → XW → Instr → Option XO := opK 4 (rzOf (some .boolean)) fl_BrookStones_Way [] [] [] [] [(62, 2, 1, (U_X7_has fu))] []
def M_X6_isStride (fu : Nat) (a0 : Nat) (a1 : Int32) (a2 : Int32) (w : XW) : Option XO :=
  (gI w a0 5 3).bind fun x1 =>
  (gI w a0 5 3).bind fun x2 =>
  (gI w a0 5 2).bind fun x3 =>
  cI (U_X7_has fu [.int x3, .int a1] w) fun x5 w4 =>
  (if x5 = 0 then
    retZ (0 : Int32) w4
  else
    (gI w4 a0 5 2).bind fun x6 =>
    cI (U_X7_has fu [.int x6, .int a2] w4) fun x8 w7 =>
    (if x8 = 0 then
      retZ (0 : Int32) w7
    else
      (gI w7 a0 5 5).bind fun x9 =>
      (if x9 < (((a2 - a1) - ((x1 >>> (a1 &&& 31)) &&& (1 : Int32))) - ((x2 >>> (a2 &&& 31)) &&& (1 : Int32))) then
        retZ (0 : Int32) w7
      else
        retZ (1 : Int32) w7)))
def U_X6_isStride (fu : Nat) : Orc := fun as w => match as with
  | [.ref a0, .int a1, .int a2] => if isO w a0 5 = true then M_X6_isStride fu a0 a1 a2 w else none
  | _ => none
def K_X6_isStride (fu : Nat) (n : Nat) : Kont := fun pc ls st w => none
set_option maxRecDepth 100000 in
set_option maxHeartbeats 4000000 in
theorem E_X6_isStride (fu : Nat) (a0 : Nat) (a1 : Int32) (a2 : Int32) (w : XW) : M_X6_isStride fu a0 a1 a2 w = ev T_X6_isStride (op_X6_isStride fu) [] (K_X6_isStride fu fu) 38 0 (lv_args 0 [.ref a0, .int a1, .int a2]) [] w := by
  rfl
theorem D_X6_isStride (fu : Nat) : DS T_X6_isStride (op_X6_isStride fu) [] 38 (K_X6_isStride fu) := by
  refine ⟨fun pc ls st w => rfl, fun n pc ls st w o h => ?_⟩
  cases h
theorem H_X6_isStride (fu : Nat) : ∀ as w o, U_X6_isStride fu as w = some o → ∃ a r, as = .ref a :: r ∧ r.length = 2 ∧ isO w a 5 = true := by
  intro as w o h
  unfold U_X6_isStride at h
  split at h
  next =>
    split at h
    next hh => exact ⟨_, _, rfl, rfl, hh⟩
    next => cases h
  next => cases h
set_option maxRecDepth 100000 in
set_option maxHeartbeats 4000000 in
theorem S_X6_isStride (fu : Nat) {l : Launch} {D : va_G} {cA : Nat → ClassId} {base b : Nat} : CS l D cA base b 2 y_X6_isStride prog_8_method_5_code 4 (some .boolean) (U_X6_isStride fu) ∧ OM (U_X6_isStride fu) := by
  refine CS_of (d := 1) (y := y_X6_isStride) (cc := prog_8_method_5_code) (nL := 4) (ret := (some .boolean)) (F := U_X6_isStride fu) (fl := fl_BrookStones_Way) (nl := []) (kl := []) (k2 := []) (mv := []) (ms := [(62, 2, 1, (U_X7_has fu))]) (mi := []) (ini := false) hI_w fl_BrookStones_Way_ok nil_all nil_all nil_all
    (nil_all)
    (cons_all (⟨Or.inl ⟨show (1 : Nat) ≠ 3 by decide, y_X7_has, prog_1_method_47_code, 2, (some .boolean), 1, "BrookStones", (S_X7_has fu (l := l) (D := D) (cA := cA) (base := base) (b := b)).1, by decide, by decide, mi_X7_has.1, mi_X7_has.2.1, mi_X7_has.2.2.1, mi_X7_has.2.2.2, Or.inr (tblN_of (i := 396) rfl rfl)⟩, (S_X7_has fu (l := l) (D := D) (cA := cA) (base := base) (b := b)).2⟩) (nil_all))
    (nil_all)
    (T := T_X6_isStride) (by decide +kernel) (cut := []) (N := 38) (D_X6_isStride fu) (by decide +kernel) (fun h => absurd h (by decide)) (fun as w o h => ?_)
  unfold U_X6_isStride at h
  split at h
  next =>
    split at h
    next => exact ⟨Nat.le_of_ble_eq_true rfl, fu, (E_X6_isStride fu _ _ _ w).symm.trans h⟩
    next => cases h
  next => cases h
def T_X6_fewestFrom : List (Nat × Instr) := [(0, .bipush 99), (2, .istore_n 2), (3, .iload_n 1), (4, .iconst 1), (5, .iadd), (6, .istore_n 3), (7, .iload_n 3), (8, .aload_n 0), (9, .getfield 27), (12, .if_icmp .gt 31), (15, .aload_n 0), (16, .iload_n 1), (17, .iload_n 3), (18, .invokevirtual 52), (21, .ifCond .eq 16), (24, .iload_n 2), (25, .aload_n 0), (26, .getfield 15), (29, .iload_n 3), (30, .iaload), (31, .iconst 1), (32, .iadd), (33, .invokestatic 56), (36, .istore_n 2), (37, .iinc 3 1), (40, .goto (-33)), (43, .iload_n 2), (44, .ireturn)]
def op_X6_fewestFrom (fu : Nat) : Nat → Kont → XL → List Value → XW → Instr → Option XO := opK 4 (rzOf (some .int)) fl_BrookStones_Way [] [] [] [(52, 3, 1, (U_X6_isStride fu))] [(56, 2, 3, oMin)] []
def F_X6_fewestFrom (fu : Nat) : Nat → (Nat → Int32 → Int32 → Int32 → XW → Option XO)
  | 0 => fun _ _ _ _ _ => none
  | n + 1 => (fun a0 a1 a2 a3 w =>
    (gI w a0 5 4).bind fun x1 =>
    (if x1 < a3 then
      some (some (.int a2), w)
    else
      cI (U_X6_isStride fu [.ref a0, .int a1, .int a3] w) fun x3 w2 =>
      (if x3 = 0 then
        (F_X6_fewestFrom fu n) a0 a1 a2 (a3 + (1 : Int32)) w2
      else
        (gR w2 a0 5 1).bind fun r4 =>
        (aI w2 r4 a3).bind fun x5 =>
        cI (oMin [.int a2, .int (x5 + (1 : Int32))] w2) fun x7 w6 =>
        (F_X6_fewestFrom fu n) a0 a1 x7 (a3 + (1 : Int32)) w6)))
def M_X6_fewestFrom (fu : Nat) (a0 : Nat) (a1 : Int32) (w : XW) : Option XO :=
  (F_X6_fewestFrom fu fu) a0 a1 (99 : Int32) (a1 + (1 : Int32)) w
def U_X6_fewestFrom (fu : Nat) : Orc := fun as w => match as with
  | [.ref a0, .int a1] => if isO w a0 5 = true then M_X6_fewestFrom fu a0 a1 w else none
  | _ => none
def K_X6_fewestFrom (fu : Nat) (n : Nat) : Kont := fun pc ls st w => bif pc == 7 then ((xr ls 0).bind fun a0 => (xi ls 1).bind fun a1 => (xi ls 2).bind fun a2 => (xi ls 3).bind fun a3 => skN st ((F_X6_fewestFrom fu n) a0 a1 a2 a3 w)) else none
set_option maxRecDepth 100000 in
set_option maxHeartbeats 4000000 in
theorem E_X6_fewestFrom_7 (fu : Nat) (n : Nat) (a0 : Nat) (a1 : Int32) (a2 : Int32) (a3 : Int32) (w : XW) : (F_X6_fewestFrom fu (n + 1)) a0 a1 a2 a3 w = ev T_X6_fewestFrom (op_X6_fewestFrom fu) [7] (K_X6_fewestFrom fu n) 30 7 [(0, .ref a0), (1, .int a1), (2, .int a2), (3, .int a3)] [] w := by
  rfl
set_option maxRecDepth 100000 in
set_option maxHeartbeats 4000000 in
theorem E_X6_fewestFrom (fu : Nat) (a0 : Nat) (a1 : Int32) (w : XW) : M_X6_fewestFrom fu a0 a1 w = ev T_X6_fewestFrom (op_X6_fewestFrom fu) [7] (K_X6_fewestFrom fu fu) 30 0 (lv_args 0 [.ref a0, .int a1]) [] w := by
  rfl
theorem D_X6_fewestFrom (fu : Nat) : DS T_X6_fewestFrom (op_X6_fewestFrom fu) [7] 30 (K_X6_fewestFrom fu) := by
  refine ⟨fun pc ls st w => c_none (b_none fun _ => b_none fun _ => b_none fun _ => b_none fun _ => skN_none rfl) (rfl), fun n pc ls st w o h => ?_⟩
  rcases c_some h with ⟨rfl, h⟩ | h
  · obtain ⟨a0, h0, h⟩ := some_of h; obtain ⟨a1, h1, h⟩ := some_of h; obtain ⟨a2, h2, h⟩ := some_of h; obtain ⟨a3, h3, h⟩ := some_of h;
    obtain ⟨e, g⟩ := skN_of h
    subst e
    exact ⟨[(0, .ref a0), (1, .int a1), (2, .int a2), (3, .int a3)], cons_all (xr_of h0) (cons_all (xi_of h1) (cons_all (xi_of h2) (cons_all (xi_of h3) (nil_all)))), (E_X6_fewestFrom_7 fu n a0 a1 a2 a3 w).symm.trans g⟩
  · cases h
theorem H_X6_fewestFrom (fu : Nat) : ∀ as w o, U_X6_fewestFrom fu as w = some o → ∃ a r, as = .ref a :: r ∧ r.length = 1 ∧ isO w a 5 = true := by
  intro as w o h
  unfold U_X6_fewestFrom at h
  split at h
  next =>
    split at h
    next hh => exact ⟨_, _, rfl, rfl, hh⟩
    next => cases h
  next => cases h
set_option maxRecDepth 100000 in
set_option maxHeartbeats 4000000 in
theorem S_X6_fewestFrom (fu : Nat) {l : Launch} {D : va_G} {cA : Nat → ClassId} {base b : Nat} : CS l D cA base b 3 y_X6_fewestFrom prog_8_method_3_code 4 (some .int) (U_X6_fewestFrom fu) ∧ OM (U_X6_fewestFrom fu) := by
  refine CS_of (d := 2) (y := y_X6_fewestFrom) (cc := prog_8_method_3_code) (nL := 4) (ret := (some .int)) (F := U_X6_fewestFrom fu) (fl := fl_BrookStones_Way) (nl := []) (kl := []) (k2 := []) (mv := [(52, 3, 1, (U_X6_isStride fu))]) (ms := [(56, 2, 3, oMin)]) (mi := []) (ini := false) hI_w fl_BrookStones_Way_ok nil_all nil_all nil_all
    (cons_all (⟨⟨show (1 : Nat) ≠ 3 by decide, y_X6_isStride, prog_8_method_5_code, 4, (some .boolean), 2, "BrookStones", 5, TX6, 6, 2, (S_X6_isStride fu (l := l) (D := D) (cA := cA) (base := base) (b := b)).1, by decide, by decide, rfl, H_X6_isStride fu, rfl, mi_X6_isStride.1, mi_X6_isStride.2.1, mi_X6_isStride.2.2.1, mi_X6_isStride.2.2.2.1, mi_X6_isStride.2.2.2.2, Or.inl (tblG_of (i := 392) rfl rfl)⟩, (S_X6_isStride fu (l := l) (D := D) (cA := cA) (base := base) (b := b)).2⟩) (nil_all))
    (cons_all (⟨Or.inr (Or.inr (Or.inr ⟨rfl, rfl, rfl, tblG_of (i := 397) rfl rfl, tblG_of (i := 276) rfl rfl, tblG_of (i := 10) rfl rfl, tblG_of (i := 277) rfl rfl⟩)), om_min⟩) (nil_all))
    (nil_all)
    (T := T_X6_fewestFrom) (by decide +kernel) (cut := [7]) (N := 30) (D_X6_fewestFrom fu) (by decide +kernel) (fun h => absurd h (by decide)) (fun as w o h => ?_)
  unfold U_X6_fewestFrom at h
  split at h
  next =>
    split at h
    next => exact ⟨Nat.le_of_ble_eq_true rfl, fu, (E_X6_fewestFrom fu _ _ w).symm.trans h⟩
    next => cases h
  next => cases h
def T_X6_firstBehind : List (Nat × Instr) := [(0, .iload_n 1), (1, .iconst 1), (2, .iadd), (3, .istore_n 2), (4, .iload_n 2), (5, .aload_n 0), (6, .getfield 27), (9, .if_icmp .ge 37), (12, .aload_n 0), (13, .iload_n 1), (14, .iload_n 2), (15, .invokevirtual 52), (18, .ifCond .eq 22), (21, .aload_n 0), (22, .getfield 15), (25, .iload_n 2), (26, .iaload), (27, .aload_n 0), (28, .getfield 15), (31, .iload_n 1), (32, .iaload), (33, .iconst 1), (34, .isub), (35, .if_icmp .ne 5), (38, .iload_n 2), (39, .ireturn), (40, .iinc 2 1), (43, .goto (-39)), (46, .aload_n 0), (47, .getfield 27), (50, .ireturn)]
def op_X6_firstBehind (fu : Nat) : Nat → Kont → XL → List Value → XW → Instr → Option XO := opK 3 (rzOf (some .int)) fl_BrookStones_Way [] [] [] [(52, 3, 1, (U_X6_isStride fu))] [] []
def F_X6_firstBehind (fu : Nat) : Nat → (Nat → Int32 → Int32 → XW → Option XO)
  | 0 => fun _ _ _ _ => none
  | n + 1 => (fun a0 a1 a2 w =>
    (gI w a0 5 4).bind fun x1 =>
    (if a2 < x1 then
      cI (U_X6_isStride fu [.ref a0, .int a1, .int a2] w) fun x4 w3 =>
      (if x4 = 0 then
        (F_X6_firstBehind fu n) a0 a1 (a2 + (1 : Int32)) w3
      else
        (gR w3 a0 5 1).bind fun r5 =>
        (aI w3 r5 a2).bind fun x6 =>
        (gR w3 a0 5 1).bind fun r7 =>
        (aI w3 r7 a1).bind fun x8 =>
        (if x6 = (x8 - (1 : Int32)) then
          some (some (.int a2), w3)
        else
          (F_X6_firstBehind fu n) a0 a1 (a2 + (1 : Int32)) w3))
    else
      (gI w a0 5 4).bind fun x2 =>
      some (some (.int x2), w)))
def M_X6_firstBehind (fu : Nat) (a0 : Nat) (a1 : Int32) (w : XW) : Option XO :=
  (F_X6_firstBehind fu fu) a0 a1 (a1 + (1 : Int32)) w
def U_X6_firstBehind (fu : Nat) : Orc := fun as w => match as with
  | [.ref a0, .int a1] => if isO w a0 5 = true then M_X6_firstBehind fu a0 a1 w else none
  | _ => none
def K_X6_firstBehind (fu : Nat) (n : Nat) : Kont := fun pc ls st w => bif pc == 4 then ((xr ls 0).bind fun a0 => (xi ls 1).bind fun a1 => (xi ls 2).bind fun a2 => skN st ((F_X6_firstBehind fu n) a0 a1 a2 w)) else none
set_option maxRecDepth 100000 in
set_option maxHeartbeats 4000000 in
theorem E_X6_firstBehind_4 (fu : Nat) (n : Nat) (a0 : Nat) (a1 : Int32) (a2 : Int32) (w : XW) : (F_X6_firstBehind fu (n + 1)) a0 a1 a2 w = ev T_X6_firstBehind (op_X6_firstBehind fu) [4] (K_X6_firstBehind fu n) 33 4 [(0, .ref a0), (1, .int a1), (2, .int a2)] [] w := by
  rfl
set_option maxRecDepth 100000 in
set_option maxHeartbeats 4000000 in
theorem E_X6_firstBehind (fu : Nat) (a0 : Nat) (a1 : Int32) (w : XW) : M_X6_firstBehind fu a0 a1 w = ev T_X6_firstBehind (op_X6_firstBehind fu) [4] (K_X6_firstBehind fu fu) 33 0 (lv_args 0 [.ref a0, .int a1]) [] w := by
  rfl
theorem D_X6_firstBehind (fu : Nat) : DS T_X6_firstBehind (op_X6_firstBehind fu) [4] 33 (K_X6_firstBehind fu) := by
  refine ⟨fun pc ls st w => c_none (b_none fun _ => b_none fun _ => b_none fun _ => skN_none rfl) (rfl), fun n pc ls st w o h => ?_⟩
  rcases c_some h with ⟨rfl, h⟩ | h
  · obtain ⟨a0, h0, h⟩ := some_of h; obtain ⟨a1, h1, h⟩ := some_of h; obtain ⟨a2, h2, h⟩ := some_of h;
    obtain ⟨e, g⟩ := skN_of h
    subst e
    exact ⟨[(0, .ref a0), (1, .int a1), (2, .int a2)], cons_all (xr_of h0) (cons_all (xi_of h1) (cons_all (xi_of h2) (nil_all))), (E_X6_firstBehind_4 fu n a0 a1 a2 w).symm.trans g⟩
  · cases h
theorem H_X6_firstBehind (fu : Nat) : ∀ as w o, U_X6_firstBehind fu as w = some o → ∃ a r, as = .ref a :: r ∧ r.length = 1 ∧ isO w a 5 = true := by
  intro as w o h
  unfold U_X6_firstBehind at h
  split at h
  next =>
    split at h
    next hh => exact ⟨_, _, rfl, rfl, hh⟩
    next => cases h
  next => cases h
set_option maxRecDepth 100000 in
set_option maxHeartbeats 4000000 in
theorem S_X6_firstBehind (fu : Nat) {l : Launch} {D : va_G} {cA : Nat → ClassId} {base b : Nat} : CS l D cA base b 3 y_X6_firstBehind prog_8_method_4_code 3 (some .int) (U_X6_firstBehind fu) ∧ OM (U_X6_firstBehind fu) := by
  refine CS_of (d := 2) (y := y_X6_firstBehind) (cc := prog_8_method_4_code) (nL := 3) (ret := (some .int)) (F := U_X6_firstBehind fu) (fl := fl_BrookStones_Way) (nl := []) (kl := []) (k2 := []) (mv := [(52, 3, 1, (U_X6_isStride fu))]) (ms := []) (mi := []) (ini := false) hI_w fl_BrookStones_Way_ok nil_all nil_all nil_all
    (cons_all (⟨⟨show (1 : Nat) ≠ 3 by decide, y_X6_isStride, prog_8_method_5_code, 4, (some .boolean), 2, "BrookStones", 5, TX6, 6, 2, (S_X6_isStride fu (l := l) (D := D) (cA := cA) (base := base) (b := b)).1, by decide, by decide, rfl, H_X6_isStride fu, rfl, mi_X6_isStride.1, mi_X6_isStride.2.1, mi_X6_isStride.2.2.1, mi_X6_isStride.2.2.2.1, mi_X6_isStride.2.2.2.2, Or.inl (tblG_of (i := 392) rfl rfl)⟩, (S_X6_isStride fu (l := l) (D := D) (cA := cA) (base := base) (b := b)).2⟩) (nil_all))
    (nil_all)
    (nil_all)
    (T := T_X6_firstBehind) (by decide +kernel) (cut := [4]) (N := 33) (D_X6_firstBehind fu) (by decide +kernel) (fun h => absurd h (by decide)) (fun as w o h => ?_)
  unfold U_X6_firstBehind at h
  split at h
  next =>
    split at h
    next => exact ⟨Nat.le_of_ble_eq_true rfl, fu, (E_X6_firstBehind fu _ _ w).symm.trans h⟩
    next => cases h
  next => cases h
def T_X6_find : List (Nat × Instr) := [(0, .aload_n 0), (1, .iload_n 2), (2, .putfield 18), (5, .aload_n 0), (6, .aload_n 1), (7, .getfield 22), (10, .iconst 1), (11, .iadd), (12, .putfield 27), (15, .aload_n 0), (16, .iconst 1), (17, .aload_n 1), (18, .aload_n 1), (19, .getfield 30), (22, .invokevirtual 33), (25, .iconst 1), (26, .ishl), (27, .ior), (28, .iconst 1), (29, .aload_n 0), (30, .getfield 27), (33, .ishl), (34, .ior), (35, .putfield 37), (38, .aload_n 0), (39, .aload_n 1), (40, .iconst 2), (41, .invokevirtual 40), (44, .iconst 1), (45, .ishl), (46, .putfield 43), (49, .aload_n 0), (50, .getfield 15), (53, .aload_n 0), (54, .getfield 27), (57, .iconst 0), (58, .iastore), (59, .aload_n 0), (60, .getfield 27), (63, .iconst 1), (64, .isub), (65, .istore_n 3), (66, .iload_n 3), (67, .ifCond .lt 20), (70, .aload_n 0), (71, .getfield 15), (74, .iload_n 3), (75, .aload_n 0), (76, .iload_n 3), (77, .invokevirtual 46), (80, .iastore), (81, .iinc 3 (-1)), (84, .goto (-18)), (87, .aload_n 0), (88, .getfield 15), (91, .iconst 0), (92, .iaload), (93, .bipush 99), (95, .if_icmp .lt 6), (98, .bipush (-9)), (100, .ireturn), (101, .iconst 0), (102, .istore_n 3), (103, .iconst 0), (104, .istore 4), (106, .iload 4), (108, .aload_n 0), (109, .getfield 15), (112, .iconst 0), (113, .iaload), (114, .if_icmp .ge 25), (117, .aload_n 0), (118, .iload_n 3), (119, .invokevirtual 49), (122, .istore_n 3), (123, .aload_n 0), (124, .getfield 9), (127, .iload 4), (129, .iload_n 3), (130, .iconst 1), (131, .isub), (132, .iastore), (133, .iinc 4 1), (136, .goto (-30)), (139, .aload_n 0), (140, .getfield 15), (143, .iconst 0), (144, .iaload), (145, .ireturn)]
def op_X6_find (fu : Nat) : Nat → Kont → XL → List Value → XW → Instr → Option XO := opK 5 (rzOf (some .int)) fl_BrookStones_Way [] [] [] [(33, 2, 1, (U_X0_dry fu)), (40, 2, 1, (U_X0_ofKind fu)), (46, 2, 1, (U_X6_fewestFrom fu)), (49, 2, 1, (U_X6_firstBehind fu))] [] []
def F_X6_find (fu : Nat) : Nat → (Nat → Int32 → XW → Option XO) × (Nat → Int32 → Int32 → XW → Option XO)
  | 0 => (fun _ _ _ => none, fun _ _ _ _ => none)
  | n + 1 => ((fun a0 a3 w =>
    (if a3 < 0 then
      (gR w a0 5 1).bind fun r1 =>
      (aI w r1 (0 : Int32)).bind fun x2 =>
      (if x2 < (99 : Int32) then
        (F_X6_find fu n).2 a0 (0 : Int32) (0 : Int32) w
      else
        some (some (.int (-9 : Int32)), w))
    else
      (gR w a0 5 1).bind fun r3 =>
      cI (U_X6_fewestFrom fu [.ref a0, .int a3] w) fun x5 w4 =>
      (sI w4 r3 a3 x5).bind fun w6 =>
      (F_X6_find fu n).1 a0 (a3 + (-1 : Int32)) w6)),
   (fun a0 a3 a4 w =>
    (gR w a0 5 1).bind fun r7 =>
    (aI w r7 (0 : Int32)).bind fun x8 =>
    (if a4 < x8 then
      cI (U_X6_firstBehind fu [.ref a0, .int a3] w) fun x12 w11 =>
      (gR w11 a0 5 0).bind fun r13 =>
      (sI w11 r13 a4 (x12 - (1 : Int32))).bind fun w14 =>
      (F_X6_find fu n).2 a0 x12 (a4 + (1 : Int32)) w14
    else
      (gR w a0 5 1).bind fun r9 =>
      (aI w r9 (0 : Int32)).bind fun x10 =>
      some (some (.int x10), w))))
def M_X6_find (fu : Nat) (a0 : Nat) (a1 : Nat) (a2 : Int32) (w : XW) : Option XO :=
  (pF w a0 5 5 (.int a2)).bind fun w15 =>
  (gI w15 a1 0 8).bind fun x16 =>
  (pF w15 a0 5 4 (.int (x16 + (1 : Int32)))).bind fun w17 =>
  (gI w17 a1 0 11).bind fun x18 =>
  cI (U_X0_dry fu [.ref a1, .int x18] w17) fun x20 w19 =>
  (gI w19 a0 5 4).bind fun x21 =>
  (pF w19 a0 5 2 (.int (((1 : Int32) ||| (x20 <<< ((1 : Int32) &&& 31))) ||| ((1 : Int32) <<< (x21 &&& 31))))).bind fun w22 =>
  cI (U_X0_ofKind fu [.ref a1, .int (2 : Int32)] w22) fun x24 w23 =>
  (pF w23 a0 5 3 (.int (x24 <<< ((1 : Int32) &&& 31)))).bind fun w25 =>
  (gR w25 a0 5 1).bind fun r26 =>
  (gI w25 a0 5 4).bind fun x27 =>
  (sI w25 r26 x27 (0 : Int32)).bind fun w28 =>
  (gI w28 a0 5 4).bind fun x29 =>
  (F_X6_find fu fu).1 a0 (x29 - (1 : Int32)) w28
def U_X6_find (fu : Nat) : Orc := fun as w => match as with
  | [.ref a0, .ref a1, .int a2] => if isO w a0 5 = true then M_X6_find fu a0 a1 a2 w else none
  | _ => none
def K_X6_find (fu : Nat) (n : Nat) : Kont := fun pc ls st w => bif pc == 66 then ((xr ls 0).bind fun a0 => (xi ls 3).bind fun a3 => skN st ((F_X6_find fu n).1 a0 a3 w)) else bif pc == 106 then ((xr ls 0).bind fun a0 => (xi ls 3).bind fun a3 => (xi ls 4).bind fun a4 => skN st ((F_X6_find fu n).2 a0 a3 a4 w)) else none
set_option maxRecDepth 100000 in
set_option maxHeartbeats 4000000 in
theorem E_X6_find_66 (fu : Nat) (n : Nat) (a0 : Nat) (a3 : Int32) (w : XW) : (F_X6_find fu (n + 1)).1 a0 a3 w = ev T_X6_find (op_X6_find fu) [66, 106] (K_X6_find fu n) 91 66 [(0, .ref a0), (3, .int a3)] [] w := by
  rfl
set_option maxRecDepth 100000 in
set_option maxHeartbeats 4000000 in
theorem E_X6_find_106 (fu : Nat) (n : Nat) (a0 : Nat) (a3 : Int32) (a4 : Int32) (w : XW) : (F_X6_find fu (n + 1)).2 a0 a3 a4 w = ev T_X6_find (op_X6_find fu) [66, 106] (K_X6_find fu n) 91 106 [(0, .ref a0), (3, .int a3), (4, .int a4)] [] w := by
  rfl
set_option maxRecDepth 100000 in
set_option maxHeartbeats 4000000 in
theorem E_X6_find (fu : Nat) (a0 : Nat) (a1 : Nat) (a2 : Int32) (w : XW) : M_X6_find fu a0 a1 a2 w = ev T_X6_find (op_X6_find fu) [66, 106] (K_X6_find fu fu) 91 0 (lv_args 0 [.ref a0, .ref a1, .int a2]) [] w := by
  rfl
theorem D_X6_find (fu : Nat) : DS T_X6_find (op_X6_find fu) [66, 106] 91 (K_X6_find fu) := by
  refine ⟨fun pc ls st w => c_none (b_none fun _ => b_none fun _ => skN_none rfl) (c_none (b_none fun _ => b_none fun _ => b_none fun _ => skN_none rfl) (rfl)), fun n pc ls st w o h => ?_⟩
  rcases c_some h with ⟨rfl, h⟩ | h
  · obtain ⟨a0, h0, h⟩ := some_of h; obtain ⟨a3, h3, h⟩ := some_of h;
    obtain ⟨e, g⟩ := skN_of h
    subst e
    exact ⟨[(0, .ref a0), (3, .int a3)], cons_all (xr_of h0) (cons_all (xi_of h3) (nil_all)), (E_X6_find_66 fu n a0 a3 w).symm.trans g⟩
  rcases c_some h with ⟨rfl, h⟩ | h
  · obtain ⟨a0, h0, h⟩ := some_of h; obtain ⟨a3, h3, h⟩ := some_of h; obtain ⟨a4, h4, h⟩ := some_of h;
    obtain ⟨e, g⟩ := skN_of h
    subst e
    exact ⟨[(0, .ref a0), (3, .int a3), (4, .int a4)], cons_all (xr_of h0) (cons_all (xi_of h3) (cons_all (xi_of h4) (nil_all))), (E_X6_find_106 fu n a0 a3 a4 w).symm.trans g⟩
  · cases h
theorem H_X6_find (fu : Nat) : ∀ as w o, U_X6_find fu as w = some o → ∃ a r, as = .ref a :: r ∧ r.length = 2 ∧ isO w a 5 = true := by
  intro as w o h
  unfold U_X6_find at h
  split at h
  next =>
    split at h
    next hh => exact ⟨_, _, rfl, rfl, hh⟩
    next => cases h
  next => cases h
set_option maxRecDepth 100000 in
set_option maxHeartbeats 4000000 in
theorem S_X6_find (fu : Nat) {l : Launch} {D : va_G} {cA : Nat → ClassId} {base b : Nat} : CS l D cA base b 4 y_X6_find prog_8_method_2_code 5 (some .int) (U_X6_find fu) ∧ OM (U_X6_find fu) := by
  refine CS_of (d := 3) (y := y_X6_find) (cc := prog_8_method_2_code) (nL := 5) (ret := (some .int)) (F := U_X6_find fu) (fl := fl_BrookStones_Way) (nl := []) (kl := []) (k2 := []) (mv := [(33, 2, 1, (U_X0_dry fu)), (40, 2, 1, (U_X0_ofKind fu)), (46, 2, 1, (U_X6_fewestFrom fu)), (49, 2, 1, (U_X6_firstBehind fu))]) (ms := []) (mi := []) (ini := false) hI_w fl_BrookStones_Way_ok nil_all nil_all nil_all
    (cons_all (⟨⟨show (1 : Nat) ≠ 3 by decide, y_X0_dry, prog_2_method_19_code, 4, (some .int), 2, "BrookStones", 0, TX0, 15, 1, (S_X0_dry fu (l := l) (D := D) (cA := cA) (base := base) (b := b)).1, by decide, by decide, rfl, H_X0_dry fu, rfl, mi_X0_dry.1, mi_X0_dry.2.1, mi_X0_dry.2.2.1, mi_X0_dry.2.2.2.1, mi_X0_dry.2.2.2.2, Or.inr (tblN_of (i := 386) rfl rfl)⟩, (S_X0_dry fu (l := l) (D := D) (cA := cA) (base := base) (b := b)).2⟩) (cons_all (⟨⟨show (1 : Nat) ≠ 3 by decide, y_X0_ofKind, prog_2_method_18_code, 4, (some .int), 1, "BrookStones", 0, TX0, 15, 1, (S_X0_ofKind fu (l := l) (D := D) (cA := cA) (base := base) (b := b)).1, by decide, by decide, rfl, H_X0_ofKind fu, rfl, mi_X0_ofKind.1, mi_X0_ofKind.2.1, mi_X0_ofKind.2.2.1, mi_X0_ofKind.2.2.2.1, mi_X0_ofKind.2.2.2.2, Or.inr (tblN_of (i := 387) rfl rfl)⟩, (S_X0_ofKind fu (l := l) (D := D) (cA := cA) (base := base) (b := b)).2⟩) (cons_all (⟨⟨show (1 : Nat) ≠ 3 by decide, y_X6_fewestFrom, prog_8_method_3_code, 4, (some .int), 3, "BrookStones", 5, TX6, 6, 1, (S_X6_fewestFrom fu (l := l) (D := D) (cA := cA) (base := base) (b := b)).1, by decide, by decide, rfl, H_X6_fewestFrom fu, rfl, mi_X6_fewestFrom.1, mi_X6_fewestFrom.2.1, mi_X6_fewestFrom.2.2.1, mi_X6_fewestFrom.2.2.2.1, mi_X6_fewestFrom.2.2.2.2, Or.inl (tblG_of (i := 388) rfl rfl)⟩, (S_X6_fewestFrom fu (l := l) (D := D) (cA := cA) (base := base) (b := b)).2⟩) (cons_all (⟨⟨show (1 : Nat) ≠ 3 by decide, y_X6_firstBehind, prog_8_method_4_code, 3, (some .int), 3, "BrookStones", 5, TX6, 6, 1, (S_X6_firstBehind fu (l := l) (D := D) (cA := cA) (base := base) (b := b)).1, by decide, by decide, rfl, H_X6_firstBehind fu, rfl, mi_X6_firstBehind.1, mi_X6_firstBehind.2.1, mi_X6_firstBehind.2.2.1, mi_X6_firstBehind.2.2.2.1, mi_X6_firstBehind.2.2.2.2, Or.inl (tblG_of (i := 398) rfl rfl)⟩, (S_X6_firstBehind fu (l := l) (D := D) (cA := cA) (base := base) (b := b)).2⟩) (nil_all)))))
    (nil_all)
    (nil_all)
    (T := T_X6_find) (by decide +kernel) (cut := [66, 106]) (N := 91) (D_X6_find fu) (by decide +kernel) (fun h => absurd h (by decide)) (fun as w o h => ?_)
  unfold U_X6_find at h
  split at h
  next =>
    split at h
    next => exact ⟨Nat.le_of_ble_eq_true rfl, fu, (E_X6_find fu _ _ _ w).symm.trans h⟩
    next => cases h
  next => cases h
def T_X7_way : List (Nat × Instr) := [(0, .aload_n 0), (1, .getfield 12), (4, .iload_n 1), (5, .invokevirtual 158), (8, .ifCond .eq 8), (11, .iload_n 2), (12, .iconst (-1)), (13, .if_icmp .ge 5), (16, .iconst (-1)), (17, .ireturn), (18, .aload_n 0), (19, .getfield 28), (22, .aload_n 0), (23, .getfield 12), (26, .aload_n 0), (27, .getfield 12), (30, .iload_n 1), (31, .iconst 0), (32, .invokevirtual 168), (35, .invokevirtual 175), (38, .istore_n 3), (39, .iload_n 2), (40, .iconst (-1)), (41, .if_icmp .ne 5), (44, .iload_n 3), (45, .ireturn), (46, .iload_n 2), (47, .iload_n 3), (48, .if_icmp .ge 27), (51, .iload_n 2), (52, .aload_n 0), (53, .getfield 28), (56, .getfield 179), (59, .arraylength), (60, .if_icmp .ge 15), (63, .aload_n 0), (64, .getfield 28), (67, .getfield 179), (70, .iload_n 2), (71, .iaload), (72, .goto 5), (75, .bipush (-9)), (77, .ireturn)]
def op_X7_way (fu : Nat) : Nat → Kont → XL → List Value → XW → Instr → Option XO := opK 4 (rzOf (some .int)) fl_BrookStones nl_BrookStones [] [] [(158, 2, 1, (U_X0_isWalker fu)), (168, 3, 1, (U_X0_reachOf fu)), (175, 3, 1, (U_X6_find fu))] [] []
def M_X7_way (fu : Nat) (a0 : Nat) (a1 : Int32) (a2 : Int32) (w : XW) : Option XO :=
  (gR w a0 6 0).bind fun r1 =>
  cI (U_X0_isWalker fu [.ref r1, .int a1] w) fun x3 w2 =>
  (if x3 = 0 then
    some (some (.int (-1 : Int32)), w2)
  else
    (if a2 < (-1 : Int32) then
      some (some (.int (-1 : Int32)), w2)
    else
      (gR w2 a0 6 2).bind fun r4 =>
      (gR w2 a0 6 0).bind fun r5 =>
      (gR w2 a0 6 0).bind fun r6 =>
      cI (U_X0_reachOf fu [.ref r6, .int a1, .int (0 : Int32)] w2) fun x8 w7 =>
      cI (U_X6_find fu [.ref r4, .ref r5, .int x8] w7) fun x10 w9 =>
      (if a2 = (-1 : Int32) then
        some (some (.int x10), w9)
      else
        (if a2 < x10 then
          (gR w9 a0 6 2).bind fun r11 =>
          (gR w9 r11 5 0).bind fun r12 =>
          (aL w9 r12).bind fun x13 =>
          (if a2 < x13 then
            (gR w9 a0 6 2).bind fun r14 =>
            (gR w9 r14 5 0).bind fun r15 =>
            (aI w9 r15 a2).bind fun x16 =>
            some (some (.int x16), w9)
          else
            some (some (.int (-9 : Int32)), w9))
        else
          some (some (.int (-9 : Int32)), w9)))))
def U_X7_way (fu : Nat) : Orc := fun as w => match as with
  | [.ref a0, .int a1, .int a2] => if isO w a0 6 = true then M_X7_way fu a0 a1 a2 w else none
  | _ => none
def K_X7_way (fu : Nat) (n : Nat) : Kont := fun pc ls st w => none
set_option maxRecDepth 100000 in
set_option maxHeartbeats 4000000 in
theorem E_X7_way (fu : Nat) (a0 : Nat) (a1 : Int32) (a2 : Int32) (w : XW) : M_X7_way fu a0 a1 a2 w = ev T_X7_way (op_X7_way fu) [] (K_X7_way fu fu) 45 0 (lv_args 0 [.ref a0, .int a1, .int a2]) [] w := by
  rfl
theorem D_X7_way (fu : Nat) : DS T_X7_way (op_X7_way fu) [] 45 (K_X7_way fu) := by
  refine ⟨fun pc ls st w => rfl, fun n pc ls st w o h => ?_⟩
  cases h
theorem H_X7_way (fu : Nat) : ∀ as w o, U_X7_way fu as w = some o → ∃ a r, as = .ref a :: r ∧ r.length = 2 ∧ isO w a 6 = true := by
  intro as w o h
  unfold U_X7_way at h
  split at h
  next =>
    split at h
    next hh => exact ⟨_, _, rfl, rfl, hh⟩
    next => cases h
  next => cases h
set_option maxRecDepth 100000 in
set_option maxHeartbeats 4000000 in
theorem S_X7_way (fu : Nat) {l : Launch} {D : va_G} {cA : Nat → ClassId} {base b : Nat} : CS l D cA base b 5 y_X7_way prog_1_method_13_code 4 (some .int) (U_X7_way fu) ∧ OM (U_X7_way fu) := by
  refine CS_of (d := 4) (y := y_X7_way) (cc := prog_1_method_13_code) (nL := 4) (ret := (some .int)) (F := U_X7_way fu) (fl := fl_BrookStones) (nl := nl_BrookStones) (kl := []) (k2 := []) (mv := [(158, 2, 1, (U_X0_isWalker fu)), (168, 3, 1, (U_X0_reachOf fu)), (175, 3, 1, (U_X6_find fu))]) (ms := []) (mi := []) (ini := false) hI_w fl_BrookStones_ok nl_BrookStones_ok nil_all nil_all
    (cons_all (⟨⟨show (1 : Nat) ≠ 3 by decide, y_X0_isWalker, prog_2_method_6_code, 2, (some .boolean), 1, "BrookStones", 0, TX0, 15, 1, (S_X0_isWalker fu (l := l) (D := D) (cA := cA) (base := base) (b := b)).1, by decide, by decide, rfl, H_X0_isWalker fu, rfl, mi_X0_isWalker.1, mi_X0_isWalker.2.1, mi_X0_isWalker.2.2.1, mi_X0_isWalker.2.2.2.1, mi_X0_isWalker.2.2.2.2, Or.inr (tblN_of (i := 346) rfl rfl)⟩, (S_X0_isWalker fu (l := l) (D := D) (cA := cA) (base := base) (b := b)).2⟩) (cons_all (⟨⟨show (1 : Nat) ≠ 3 by decide, y_X0_reachOf, prog_2_method_9_code, 3, (some .int), 1, "BrookStones", 0, TX0, 15, 2, (S_X0_reachOf fu (l := l) (D := D) (cA := cA) (base := base) (b := b)).1, by decide, by decide, rfl, H_X0_reachOf fu, rfl, mi_X0_reachOf.1, mi_X0_reachOf.2.1, mi_X0_reachOf.2.2.1, mi_X0_reachOf.2.2.2.1, mi_X0_reachOf.2.2.2.2, Or.inr (tblN_of (i := 362) rfl rfl)⟩, (S_X0_reachOf fu (l := l) (D := D) (cA := cA) (base := base) (b := b)).2⟩) (cons_all (⟨⟨show (1 : Nat) ≠ 3 by decide, y_X6_find, prog_8_method_2_code, 5, (some .int), 4, "BrookStones", 5, TX6, 6, 2, (S_X6_find fu (l := l) (D := D) (cA := cA) (base := base) (b := b)).1, by decide, by decide, rfl, H_X6_find fu, rfl, mi_X6_find.1, mi_X6_find.2.1, mi_X6_find.2.2.1, mi_X6_find.2.2.2.1, mi_X6_find.2.2.2.2, Or.inr (tblN_of (i := 382) rfl rfl)⟩, (S_X6_find fu (l := l) (D := D) (cA := cA) (base := base) (b := b)).2⟩) (nil_all))))
    (nil_all)
    (nil_all)
    (T := T_X7_way) (by decide +kernel) (cut := []) (N := 45) (D_X7_way fu) (by decide +kernel) (fun h => absurd h (by decide)) (fun as w o h => ?_)
  unfold U_X7_way at h
  split at h
  next =>
    split at h
    next => exact ⟨Nat.le_of_ble_eq_true rfl, fu, (E_X7_way fu _ _ _ w).symm.trans h⟩
    next => cases h
  next => cases h
def T_X7_pass : List (Nat × Instr) := [(0, .aload_n 0), (1, .getfield 12), (4, .iload_n 1), (5, .invokevirtual 158), (8, .ifCond .eq 14), (11, .aload_n 0), (12, .getfield 12), (15, .iload_n 2), (16, .invokevirtual 158), (19, .ifCond .ne 5), (22, .iconst (-1)), (23, .ireturn), (24, .aload_n 0), (25, .getfield 12), (28, .iload_n 1), (29, .iconst 0), (30, .invokevirtual 168), (33, .aload_n 0), (34, .getfield 12), (37, .iload_n 2), (38, .iconst 0), (39, .invokevirtual 168), (42, .invokestatic 182), (45, .istore_n 3), (46, .aload_n 0), (47, .getfield 12), (50, .aload_n 0), (51, .getfield 12), (54, .invokevirtual 164), (57, .aload_n 0), (58, .getfield 12), (61, .getfield 98), (64, .iload_n 3), (65, .invokevirtual 172), (68, .ifCond .ne 5), (71, .iconst 0), (72, .ireturn), (73, .aload_n 0), (74, .getfield 12), (77, .aload_n 0), (78, .getfield 12), (81, .getfield 98), (84, .invokevirtual 187), (87, .aload_n 0), (88, .getfield 12), (91, .iconst 1), (92, .invokevirtual 190), (95, .iand), (96, .ireturn)]
def op_X7_pass (fu : Nat) : Nat → Kont → XL → List Value → XW → Instr → Option XO := opK 4 (rzOf (some .int)) fl_BrookStones nl_BrookStones [] [] [(158, 2, 1, (U_X0_isWalker fu)), (168, 3, 1, (U_X0_reachOf fu)), (164, 1, 1, (U_X0_filled fu)), (172, 4, 1, (U_X0_isCrossed fu)), (187, 2, 1, (U_X0_dry fu)), (190, 2, 1, (U_X0_ofKind fu))] [(182, 2, 3, oMin)] []
def M_X7_pass (fu : Nat) (a0 : Nat) (a1 : Int32) (a2 : Int32) (w : XW) : Option XO :=
  (gR w a0 6 0).bind fun r1 =>
  cI (U_X0_isWalker fu [.ref r1, .int a1] w) fun x3 w2 =>
  (if x3 = 0 then
    some (some (.int (-1 : Int32)), w2)
  else
    (gR w2 a0 6 0).bind fun r4 =>
    cI (U_X0_isWalker fu [.ref r4, .int a2] w2) fun x6 w5 =>
    (if x6 = 0 then
      some (some (.int (-1 : Int32)), w5)
    else
      (gR w5 a0 6 0).bind fun r7 =>
      cI (U_X0_reachOf fu [.ref r7, .int a1, .int (0 : Int32)] w5) fun x9 w8 =>
      (gR w8 a0 6 0).bind fun r10 =>
      cI (U_X0_reachOf fu [.ref r10, .int a2, .int (0 : Int32)] w8) fun x12 w11 =>
      cI (oMin [.int x9, .int x12] w11) fun x14 w13 =>
      (gR w13 a0 6 0).bind fun r15 =>
      (gR w13 a0 6 0).bind fun r16 =>
      cI (U_X0_filled fu [.ref r16] w13) fun x18 w17 =>
      (gR w17 a0 6 0).bind fun r19 =>
      (gI w17 r19 0 11).bind fun x20 =>
      cI (U_X0_isCrossed fu [.ref r15, .int x18, .int x20, .int x14] w17) fun x22 w21 =>
      (if x22 = 0 then
        some (some (.int (0 : Int32)), w21)
      else
        (gR w21 a0 6 0).bind fun r23 =>
        (gR w21 a0 6 0).bind fun r24 =>
        (gI w21 r24 0 11).bind fun x25 =>
        cI (U_X0_dry fu [.ref r23, .int x25] w21) fun x27 w26 =>
        (gR w26 a0 6 0).bind fun r28 =>
        cI (U_X0_ofKind fu [.ref r28, .int (1 : Int32)] w26) fun x30 w29 =>
        some (some (.int (x27 &&& x30)), w29))))
def U_X7_pass (fu : Nat) : Orc := fun as w => match as with
  | [.ref a0, .int a1, .int a2] => if isO w a0 6 = true then M_X7_pass fu a0 a1 a2 w else none
  | _ => none
def K_X7_pass (fu : Nat) (n : Nat) : Kont := fun pc ls st w => none
set_option maxRecDepth 100000 in
set_option maxHeartbeats 4000000 in
theorem E_X7_pass (fu : Nat) (a0 : Nat) (a1 : Int32) (a2 : Int32) (w : XW) : M_X7_pass fu a0 a1 a2 w = ev T_X7_pass (op_X7_pass fu) [] (K_X7_pass fu fu) 51 0 (lv_args 0 [.ref a0, .int a1, .int a2]) [] w := by
  rfl
theorem D_X7_pass (fu : Nat) : DS T_X7_pass (op_X7_pass fu) [] 51 (K_X7_pass fu) := by
  refine ⟨fun pc ls st w => rfl, fun n pc ls st w o h => ?_⟩
  cases h
theorem H_X7_pass (fu : Nat) : ∀ as w o, U_X7_pass fu as w = some o → ∃ a r, as = .ref a :: r ∧ r.length = 2 ∧ isO w a 6 = true := by
  intro as w o h
  unfold U_X7_pass at h
  split at h
  next =>
    split at h
    next hh => exact ⟨_, _, rfl, rfl, hh⟩
    next => cases h
  next => cases h
set_option maxRecDepth 100000 in
set_option maxHeartbeats 4000000 in
theorem S_X7_pass (fu : Nat) {l : Launch} {D : va_G} {cA : Nat → ClassId} {base b : Nat} : CS l D cA base b 4 y_X7_pass prog_1_method_15_code 4 (some .int) (U_X7_pass fu) ∧ OM (U_X7_pass fu) := by
  refine CS_of (d := 3) (y := y_X7_pass) (cc := prog_1_method_15_code) (nL := 4) (ret := (some .int)) (F := U_X7_pass fu) (fl := fl_BrookStones) (nl := nl_BrookStones) (kl := []) (k2 := []) (mv := [(158, 2, 1, (U_X0_isWalker fu)), (168, 3, 1, (U_X0_reachOf fu)), (164, 1, 1, (U_X0_filled fu)), (172, 4, 1, (U_X0_isCrossed fu)), (187, 2, 1, (U_X0_dry fu)), (190, 2, 1, (U_X0_ofKind fu))]) (ms := [(182, 2, 3, oMin)]) (mi := []) (ini := false) hI_w fl_BrookStones_ok nl_BrookStones_ok nil_all nil_all
    (cons_all (⟨⟨show (1 : Nat) ≠ 3 by decide, y_X0_isWalker, prog_2_method_6_code, 2, (some .boolean), 1, "BrookStones", 0, TX0, 15, 1, (S_X0_isWalker fu (l := l) (D := D) (cA := cA) (base := base) (b := b)).1, by decide, by decide, rfl, H_X0_isWalker fu, rfl, mi_X0_isWalker.1, mi_X0_isWalker.2.1, mi_X0_isWalker.2.2.1, mi_X0_isWalker.2.2.2.1, mi_X0_isWalker.2.2.2.2, Or.inr (tblN_of (i := 346) rfl rfl)⟩, (S_X0_isWalker fu (l := l) (D := D) (cA := cA) (base := base) (b := b)).2⟩) (cons_all (⟨⟨show (1 : Nat) ≠ 3 by decide, y_X0_reachOf, prog_2_method_9_code, 3, (some .int), 1, "BrookStones", 0, TX0, 15, 2, (S_X0_reachOf fu (l := l) (D := D) (cA := cA) (base := base) (b := b)).1, by decide, by decide, rfl, H_X0_reachOf fu, rfl, mi_X0_reachOf.1, mi_X0_reachOf.2.1, mi_X0_reachOf.2.2.1, mi_X0_reachOf.2.2.2.1, mi_X0_reachOf.2.2.2.2, Or.inr (tblN_of (i := 362) rfl rfl)⟩, (S_X0_reachOf fu (l := l) (D := D) (cA := cA) (base := base) (b := b)).2⟩) (cons_all (⟨⟨show (1 : Nat) ≠ 3 by decide, y_X0_filled, prog_2_method_17_code, 1, (some .int), 2, "BrookStones", 0, TX0, 15, 0, (S_X0_filled fu (l := l) (D := D) (cA := cA) (base := base) (b := b)).1, by decide, by decide, rfl, H_X0_filled fu, rfl, mi_X0_filled.1, mi_X0_filled.2.1, mi_X0_filled.2.2.1, mi_X0_filled.2.2.2.1, mi_X0_filled.2.2.2.2, Or.inr (tblN_of (i := 354) rfl rfl)⟩, (S_X0_filled fu (l := l) (D := D) (cA := cA) (base := base) (b := b)).2⟩) (cons_all (⟨⟨show (1 : Nat) ≠ 3 by decide, y_X0_isCrossed, prog_2_method_20_code, 4, (some .boolean), 3, "BrookStones", 0, TX0, 15, 3, (S_X0_isCrossed fu (l := l) (D := D) (cA := cA) (base := base) (b := b)).1, by decide, by decide, rfl, H_X0_isCrossed fu, rfl, mi_X0_isCrossed.1, mi_X0_isCrossed.2.1, mi_X0_isCrossed.2.2.1, mi_X0_isCrossed.2.2.2.1, mi_X0_isCrossed.2.2.2.2, Or.inr (tblN_of (i := 366) rfl rfl)⟩, (S_X0_isCrossed fu (l := l) (D := D) (cA := cA) (base := base) (b := b)).2⟩) (cons_all (⟨⟨show (1 : Nat) ≠ 3 by decide, y_X0_dry, prog_2_method_19_code, 4, (some .int), 2, "BrookStones", 0, TX0, 15, 1, (S_X0_dry fu (l := l) (D := D) (cA := cA) (base := base) (b := b)).1, by decide, by decide, rfl, H_X0_dry fu, rfl, mi_X0_dry.1, mi_X0_dry.2.1, mi_X0_dry.2.2.1, mi_X0_dry.2.2.2.1, mi_X0_dry.2.2.2.2, Or.inr (tblN_of (i := 411) rfl rfl)⟩, (S_X0_dry fu (l := l) (D := D) (cA := cA) (base := base) (b := b)).2⟩) (cons_all (⟨⟨show (1 : Nat) ≠ 3 by decide, y_X0_ofKind, prog_2_method_18_code, 4, (some .int), 1, "BrookStones", 0, TX0, 15, 1, (S_X0_ofKind fu (l := l) (D := D) (cA := cA) (base := base) (b := b)).1, by decide, by decide, rfl, H_X0_ofKind fu, rfl, mi_X0_ofKind.1, mi_X0_ofKind.2.1, mi_X0_ofKind.2.2.1, mi_X0_ofKind.2.2.2.1, mi_X0_ofKind.2.2.2.2, Or.inr (tblN_of (i := 412) rfl rfl)⟩, (S_X0_ofKind fu (l := l) (D := D) (cA := cA) (base := base) (b := b)).2⟩) (nil_all)))))))
    (cons_all (⟨Or.inr (Or.inr (Or.inr ⟨rfl, rfl, rfl, tblG_of (i := 410) rfl rfl, tblG_of (i := 276) rfl rfl, tblG_of (i := 10) rfl rfl, tblG_of (i := 277) rfl rfl⟩)), om_min⟩) (nil_all))
    (nil_all)
    (T := T_X7_pass) (by decide +kernel) (cut := []) (N := 51) (D_X7_pass fu) (by decide +kernel) (fun h => absurd h (by decide)) (fun as w o h => ?_)
  unfold U_X7_pass at h
  split at h
  next =>
    split at h
    next => exact ⟨Nat.le_of_ble_eq_true rfl, fu, (E_X7_pass fu _ _ _ w).symm.trans h⟩
    next => cases h
  next => cases h
def T_X4_areWithin : List (Nat × Instr) := [(0, .iload_n 2), (1, .istore 5), (3, .iload 5), (5, .iload_n 2), (6, .iload_n 3), (7, .iadd), (8, .if_icmp .ge 27), (11, .aload_n 0), (12, .iload_n 1), (13, .iload 5), (15, .invokevirtual 51), (18, .iconst 0), (19, .iload 4), (21, .invokestatic 27), (24, .ifCond .ne 5), (27, .iconst 0), (28, .ireturn), (29, .iinc 5 1), (32, .goto (-29)), (35, .iconst 1), (36, .ireturn)]
def op_X4_areWithin (fu : Nat) : Nat → Kont → XL → List Value → XW → Instr → Option XO := opK 6 (rzOf (some .boolean)) fl_BrookStones_Sheets [] [] [] [(51, 3, 1, (U_X4_at fu))] [(27, 3, 1, (U_X7_isWithin fu))] []
def F_X4_areWithin (fu : Nat) : Nat → (Nat → Int32 → Int32 → Int32 → Int32 → Int32 → XW → Option XO)
  | 0 => fun _ _ _ _ _ _ _ => none
  | n + 1 => (fun a0 a1 a2 a3 a4 a5 w =>
    (if a5 < (a2 + a3) then
      cI (U_X4_at fu [.ref a0, .int a1, .int a5] w) fun x2 w1 =>
      cI (U_X7_isWithin fu [.int x2, .int (0 : Int32), .int a4] w1) fun x4 w3 =>
      (if x4 = 0 then
        retZ (0 : Int32) w3
      else
        (F_X4_areWithin fu n) a0 a1 a2 a3 a4 (a5 + (1 : Int32)) w3)
    else
      retZ (1 : Int32) w))
def M_X4_areWithin (fu : Nat) (a0 : Nat) (a1 : Int32) (a2 : Int32) (a3 : Int32) (a4 : Int32) (w : XW) : Option XO :=
  (F_X4_areWithin fu fu) a0 a1 a2 a3 a4 a2 w
def U_X4_areWithin (fu : Nat) : Orc := fun as w => match as with
  | [.ref a0, .int a1, .int a2, .int a3, .int a4] => if isO w a0 4 = true then M_X4_areWithin fu a0 a1 a2 a3 a4 w else none
  | _ => none
def K_X4_areWithin (fu : Nat) (n : Nat) : Kont := fun pc ls st w => bif pc == 3 then ((xr ls 0).bind fun a0 => (xi ls 1).bind fun a1 => (xi ls 2).bind fun a2 => (xi ls 3).bind fun a3 => (xi ls 4).bind fun a4 => (xi ls 5).bind fun a5 => skN st ((F_X4_areWithin fu n) a0 a1 a2 a3 a4 a5 w)) else none
set_option maxRecDepth 100000 in
set_option maxHeartbeats 4000000 in
theorem E_X4_areWithin_3 (fu : Nat) (n : Nat) (a0 : Nat) (a1 : Int32) (a2 : Int32) (a3 : Int32) (a4 : Int32) (a5 : Int32) (w : XW) : (F_X4_areWithin fu (n + 1)) a0 a1 a2 a3 a4 a5 w = ev T_X4_areWithin (op_X4_areWithin fu) [3] (K_X4_areWithin fu n) 23 3 [(0, .ref a0), (1, .int a1), (2, .int a2), (3, .int a3), (4, .int a4), (5, .int a5)] [] w := by
  rfl
set_option maxRecDepth 100000 in
set_option maxHeartbeats 4000000 in
theorem E_X4_areWithin (fu : Nat) (a0 : Nat) (a1 : Int32) (a2 : Int32) (a3 : Int32) (a4 : Int32) (w : XW) : M_X4_areWithin fu a0 a1 a2 a3 a4 w = ev T_X4_areWithin (op_X4_areWithin fu) [3] (K_X4_areWithin fu fu) 23 0 (lv_args 0 [.ref a0, .int a1, .int a2, .int a3, .int a4]) [] w := by
  rfl
theorem D_X4_areWithin (fu : Nat) : DS T_X4_areWithin (op_X4_areWithin fu) [3] 23 (K_X4_areWithin fu) := by
  refine ⟨fun pc ls st w => c_none (b_none fun _ => b_none fun _ => b_none fun _ => b_none fun _ => b_none fun _ => b_none fun _ => skN_none rfl) (rfl), fun n pc ls st w o h => ?_⟩
  rcases c_some h with ⟨rfl, h⟩ | h
  · obtain ⟨a0, h0, h⟩ := some_of h; obtain ⟨a1, h1, h⟩ := some_of h; obtain ⟨a2, h2, h⟩ := some_of h; obtain ⟨a3, h3, h⟩ := some_of h; obtain ⟨a4, h4, h⟩ := some_of h; obtain ⟨a5, h5, h⟩ := some_of h;
    obtain ⟨e, g⟩ := skN_of h
    subst e
    exact ⟨[(0, .ref a0), (1, .int a1), (2, .int a2), (3, .int a3), (4, .int a4), (5, .int a5)], cons_all (xr_of h0) (cons_all (xi_of h1) (cons_all (xi_of h2) (cons_all (xi_of h3) (cons_all (xi_of h4) (cons_all (xi_of h5) (nil_all)))))), (E_X4_areWithin_3 fu n a0 a1 a2 a3 a4 a5 w).symm.trans g⟩
  · cases h
theorem H_X4_areWithin (fu : Nat) : ∀ as w o, U_X4_areWithin fu as w = some o → ∃ a r, as = .ref a :: r ∧ r.length = 4 ∧ isO w a 4 = true := by
  intro as w o h
  unfold U_X4_areWithin at h
  split at h
  next =>
    split at h
    next hh => exact ⟨_, _, rfl, rfl, hh⟩
    next => cases h
  next => cases h
set_option maxRecDepth 100000 in
set_option maxHeartbeats 4000000 in
theorem S_X4_areWithin (fu : Nat) {l : Launch} {D : va_G} {cA : Nat → ClassId} {base b : Nat} : CS l D cA base b 2 y_X4_areWithin prog_6_method_13_code 6 (some .boolean) (U_X4_areWithin fu) ∧ OM (U_X4_areWithin fu) := by
  refine CS_of (d := 1) (y := y_X4_areWithin) (cc := prog_6_method_13_code) (nL := 6) (ret := (some .boolean)) (F := U_X4_areWithin fu) (fl := fl_BrookStones_Sheets) (nl := []) (kl := []) (k2 := []) (mv := [(51, 3, 1, (U_X4_at fu))]) (ms := [(27, 3, 1, (U_X7_isWithin fu))]) (mi := []) (ini := false) hI_w fl_BrookStones_Sheets_ok nil_all nil_all nil_all
    (cons_all (⟨⟨show (1 : Nat) ≠ 3 by decide, y_X4_at, prog_6_method_7_code, 3, (some .int), 1, "BrookStones", 4, TX4, 3, 2, (S_X4_at fu (l := l) (D := D) (cA := cA) (base := base) (b := b)).1, by decide, by decide, rfl, H_X4_at fu, rfl, mi_X4_at.1, mi_X4_at.2.1, mi_X4_at.2.2.1, mi_X4_at.2.2.2.1, mi_X4_at.2.2.2.2, Or.inl (tblG_of (i := 421) rfl rfl)⟩, (S_X4_at fu (l := l) (D := D) (cA := cA) (base := base) (b := b)).2⟩) (nil_all))
    (cons_all (⟨Or.inl ⟨show (1 : Nat) ≠ 3 by decide, y_X7_isWithin, prog_1_method_46_code, 3, (some .boolean), 1, "BrookStones", (S_X7_isWithin fu (l := l) (D := D) (cA := cA) (base := base) (b := b)).1, by decide, by decide, mi_X7_isWithin.1, mi_X7_isWithin.2.1, mi_X7_isWithin.2.2.1, mi_X7_isWithin.2.2.2, Or.inr (tblN_of (i := 230) rfl rfl)⟩, (S_X7_isWithin fu (l := l) (D := D) (cA := cA) (base := base) (b := b)).2⟩) (nil_all))
    (nil_all)
    (T := T_X4_areWithin) (by decide +kernel) (cut := [3]) (N := 23) (D_X4_areWithin fu) (by decide +kernel) (fun h => absurd h (by decide)) (fun as w o h => ?_)
  unfold U_X4_areWithin at h
  split at h
  next =>
    split at h
    next => exact ⟨Nat.le_of_ble_eq_true rfl, fu, (E_X4_areWithin fu _ _ _ _ _ w).symm.trans h⟩
    next => cases h
  next => cases h
def T_X7_days : List (Nat × Instr) := [(0, .aload_n 0), (1, .iconst 0), (2, .putfield 53), (5, .aload_n 0), (6, .getfield 12), (9, .iload_n 1), (10, .invokevirtual 158), (13, .ifCond .ne 5), (16, .iconst (-1)), (17, .ireturn), (18, .aload_n 0), (19, .iload_n 2), (20, .iload_n 3), (21, .iload 4), (23, .iload 5), (25, .invokevirtual 57), (28, .istore 6), (30, .iload 6), (32, .ifCond .eq 6), (35, .iload 6), (37, .ireturn), (38, .aload_n 0), (39, .getfield 21), (42, .iload_n 2), (43, .iload 4), (45, .iload 5), (47, .bipush 9), (49, .invokevirtual 193), (52, .ifCond .ne 6), (55, .bipush (-2)), (57, .ireturn), (58, .iconst 0), (59, .istore 7), (61, .iconst 0), (62, .istore 8), (64, .iload 8), (66, .iload 5), (68, .if_icmp .ge 55), (71, .aload_n 0), (72, .getfield 21), (75, .iload_n 2), (76, .iload 4), (78, .iload 8), (80, .iadd), (81, .invokevirtual 197), (84, .istore 9), (86, .aload_n 0), (87, .getfield 12), (90, .aload_n 0), (91, .getfield 12), (94, .invokevirtual 164), (97, .iload 9), (99, .aload_n 0), (100, .getfield 12), (103, .iload_n 1), (104, .iconst 0), (105, .invokevirtual 168), (108, .invokevirtual 172), (111, .ifCond .eq 6), (114, .iinc 7 1), (117, .iinc 8 1), (120, .goto (-56)), (123, .iload 7), (125, .ireturn)]
def op_X7_days (fu : Nat) : Nat → Kont → XL → List Value → XW → Instr → Option XO := opK 10 (rzOf (some .int)) fl_BrookStones nl_BrookStones [] [] [(158, 2, 1, (U_X0_isWalker fu)), (57, 5, 1, (U_X7_refusalOfCells fu)), (193, 5, 1, (U_X4_areWithin fu)), (197, 3, 1, (U_X4_at fu)), (164, 1, 1, (U_X0_filled fu)), (168, 3, 1, (U_X0_reachOf fu)), (172, 4, 1, (U_X0_isCrossed fu))] [] []
def F_X7_days (fu : Nat) : Nat → (Nat → Int32 → Int32 → Int32 → Int32 → Int32 → Int32 → XW → Option XO)
  | 0 => fun _ _ _ _ _ _ _ _ => none
  | n + 1 => (fun a0 a1 a2 a4 a5 a7 a8 w =>
    (if a8 < a5 then
      (gR w a0 6 1).bind fun r1 =>
      cI (U_X4_at fu [.ref r1, .int a2, .int (a4 + a8)] w) fun x3 w2 =>
      (gR w2 a0 6 0).bind fun r4 =>
      (gR w2 a0 6 0).bind fun r5 =>
      cI (U_X0_filled fu [.ref r5] w2) fun x7 w6 =>
      (gR w6 a0 6 0).bind fun r8 =>
      cI (U_X0_reachOf fu [.ref r8, .int a1, .int (0 : Int32)] w6) fun x10 w9 =>
      cI (U_X0_isCrossed fu [.ref r4, .int x7, .int x3, .int x10] w9) fun x12 w11 =>
      (if x12 = 0 then
        (F_X7_days fu n) a0 a1 a2 a4 a5 a7 (a8 + (1 : Int32)) w11
      else
        (F_X7_days fu n) a0 a1 a2 a4 a5 (a7 + (1 : Int32)) (a8 + (1 : Int32)) w11)
    else
      some (some (.int a7), w)))
def M_X7_days (fu : Nat) (a0 : Nat) (a1 : Int32) (a2 : Int32) (a3 : Int32) (a4 : Int32) (a5 : Int32) (w : XW) : Option XO :=
  (pF w a0 6 7 (.int (0 : Int32))).bind fun w13 =>
  (gR w13 a0 6 0).bind fun r14 =>
  cI (U_X0_isWalker fu [.ref r14, .int a1] w13) fun x16 w15 =>
  (if x16 = 0 then
    some (some (.int (-1 : Int32)), w15)
  else
    cI (U_X7_refusalOfCells fu [.ref a0, .int a2, .int a3, .int a4, .int a5] w15) fun x18 w17 =>
    (if x18 = 0 then
      (gR w17 a0 6 1).bind fun r19 =>
      cI (U_X4_areWithin fu [.ref r19, .int a2, .int a4, .int a5, .int (9 : Int32)] w17) fun x21 w20 =>
      (if x21 = 0 then
        some (some (.int (-2 : Int32)), w20)
      else
        (F_X7_days fu fu) a0 a1 a2 a4 a5 (0 : Int32) (0 : Int32) w20)
    else
      some (some (.int x18), w17)))
def U_X7_days (fu : Nat) : Orc := fun as w => match as with
  | [.ref a0, .int a1, .int a2, .int a3, .int a4, .int a5] => if isO w a0 6 = true then M_X7_days fu a0 a1 a2 a3 a4 a5 w else none
  | _ => none
def K_X7_days (fu : Nat) (n : Nat) : Kont := fun pc ls st w => bif pc == 64 then ((xr ls 0).bind fun a0 => (xi ls 1).bind fun a1 => (xi ls 2).bind fun a2 => (xi ls 4).bind fun a4 => (xi ls 5).bind fun a5 => (xi ls 7).bind fun a7 => (xi ls 8).bind fun a8 => skN st ((F_X7_days fu n) a0 a1 a2 a4 a5 a7 a8 w)) else none
set_option maxRecDepth 100000 in
set_option maxHeartbeats 4000000 in
theorem E_X7_days_64 (fu : Nat) (n : Nat) (a0 : Nat) (a1 : Int32) (a2 : Int32) (a4 : Int32) (a5 : Int32) (a7 : Int32) (a8 : Int32) (w : XW) : (F_X7_days fu (n + 1)) a0 a1 a2 a4 a5 a7 a8 w = ev T_X7_days (op_X7_days fu) [64] (K_X7_days fu n) 66 64 [(0, .ref a0), (1, .int a1), (2, .int a2), (4, .int a4), (5, .int a5), (7, .int a7), (8, .int a8)] [] w := by
  rfl
set_option maxRecDepth 100000 in
set_option maxHeartbeats 4000000 in
theorem E_X7_days (fu : Nat) (a0 : Nat) (a1 : Int32) (a2 : Int32) (a3 : Int32) (a4 : Int32) (a5 : Int32) (w : XW) : M_X7_days fu a0 a1 a2 a3 a4 a5 w = ev T_X7_days (op_X7_days fu) [64] (K_X7_days fu fu) 66 0 (lv_args 0 [.ref a0, .int a1, .int a2, .int a3, .int a4, .int a5]) [] w := by
  rfl
theorem D_X7_days (fu : Nat) : DS T_X7_days (op_X7_days fu) [64] 66 (K_X7_days fu) := by
  refine ⟨fun pc ls st w => c_none (b_none fun _ => b_none fun _ => b_none fun _ => b_none fun _ => b_none fun _ => b_none fun _ => b_none fun _ => skN_none rfl) (rfl), fun n pc ls st w o h => ?_⟩
  rcases c_some h with ⟨rfl, h⟩ | h
  · obtain ⟨a0, h0, h⟩ := some_of h; obtain ⟨a1, h1, h⟩ := some_of h; obtain ⟨a2, h2, h⟩ := some_of h; obtain ⟨a4, h4, h⟩ := some_of h; obtain ⟨a5, h5, h⟩ := some_of h; obtain ⟨a7, h7, h⟩ := some_of h; obtain ⟨a8, h8, h⟩ := some_of h;
    obtain ⟨e, g⟩ := skN_of h
    subst e
    exact ⟨[(0, .ref a0), (1, .int a1), (2, .int a2), (4, .int a4), (5, .int a5), (7, .int a7), (8, .int a8)], cons_all (xr_of h0) (cons_all (xi_of h1) (cons_all (xi_of h2) (cons_all (xi_of h4) (cons_all (xi_of h5) (cons_all (xi_of h7) (cons_all (xi_of h8) (nil_all))))))), (E_X7_days_64 fu n a0 a1 a2 a4 a5 a7 a8 w).symm.trans g⟩
  · cases h
theorem H_X7_days (fu : Nat) : ∀ as w o, U_X7_days fu as w = some o → ∃ a r, as = .ref a :: r ∧ r.length = 5 ∧ isO w a 6 = true := by
  intro as w o h
  unfold U_X7_days at h
  split at h
  next =>
    split at h
    next hh => exact ⟨_, _, rfl, rfl, hh⟩
    next => cases h
  next => cases h
set_option maxRecDepth 100000 in
set_option maxHeartbeats 4000000 in
theorem S_X7_days (fu : Nat) {l : Launch} {D : va_G} {cA : Nat → ClassId} {base b : Nat} : CS l D cA base b 4 y_X7_days prog_1_method_16_code 10 (some .int) (U_X7_days fu) ∧ OM (U_X7_days fu) := by
  refine CS_of (d := 3) (y := y_X7_days) (cc := prog_1_method_16_code) (nL := 10) (ret := (some .int)) (F := U_X7_days fu) (fl := fl_BrookStones) (nl := nl_BrookStones) (kl := []) (k2 := []) (mv := [(158, 2, 1, (U_X0_isWalker fu)), (57, 5, 1, (U_X7_refusalOfCells fu)), (193, 5, 1, (U_X4_areWithin fu)), (197, 3, 1, (U_X4_at fu)), (164, 1, 1, (U_X0_filled fu)), (168, 3, 1, (U_X0_reachOf fu)), (172, 4, 1, (U_X0_isCrossed fu))]) (ms := []) (mi := []) (ini := false) hI_w fl_BrookStones_ok nl_BrookStones_ok nil_all nil_all
    (cons_all (⟨⟨show (1 : Nat) ≠ 3 by decide, y_X0_isWalker, prog_2_method_6_code, 2, (some .boolean), 1, "BrookStones", 0, TX0, 15, 1, (S_X0_isWalker fu (l := l) (D := D) (cA := cA) (base := base) (b := b)).1, by decide, by decide, rfl, H_X0_isWalker fu, rfl, mi_X0_isWalker.1, mi_X0_isWalker.2.1, mi_X0_isWalker.2.2.1, mi_X0_isWalker.2.2.2.1, mi_X0_isWalker.2.2.2.2, Or.inr (tblN_of (i := 346) rfl rfl)⟩, (S_X0_isWalker fu (l := l) (D := D) (cA := cA) (base := base) (b := b)).2⟩) (cons_all (⟨⟨show (1 : Nat) ≠ 3 by decide, y_X7_refusalOfCells, prog_1_method_39_code, 6, (some .int), 3, "BrookStones", 6, TX7, 8, 4, (S_X7_refusalOfCells fu (l := l) (D := D) (cA := cA) (base := base) (b := b)).1, by decide, by decide, rfl, H_X7_refusalOfCells fu, rfl, mi_X7_refusalOfCells.1, mi_X7_refusalOfCells.2.1, mi_X7_refusalOfCells.2.2.1, mi_X7_refusalOfCells.2.2.2.1, mi_X7_refusalOfCells.2.2.2.2, Or.inl (tblG_of (i := 223) rfl rfl)⟩, (S_X7_refusalOfCells fu (l := l) (D := D) (cA := cA) (base := base) (b := b)).2⟩) (cons_all (⟨⟨show (1 : Nat) ≠ 3 by decide, y_X4_areWithin, prog_6_method_13_code, 6, (some .boolean), 2, "BrookStones", 4, TX4, 3, 4, (S_X4_areWithin fu (l := l) (D := D) (cA := cA) (base := base) (b := b)).1, by decide, by decide, rfl, H_X4_areWithin fu, rfl, mi_X4_areWithin.1, mi_X4_areWithin.2.1, mi_X4_areWithin.2.2.1, mi_X4_areWithin.2.2.2.1, mi_X4_areWithin.2.2.2.2, Or.inr (tblN_of (i := 417) rfl rfl)⟩, (S_X4_areWithin fu (l := l) (D := D) (cA := cA) (base := base) (b := b)).2⟩) (cons_all (⟨⟨show (1 : Nat) ≠ 3 by decide, y_X4_at, prog_6_method_7_code, 3, (some .int), 1, "BrookStones", 4, TX4, 3, 2, (S_X4_at fu (l := l) (D := D) (cA := cA) (base := base) (b := b)).1, by decide, by decide, rfl, H_X4_at fu, rfl, mi_X4_at.1, mi_X4_at.2.1, mi_X4_at.2.2.1, mi_X4_at.2.2.2.1, mi_X4_at.2.2.2.2, Or.inr (tblN_of (i := 422) rfl rfl)⟩, (S_X4_at fu (l := l) (D := D) (cA := cA) (base := base) (b := b)).2⟩) (cons_all (⟨⟨show (1 : Nat) ≠ 3 by decide, y_X0_filled, prog_2_method_17_code, 1, (some .int), 2, "BrookStones", 0, TX0, 15, 0, (S_X0_filled fu (l := l) (D := D) (cA := cA) (base := base) (b := b)).1, by decide, by decide, rfl, H_X0_filled fu, rfl, mi_X0_filled.1, mi_X0_filled.2.1, mi_X0_filled.2.2.1, mi_X0_filled.2.2.2.1, mi_X0_filled.2.2.2.2, Or.inr (tblN_of (i := 354) rfl rfl)⟩, (S_X0_filled fu (l := l) (D := D) (cA := cA) (base := base) (b := b)).2⟩) (cons_all (⟨⟨show (1 : Nat) ≠ 3 by decide, y_X0_reachOf, prog_2_method_9_code, 3, (some .int), 1, "BrookStones", 0, TX0, 15, 2, (S_X0_reachOf fu (l := l) (D := D) (cA := cA) (base := base) (b := b)).1, by decide, by decide, rfl, H_X0_reachOf fu, rfl, mi_X0_reachOf.1, mi_X0_reachOf.2.1, mi_X0_reachOf.2.2.1, mi_X0_reachOf.2.2.2.1, mi_X0_reachOf.2.2.2.2, Or.inr (tblN_of (i := 362) rfl rfl)⟩, (S_X0_reachOf fu (l := l) (D := D) (cA := cA) (base := base) (b := b)).2⟩) (cons_all (⟨⟨show (1 : Nat) ≠ 3 by decide, y_X0_isCrossed, prog_2_method_20_code, 4, (some .boolean), 3, "BrookStones", 0, TX0, 15, 3, (S_X0_isCrossed fu (l := l) (D := D) (cA := cA) (base := base) (b := b)).1, by decide, by decide, rfl, H_X0_isCrossed fu, rfl, mi_X0_isCrossed.1, mi_X0_isCrossed.2.1, mi_X0_isCrossed.2.2.1, mi_X0_isCrossed.2.2.2.1, mi_X0_isCrossed.2.2.2.2, Or.inr (tblN_of (i := 366) rfl rfl)⟩, (S_X0_isCrossed fu (l := l) (D := D) (cA := cA) (base := base) (b := b)).2⟩) (nil_all))))))))
    (nil_all)
    (nil_all)
    (T := T_X7_days) (by decide +kernel) (cut := [64]) (N := 66) (D_X7_days fu) (by decide +kernel) (fun h => absurd h (by decide)) (fun as w o h => ?_)
  unfold U_X7_days at h
  split at h
  next =>
    split at h
    next => exact ⟨Nat.le_of_ble_eq_true rfl, fu, (E_X7_days fu _ _ _ _ _ _ w).symm.trans h⟩
    next => cases h
  next => cases h
end
section
/-! ===== the world of the two objects (laid by program wip/whole/gen/part20.py) ===== -/
def tailN (A : Nat → List Int32) : Nat → XW
  | 0 => []
  | 1 => [.inr (0, A 36)]
  | 2 => [.inr (0, A 36), .inr (0, A 37)]
  | 3 => [.inr (0, A 36), .inr (0, A 37), .inr (0, A 38)]
  | _ => [.inr (0, A 36), .inr (0, A 37), .inr (0, A 38), .inr (0, A 39)]
def enc (A : Nat → List Int32) (I : Nat → Nat → Int32) : XW := (
  .inr (2, A 0) ::
  .inl (6, [.ref 2, .ref 11, .ref 15, .ref 18, .ref 21, .ref 34, .int (I 1 6), .int (I 1 7)]) ::
  .inl (0, [.ref 3, .ref 4, .ref 5, .ref 6, .ref 7, .ref 8, .ref 9, .ref 10, .int (I 2 8), .int (I 2 9), .int (I 2 10), .int (I 2 11), .int (I 2 12), .int (I 2 13), .int (I 2 14)]) ::
  .inr (0, A 3) ::
  .inr (0, A 4) ::
  .inr (0, A 5) ::
  .inr (0, A 6) ::
  .inr (0, A 7) ::
  .inr (0, A 8) ::
  .inr (0, A 9) ::
  .inr (0, A 10) ::
  .inl (4, [.ref 12, .ref 13, .ref 14]) ::
  .inr (0, A 12) ::
  .inr (0, A 13) ::
  .inr (0, A 14) ::
  .inl (5, [.ref 16, .ref 17, .int (I 15 2), .int (I 15 3), .int (I 15 4), .int (I 15 5)]) ::
  .inr (0, A 16) ::
  .inr (0, A 17) ::
  .inl (1, [.ref 19, .ref 20, .int (I 18 2)]) ::
  .inr (0, A 19) ::
  .inr (0, A 20) ::
  .inl (3, [.ref 22, .ref 23, .ref 24, .ref 25, .int (I 21 4), .int (I 21 5), .int (I 21 6), .int (I 21 7)]) ::
  .inr (0, A 22) ::
  .inr (0, A 23) ::
  .inr (0, A 24) ::
  .inr (3, [26, 27, 28, 29, 30, 31, 32, 33]) ::
  .inr (0, A 26) ::
  .inr (0, A 27) ::
  .inr (0, A 28) ::
  .inr (0, A 29) ::
  .inr (0, A 30) ::
  .inr (0, A 31) ::
  .inr (0, A 32) ::
  .inr (0, A 33) ::
  .inl (2, [.ref 35, .int (I 34 1)]) ::
  .inr (0, A 35) ::
  tailN A (A 40).length)
def uA (A : Nat → List Int32) (k : Nat) (xs : List Int32) : Nat → List Int32 := fun j => if j = k then xs else A j
def uI (I : Nat → Nat → Int32) (a j : Nat) (x : Int32) : Nat → Nat → Int32 := fun b i => if b = a ∧ i = j then x else I b i
/-- what stands at a place of a row -/
def rd (xs : List Int32) (j : Nat) : Int32 := xs.getD j 0
def lenT : Nat → Nat
  | 3 => 7
  | 4 => 7
  | 5 => 7
  | 6 => 6
  | 7 => 6
  | 8 => 6
  | 9 => 6
  | 10 => 6
  | 12 => 4
  | 13 => 4
  | 14 => 240
  | 16 => 8
  | 17 => 9
  | 19 => 7
  | 20 => 7
  | 22 => 7
  | 23 => 7
  | 24 => 6
  | 26 => 8
  | 27 => 8
  | 28 => 8
  | 29 => 8
  | 30 => 8
  | 31 => 8
  | 32 => 8
  | 33 => 8
  | 35 => 128
  | _ => 0
def isArr (k : Nat) : Bool := ([3, 4, 5, 6, 7, 8, 9, 10, 12, 13, 14, 16, 17, 19, 20, 22, 23, 24, 26, 27, 28, 29, 30, 31, 32, 33, 35] : List Nat).elem k
theorem aI_enc {w : XW} {k : Nat} {xs : List Int32} (hw : w[k]? = some (.inr (0, xs))) {j : Nat} (hj : j < xs.length) (h : j < 2147483648) : aI w k (nI j) = some (rd xs j) := by
  unfold aI
  rw [hw]
  dsimp only
  rw [if_pos ⟨Or.inl rfl, nI_pos' h⟩, nI_clamp h, rd, List.getD_eq_getElem?_getD, List.getElem?_eq_getElem hj]
  rfl
theorem sI_enc {w : XW} {k : Nat} {xs : List Int32} {x : Int32} (hw : w[k]? = some (.inr (0, xs))) (hk : k ≠ 0) {j : Nat} (hj : j < xs.length) (h : j < 2147483648) : sI w k (nI j) x = some (w.set k (.inr (0, xs.set j x))) := by
  unfold sI
  rw [hw]
  dsimp only
  rw [if_pos ⟨rfl, hk, nI_pos' h, by rw [nI_clamp h]; exact hj⟩, nI_clamp h]
theorem cI_some (x : Int32) (w : XW) (k : Int32 → XW → Option XO) : cI (some (some (.int x), w)) k = k x w := rfl
theorem cL_some (x : Int64) (w : XW) (k : Int64 → XW → Option XO) : cL (some (some (.long x), w)) k = k x w := rfl
theorem cV_some (w : XW) (k : XW → Option XO) : cV (some (none, w)) k = k w := rfl
theorem rz_0 (w : XW) : retZ 0 w = some (some (.int 0), w) := rfl
theorem rz_1 (w : XW) : retZ 1 w = some (some (.int 1), w) := rfl
theorem io_1 (A : Nat → List Int32) (I : Nat → Nat → Int32) : isO (enc A I) 1 6 = true := rfl
theorem gr_1_0 (A : Nat → List Int32) (I : Nat → Nat → Int32) : gR (enc A I) 1 6 0 = some 2 := rfl
theorem gr_1_1 (A : Nat → List Int32) (I : Nat → Nat → Int32) : gR (enc A I) 1 6 1 = some 11 := rfl
theorem gr_1_2 (A : Nat → List Int32) (I : Nat → Nat → Int32) : gR (enc A I) 1 6 2 = some 15 := rfl
theorem gr_1_3 (A : Nat → List Int32) (I : Nat → Nat → Int32) : gR (enc A I) 1 6 3 = some 18 := rfl
theorem gr_1_4 (A : Nat → List Int32) (I : Nat → Nat → Int32) : gR (enc A I) 1 6 4 = some 21 := rfl
theorem gr_1_5 (A : Nat → List Int32) (I : Nat → Nat → Int32) : gR (enc A I) 1 6 5 = some 34 := rfl
theorem gi_1_6 (A : Nat → List Int32) (I : Nat → Nat → Int32) : gI (enc A I) 1 6 6 = some (I 1 6) := rfl
theorem pf_1_6 (A : Nat → List Int32) (I : Nat → Nat → Int32) (x : Int32) : pF (enc A I) 1 6 6 (.int x) = some (enc A (uI I 1 6 x)) := rfl
theorem gi_1_7 (A : Nat → List Int32) (I : Nat → Nat → Int32) : gI (enc A I) 1 6 7 = some (I 1 7) := rfl
theorem pf_1_7 (A : Nat → List Int32) (I : Nat → Nat → Int32) (x : Int32) : pF (enc A I) 1 6 7 (.int x) = some (enc A (uI I 1 7 x)) := rfl
theorem io_2 (A : Nat → List Int32) (I : Nat → Nat → Int32) : isO (enc A I) 2 0 = true := rfl
theorem gr_2_0 (A : Nat → List Int32) (I : Nat → Nat → Int32) : gR (enc A I) 2 0 0 = some 3 := rfl
theorem gr_2_1 (A : Nat → List Int32) (I : Nat → Nat → Int32) : gR (enc A I) 2 0 1 = some 4 := rfl
theorem gr_2_2 (A : Nat → List Int32) (I : Nat → Nat → Int32) : gR (enc A I) 2 0 2 = some 5 := rfl
theorem gr_2_3 (A : Nat → List Int32) (I : Nat → Nat → Int32) : gR (enc A I) 2 0 3 = some 6 := rfl
theorem gr_2_4 (A : Nat → List Int32) (I : Nat → Nat → Int32) : gR (enc A I) 2 0 4 = some 7 := rfl
theorem gr_2_5 (A : Nat → List Int32) (I : Nat → Nat → Int32) : gR (enc A I) 2 0 5 = some 8 := rfl
theorem gr_2_6 (A : Nat → List Int32) (I : Nat → Nat → Int32) : gR (enc A I) 2 0 6 = some 9 := rfl
theorem gr_2_7 (A : Nat → List Int32) (I : Nat → Nat → Int32) : gR (enc A I) 2 0 7 = some 10 := rfl
theorem gi_2_8 (A : Nat → List Int32) (I : Nat → Nat → Int32) : gI (enc A I) 2 0 8 = some (I 2 8) := rfl
theorem pf_2_8 (A : Nat → List Int32) (I : Nat → Nat → Int32) (x : Int32) : pF (enc A I) 2 0 8 (.int x) = some (enc A (uI I 2 8 x)) := rfl
theorem gi_2_9 (A : Nat → List Int32) (I : Nat → Nat → Int32) : gI (enc A I) 2 0 9 = some (I 2 9) := rfl
theorem pf_2_9 (A : Nat → List Int32) (I : Nat → Nat → Int32) (x : Int32) : pF (enc A I) 2 0 9 (.int x) = some (enc A (uI I 2 9 x)) := rfl
theorem gi_2_10 (A : Nat → List Int32) (I : Nat → Nat → Int32) : gI (enc A I) 2 0 10 = some (I 2 10) := rfl
theorem pf_2_10 (A : Nat → List Int32) (I : Nat → Nat → Int32) (x : Int32) : pF (enc A I) 2 0 10 (.int x) = some (enc A (uI I 2 10 x)) := rfl
theorem gi_2_11 (A : Nat → List Int32) (I : Nat → Nat → Int32) : gI (enc A I) 2 0 11 = some (I 2 11) := rfl
theorem pf_2_11 (A : Nat → List Int32) (I : Nat → Nat → Int32) (x : Int32) : pF (enc A I) 2 0 11 (.int x) = some (enc A (uI I 2 11 x)) := rfl
theorem gi_2_12 (A : Nat → List Int32) (I : Nat → Nat → Int32) : gI (enc A I) 2 0 12 = some (I 2 12) := rfl
theorem pf_2_12 (A : Nat → List Int32) (I : Nat → Nat → Int32) (x : Int32) : pF (enc A I) 2 0 12 (.int x) = some (enc A (uI I 2 12 x)) := rfl
theorem gi_2_13 (A : Nat → List Int32) (I : Nat → Nat → Int32) : gI (enc A I) 2 0 13 = some (I 2 13) := rfl
theorem pf_2_13 (A : Nat → List Int32) (I : Nat → Nat → Int32) (x : Int32) : pF (enc A I) 2 0 13 (.int x) = some (enc A (uI I 2 13 x)) := rfl
theorem gi_2_14 (A : Nat → List Int32) (I : Nat → Nat → Int32) : gI (enc A I) 2 0 14 = some (I 2 14) := rfl
theorem pf_2_14 (A : Nat → List Int32) (I : Nat → Nat → Int32) (x : Int32) : pF (enc A I) 2 0 14 (.int x) = some (enc A (uI I 2 14 x)) := rfl
theorem io_11 (A : Nat → List Int32) (I : Nat → Nat → Int32) : isO (enc A I) 11 4 = true := rfl
theorem gr_11_0 (A : Nat → List Int32) (I : Nat → Nat → Int32) : gR (enc A I) 11 4 0 = some 12 := rfl
theorem gr_11_1 (A : Nat → List Int32) (I : Nat → Nat → Int32) : gR (enc A I) 11 4 1 = some 13 := rfl
theorem gr_11_2 (A : Nat → List Int32) (I : Nat → Nat → Int32) : gR (enc A I) 11 4 2 = some 14 := rfl
theorem io_15 (A : Nat → List Int32) (I : Nat → Nat → Int32) : isO (enc A I) 15 5 = true := rfl
theorem gr_15_0 (A : Nat → List Int32) (I : Nat → Nat → Int32) : gR (enc A I) 15 5 0 = some 16 := rfl
theorem gr_15_1 (A : Nat → List Int32) (I : Nat → Nat → Int32) : gR (enc A I) 15 5 1 = some 17 := rfl
theorem gi_15_2 (A : Nat → List Int32) (I : Nat → Nat → Int32) : gI (enc A I) 15 5 2 = some (I 15 2) := rfl
theorem pf_15_2 (A : Nat → List Int32) (I : Nat → Nat → Int32) (x : Int32) : pF (enc A I) 15 5 2 (.int x) = some (enc A (uI I 15 2 x)) := rfl
theorem gi_15_3 (A : Nat → List Int32) (I : Nat → Nat → Int32) : gI (enc A I) 15 5 3 = some (I 15 3) := rfl
theorem pf_15_3 (A : Nat → List Int32) (I : Nat → Nat → Int32) (x : Int32) : pF (enc A I) 15 5 3 (.int x) = some (enc A (uI I 15 3 x)) := rfl
theorem gi_15_4 (A : Nat → List Int32) (I : Nat → Nat → Int32) : gI (enc A I) 15 5 4 = some (I 15 4) := rfl
theorem pf_15_4 (A : Nat → List Int32) (I : Nat → Nat → Int32) (x : Int32) : pF (enc A I) 15 5 4 (.int x) = some (enc A (uI I 15 4 x)) := rfl
theorem gi_15_5 (A : Nat → List Int32) (I : Nat → Nat → Int32) : gI (enc A I) 15 5 5 = some (I 15 5) := rfl
theorem pf_15_5 (A : Nat → List Int32) (I : Nat → Nat → Int32) (x : Int32) : pF (enc A I) 15 5 5 (.int x) = some (enc A (uI I 15 5 x)) := rfl
theorem io_18 (A : Nat → List Int32) (I : Nat → Nat → Int32) : isO (enc A I) 18 1 = true := rfl
theorem gr_18_0 (A : Nat → List Int32) (I : Nat → Nat → Int32) : gR (enc A I) 18 1 0 = some 19 := rfl
theorem gr_18_1 (A : Nat → List Int32) (I : Nat → Nat → Int32) : gR (enc A I) 18 1 1 = some 20 := rfl
theorem gi_18_2 (A : Nat → List Int32) (I : Nat → Nat → Int32) : gI (enc A I) 18 1 2 = some (I 18 2) := rfl
theorem pf_18_2 (A : Nat → List Int32) (I : Nat → Nat → Int32) (x : Int32) : pF (enc A I) 18 1 2 (.int x) = some (enc A (uI I 18 2 x)) := rfl
theorem io_21 (A : Nat → List Int32) (I : Nat → Nat → Int32) : isO (enc A I) 21 3 = true := rfl
theorem gr_21_0 (A : Nat → List Int32) (I : Nat → Nat → Int32) : gR (enc A I) 21 3 0 = some 22 := rfl
theorem gr_21_1 (A : Nat → List Int32) (I : Nat → Nat → Int32) : gR (enc A I) 21 3 1 = some 23 := rfl
theorem gr_21_2 (A : Nat → List Int32) (I : Nat → Nat → Int32) : gR (enc A I) 21 3 2 = some 24 := rfl
theorem gr_21_3 (A : Nat → List Int32) (I : Nat → Nat → Int32) : gR (enc A I) 21 3 3 = some 25 := rfl
theorem gi_21_4 (A : Nat → List Int32) (I : Nat → Nat → Int32) : gI (enc A I) 21 3 4 = some (I 21 4) := rfl
theorem pf_21_4 (A : Nat → List Int32) (I : Nat → Nat → Int32) (x : Int32) : pF (enc A I) 21 3 4 (.int x) = some (enc A (uI I 21 4 x)) := rfl
theorem gi_21_5 (A : Nat → List Int32) (I : Nat → Nat → Int32) : gI (enc A I) 21 3 5 = some (I 21 5) := rfl
theorem pf_21_5 (A : Nat → List Int32) (I : Nat → Nat → Int32) (x : Int32) : pF (enc A I) 21 3 5 (.int x) = some (enc A (uI I 21 5 x)) := rfl
theorem gi_21_6 (A : Nat → List Int32) (I : Nat → Nat → Int32) : gI (enc A I) 21 3 6 = some (I 21 6) := rfl
theorem pf_21_6 (A : Nat → List Int32) (I : Nat → Nat → Int32) (x : Int32) : pF (enc A I) 21 3 6 (.int x) = some (enc A (uI I 21 6 x)) := rfl
theorem gi_21_7 (A : Nat → List Int32) (I : Nat → Nat → Int32) : gI (enc A I) 21 3 7 = some (I 21 7) := rfl
theorem pf_21_7 (A : Nat → List Int32) (I : Nat → Nat → Int32) (x : Int32) : pF (enc A I) 21 3 7 (.int x) = some (enc A (uI I 21 7 x)) := rfl
theorem io_34 (A : Nat → List Int32) (I : Nat → Nat → Int32) : isO (enc A I) 34 2 = true := rfl
theorem gr_34_0 (A : Nat → List Int32) (I : Nat → Nat → Int32) : gR (enc A I) 34 2 0 = some 35 := rfl
theorem gi_34_1 (A : Nat → List Int32) (I : Nat → Nat → Int32) : gI (enc A I) 34 2 1 = some (I 34 1) := rfl
theorem pf_34_1 (A : Nat → List Int32) (I : Nat → Nat → Int32) (x : Int32) : pF (enc A I) 34 2 1 (.int x) = some (enc A (uI I 34 1 x)) := rfl
theorem ai_3 (A : Nat → List Int32) (I : Nat → Nat → Int32) {j : Nat} (hj : j < (A 3).length) (h : j < 2147483648) : aI (enc A I) 3 (nI j) = some (rd (A 3) j) := aI_enc rfl hj h
theorem si_3 (A : Nat → List Int32) (I : Nat → Nat → Int32) {j : Nat} (x : Int32) (hj : j < (A 3).length) (h : j < 2147483648) : sI (enc A I) 3 (nI j) x = some (enc (uA A 3 ((A 3).set j x)) I) := (sI_enc rfl (by decide) hj h).trans (congrArg some rfl)
theorem al_3 (A : Nat → List Int32) (I : Nat → Nat → Int32) : aL (enc A I) 3 = some (Int32.ofNat (A 3).length) := rfl
theorem ai_4 (A : Nat → List Int32) (I : Nat → Nat → Int32) {j : Nat} (hj : j < (A 4).length) (h : j < 2147483648) : aI (enc A I) 4 (nI j) = some (rd (A 4) j) := aI_enc rfl hj h
theorem si_4 (A : Nat → List Int32) (I : Nat → Nat → Int32) {j : Nat} (x : Int32) (hj : j < (A 4).length) (h : j < 2147483648) : sI (enc A I) 4 (nI j) x = some (enc (uA A 4 ((A 4).set j x)) I) := (sI_enc rfl (by decide) hj h).trans (congrArg some rfl)
theorem al_4 (A : Nat → List Int32) (I : Nat → Nat → Int32) : aL (enc A I) 4 = some (Int32.ofNat (A 4).length) := rfl
theorem ai_5 (A : Nat → List Int32) (I : Nat → Nat → Int32) {j : Nat} (hj : j < (A 5).length) (h : j < 2147483648) : aI (enc A I) 5 (nI j) = some (rd (A 5) j) := aI_enc rfl hj h
theorem si_5 (A : Nat → List Int32) (I : Nat → Nat → Int32) {j : Nat} (x : Int32) (hj : j < (A 5).length) (h : j < 2147483648) : sI (enc A I) 5 (nI j) x = some (enc (uA A 5 ((A 5).set j x)) I) := (sI_enc rfl (by decide) hj h).trans (congrArg some rfl)
theorem al_5 (A : Nat → List Int32) (I : Nat → Nat → Int32) : aL (enc A I) 5 = some (Int32.ofNat (A 5).length) := rfl
theorem ai_6 (A : Nat → List Int32) (I : Nat → Nat → Int32) {j : Nat} (hj : j < (A 6).length) (h : j < 2147483648) : aI (enc A I) 6 (nI j) = some (rd (A 6) j) := aI_enc rfl hj h
theorem si_6 (A : Nat → List Int32) (I : Nat → Nat → Int32) {j : Nat} (x : Int32) (hj : j < (A 6).length) (h : j < 2147483648) : sI (enc A I) 6 (nI j) x = some (enc (uA A 6 ((A 6).set j x)) I) := (sI_enc rfl (by decide) hj h).trans (congrArg some rfl)
theorem al_6 (A : Nat → List Int32) (I : Nat → Nat → Int32) : aL (enc A I) 6 = some (Int32.ofNat (A 6).length) := rfl
theorem ai_7 (A : Nat → List Int32) (I : Nat → Nat → Int32) {j : Nat} (hj : j < (A 7).length) (h : j < 2147483648) : aI (enc A I) 7 (nI j) = some (rd (A 7) j) := aI_enc rfl hj h
theorem si_7 (A : Nat → List Int32) (I : Nat → Nat → Int32) {j : Nat} (x : Int32) (hj : j < (A 7).length) (h : j < 2147483648) : sI (enc A I) 7 (nI j) x = some (enc (uA A 7 ((A 7).set j x)) I) := (sI_enc rfl (by decide) hj h).trans (congrArg some rfl)
theorem al_7 (A : Nat → List Int32) (I : Nat → Nat → Int32) : aL (enc A I) 7 = some (Int32.ofNat (A 7).length) := rfl
theorem ai_8 (A : Nat → List Int32) (I : Nat → Nat → Int32) {j : Nat} (hj : j < (A 8).length) (h : j < 2147483648) : aI (enc A I) 8 (nI j) = some (rd (A 8) j) := aI_enc rfl hj h
theorem si_8 (A : Nat → List Int32) (I : Nat → Nat → Int32) {j : Nat} (x : Int32) (hj : j < (A 8).length) (h : j < 2147483648) : sI (enc A I) 8 (nI j) x = some (enc (uA A 8 ((A 8).set j x)) I) := (sI_enc rfl (by decide) hj h).trans (congrArg some rfl)
theorem al_8 (A : Nat → List Int32) (I : Nat → Nat → Int32) : aL (enc A I) 8 = some (Int32.ofNat (A 8).length) := rfl
theorem ai_9 (A : Nat → List Int32) (I : Nat → Nat → Int32) {j : Nat} (hj : j < (A 9).length) (h : j < 2147483648) : aI (enc A I) 9 (nI j) = some (rd (A 9) j) := aI_enc rfl hj h
theorem si_9 (A : Nat → List Int32) (I : Nat → Nat → Int32) {j : Nat} (x : Int32) (hj : j < (A 9).length) (h : j < 2147483648) : sI (enc A I) 9 (nI j) x = some (enc (uA A 9 ((A 9).set j x)) I) := (sI_enc rfl (by decide) hj h).trans (congrArg some rfl)
theorem al_9 (A : Nat → List Int32) (I : Nat → Nat → Int32) : aL (enc A I) 9 = some (Int32.ofNat (A 9).length) := rfl
theorem ai_10 (A : Nat → List Int32) (I : Nat → Nat → Int32) {j : Nat} (hj : j < (A 10).length) (h : j < 2147483648) : aI (enc A I) 10 (nI j) = some (rd (A 10) j) := aI_enc rfl hj h
theorem si_10 (A : Nat → List Int32) (I : Nat → Nat → Int32) {j : Nat} (x : Int32) (hj : j < (A 10).length) (h : j < 2147483648) : sI (enc A I) 10 (nI j) x = some (enc (uA A 10 ((A 10).set j x)) I) := (sI_enc rfl (by decide) hj h).trans (congrArg some rfl)
theorem al_10 (A : Nat → List Int32) (I : Nat → Nat → Int32) : aL (enc A I) 10 = some (Int32.ofNat (A 10).length) := rfl
theorem ai_12 (A : Nat → List Int32) (I : Nat → Nat → Int32) {j : Nat} (hj : j < (A 12).length) (h : j < 2147483648) : aI (enc A I) 12 (nI j) = some (rd (A 12) j) := aI_enc rfl hj h
theorem si_12 (A : Nat → List Int32) (I : Nat → Nat → Int32) {j : Nat} (x : Int32) (hj : j < (A 12).length) (h : j < 2147483648) : sI (enc A I) 12 (nI j) x = some (enc (uA A 12 ((A 12).set j x)) I) := (sI_enc rfl (by decide) hj h).trans (congrArg some rfl)
theorem al_12 (A : Nat → List Int32) (I : Nat → Nat → Int32) : aL (enc A I) 12 = some (Int32.ofNat (A 12).length) := rfl
theorem ai_13 (A : Nat → List Int32) (I : Nat → Nat → Int32) {j : Nat} (hj : j < (A 13).length) (h : j < 2147483648) : aI (enc A I) 13 (nI j) = some (rd (A 13) j) := aI_enc rfl hj h
theorem si_13 (A : Nat → List Int32) (I : Nat → Nat → Int32) {j : Nat} (x : Int32) (hj : j < (A 13).length) (h : j < 2147483648) : sI (enc A I) 13 (nI j) x = some (enc (uA A 13 ((A 13).set j x)) I) := (sI_enc rfl (by decide) hj h).trans (congrArg some rfl)
theorem al_13 (A : Nat → List Int32) (I : Nat → Nat → Int32) : aL (enc A I) 13 = some (Int32.ofNat (A 13).length) := rfl
theorem ai_14 (A : Nat → List Int32) (I : Nat → Nat → Int32) {j : Nat} (hj : j < (A 14).length) (h : j < 2147483648) : aI (enc A I) 14 (nI j) = some (rd (A 14) j) := aI_enc rfl hj h
theorem si_14 (A : Nat → List Int32) (I : Nat → Nat → Int32) {j : Nat} (x : Int32) (hj : j < (A 14).length) (h : j < 2147483648) : sI (enc A I) 14 (nI j) x = some (enc (uA A 14 ((A 14).set j x)) I) := (sI_enc rfl (by decide) hj h).trans (congrArg some rfl)
theorem al_14 (A : Nat → List Int32) (I : Nat → Nat → Int32) : aL (enc A I) 14 = some (Int32.ofNat (A 14).length) := rfl
theorem ai_16 (A : Nat → List Int32) (I : Nat → Nat → Int32) {j : Nat} (hj : j < (A 16).length) (h : j < 2147483648) : aI (enc A I) 16 (nI j) = some (rd (A 16) j) := aI_enc rfl hj h
theorem si_16 (A : Nat → List Int32) (I : Nat → Nat → Int32) {j : Nat} (x : Int32) (hj : j < (A 16).length) (h : j < 2147483648) : sI (enc A I) 16 (nI j) x = some (enc (uA A 16 ((A 16).set j x)) I) := (sI_enc rfl (by decide) hj h).trans (congrArg some rfl)
theorem al_16 (A : Nat → List Int32) (I : Nat → Nat → Int32) : aL (enc A I) 16 = some (Int32.ofNat (A 16).length) := rfl
theorem ai_17 (A : Nat → List Int32) (I : Nat → Nat → Int32) {j : Nat} (hj : j < (A 17).length) (h : j < 2147483648) : aI (enc A I) 17 (nI j) = some (rd (A 17) j) := aI_enc rfl hj h
theorem si_17 (A : Nat → List Int32) (I : Nat → Nat → Int32) {j : Nat} (x : Int32) (hj : j < (A 17).length) (h : j < 2147483648) : sI (enc A I) 17 (nI j) x = some (enc (uA A 17 ((A 17).set j x)) I) := (sI_enc rfl (by decide) hj h).trans (congrArg some rfl)
theorem al_17 (A : Nat → List Int32) (I : Nat → Nat → Int32) : aL (enc A I) 17 = some (Int32.ofNat (A 17).length) := rfl
theorem ai_19 (A : Nat → List Int32) (I : Nat → Nat → Int32) {j : Nat} (hj : j < (A 19).length) (h : j < 2147483648) : aI (enc A I) 19 (nI j) = some (rd (A 19) j) := aI_enc rfl hj h
theorem si_19 (A : Nat → List Int32) (I : Nat → Nat → Int32) {j : Nat} (x : Int32) (hj : j < (A 19).length) (h : j < 2147483648) : sI (enc A I) 19 (nI j) x = some (enc (uA A 19 ((A 19).set j x)) I) := (sI_enc rfl (by decide) hj h).trans (congrArg some rfl)
theorem al_19 (A : Nat → List Int32) (I : Nat → Nat → Int32) : aL (enc A I) 19 = some (Int32.ofNat (A 19).length) := rfl
theorem ai_20 (A : Nat → List Int32) (I : Nat → Nat → Int32) {j : Nat} (hj : j < (A 20).length) (h : j < 2147483648) : aI (enc A I) 20 (nI j) = some (rd (A 20) j) := aI_enc rfl hj h
theorem si_20 (A : Nat → List Int32) (I : Nat → Nat → Int32) {j : Nat} (x : Int32) (hj : j < (A 20).length) (h : j < 2147483648) : sI (enc A I) 20 (nI j) x = some (enc (uA A 20 ((A 20).set j x)) I) := (sI_enc rfl (by decide) hj h).trans (congrArg some rfl)
theorem al_20 (A : Nat → List Int32) (I : Nat → Nat → Int32) : aL (enc A I) 20 = some (Int32.ofNat (A 20).length) := rfl
theorem ai_22 (A : Nat → List Int32) (I : Nat → Nat → Int32) {j : Nat} (hj : j < (A 22).length) (h : j < 2147483648) : aI (enc A I) 22 (nI j) = some (rd (A 22) j) := aI_enc rfl hj h
theorem si_22 (A : Nat → List Int32) (I : Nat → Nat → Int32) {j : Nat} (x : Int32) (hj : j < (A 22).length) (h : j < 2147483648) : sI (enc A I) 22 (nI j) x = some (enc (uA A 22 ((A 22).set j x)) I) := (sI_enc rfl (by decide) hj h).trans (congrArg some rfl)
theorem al_22 (A : Nat → List Int32) (I : Nat → Nat → Int32) : aL (enc A I) 22 = some (Int32.ofNat (A 22).length) := rfl
theorem ai_23 (A : Nat → List Int32) (I : Nat → Nat → Int32) {j : Nat} (hj : j < (A 23).length) (h : j < 2147483648) : aI (enc A I) 23 (nI j) = some (rd (A 23) j) := aI_enc rfl hj h
theorem si_23 (A : Nat → List Int32) (I : Nat → Nat → Int32) {j : Nat} (x : Int32) (hj : j < (A 23).length) (h : j < 2147483648) : sI (enc A I) 23 (nI j) x = some (enc (uA A 23 ((A 23).set j x)) I) := (sI_enc rfl (by decide) hj h).trans (congrArg some rfl)
theorem al_23 (A : Nat → List Int32) (I : Nat → Nat → Int32) : aL (enc A I) 23 = some (Int32.ofNat (A 23).length) := rfl
theorem ai_24 (A : Nat → List Int32) (I : Nat → Nat → Int32) {j : Nat} (hj : j < (A 24).length) (h : j < 2147483648) : aI (enc A I) 24 (nI j) = some (rd (A 24) j) := aI_enc rfl hj h
theorem si_24 (A : Nat → List Int32) (I : Nat → Nat → Int32) {j : Nat} (x : Int32) (hj : j < (A 24).length) (h : j < 2147483648) : sI (enc A I) 24 (nI j) x = some (enc (uA A 24 ((A 24).set j x)) I) := (sI_enc rfl (by decide) hj h).trans (congrArg some rfl)
theorem al_24 (A : Nat → List Int32) (I : Nat → Nat → Int32) : aL (enc A I) 24 = some (Int32.ofNat (A 24).length) := rfl
theorem ai_26 (A : Nat → List Int32) (I : Nat → Nat → Int32) {j : Nat} (hj : j < (A 26).length) (h : j < 2147483648) : aI (enc A I) 26 (nI j) = some (rd (A 26) j) := aI_enc rfl hj h
theorem si_26 (A : Nat → List Int32) (I : Nat → Nat → Int32) {j : Nat} (x : Int32) (hj : j < (A 26).length) (h : j < 2147483648) : sI (enc A I) 26 (nI j) x = some (enc (uA A 26 ((A 26).set j x)) I) := (sI_enc rfl (by decide) hj h).trans (congrArg some rfl)
theorem al_26 (A : Nat → List Int32) (I : Nat → Nat → Int32) : aL (enc A I) 26 = some (Int32.ofNat (A 26).length) := rfl
theorem ai_27 (A : Nat → List Int32) (I : Nat → Nat → Int32) {j : Nat} (hj : j < (A 27).length) (h : j < 2147483648) : aI (enc A I) 27 (nI j) = some (rd (A 27) j) := aI_enc rfl hj h
theorem si_27 (A : Nat → List Int32) (I : Nat → Nat → Int32) {j : Nat} (x : Int32) (hj : j < (A 27).length) (h : j < 2147483648) : sI (enc A I) 27 (nI j) x = some (enc (uA A 27 ((A 27).set j x)) I) := (sI_enc rfl (by decide) hj h).trans (congrArg some rfl)
theorem al_27 (A : Nat → List Int32) (I : Nat → Nat → Int32) : aL (enc A I) 27 = some (Int32.ofNat (A 27).length) := rfl
theorem ai_28 (A : Nat → List Int32) (I : Nat → Nat → Int32) {j : Nat} (hj : j < (A 28).length) (h : j < 2147483648) : aI (enc A I) 28 (nI j) = some (rd (A 28) j) := aI_enc rfl hj h
theorem si_28 (A : Nat → List Int32) (I : Nat → Nat → Int32) {j : Nat} (x : Int32) (hj : j < (A 28).length) (h : j < 2147483648) : sI (enc A I) 28 (nI j) x = some (enc (uA A 28 ((A 28).set j x)) I) := (sI_enc rfl (by decide) hj h).trans (congrArg some rfl)
theorem al_28 (A : Nat → List Int32) (I : Nat → Nat → Int32) : aL (enc A I) 28 = some (Int32.ofNat (A 28).length) := rfl
theorem ai_29 (A : Nat → List Int32) (I : Nat → Nat → Int32) {j : Nat} (hj : j < (A 29).length) (h : j < 2147483648) : aI (enc A I) 29 (nI j) = some (rd (A 29) j) := aI_enc rfl hj h
theorem si_29 (A : Nat → List Int32) (I : Nat → Nat → Int32) {j : Nat} (x : Int32) (hj : j < (A 29).length) (h : j < 2147483648) : sI (enc A I) 29 (nI j) x = some (enc (uA A 29 ((A 29).set j x)) I) := (sI_enc rfl (by decide) hj h).trans (congrArg some rfl)
theorem al_29 (A : Nat → List Int32) (I : Nat → Nat → Int32) : aL (enc A I) 29 = some (Int32.ofNat (A 29).length) := rfl
theorem ai_30 (A : Nat → List Int32) (I : Nat → Nat → Int32) {j : Nat} (hj : j < (A 30).length) (h : j < 2147483648) : aI (enc A I) 30 (nI j) = some (rd (A 30) j) := aI_enc rfl hj h
theorem si_30 (A : Nat → List Int32) (I : Nat → Nat → Int32) {j : Nat} (x : Int32) (hj : j < (A 30).length) (h : j < 2147483648) : sI (enc A I) 30 (nI j) x = some (enc (uA A 30 ((A 30).set j x)) I) := (sI_enc rfl (by decide) hj h).trans (congrArg some rfl)
theorem al_30 (A : Nat → List Int32) (I : Nat → Nat → Int32) : aL (enc A I) 30 = some (Int32.ofNat (A 30).length) := rfl
theorem ai_31 (A : Nat → List Int32) (I : Nat → Nat → Int32) {j : Nat} (hj : j < (A 31).length) (h : j < 2147483648) : aI (enc A I) 31 (nI j) = some (rd (A 31) j) := aI_enc rfl hj h
theorem si_31 (A : Nat → List Int32) (I : Nat → Nat → Int32) {j : Nat} (x : Int32) (hj : j < (A 31).length) (h : j < 2147483648) : sI (enc A I) 31 (nI j) x = some (enc (uA A 31 ((A 31).set j x)) I) := (sI_enc rfl (by decide) hj h).trans (congrArg some rfl)
theorem al_31 (A : Nat → List Int32) (I : Nat → Nat → Int32) : aL (enc A I) 31 = some (Int32.ofNat (A 31).length) := rfl
theorem ai_32 (A : Nat → List Int32) (I : Nat → Nat → Int32) {j : Nat} (hj : j < (A 32).length) (h : j < 2147483648) : aI (enc A I) 32 (nI j) = some (rd (A 32) j) := aI_enc rfl hj h
theorem si_32 (A : Nat → List Int32) (I : Nat → Nat → Int32) {j : Nat} (x : Int32) (hj : j < (A 32).length) (h : j < 2147483648) : sI (enc A I) 32 (nI j) x = some (enc (uA A 32 ((A 32).set j x)) I) := (sI_enc rfl (by decide) hj h).trans (congrArg some rfl)
theorem al_32 (A : Nat → List Int32) (I : Nat → Nat → Int32) : aL (enc A I) 32 = some (Int32.ofNat (A 32).length) := rfl
theorem ai_33 (A : Nat → List Int32) (I : Nat → Nat → Int32) {j : Nat} (hj : j < (A 33).length) (h : j < 2147483648) : aI (enc A I) 33 (nI j) = some (rd (A 33) j) := aI_enc rfl hj h
theorem si_33 (A : Nat → List Int32) (I : Nat → Nat → Int32) {j : Nat} (x : Int32) (hj : j < (A 33).length) (h : j < 2147483648) : sI (enc A I) 33 (nI j) x = some (enc (uA A 33 ((A 33).set j x)) I) := (sI_enc rfl (by decide) hj h).trans (congrArg some rfl)
theorem al_33 (A : Nat → List Int32) (I : Nat → Nat → Int32) : aL (enc A I) 33 = some (Int32.ofNat (A 33).length) := rfl
theorem ai_35 (A : Nat → List Int32) (I : Nat → Nat → Int32) {j : Nat} (hj : j < (A 35).length) (h : j < 2147483648) : aI (enc A I) 35 (nI j) = some (rd (A 35) j) := aI_enc rfl hj h
theorem si_35 (A : Nat → List Int32) (I : Nat → Nat → Int32) {j : Nat} (x : Int32) (hj : j < (A 35).length) (h : j < 2147483648) : sI (enc A I) 35 (nI j) x = some (enc (uA A 35 ((A 35).set j x)) I) := (sI_enc rfl (by decide) hj h).trans (congrArg some rfl)
theorem al_35 (A : Nat → List Int32) (I : Nat → Nat → Int32) : aL (enc A I) 35 = some (Int32.ofNat (A 35).length) := rfl
end
section
/-! unfolding rows (laid by program wip/whole/gen/part21.py) -/
theorem u_J7_fill_53178 (fu : Nat) (a0 : Nat) (a1 : Int32) (w : XW) : U_J7_fill_53178 fu [.ref a0, .int a1] w = M_J7_fill_53178 fu a0 a1 w := rfl
theorem u_X0_init (fu : Nat) (a0 : Nat) (w : XW) : U_X0_init fu [.ref a0] w = M_X0_init fu a0 w := rfl
theorem u_X4_init (fu : Nat) (a0 : Nat) (w : XW) : U_X4_init fu [.ref a0] w = M_X4_init fu a0 w := rfl
theorem u_X6_init (fu : Nat) (a0 : Nat) (w : XW) : U_X6_init fu [.ref a0] w = M_X6_init fu a0 w := rfl
theorem u_X1_init (fu : Nat) (a0 : Nat) (w : XW) : U_X1_init fu [.ref a0] w = M_X1_init fu a0 w := rfl
theorem u_X3_init (fu : Nat) (a0 : Nat) (w : XW) : U_X3_init fu [.ref a0] w = M_X3_init fu a0 w := rfl
theorem u_X2_init (fu : Nat) (a0 : Nat) (w : XW) : U_X2_init fu [.ref a0] w = M_X2_init fu a0 w := rfl
theorem u_X7_init (fu : Nat) (a0 : Nat) (w : XW) : U_X7_init fu [.ref a0] w = M_X7_init fu a0 w := rfl
theorem u_L_cell (fu : Nat) (a0 : Nat) (a1 : Int32) (w : XW) : U_L_cell fu [.ref a0, .int a1] w = M_L_cell fu a0 a1 w := rfl
theorem u_L_some (fu : Nat) (a0 : Int32) (a1 : Int32) (w : XW) : U_L_some fu [.int a0, .int a1] w = M_L_some fu a0 a1 w := rfl
theorem u_X7_isWithin (fu : Nat) (a0 : Int32) (a1 : Int32) (a2 : Int32) (w : XW) : U_X7_isWithin fu [.int a0, .int a1, .int a2] w = M_X7_isWithin fu a0 a1 a2 w := rfl
theorem u_X4_isSheet (fu : Nat) (a0 : Int32) (w : XW) : U_X4_isSheet fu [.int a0] w = M_X4_isSheet fu a0 w := rfl
theorem u_X4_isSort (fu : Nat) (a0 : Int32) (w : XW) : U_X4_isSort fu [.int a0] w = M_X4_isSort fu a0 w := rfl
theorem u_X7_failBy (fu : Nat) (a0 : Nat) (a1 : Int32) (w : XW) : U_X7_failBy fu [.ref a0, .int a1] w = if isO w a0 6 = true then M_X7_failBy fu a0 a1 w else none := rfl
theorem u_J7_rangeCheck_23922 (fu : Nat) (a0 : Int32) (a1 : Int32) (a2 : Int32) (w : XW) : U_J7_rangeCheck_23922 fu [.int a0, .int a1, .int a2] w = M_J7_rangeCheck_23922 fu a0 a1 a2 w := rfl
theorem u_J7_fill_fda19 (fu : Nat) (a0 : Nat) (a1 : Int32) (a2 : Int32) (a3 : Int32) (w : XW) : U_J7_fill_fda19 fu [.ref a0, .int a1, .int a2, .int a3] w = M_J7_fill_fda19 fu a0 a1 a2 a3 w := rfl
theorem u_X4_renew (fu : Nat) (a0 : Nat) (a1 : Int32) (a2 : Int32) (a3 : Int32) (w : XW) : U_X4_renew fu [.ref a0, .int a1, .int a2, .int a3] w = if isO w a0 4 = true then M_X4_renew fu a0 a1 a2 a3 w else none := rfl
theorem u_X7_sheet (fu : Nat) (a0 : Nat) (a1 : Int32) (a2 : Int32) (a3 : Int32) (w : XW) : U_X7_sheet fu [.ref a0, .int a1, .int a2, .int a3] w = if isO w a0 6 = true then M_X7_sheet fu a0 a1 a2 a3 w else none := rfl
theorem u_X4_isThere (fu : Nat) (a0 : Nat) (a1 : Int32) (w : XW) : U_X4_isThere fu [.ref a0, .int a1] w = if isO w a0 4 = true then M_X4_isThere fu a0 a1 w else none := rfl
theorem u_X4_cut (fu : Nat) (a0 : Int32) (a1 : Int32) (w : XW) : U_X4_cut fu [.int a0, .int a1] w = M_X4_cut fu a0 a1 w := rfl
theorem u_X4_write (fu : Nat) (a0 : Nat) (a1 : Int32) (a2 : Int32) (a3 : Int32) (w : XW) : U_X4_write fu [.ref a0, .int a1, .int a2, .int a3] w = if isO w a0 4 = true then M_X4_write fu a0 a1 a2 a3 w else none := rfl
theorem u_X7_put (fu : Nat) (a0 : Nat) (a1 : Int32) (a2 : Int32) (a3 : Int32) (w : XW) : U_X7_put fu [.ref a0, .int a1, .int a2, .int a3] w = if isO w a0 6 = true then M_X7_put fu a0 a1 a2 a3 w else none := rfl
theorem u_L_put (fu : Nat) (a0 : Nat) (a1 : Nat) (a2 : Int32) (a3 : Int32) (a4 : Nat) (w : XW) : U_L_put fu [.ref a0, .ref a1, .int a2, .int a3, .ref a4] w = M_L_put fu a0 a1 a2 a3 a4 w := rfl
theorem u_X4_reaches (fu : Nat) (a0 : Nat) (a1 : Int32) (a2 : Int32) (a3 : Int32) (w : XW) : U_X4_reaches fu [.ref a0, .int a1, .int a2, .int a3] w = if isO w a0 4 = true then M_X4_reaches fu a0 a1 a2 a3 w else none := rfl
theorem u_X4_faultOfCells (fu : Nat) (a0 : Nat) (a1 : Int32) (a2 : Int32) (a3 : Int32) (a4 : Int32) (w : XW) : U_X4_faultOfCells fu [.ref a0, .int a1, .int a2, .int a3, .int a4] w = if isO w a0 4 = true then M_X4_faultOfCells fu a0 a1 a2 a3 a4 w else none := rfl
theorem u_X7_refusalOfCells (fu : Nat) (a0 : Nat) (a1 : Int32) (a2 : Int32) (a3 : Int32) (a4 : Int32) (w : XW) : U_X7_refusalOfCells fu [.ref a0, .int a1, .int a2, .int a3, .int a4] w = if isO w a0 6 = true then M_X7_refusalOfCells fu a0 a1 a2 a3 a4 w else none := rfl
theorem u_X4_at (fu : Nat) (a0 : Nat) (a1 : Int32) (a2 : Int32) (w : XW) : U_X4_at fu [.ref a0, .int a1, .int a2] w = if isO w a0 4 = true then M_X4_at fu a0 a1 a2 w else none := rfl
theorem u_X5_isDigit (fu : Nat) (a0 : Int32) (w : XW) : U_X5_isDigit fu [.int a0] w = M_X5_isDigit fu a0 w := rfl
theorem u_X5_cellsTold (fu : Nat) (a0 : Nat) (a1 : Int32) (a2 : Int32) (a3 : Int32) (w : XW) : U_X5_cellsTold fu [.ref a0, .int a1, .int a2, .int a3] w = M_X5_cellsTold fu a0 a1 a2 a3 w := rfl
theorem u_X5_length (fu : Nat) (a0 : Int32) (w : XW) : U_X5_length fu [.int a0] w = M_X5_length fu a0 w := rfl
theorem u_X5_goesOn (fu : Nat) (a0 : Int32) (a1 : Int32) (a2 : Int32) (w : XW) : U_X5_goesOn fu [.int a0, .int a1, .int a2] w = M_X5_goesOn fu a0 a1 a2 w := rfl
theorem u_X5_firstFault (fu : Nat) (a0 : Nat) (a1 : Int32) (a2 : Int32) (a3 : Int32) (w : XW) : U_X5_firstFault fu [.ref a0, .int a1, .int a2, .int a3] w = M_X5_firstFault fu a0 a1 a2 a3 w := rfl
theorem u_X0_makeAnew (fu : Nat) (a0 : Nat) (w : XW) : U_X0_makeAnew fu [.ref a0] w = if isO w a0 0 = true then M_X0_makeAnew fu a0 w else none := rfl
theorem u_X5_readInto (fu : Nat) (a0 : Nat) (a1 : Nat) (a2 : Int32) (a3 : Int32) (a4 : Int32) (w : XW) : U_X5_readInto fu [.ref a0, .ref a1, .int a2, .int a3, .int a4] w = M_X5_readInto fu a0 a1 a2 a3 a4 w := rfl
theorem u_X7_brook (fu : Nat) (a0 : Nat) (a1 : Int32) (a2 : Int32) (a3 : Int32) (a4 : Int32) (w : XW) : U_X7_brook fu [.ref a0, .int a1, .int a2, .int a3, .int a4] w = if isO w a0 6 = true then M_X7_brook fu a0 a1 a2 a3 a4 w else none := rfl
theorem u_X0_isThere (fu : Nat) (a0 : Nat) (w : XW) : U_X0_isThere fu [.ref a0] w = if isO w a0 0 = true then M_X0_isThere fu a0 w else none := rfl
theorem u_X0_addStone (fu : Nat) (a0 : Nat) (a1 : Int32) (a2 : Int32) (a3 : Int32) (a4 : Int32) (w : XW) : U_X0_addStone fu [.ref a0, .int a1, .int a2, .int a3, .int a4] w = if isO w a0 0 = true then M_X0_addStone fu a0 a1 a2 a3 a4 w else none := rfl
theorem u_X7_stone (fu : Nat) (a0 : Nat) (a1 : Int32) (a2 : Int32) (a3 : Int32) (a4 : Int32) (w : XW) : U_X7_stone fu [.ref a0, .int a1, .int a2, .int a3, .int a4] w = if isO w a0 6 = true then M_X7_stone fu a0 a1 a2 a3 a4 w else none := rfl
theorem u_L_stones (fu : Nat) (a0 : Nat) (a1 : Nat) (a2 : Int32) (a3 : Int32) (a4 : Nat) (w : XW) : U_L_stones fu [.ref a0, .ref a1, .int a2, .int a3, .ref a4] w = M_L_stones fu a0 a1 a2 a3 a4 w := rfl
theorem u_X0_addWalker (fu : Nat) (a0 : Nat) (a1 : Int32) (w : XW) : U_X0_addWalker fu [.ref a0, .int a1] w = if isO w a0 0 = true then M_X0_addWalker fu a0 a1 w else none := rfl
theorem u_X7_walker (fu : Nat) (a0 : Nat) (a1 : Int32) (w : XW) : U_X7_walker fu [.ref a0, .int a1] w = if isO w a0 6 = true then M_X7_walker fu a0 a1 w else none := rfl
theorem u_X0_isWalker (fu : Nat) (a0 : Nat) (a1 : Int32) (w : XW) : U_X0_isWalker fu [.ref a0, .int a1] w = if isO w a0 0 = true then M_X0_isWalker fu a0 a1 w else none := rfl
theorem u_X7_stride (fu : Nat) (a0 : Nat) (a1 : Int32) (w : XW) : U_X7_stride fu [.ref a0, .int a1] w = if isO w a0 6 = true then M_X7_stride fu a0 a1 w else none := rfl
theorem u_X0_isStone (fu : Nat) (a0 : Nat) (a1 : Int32) (w : XW) : U_X0_isStone fu [.ref a0, .int a1] w = if isO w a0 0 = true then M_X0_isStone fu a0 a1 w else none := rfl
theorem u_X0_isCell (fu : Nat) (a0 : Nat) (a1 : Int32) (w : XW) : U_X0_isCell fu [.ref a0, .int a1] w = if isO w a0 0 = true then M_X0_isCell fu a0 a1 w else none := rfl
theorem u_X7_has (fu : Nat) (a0 : Int32) (a1 : Int32) (w : XW) : U_X7_has fu [.int a0, .int a1] w = M_X7_has fu a0 a1 w := rfl
theorem u_X0_cellOf (fu : Nat) (a0 : Nat) (a1 : Int32) (w : XW) : U_X0_cellOf fu [.ref a0, .int a1] w = if isO w a0 0 = true then M_X0_cellOf fu a0 a1 w else none := rfl
theorem u_X0_takeUp (fu : Nat) (a0 : Nat) (a1 : Int32) (w : XW) : U_X0_takeUp fu [.ref a0, .int a1] w = if isO w a0 0 = true then M_X0_takeUp fu a0 a1 w else none := rfl
theorem u_X7_set (fu : Nat) (a0 : Nat) (a1 : Int32) (a2 : Int32) (w : XW) : U_X7_set fu [.ref a0, .int a1, .int a2] w = if isO w a0 6 = true then M_X7_set fu a0 a1 a2 w else none := rfl
theorem u_X0_holdOf (fu : Nat) (a0 : Nat) (a1 : Int32) (w : XW) : U_X0_holdOf fu [.ref a0, .int a1] w = if isO w a0 0 = true then M_X0_holdOf fu a0 a1 w else none := rfl
theorem u_X7_ofStone (fu : Nat) (a0 : Nat) (a1 : Int32) (a2 : Int32) (w : XW) : U_X7_ofStone fu [.ref a0, .int a1, .int a2] w = if isO w a0 6 = true then M_X7_ofStone fu a0 a1 a2 w else none := rfl
theorem u_X7_water (fu : Nat) (a0 : Nat) (a1 : Int32) (w : XW) : U_X7_water fu [.ref a0, .int a1] w = if isO w a0 6 = true then M_X7_water fu a0 a1 w else none := rfl
theorem u_X0_topOf (fu : Nat) (a0 : Nat) (a1 : Int32) (a2 : Int32) (a3 : Int32) (w : XW) : U_X0_topOf fu [.ref a0, .int a1, .int a2, .int a3] w = if isO w a0 0 = true then M_X0_topOf fu a0 a1 a2 a3 w else none := rfl
theorem u_X7_ofCell (fu : Nat) (a0 : Nat) (a1 : Int32) (a2 : Int32) (w : XW) : U_X7_ofCell fu [.ref a0, .int a1, .int a2] w = if isO w a0 6 = true then M_X7_ofCell fu a0 a1 a2 w else none := rfl
theorem u_X0_ofKind (fu : Nat) (a0 : Nat) (a1 : Int32) (w : XW) : U_X0_ofKind fu [.ref a0, .int a1] w = if isO w a0 0 = true then M_X0_ofKind fu a0 a1 w else none := rfl
theorem u_X0_filled (fu : Nat) (a0 : Nat) (w : XW) : U_X0_filled fu [.ref a0] w = if isO w a0 0 = true then M_X0_filled fu a0 w else none := rfl
theorem u_J6_bitCount_0f7a4 (fu : Nat) (a0 : Int32) (w : XW) : U_J6_bitCount_0f7a4 fu [.int a0] w = M_J6_bitCount_0f7a4 fu a0 w := rfl
theorem u_X7_many (fu : Nat) (a0 : Nat) (a1 : Int32) (w : XW) : U_X7_many fu [.ref a0, .int a1] w = if isO w a0 6 = true then M_X7_many fu a0 a1 w else none := rfl
theorem u_X0_reachOf (fu : Nat) (a0 : Nat) (a1 : Int32) (a2 : Int32) (w : XW) : U_X0_reachOf fu [.ref a0, .int a1, .int a2] w = if isO w a0 0 = true then M_X0_reachOf fu a0 a1 a2 w else none := rfl
theorem u_X0_dry (fu : Nat) (a0 : Nat) (a1 : Int32) (w : XW) : U_X0_dry fu [.ref a0, .int a1] w = if isO w a0 0 = true then M_X0_dry fu a0 a1 w else none := rfl
theorem u_X7_farthest (fu : Nat) (a0 : Int32) (a1 : Int32) (a2 : Int32) (a3 : Int32) (w : XW) : U_X7_farthest fu [.int a0, .int a1, .int a2, .int a3] w = M_X7_farthest fu a0 a1 a2 a3 w := rfl
theorem u_X0_isCrossed (fu : Nat) (a0 : Nat) (a1 : Int32) (a2 : Int32) (a3 : Int32) (w : XW) : U_X0_isCrossed fu [.ref a0, .int a1, .int a2, .int a3] w = if isO w a0 0 = true then M_X0_isCrossed fu a0 a1 a2 a3 w else none := rfl
theorem u_X7_can (fu : Nat) (a0 : Nat) (a1 : Int32) (a2 : Int32) (w : XW) : U_X7_can fu [.ref a0, .int a1, .int a2] w = if isO w a0 6 = true then M_X7_can fu a0 a1 a2 w else none := rfl
theorem u_L_stands (fu : Nat) (a0 : Nat) (a1 : Nat) (a2 : Nat) (a3 : Int32) (a4 : Int32) (w : XW) : U_L_stands fu [.ref a0, .ref a1, .ref a2, .int a3, .int a4] w = M_L_stands fu a0 a1 a2 a3 a4 w := rfl
theorem u_L_goes (fu : Nat) (a0 : Nat) (a1 : Nat) (a2 : Nat) (a3 : Int32) (a4 : Int32) (a5 : Int32) (w : XW) : U_L_goes fu [.ref a0, .ref a1, .ref a2, .int a3, .int a4, .int a5] w = M_L_goes fu a0 a1 a2 a3 a4 a5 w := rfl
theorem u_L_come (fu : Nat) (a0 : Nat) (a1 : Nat) (a2 : Nat) (a3 : Int32) (a4 : Int32) (a5 : Int32) (a6 : Int32) (w : XW) : U_L_come fu [.ref a0, .ref a1, .ref a2, .int a3, .int a4, .int a5, .int a6] w = M_L_come fu a0 a1 a2 a3 a4 a5 a6 w := rfl
theorem u_L_can (fu : Nat) (a0 : Nat) (a1 : Nat) (a2 : Nat) (a3 : Int32) (a4 : Int32) (w : XW) : U_L_can fu [.ref a0, .ref a1, .ref a2, .int a3, .int a4] w = M_L_can fu a0 a1 a2 a3 a4 w := rfl
theorem u_X7_highest (fu : Nat) (a0 : Nat) (a1 : Int32) (a2 : Int32) (w : XW) : U_X7_highest fu [.ref a0, .int a1, .int a2] w = if isO w a0 6 = true then M_X7_highest fu a0 a1 a2 w else none := rfl
theorem u_X6_isStride (fu : Nat) (a0 : Nat) (a1 : Int32) (a2 : Int32) (w : XW) : U_X6_isStride fu [.ref a0, .int a1, .int a2] w = if isO w a0 5 = true then M_X6_isStride fu a0 a1 a2 w else none := rfl
theorem u_X6_fewestFrom (fu : Nat) (a0 : Nat) (a1 : Int32) (w : XW) : U_X6_fewestFrom fu [.ref a0, .int a1] w = if isO w a0 5 = true then M_X6_fewestFrom fu a0 a1 w else none := rfl
theorem u_X6_firstBehind (fu : Nat) (a0 : Nat) (a1 : Int32) (w : XW) : U_X6_firstBehind fu [.ref a0, .int a1] w = if isO w a0 5 = true then M_X6_firstBehind fu a0 a1 w else none := rfl
theorem u_X6_find (fu : Nat) (a0 : Nat) (a1 : Nat) (a2 : Int32) (w : XW) : U_X6_find fu [.ref a0, .ref a1, .int a2] w = if isO w a0 5 = true then M_X6_find fu a0 a1 a2 w else none := rfl
theorem u_X7_way (fu : Nat) (a0 : Nat) (a1 : Int32) (a2 : Int32) (w : XW) : U_X7_way fu [.ref a0, .int a1, .int a2] w = if isO w a0 6 = true then M_X7_way fu a0 a1 a2 w else none := rfl
theorem u_X7_pass (fu : Nat) (a0 : Nat) (a1 : Int32) (a2 : Int32) (w : XW) : U_X7_pass fu [.ref a0, .int a1, .int a2] w = if isO w a0 6 = true then M_X7_pass fu a0 a1 a2 w else none := rfl
theorem u_X4_areWithin (fu : Nat) (a0 : Nat) (a1 : Int32) (a2 : Int32) (a3 : Int32) (a4 : Int32) (w : XW) : U_X4_areWithin fu [.ref a0, .int a1, .int a2, .int a3, .int a4] w = if isO w a0 4 = true then M_X4_areWithin fu a0 a1 a2 a3 a4 w else none := rfl
theorem u_X7_days (fu : Nat) (a0 : Nat) (a1 : Int32) (a2 : Int32) (a3 : Int32) (a4 : Int32) (a5 : Int32) (w : XW) : U_X7_days fu [.ref a0, .int a1, .int a2, .int a3, .int a4, .int a5] w = if isO w a0 6 = true then M_X7_days fu a0 a1 a2 a3 a4 a5 w else none := rfl
end
section
/-! ===== numbers ===== -/
def bI (p : Prop) [Decidable p] : Int32 := if p then 1 else 0
theorem bI_t {p : Prop} [Decidable p] (h : p) : bI p = 1 := if_pos h
theorem bI_f {p : Prop} [Decidable p] (h : ¬ p) : bI p = 0 := if_neg h
theorem bI_0 {p : Prop} [Decidable p] : (bI p = 0) = ¬ p := by
  by_cases h : p
  · rw [bI_t h]; simp [h]
  · rw [bI_f h]; simp [h]
theorem n_lt {a b : Nat} (ha : a < 2147483648) (hb : b < 2147483648) : (nI a < nI b) = (a < b) := propext (nI_ltI ha hb)
theorem n_le {a b : Nat} (ha : a < 2147483648) (hb : b < 2147483648) : (nI a ≤ nI b) = (a ≤ b) := propext (nI_leI ha hb)
theorem n_eq {a b : Nat} (ha : a < 2147483648) (hb : b < 2147483648) : (nI a = nI b) = (a = b) := propext (nI_eq ha hb)
theorem n_lit (k : Nat) : (OfNat.ofNat k : Int32) = nI k := rfl
theorem n_neg {a : Nat} (ha : a < 2147483648) : (nI a < 0) = False := propext ⟨fun h => nI_pos ha h, False.elim⟩
theorem n_m9 {a : Nat} (ha : a < 2147483648) : (nI a = -9) = False := propext ⟨fun h => nI_pos ha (by rw [h]; decide), False.elim⟩
/-- a number within, or not -/
theorem n_in (x : Int32) {n : Nat} (hn : n < 2147483648) : (∃ j, j < n ∧ x = nI j) ∨ ¬ (0 ≤ x ∧ x < nI n) := by
  by_cases h : 0 ≤ x ∧ x < nI n
  · obtain ⟨j, hj, rfl⟩ := nI_of (Int32.not_lt.mpr h.1)
    exact Or.inl ⟨j, (nI_ltI hj hn).mp h.2, rfl⟩
  · exact Or.inr h
theorem n_win {j n : Nat} (hj : j < n) (hn : n < 2147483648) : 0 ≤ nI j ∧ nI j < nI n := ⟨nI_pos' (by omega), nI_lt hj hn⟩
/-! rows -/
theorem rd_set {xs : List Int32} {j : Nat} (i : Nat) (x : Int32) (h : j < xs.length) : rd (xs.set j x) i = if i = j then x else rd xs i := by
  unfold rd
  rw [List.getD_eq_getElem?_getD, List.getElem?_set]
  by_cases hi : j = i
  · subst hi; simp [h]
  · have hi' : ¬ i = j := fun q => hi q.symm
    simp [hi, hi', List.getD_eq_getElem?_getD]
theorem uA_s (A : Nat → List Int32) (k : Nat) (xs : List Int32) : uA A k xs k = xs := if_pos rfl
theorem uA_n (A : Nat → List Int32) (k : Nat) (xs : List Int32) {j : Nat} (h : j ≠ k) : uA A k xs j = A j := if_neg h
/-! bits of a set of cells -/
def bits (p : Nat → Bool) : Nat → Nat
  | 0 => 0
  | n + 1 => bits p n + (if p n then 2 ^ n else 0)
theorem bits_lt (p : Nat → Bool) : ∀ n, bits p n < 2 ^ n := by
  intro n
  induction n with
  | zero => exact Nat.one_pos
  | succ n ih =>
    unfold bits
    rw [Nat.pow_succ]
    split <;> omega
theorem bits_congr {p q : Nat → Bool} : ∀ n, (∀ i, i < n → p i = q i) → bits p n = bits q n := by
  intro n
  induction n with
  | zero => intro _; rfl
  | succ n ih =>
    intro h
    unfold bits
    rw [ih (fun i hi => h i (by omega)), h n (by omega)]
theorem bits_test (p : Nat → Bool) : ∀ n i, (bits p n).testBit i = (decide (i < n) && p i) := by
  intro n
  induction n with
  | zero => intro i; simp [bits]
  | succ n ih =>
    intro i
    unfold bits
    have hlt := bits_lt p n
    by_cases hp : p n = true
    · rw [if_pos hp, Nat.add_comm]
      by_cases hi : i = n
      · subst hi
        rw [Nat.testBit_two_pow_add_eq, ih]
        simp [hp]
      · rcases Nat.lt_or_gt_of_ne hi with hi | hi
        · rw [Nat.testBit_two_pow_add_gt hi, ih]
          have : i < n + 1 := by omega
          simp [hi, this]
        · have h1 : 2 ^ n + bits p n < 2 ^ i := by
            have : 2 ^ (n + 1) ≤ 2 ^ i := Nat.pow_le_pow_right (by omega) hi
            rw [Nat.pow_succ] at this
            omega
          rw [Nat.testBit_lt_two_pow h1]
          have : ¬ i < n + 1 := by omega
          simp [this]
    · rw [if_neg hp, Nat.add_zero, ih]
      by_cases hi : i = n
      · subst hi; simp [hp]
      · have : (i < n + 1) ↔ (i < n) := by omega
        simp [this]
theorem bits_ext {n a b : Nat} (ha : a < 2 ^ n) (hb : b < 2 ^ n) (h : ∀ i, i < n → a.testBit i = b.testBit i) : a = b := by
  apply Nat.eq_of_testBit_eq
  intro i
  by_cases hi : i < n
  · exact h i hi
  · rw [Nat.testBit_lt_two_pow (Nat.lt_of_lt_of_le ha (Nat.pow_le_pow_right (by omega) (by omega))), Nat.testBit_lt_two_pow (Nat.lt_of_lt_of_le hb (Nat.pow_le_pow_right (by omega) (by omega)))]
theorem bits_of {n a : Nat} (ha : a < 2 ^ n) : a = bits (fun i => a.testBit i) n :=
  bits_ext ha (bits_lt _ n) fun i hi => by rw [bits_test]; simp [hi]
/-! the machine's shifts over small numbers -/
theorem sh_and : ∀ n, n < 32 → ((nI n &&& 31).toBitVec.smod 32).toNat = n := by decide +kernel
theorem sh_r {a k : Nat} (ha : a < 2147483648) (hk : k < 31) : nI a >>> (nI k &&& 31) = nI (a / 2 ^ k) := pk_shrN ha _ k (sh_and k (by omega))
theorem sh_l {a k : Nat} (hk : k < 31) (h : a * 2 ^ k < 4294967296) : nI a <<< (nI k &&& 31) = nI (a * 2 ^ k) := pk_shlN _ k (sh_and k (by omega)) h
theorem sh_1 {k : Nat} (hk : k < 31) : (1 : Int32) <<< (nI k &&& 31) = nI (2 ^ k) := by
  have h := sh_l (a := 1) hk (by rw [Nat.one_mul]; exact Nat.lt_of_le_of_lt (Nat.pow_le_pow_right (by omega) (by omega : k ≤ 30)) (by decide))
  rw [Nat.one_mul] at h
  exact h
theorem n_and1 {a : Nat} (h : a < 4294967296) : nI a &&& 1 = nI (a % 2) := pk_andN h 1 rfl
theorem n_and (a b : Nat) : nI a &&& nI b = nI (a &&& b) := by
  unfold nI
  rw [← Int32.toBitVec_inj]
  simp [BitVec.ofNat_and]
theorem n_or (a b : Nat) : nI a ||| nI b = nI (a ||| b) := by
  unfold nI
  rw [← Int32.toBitVec_inj]
  simp [BitVec.ofNat_or]
theorem tb_div (a k : Nat) : a / 2 ^ k % 2 = (a.testBit k).toNat := by rw [Nat.testBit_eq_decide_div_mod_eq]; rcases Nat.mod_two_eq_zero_or_one (a / 2 ^ k) with h | h <;> simp [h]
/-- whether a set has a number -/
theorem has_n {a k : Nat} (ha : a < 2147483648) (hk : k < 31) : (nI a >>> (nI k &&& 31)) &&& 1 = bI (a.testBit k = true) := by
  rw [sh_r ha hk, n_and1 (Nat.lt_of_le_of_lt (Nat.div_le_self _ _) (by omega)), tb_div]
  cases a.testBit k <;> rfl
theorem bits_or (p : Nat → Bool) (n : Nat) : bits p n ||| 2 ^ n = bits p n + 2 ^ n := by
  have h := Nat.two_pow_add_eq_or_of_lt (bits_lt p n) 1
  rw [Nat.mul_one] at h
  rw [Nat.or_comm, ← h, Nat.add_comm]
end
section
/-! ===== what the two objects' worlds say: one state of numbers ===== -/
abbrev SG : Type := Nat → Nat → Nat
/- σ 0 0 cells, 0 1 pace, 0 2 water, 0 3 stones, 0 4 walkers; σ 1 depth, 2 bed (of cells); 3 kind, 4 height, 5 weight, 6 lies (of stones); 7 the stone of a cell (0 none, s + 1); 8 the place of a stone (0 lies, c + 1 in a cell, 100 gone); 9 guarded; 10 strides -/
def uN (σ : SG) (t i v : Nat) : SG := fun a b => if a = t ∧ b = i then v else σ a b
def WF (σ : SG) : Prop :=
  (σ 0 0 = 0 ∨ 3 ≤ σ 0 0) ∧ σ 0 0 ≤ 7 ∧ σ 0 1 ≤ 9 ∧ σ 0 2 ≤ 9 ∧ σ 0 3 ≤ 6 ∧ σ 0 4 ≤ 6 ∧ (σ 0 0 = 0 → σ 0 3 = 0 ∧ σ 0 4 = 0) ∧
  (∀ c, c < σ 0 0 → σ 1 c ≤ 9 ∧ σ 2 c ≤ 9 ∧ σ 9 c ≤ 1) ∧
  (∀ s, s < σ 0 3 → σ 3 s ≤ 2 ∧ 1 ≤ σ 4 s ∧ σ 4 s ≤ 20 ∧ 1 ≤ σ 5 s ∧ σ 5 s ≤ 9 ∧ σ 6 s ≤ 9) ∧
  (∀ x, x < σ 0 4 → 1 ≤ σ 10 x ∧ σ 10 x ≤ 9) ∧
  (∀ c, c < σ 0 0 → ∀ s, σ 7 c = s + 1 → s < σ 0 3 ∧ σ 8 s = c + 1) ∧
  (∀ s, s < σ 0 3 → σ 8 s = 0 ∨ σ 8 s = 100 ∨ ∃ c, c < σ 0 0 ∧ σ 8 s = c + 1 ∧ σ 7 c = s + 1)
def ro : Nat → Int32
  | 0 => -9
  | s + 1 => nI s
def pl (k : Nat) : Int32 := if k = 0 then -9 else if k = 100 then -5 else nI (k - 1)
def LEN (A : Nat → List Int32) : Prop := ∀ k, isArr k = true → (A k).length = lenT k
def RC (σ : SG) (A : Nat → List Int32) (I : Nat → Nat → Int32) : Prop :=
  (I 2 8 = nI (σ 0 0) ∧ I 2 9 = nI (σ 0 1) ∧ I 2 10 = nI (bits (fun c => σ 9 c == 1) (σ 0 0)) ∧ I 2 11 = nI (σ 0 2) ∧ I 2 12 = nI (σ 0 3) ∧ I 2 13 = nI (bits (fun s => σ 8 s == 100) (σ 0 3)) ∧ I 2 14 = nI (σ 0 4)) ∧
  (∀ c, c < σ 0 0 → rd (A 3) c = nI (σ 1 c) ∧ rd (A 4) c = nI (σ 2 c) ∧ rd (A 5) c = ro (σ 7 c)) ∧
  (∀ s, s < σ 0 3 → rd (A 6) s = nI (σ 3 s) ∧ rd (A 7) s = nI (σ 4 s) ∧ rd (A 8) s = nI (σ 5 s) ∧ rd (A 9) s = nI (σ 6 s)) ∧
  (∀ x, x < σ 0 4 → rd (A 10) x = nI (σ 10 x))
def RS (A : Nat → List Int32) : Prop := ∀ q, q < 4 → rd (A 13) q = -1 ∨ ∃ n t : Nat, n ≤ 60 ∧ t ≤ 2 ∧ rd (A 13) q = nI n ∧ rd (A 12) q = nI t
def RR (σ : SG) (A : Nat → List Int32) (I : Nat → Nat → Int32) : Prop := WF σ ∧ LEN A ∧ RC σ A I ∧ RS A
/-! what a call may leave changed that no later call reads -/
def scrA (k : Nat) : Bool := ([16, 17, 19, 20, 22, 23, 24, 26, 27, 28, 29, 30, 31, 32, 33, 35] : List Nat).elem k
def scrI (o j : Nat) : Bool := (o == 15) || (o == 18) || (o == 21) || (o == 34)
def Fr (A : Nat → List Int32) (I : Nat → Nat → Int32) (A1 : Nat → List Int32) (I1 : Nat → Nat → Int32) : Prop :=
  (∀ k, scrA k = false → A1 k = A k) ∧ (∀ k, (A1 k).length = (A k).length) ∧ ∀ o j, scrI o j = false → I1 o j = I o j
theorem Fr.rf (A : Nat → List Int32) (I : Nat → Nat → Int32) : Fr A I A I := ⟨fun _ _ => rfl, fun _ => rfl, fun _ _ _ => rfl⟩
theorem Fr.tr {A B C : Nat → List Int32} {I J K : Nat → Nat → Int32} (h : Fr A I B J) (g : Fr B J C K) : Fr A I C K :=
  ⟨fun k hk => (g.1 k hk).trans (h.1 k hk), fun k => (g.2.1 k).trans (h.2.1 k), fun o j hj => (g.2.2 o j hj).trans (h.2.2 o j hj)⟩
theorem Fr.arr {A B : Nat → List Int32} {I J : Nat → Nat → Int32} (h : Fr A I B J) {k : Nat} {xs : List Int32} (hk : scrA k = true) (hl : xs.length = (B k).length) : Fr A I (uA B k xs) J := by
  refine ⟨fun j hj => ?_, fun j => ?_, h.2.2⟩
  · have : j ≠ k := fun q => by rw [q, hk] at hj; cases hj
    rw [uA_n _ _ _ this]; exact h.1 j hj
  · by_cases q : j = k
    · subst q; rw [uA_s, hl]; exact h.2.1 j
    · rw [uA_n _ _ _ q]; exact h.2.1 j
theorem Fr.int {A B : Nat → List Int32} {I J : Nat → Nat → Int32} (h : Fr A I B J) {o j : Nat} {x : Int32} (hk : scrI o j = true) : Fr A I B (uI J o j x) := by
  refine ⟨h.1, h.2.1, fun a i ha => ?_⟩
  have : ¬ (a = o ∧ i = j) := fun q => by rw [q.1, q.2, hk] at ha; cases ha
  unfold uI
  rw [if_neg this]; exact h.2.2 a i ha
theorem Fr.R {σ : SG} {A B : Nat → List Int32} {I J : Nat → Nat → Int32} (h : Fr A I B J) (r : RR σ A I) : RR σ B J := by
  obtain ⟨h1, h2, h3⟩ := h
  obtain ⟨r1, r2, r3, r5⟩ := r
  refine ⟨r1, fun k hk => (h2 k).trans (r2 k hk), ?_, ?_⟩
  · unfold RC at *
    rw [h3 2 8 rfl, h3 2 9 rfl, h3 2 10 rfl, h3 2 11 rfl, h3 2 12 rfl, h3 2 13 rfl, h3 2 14 rfl, h1 3 rfl, h1 4 rfl, h1 5 rfl, h1 6 rfl, h1 7 rfl, h1 8 rfl, h1 9 rfl, h1 10 rfl]
    exact r3
  · unfold RS at *
    rw [h1 12 rfl, h1 13 rfl]
    exact r5
theorem Fr.zero {A B : Nat → List Int32} {I J : Nat → Nat → Int32} (h : Fr A I B J) : B 0 = A 0 := h.1 0 rfl
theorem LEN.set {A : Nat → List Int32} (h : LEN A) {k : Nat} {xs : List Int32} (hl : xs.length = (A k).length) : LEN (uA A k xs) := by
  intro j hj
  by_cases q : j = k
  · subst q; rw [uA_s, hl]; exact h j hj
  · rw [uA_n _ _ _ q]; exact h j hj
end
section
/-! ===== small methods ===== -/
section SM
variable {fu : Nat} (A : Nat → List Int32) (I : Nat → Nat → Int32)
theorem bI_and (p q : Prop) [Decidable p] [Decidable q] : (if p then (bI q) else 0) = bI (p ∧ q) := by
  by_cases hp : p <;> by_cases hq : q <;> simp [bI, hp, hq]
theorem lt0 (c : Int32) : (c < 0) = ¬ (0 ≤ c) := propext Int32.not_le.symm
theorem c_isThere : U_X0_isThere fu [.ref 2] (enc A I) = some (some (.int (bI (0 < I 2 8))), enc A I) := by
  simp only [u_X0_isThere, M_X0_isThere, io_1, gr_1_0, gr_1_1, gr_1_2, gr_1_3, gr_1_4, gr_1_5, gi_1_6, pf_1_6, gi_1_7, pf_1_7, io_2, gr_2_0, gr_2_1, gr_2_2, gr_2_3, gr_2_4, gr_2_5, gr_2_6, gr_2_7, gi_2_8, pf_2_8, gi_2_9, pf_2_9, gi_2_10, pf_2_10, gi_2_11, pf_2_11, gi_2_12, pf_2_12, gi_2_13, pf_2_13, gi_2_14, pf_2_14, io_11, gr_11_0, gr_11_1, gr_11_2, io_15, gr_15_0, gr_15_1, gi_15_2, pf_15_2, gi_15_3, pf_15_3, gi_15_4, pf_15_4, gi_15_5, pf_15_5, io_18, gr_18_0, gr_18_1, gi_18_2, pf_18_2, io_21, gr_21_0, gr_21_1, gr_21_2, gr_21_3, gi_21_4, pf_21_4, gi_21_5, pf_21_5, gi_21_6, pf_21_6, gi_21_7, pf_21_7, io_34, gr_34_0, gi_34_1, pf_34_1, al_3, al_4, al_5, al_6, al_7, al_8, al_9, al_10, al_12, al_13, al_14, al_16, al_17, al_19, al_20, al_22, al_23, al_24, al_26, al_27, al_28, al_29, al_30, al_31, al_32, al_33, al_35, ↓reduceIte, Option.bind_some, cI_some, cL_some, cV_some, rz_0, rz_1]
  by_cases h : 0 < I 2 8
  · rw [if_pos h, bI_t h]
  · rw [if_neg h, bI_f h]
theorem c_isCell (c : Int32) : U_X0_isCell fu [.ref 2, .int c] (enc A I) = some (some (.int (bI (0 ≤ c ∧ c < I 2 8))), enc A I) := by
  simp only [u_X0_isCell, M_X0_isCell, io_1, gr_1_0, gr_1_1, gr_1_2, gr_1_3, gr_1_4, gr_1_5, gi_1_6, pf_1_6, gi_1_7, pf_1_7, io_2, gr_2_0, gr_2_1, gr_2_2, gr_2_3, gr_2_4, gr_2_5, gr_2_6, gr_2_7, gi_2_8, pf_2_8, gi_2_9, pf_2_9, gi_2_10, pf_2_10, gi_2_11, pf_2_11, gi_2_12, pf_2_12, gi_2_13, pf_2_13, gi_2_14, pf_2_14, io_11, gr_11_0, gr_11_1, gr_11_2, io_15, gr_15_0, gr_15_1, gi_15_2, pf_15_2, gi_15_3, pf_15_3, gi_15_4, pf_15_4, gi_15_5, pf_15_5, io_18, gr_18_0, gr_18_1, gi_18_2, pf_18_2, io_21, gr_21_0, gr_21_1, gr_21_2, gr_21_3, gi_21_4, pf_21_4, gi_21_5, pf_21_5, gi_21_6, pf_21_6, gi_21_7, pf_21_7, io_34, gr_34_0, gi_34_1, pf_34_1, al_3, al_4, al_5, al_6, al_7, al_8, al_9, al_10, al_12, al_13, al_14, al_16, al_17, al_19, al_20, al_22, al_23, al_24, al_26, al_27, al_28, al_29, al_30, al_31, al_32, al_33, al_35, ↓reduceIte, Option.bind_some, cI_some, cL_some, cV_some, rz_0, rz_1]
  by_cases h : c < 0
  · rw [if_pos h, bI_f (fun q => absurd q.1 (Int32.not_le.mpr h))]
  · rw [if_neg h]
    by_cases h2 : c < I 2 8
    · rw [if_pos h2, bI_t ⟨Int32.not_lt.mp h, h2⟩]
    · rw [if_neg h2, bI_f (fun q => h2 q.2)]
theorem c_isStone (c : Int32) : U_X0_isStone fu [.ref 2, .int c] (enc A I) = some (some (.int (bI (0 ≤ c ∧ c < I 2 12))), enc A I) := by
  simp only [u_X0_isStone, M_X0_isStone, io_1, gr_1_0, gr_1_1, gr_1_2, gr_1_3, gr_1_4, gr_1_5, gi_1_6, pf_1_6, gi_1_7, pf_1_7, io_2, gr_2_0, gr_2_1, gr_2_2, gr_2_3, gr_2_4, gr_2_5, gr_2_6, gr_2_7, gi_2_8, pf_2_8, gi_2_9, pf_2_9, gi_2_10, pf_2_10, gi_2_11, pf_2_11, gi_2_12, pf_2_12, gi_2_13, pf_2_13, gi_2_14, pf_2_14, io_11, gr_11_0, gr_11_1, gr_11_2, io_15, gr_15_0, gr_15_1, gi_15_2, pf_15_2, gi_15_3, pf_15_3, gi_15_4, pf_15_4, gi_15_5, pf_15_5, io_18, gr_18_0, gr_18_1, gi_18_2, pf_18_2, io_21, gr_21_0, gr_21_1, gr_21_2, gr_21_3, gi_21_4, pf_21_4, gi_21_5, pf_21_5, gi_21_6, pf_21_6, gi_21_7, pf_21_7, io_34, gr_34_0, gi_34_1, pf_34_1, al_3, al_4, al_5, al_6, al_7, al_8, al_9, al_10, al_12, al_13, al_14, al_16, al_17, al_19, al_20, al_22, al_23, al_24, al_26, al_27, al_28, al_29, al_30, al_31, al_32, al_33, al_35, ↓reduceIte, Option.bind_some, cI_some, cL_some, cV_some, rz_0, rz_1]
  by_cases h : c < 0
  · rw [if_pos h, bI_f (fun q => absurd q.1 (Int32.not_le.mpr h))]
  · rw [if_neg h]
    by_cases h2 : c < I 2 12
    · rw [if_pos h2, bI_t ⟨Int32.not_lt.mp h, h2⟩]
    · rw [if_neg h2, bI_f (fun q => h2 q.2)]
theorem c_isWalker (c : Int32) : U_X0_isWalker fu [.ref 2, .int c] (enc A I) = some (some (.int (bI (0 ≤ c ∧ c < I 2 14))), enc A I) := by
  simp only [u_X0_isWalker, M_X0_isWalker, io_1, gr_1_0, gr_1_1, gr_1_2, gr_1_3, gr_1_4, gr_1_5, gi_1_6, pf_1_6, gi_1_7, pf_1_7, io_2, gr_2_0, gr_2_1, gr_2_2, gr_2_3, gr_2_4, gr_2_5, gr_2_6, gr_2_7, gi_2_8, pf_2_8, gi_2_9, pf_2_9, gi_2_10, pf_2_10, gi_2_11, pf_2_11, gi_2_12, pf_2_12, gi_2_13, pf_2_13, gi_2_14, pf_2_14, io_11, gr_11_0, gr_11_1, gr_11_2, io_15, gr_15_0, gr_15_1, gi_15_2, pf_15_2, gi_15_3, pf_15_3, gi_15_4, pf_15_4, gi_15_5, pf_15_5, io_18, gr_18_0, gr_18_1, gi_18_2, pf_18_2, io_21, gr_21_0, gr_21_1, gr_21_2, gr_21_3, gi_21_4, pf_21_4, gi_21_5, pf_21_5, gi_21_6, pf_21_6, gi_21_7, pf_21_7, io_34, gr_34_0, gi_34_1, pf_34_1, al_3, al_4, al_5, al_6, al_7, al_8, al_9, al_10, al_12, al_13, al_14, al_16, al_17, al_19, al_20, al_22, al_23, al_24, al_26, al_27, al_28, al_29, al_30, al_31, al_32, al_33, al_35, ↓reduceIte, Option.bind_some, cI_some, cL_some, cV_some, rz_0, rz_1]
  by_cases h : c < 0
  · rw [if_pos h, bI_f (fun q => absurd q.1 (Int32.not_le.mpr h))]
  · rw [if_neg h]
    by_cases h2 : c < I 2 14
    · rw [if_pos h2, bI_t ⟨Int32.not_lt.mp h, h2⟩]
    · rw [if_neg h2, bI_f (fun q => h2 q.2)]
end SM
section ST
variable {fu : Nat} (w : XW)
theorem c_within (v a b : Int32) : U_X7_isWithin fu [.int v, .int a, .int b] w = some (some (.int (bI (a ≤ v ∧ v ≤ b))), w) := by
  simp only [u_X7_isWithin, M_X7_isWithin, io_1, gr_1_0, gr_1_1, gr_1_2, gr_1_3, gr_1_4, gr_1_5, gi_1_6, pf_1_6, gi_1_7, pf_1_7, io_2, gr_2_0, gr_2_1, gr_2_2, gr_2_3, gr_2_4, gr_2_5, gr_2_6, gr_2_7, gi_2_8, pf_2_8, gi_2_9, pf_2_9, gi_2_10, pf_2_10, gi_2_11, pf_2_11, gi_2_12, pf_2_12, gi_2_13, pf_2_13, gi_2_14, pf_2_14, io_11, gr_11_0, gr_11_1, gr_11_2, io_15, gr_15_0, gr_15_1, gi_15_2, pf_15_2, gi_15_3, pf_15_3, gi_15_4, pf_15_4, gi_15_5, pf_15_5, io_18, gr_18_0, gr_18_1, gi_18_2, pf_18_2, io_21, gr_21_0, gr_21_1, gr_21_2, gr_21_3, gi_21_4, pf_21_4, gi_21_5, pf_21_5, gi_21_6, pf_21_6, gi_21_7, pf_21_7, io_34, gr_34_0, gi_34_1, pf_34_1, al_3, al_4, al_5, al_6, al_7, al_8, al_9, al_10, al_12, al_13, al_14, al_16, al_17, al_19, al_20, al_22, al_23, al_24, al_26, al_27, al_28, al_29, al_30, al_31, al_32, al_33, al_35, ↓reduceIte, Option.bind_some, cI_some, cL_some, cV_some, rz_0, rz_1]
  by_cases h : v < a
  · rw [if_pos h, bI_f (fun q => absurd q.1 (Int32.not_le.mpr h))]
  · rw [if_neg h]
    by_cases h2 : b < v
    · rw [if_pos h2, bI_f (fun q => absurd q.2 (Int32.not_le.mpr h2))]
    · rw [if_neg h2, bI_t ⟨Int32.not_lt.mp h, Int32.not_lt.mp h2⟩]
theorem rz_b (p : Prop) [Decidable p] : retZ (bI p) w = some (some (.int (bI p)), w) := by
  by_cases h : p
  · rw [bI_t h]; rfl
  · rw [bI_f h]; rfl
theorem c_isSheet (v : Int32) : U_X4_isSheet fu [.int v] w = some (some (.int (bI (0 ≤ v ∧ v ≤ 3))), w) := by
  simp only [u_X4_isSheet, M_X4_isSheet, c_within, rz_b, io_1, gr_1_0, gr_1_1, gr_1_2, gr_1_3, gr_1_4, gr_1_5, gi_1_6, pf_1_6, gi_1_7, pf_1_7, io_2, gr_2_0, gr_2_1, gr_2_2, gr_2_3, gr_2_4, gr_2_5, gr_2_6, gr_2_7, gi_2_8, pf_2_8, gi_2_9, pf_2_9, gi_2_10, pf_2_10, gi_2_11, pf_2_11, gi_2_12, pf_2_12, gi_2_13, pf_2_13, gi_2_14, pf_2_14, io_11, gr_11_0, gr_11_1, gr_11_2, io_15, gr_15_0, gr_15_1, gi_15_2, pf_15_2, gi_15_3, pf_15_3, gi_15_4, pf_15_4, gi_15_5, pf_15_5, io_18, gr_18_0, gr_18_1, gi_18_2, pf_18_2, io_21, gr_21_0, gr_21_1, gr_21_2, gr_21_3, gi_21_4, pf_21_4, gi_21_5, pf_21_5, gi_21_6, pf_21_6, gi_21_7, pf_21_7, io_34, gr_34_0, gi_34_1, pf_34_1, al_3, al_4, al_5, al_6, al_7, al_8, al_9, al_10, al_12, al_13, al_14, al_16, al_17, al_19, al_20, al_22, al_23, al_24, al_26, al_27, al_28, al_29, al_30, al_31, al_32, al_33, al_35, ↓reduceIte, Option.bind_some, cI_some, cL_some, cV_some, rz_0, rz_1]
theorem c_isSort (v : Int32) : U_X4_isSort fu [.int v] w = some (some (.int (bI (0 ≤ v ∧ v ≤ 2))), w) := by
  simp only [u_X4_isSort, M_X4_isSort, c_within, rz_b, io_1, gr_1_0, gr_1_1, gr_1_2, gr_1_3, gr_1_4, gr_1_5, gi_1_6, pf_1_6, gi_1_7, pf_1_7, io_2, gr_2_0, gr_2_1, gr_2_2, gr_2_3, gr_2_4, gr_2_5, gr_2_6, gr_2_7, gi_2_8, pf_2_8, gi_2_9, pf_2_9, gi_2_10, pf_2_10, gi_2_11, pf_2_11, gi_2_12, pf_2_12, gi_2_13, pf_2_13, gi_2_14, pf_2_14, io_11, gr_11_0, gr_11_1, gr_11_2, io_15, gr_15_0, gr_15_1, gi_15_2, pf_15_2, gi_15_3, pf_15_3, gi_15_4, pf_15_4, gi_15_5, pf_15_5, io_18, gr_18_0, gr_18_1, gi_18_2, pf_18_2, io_21, gr_21_0, gr_21_1, gr_21_2, gr_21_3, gi_21_4, pf_21_4, gi_21_5, pf_21_5, gi_21_6, pf_21_6, gi_21_7, pf_21_7, io_34, gr_34_0, gi_34_1, pf_34_1, al_3, al_4, al_5, al_6, al_7, al_8, al_9, al_10, al_12, al_13, al_14, al_16, al_17, al_19, al_20, al_22, al_23, al_24, al_26, al_27, al_28, al_29, al_30, al_31, al_32, al_33, al_35, ↓reduceIte, Option.bind_some, cI_some, cL_some, cV_some, rz_0, rz_1]
theorem c_has (a b : Int32) : U_X7_has fu [.int a, .int b] w = some (some (.int (bI (¬ (a >>> (b &&& 31)) &&& 1 = 0))), w) := by
  simp only [u_X7_has, M_X7_has, io_1, gr_1_0, gr_1_1, gr_1_2, gr_1_3, gr_1_4, gr_1_5, gi_1_6, pf_1_6, gi_1_7, pf_1_7, io_2, gr_2_0, gr_2_1, gr_2_2, gr_2_3, gr_2_4, gr_2_5, gr_2_6, gr_2_7, gi_2_8, pf_2_8, gi_2_9, pf_2_9, gi_2_10, pf_2_10, gi_2_11, pf_2_11, gi_2_12, pf_2_12, gi_2_13, pf_2_13, gi_2_14, pf_2_14, io_11, gr_11_0, gr_11_1, gr_11_2, io_15, gr_15_0, gr_15_1, gi_15_2, pf_15_2, gi_15_3, pf_15_3, gi_15_4, pf_15_4, gi_15_5, pf_15_5, io_18, gr_18_0, gr_18_1, gi_18_2, pf_18_2, io_21, gr_21_0, gr_21_1, gr_21_2, gr_21_3, gi_21_4, pf_21_4, gi_21_5, pf_21_5, gi_21_6, pf_21_6, gi_21_7, pf_21_7, io_34, gr_34_0, gi_34_1, pf_34_1, al_3, al_4, al_5, al_6, al_7, al_8, al_9, al_10, al_12, al_13, al_14, al_16, al_17, al_19, al_20, al_22, al_23, al_24, al_26, al_27, al_28, al_29, al_30, al_31, al_32, al_33, al_35, ↓reduceIte, Option.bind_some, cI_some, cL_some, cV_some, rz_0, rz_1]
  by_cases h : (a >>> (b &&& 31)) &&& 1 = 0
  · rw [if_pos h, bI_f (fun q => q h)]
  · rw [if_neg h, bI_t h]
theorem c_hasn {a b : Nat} (ha : a < 2147483648) (hb : b < 31) : U_X7_has fu [.int (nI a), .int (nI b)] w = some (some (.int (bI (a.testBit b = true))), w) := by
  rw [c_has, has_n ha hb]
  cases a.testBit b <;> rfl
end ST
/-! ===== what a state says, by the machine's numbers ===== -/
section RL
variable {σ : SG} {A : Nat → List Int32} {I : Nat → Nat → Int32}
theorem RR.len (r : RR σ A I) {k : Nat} (h : isArr k = true) : (A k).length = lenT k := r.2.1 k h
theorem RR.n7 (r : RR σ A I) : σ 0 0 ≤ 7 := r.1.2.1
theorem RR.m6 (r : RR σ A I) : σ 0 3 ≤ 6 := r.1.2.2.2.2.1
theorem RR.k6 (r : RR σ A I) : σ 0 4 ≤ 6 := r.1.2.2.2.2.2.1
theorem nI_0lt {n : Nat} (h : n < 2147483648) : ((0 : Int32) < nI n) = (0 < n) := by rw [n_lit 0]; exact n_lt (by decide) h
theorem nI_pe0 {n : Nat} (h : n < 2147483648) : (nI n = 0) = (n = 0) := by rw [n_lit 0]; exact n_eq h (by decide)
end RL
end
section
/-! ===== reading rows under the relation ===== -/
section RD
variable {σ : SG} {A : Nat → List Int32} {I : Nat → Nat → Int32}
theorem RR.i2_8 (r : RR σ A I) : I 2 8 = nI (σ 0 0) := r.2.2.1.1.1
theorem RR.i2_9 (r : RR σ A I) : I 2 9 = nI (σ 0 1) := r.2.2.1.1.2.1
theorem RR.i2_10 (r : RR σ A I) : I 2 10 = nI (bits (fun c => σ 9 c == 1) (σ 0 0)) := r.2.2.1.1.2.2.1
theorem RR.i2_11 (r : RR σ A I) : I 2 11 = nI (σ 0 2) := r.2.2.1.1.2.2.2.1
theorem RR.i2_12 (r : RR σ A I) : I 2 12 = nI (σ 0 3) := r.2.2.1.1.2.2.2.2.1
theorem RR.i2_13 (r : RR σ A I) : I 2 13 = nI (bits (fun s => σ 8 s == 100) (σ 0 3)) := r.2.2.1.1.2.2.2.2.2.1
theorem RR.i2_14 (r : RR σ A I) : I 2 14 = nI (σ 0 4) := r.2.2.1.1.2.2.2.2.2.2
theorem RR.v3 (r : RR σ A I) {j : Nat} (h : j < σ 0 0) : rd (A 3) j = nI (σ 1 j) := (r.2.2.1.2.1 j h).1
theorem RR.l3 (r : RR σ A I) {j : Nat} (h : j < σ 0 0) : j < (A 3).length := by rw [r.len rfl]; have := r.n7; show j < 7; omega
theorem RR.a3 (r : RR σ A I) {j : Nat} (h : j < σ 0 0) : aI (enc A I) 3 (nI j) = some (nI (σ 1 j)) := by rw [ai_3 A I (r.l3 h) (by have := r.n7; omega), r.v3 h]
theorem RR.v4 (r : RR σ A I) {j : Nat} (h : j < σ 0 0) : rd (A 4) j = nI (σ 2 j) := (r.2.2.1.2.1 j h).2.1
theorem RR.l4 (r : RR σ A I) {j : Nat} (h : j < σ 0 0) : j < (A 4).length := by rw [r.len rfl]; have := r.n7; show j < 7; omega
theorem RR.a4 (r : RR σ A I) {j : Nat} (h : j < σ 0 0) : aI (enc A I) 4 (nI j) = some (nI (σ 2 j)) := by rw [ai_4 A I (r.l4 h) (by have := r.n7; omega), r.v4 h]
theorem RR.v5 (r : RR σ A I) {j : Nat} (h : j < σ 0 0) : rd (A 5) j = ro (σ 7 j) := (r.2.2.1.2.1 j h).2.2
theorem RR.l5 (r : RR σ A I) {j : Nat} (h : j < σ 0 0) : j < (A 5).length := by rw [r.len rfl]; have := r.n7; show j < 7; omega
theorem RR.a5 (r : RR σ A I) {j : Nat} (h : j < σ 0 0) : aI (enc A I) 5 (nI j) = some (ro (σ 7 j)) := by rw [ai_5 A I (r.l5 h) (by have := r.n7; omega), r.v5 h]
theorem RR.v6 (r : RR σ A I) {j : Nat} (h : j < σ 0 3) : rd (A 6) j = nI (σ 3 j) := (r.2.2.1.2.2.1 j h).1
theorem RR.l6 (r : RR σ A I) {j : Nat} (h : j < σ 0 3) : j < (A 6).length := by rw [r.len rfl]; have := r.m6; show j < 6; omega
theorem RR.a6 (r : RR σ A I) {j : Nat} (h : j < σ 0 3) : aI (enc A I) 6 (nI j) = some (nI (σ 3 j)) := by rw [ai_6 A I (r.l6 h) (by have := r.m6; omega), r.v6 h]
theorem RR.v7 (r : RR σ A I) {j : Nat} (h : j < σ 0 3) : rd (A 7) j = nI (σ 4 j) := (r.2.2.1.2.2.1 j h).2.1
theorem RR.l7 (r : RR σ A I) {j : Nat} (h : j < σ 0 3) : j < (A 7).length := by rw [r.len rfl]; have := r.m6; show j < 6; omega
theorem RR.a7 (r : RR σ A I) {j : Nat} (h : j < σ 0 3) : aI (enc A I) 7 (nI j) = some (nI (σ 4 j)) := by rw [ai_7 A I (r.l7 h) (by have := r.m6; omega), r.v7 h]
theorem RR.v8 (r : RR σ A I) {j : Nat} (h : j < σ 0 3) : rd (A 8) j = nI (σ 5 j) := (r.2.2.1.2.2.1 j h).2.2.1
theorem RR.l8 (r : RR σ A I) {j : Nat} (h : j < σ 0 3) : j < (A 8).length := by rw [r.len rfl]; have := r.m6; show j < 6; omega
theorem RR.a8 (r : RR σ A I) {j : Nat} (h : j < σ 0 3) : aI (enc A I) 8 (nI j) = some (nI (σ 5 j)) := by rw [ai_8 A I (r.l8 h) (by have := r.m6; omega), r.v8 h]
theorem RR.v9 (r : RR σ A I) {j : Nat} (h : j < σ 0 3) : rd (A 9) j = nI (σ 6 j) := (r.2.2.1.2.2.1 j h).2.2.2
theorem RR.l9 (r : RR σ A I) {j : Nat} (h : j < σ 0 3) : j < (A 9).length := by rw [r.len rfl]; have := r.m6; show j < 6; omega
theorem RR.a9 (r : RR σ A I) {j : Nat} (h : j < σ 0 3) : aI (enc A I) 9 (nI j) = some (nI (σ 6 j)) := by rw [ai_9 A I (r.l9 h) (by have := r.m6; omega), r.v9 h]
theorem RR.v10 (r : RR σ A I) {j : Nat} (h : j < σ 0 4) : rd (A 10) j = nI (σ 10 j) := (r.2.2.1.2.2.2 j h)
theorem RR.l10 (r : RR σ A I) {j : Nat} (h : j < σ 0 4) : j < (A 10).length := by rw [r.len rfl]; have := r.k6; show j < 6; omega
theorem RR.a10 (r : RR σ A I) {j : Nat} (h : j < σ 0 4) : aI (enc A I) 10 (nI j) = some (nI (σ 10 j)) := by rw [ai_10 A I (r.l10 h) (by have := r.k6; omega), r.v10 h]
theorem ro_eq {k s : Nat} (hs : s < 2147483648) (hk : k < 2147483648) : (ro k = nI s) = (k = s + 1) := by
  cases k with
  | zero => exact propext ⟨fun h => absurd (show nI s = -9 from h.symm) (by rw [n_m9 hs]; exact id), fun h => by omega⟩
  | succ k =>
    show (nI k = nI s) = _
    rw [n_eq (by omega) hs]
    exact propext ⟨fun h => by rw [h], fun h => by omega⟩
theorem ro_9 {k : Nat} (hk : k < 2147483648) : (ro k = -9) = (k = 0) := by
  cases k with
  | zero => simp [ro]
  | succ k =>
    show (nI k = -9) = _
    rw [n_m9 (by omega)]
    simp
theorem ro_s (s : Nat) : ro (s + 1) = nI s := rfl
theorem ro_0 : ro 0 = -9 := rfl
theorem RR.row (r : RR σ A I) {c s : Nat} (h : c < σ 0 0) (hs : σ 7 c = s + 1) : s < σ 0 3 ∧ σ 8 s = c + 1 := r.1.2.2.2.2.2.2.2.2.2.2.1 c h s hs
theorem RR.plc (r : RR σ A I) {s : Nat} (h : s < σ 0 3) : σ 8 s = 0 ∨ σ 8 s = 100 ∨ ∃ c, c < σ 0 0 ∧ σ 8 s = c + 1 ∧ σ 7 c = s + 1 := r.1.2.2.2.2.2.2.2.2.2.2.2 s h
theorem RR.cel (r : RR σ A I) {c : Nat} (h : c < σ 0 0) : σ 1 c ≤ 9 ∧ σ 2 c ≤ 9 ∧ σ 9 c ≤ 1 := r.1.2.2.2.2.2.2.2.1 c h
theorem RR.sto (r : RR σ A I) {s : Nat} (h : s < σ 0 3) : σ 3 s ≤ 2 ∧ 1 ≤ σ 4 s ∧ σ 4 s ≤ 20 ∧ 1 ≤ σ 5 s ∧ σ 5 s ≤ 9 ∧ σ 6 s ≤ 9 := r.1.2.2.2.2.2.2.2.2.1 s h
theorem RR.wal (r : RR σ A I) {x : Nat} (h : x < σ 0 4) : 1 ≤ σ 10 x ∧ σ 10 x ≤ 9 := r.1.2.2.2.2.2.2.2.2.2.1 x h
theorem RR.row_lt (r : RR σ A I) {c : Nat} (h : c < σ 0 0) : σ 7 c ≤ 6 := by
  cases hk : σ 7 c with
  | zero => omega
  | succ s => have := (r.row h hk).1; have := r.m6; omega
end RD
end
section
section O1
variable {σ : SG} {A : Nat → List Int32} {I : Nat → Nat → Int32} {fu : Nat}
/-- what a stone's work in a cell is -/
def wk (σ : SG) (s c : Nat) : Nat := (if σ 3 s = 2 then 3 else 1) * (σ 5 s * (σ 6 s + c + 1))
/-- what a stone holds -/
def hold (σ : SG) (s : Nat) : Nat := σ 5 s + (if σ 3 s = 0 then 0 else 3)
theorem c_holdOf (r : RR σ A I) {s : Nat} (hs : s < σ 0 3) : U_X0_holdOf fu [.ref 2, .int (nI s)] (enc A I) = some (some (.int (nI (hold σ s))), enc A I) := by
  have h1 := r.sto hs
  simp only [u_X0_holdOf, M_X0_holdOf, io_1, gr_1_0, gr_1_1, gr_1_2, gr_1_3, gr_1_4, gr_1_5, gi_1_6, pf_1_6, gi_1_7, pf_1_7, io_2, gr_2_0, gr_2_1, gr_2_2, gr_2_3, gr_2_4, gr_2_5, gr_2_6, gr_2_7, gi_2_8, pf_2_8, gi_2_9, pf_2_9, gi_2_10, pf_2_10, gi_2_11, pf_2_11, gi_2_12, pf_2_12, gi_2_13, pf_2_13, gi_2_14, pf_2_14, io_11, gr_11_0, gr_11_1, gr_11_2, io_15, gr_15_0, gr_15_1, gi_15_2, pf_15_2, gi_15_3, pf_15_3, gi_15_4, pf_15_4, gi_15_5, pf_15_5, io_18, gr_18_0, gr_18_1, gi_18_2, pf_18_2, io_21, gr_21_0, gr_21_1, gr_21_2, gr_21_3, gi_21_4, pf_21_4, gi_21_5, pf_21_5, gi_21_6, pf_21_6, gi_21_7, pf_21_7, io_34, gr_34_0, gi_34_1, pf_34_1, al_3, al_4, al_5, al_6, al_7, al_8, al_9, al_10, al_12, al_13, al_14, al_16, al_17, al_19, al_20, al_22, al_23, al_24, al_26, al_27, al_28, al_29, al_30, al_31, al_32, al_33, al_35, ↓reduceIte, Option.bind_some, cI_some, cL_some, cV_some, rz_0, rz_1, r.a8 hs, r.a6 hs, n_lit 1, n_lt (show σ 3 s < 2147483648 by omega) (show 1 < 2147483648 by decide), nI_add, n_lit 3, hold]
  by_cases h : σ 3 s = 0
  · rw [if_pos (by omega), if_pos h, Nat.add_zero]
  · rw [if_neg (by omega), if_neg h]
theorem c_cellOf_loop (r : RR σ A I) {s : Nat} (hs : s < σ 0 3) : ∀ (d c n : Nat), c + d = σ 0 0 → d < n → (∀ b, b < c → ¬ σ 7 b = s + 1) → F_X0_cellOf fu n 2 (nI s) (nI c) (enc A I) = some (some (.int (if σ 8 s = 100 then -9 else pl (σ 8 s))), enc A I) := by
  have hm := r.m6
  have hn7 := r.n7
  intro d
  induction d with
  | zero =>
    intro c n hcd hn hmin
    obtain ⟨n, rfl⟩ : ∃ k, n = k + 1 := ⟨n - 1, by omega⟩
    simp only [F_X0_cellOf, io_1, gr_1_0, gr_1_1, gr_1_2, gr_1_3, gr_1_4, gr_1_5, gi_1_6, pf_1_6, gi_1_7, pf_1_7, io_2, gr_2_0, gr_2_1, gr_2_2, gr_2_3, gr_2_4, gr_2_5, gr_2_6, gr_2_7, gi_2_8, pf_2_8, gi_2_9, pf_2_9, gi_2_10, pf_2_10, gi_2_11, pf_2_11, gi_2_12, pf_2_12, gi_2_13, pf_2_13, gi_2_14, pf_2_14, io_11, gr_11_0, gr_11_1, gr_11_2, io_15, gr_15_0, gr_15_1, gi_15_2, pf_15_2, gi_15_3, pf_15_3, gi_15_4, pf_15_4, gi_15_5, pf_15_5, io_18, gr_18_0, gr_18_1, gi_18_2, pf_18_2, io_21, gr_21_0, gr_21_1, gr_21_2, gr_21_3, gi_21_4, pf_21_4, gi_21_5, pf_21_5, gi_21_6, pf_21_6, gi_21_7, pf_21_7, io_34, gr_34_0, gi_34_1, pf_34_1, al_3, al_4, al_5, al_6, al_7, al_8, al_9, al_10, al_12, al_13, al_14, al_16, al_17, al_19, al_20, al_22, al_23, al_24, al_26, al_27, al_28, al_29, al_30, al_31, al_32, al_33, al_35, ↓reduceIte, Option.bind_some, cI_some, cL_some, cV_some, rz_0, rz_1, r.i2_8, n_lt (show c < 2147483648 by omega) (show σ 0 0 < 2147483648 by omega)]
    rw [if_neg (by omega)]
    rcases r.plc hs with h | h | ⟨b, h1, h2, h3⟩
    · rw [if_neg (by omega), h]; rfl
    · rw [if_pos h]
    · exact absurd h3 (hmin b (by omega))
  | succ d ih =>
    intro c n hcd hn hmin
    obtain ⟨n, rfl⟩ : ∃ k, n = k + 1 := ⟨n - 1, by omega⟩
    have hc : c < σ 0 0 := by omega
    have h6 := r.row_lt hc
    simp only [F_X0_cellOf, io_1, gr_1_0, gr_1_1, gr_1_2, gr_1_3, gr_1_4, gr_1_5, gi_1_6, pf_1_6, gi_1_7, pf_1_7, io_2, gr_2_0, gr_2_1, gr_2_2, gr_2_3, gr_2_4, gr_2_5, gr_2_6, gr_2_7, gi_2_8, pf_2_8, gi_2_9, pf_2_9, gi_2_10, pf_2_10, gi_2_11, pf_2_11, gi_2_12, pf_2_12, gi_2_13, pf_2_13, gi_2_14, pf_2_14, io_11, gr_11_0, gr_11_1, gr_11_2, io_15, gr_15_0, gr_15_1, gi_15_2, pf_15_2, gi_15_3, pf_15_3, gi_15_4, pf_15_4, gi_15_5, pf_15_5, io_18, gr_18_0, gr_18_1, gi_18_2, pf_18_2, io_21, gr_21_0, gr_21_1, gr_21_2, gr_21_3, gi_21_4, pf_21_4, gi_21_5, pf_21_5, gi_21_6, pf_21_6, gi_21_7, pf_21_7, io_34, gr_34_0, gi_34_1, pf_34_1, al_3, al_4, al_5, al_6, al_7, al_8, al_9, al_10, al_12, al_13, al_14, al_16, al_17, al_19, al_20, al_22, al_23, al_24, al_26, al_27, al_28, al_29, al_30, al_31, al_32, al_33, al_35, ↓reduceIte, Option.bind_some, cI_some, cL_some, cV_some, rz_0, rz_1, r.i2_8, n_lt (show c < 2147483648 by omega) (show σ 0 0 < 2147483648 by omega), r.a5 hc, ro_eq (show s < 2147483648 by omega) (show σ 7 c < 2147483648 by omega)]
    rw [if_pos hc]
    by_cases h : σ 7 c = s + 1
    · rw [if_pos h]
      have h2 := (r.row hc h).2
      rw [h2, if_neg (by omega), pl, if_neg (by omega), if_neg (by omega), Nat.add_sub_cancel]
    · rw [if_neg h, nI_1]
      exact ih (c + 1) n (by omega) (by omega) (fun b hb => by
        rcases Nat.lt_succ_iff_lt_or_eq.mp hb with q | q
        · exact hmin b q
        · rw [q]; exact h)
theorem c_cellOf (hf : 1000 ≤ fu) (r : RR σ A I) {s : Nat} (hs : s < σ 0 3) : U_X0_cellOf fu [.ref 2, .int (nI s)] (enc A I) = some (some (.int (if σ 8 s = 100 then -9 else pl (σ 8 s))), enc A I) := by
  have hn7 := r.n7
  simp only [u_X0_cellOf, M_X0_cellOf, io_1, gr_1_0, gr_1_1, gr_1_2, gr_1_3, gr_1_4, gr_1_5, gi_1_6, pf_1_6, gi_1_7, pf_1_7, io_2, gr_2_0, gr_2_1, gr_2_2, gr_2_3, gr_2_4, gr_2_5, gr_2_6, gr_2_7, gi_2_8, pf_2_8, gi_2_9, pf_2_9, gi_2_10, pf_2_10, gi_2_11, pf_2_11, gi_2_12, pf_2_12, gi_2_13, pf_2_13, gi_2_14, pf_2_14, io_11, gr_11_0, gr_11_1, gr_11_2, io_15, gr_15_0, gr_15_1, gi_15_2, pf_15_2, gi_15_3, pf_15_3, gi_15_4, pf_15_4, gi_15_5, pf_15_5, io_18, gr_18_0, gr_18_1, gi_18_2, pf_18_2, io_21, gr_21_0, gr_21_1, gr_21_2, gr_21_3, gi_21_4, pf_21_4, gi_21_5, pf_21_5, gi_21_6, pf_21_6, gi_21_7, pf_21_7, io_34, gr_34_0, gi_34_1, pf_34_1, al_3, al_4, al_5, al_6, al_7, al_8, al_9, al_10, al_12, al_13, al_14, al_16, al_17, al_19, al_20, al_22, al_23, al_24, al_26, al_27, al_28, al_29, al_30, al_31, al_32, al_33, al_35, ↓reduceIte, Option.bind_some, cI_some, cL_some, cV_some, rz_0, rz_1]
  exact c_cellOf_loop r hs (σ 0 0) 0 fu (by omega) (by omega) (fun b hb => by omega)
/-- the top of a stone above depth and water -/
def topI (σ : SG) (s c : Nat) (v : Int32) : Int32 := nI (σ 4 s) - nI (σ 1 c) - v
theorem c_topOf (r : RR σ A I) {s c : Nat} (hs : s < σ 0 3) (hc : c < σ 0 0) (v : Int32) : U_X0_topOf fu [.ref 2, .int (nI s), .int (nI c), .int v] (enc A I) = some (some (.int (topI σ s c v)), enc A I) := by
  simp only [u_X0_topOf, M_X0_topOf, io_1, gr_1_0, gr_1_1, gr_1_2, gr_1_3, gr_1_4, gr_1_5, gi_1_6, pf_1_6, gi_1_7, pf_1_7, io_2, gr_2_0, gr_2_1, gr_2_2, gr_2_3, gr_2_4, gr_2_5, gr_2_6, gr_2_7, gi_2_8, pf_2_8, gi_2_9, pf_2_9, gi_2_10, pf_2_10, gi_2_11, pf_2_11, gi_2_12, pf_2_12, gi_2_13, pf_2_13, gi_2_14, pf_2_14, io_11, gr_11_0, gr_11_1, gr_11_2, io_15, gr_15_0, gr_15_1, gi_15_2, pf_15_2, gi_15_3, pf_15_3, gi_15_4, pf_15_4, gi_15_5, pf_15_5, io_18, gr_18_0, gr_18_1, gi_18_2, pf_18_2, io_21, gr_21_0, gr_21_1, gr_21_2, gr_21_3, gi_21_4, pf_21_4, gi_21_5, pf_21_5, gi_21_6, pf_21_6, gi_21_7, pf_21_7, io_34, gr_34_0, gi_34_1, pf_34_1, al_3, al_4, al_5, al_6, al_7, al_8, al_9, al_10, al_12, al_13, al_14, al_16, al_17, al_19, al_20, al_22, al_23, al_24, al_26, al_27, al_28, al_29, al_30, al_31, al_32, al_33, al_35, ↓reduceIte, Option.bind_some, cI_some, cL_some, cV_some, rz_0, rz_1, r.a7 hs, r.a3 hc, topI]
end O1
end
section
theorem n_rng (x : Int32) {a b : Nat} (ha : a < 2147483648) (hb : b < 2147483648) : (∃ j, a ≤ j ∧ j ≤ b ∧ x = nI j) ∨ ¬ (nI a ≤ x ∧ x ≤ nI b) := by
  by_cases h : nI a ≤ x ∧ x ≤ nI b
  · have hx : ¬ x < 0 := Int32.not_lt.mpr (Int32.le_trans (nI_pos' ha) h.1)
    obtain ⟨j, hj, rfl⟩ := nI_of hx
    exact Or.inl ⟨j, (nI_leI ha hj).mp h.1, (nI_leI hj hb).mp h.2, rfl⟩
  · exact Or.inr h
theorem n_rin {j a b : Nat} (h1 : a ≤ j) (h2 : j ≤ b) (hb : b < 2147483648) : nI a ≤ nI j ∧ nI j ≤ nI b := ⟨nI_le h1 (by omega), nI_le h2 (by omega)⟩
section O2
variable {σ : SG} {A : Nat → List Int32} {I : Nat → Nat → Int32} {fu : Nat}
theorem RR.n0 (r : RR σ A I) : σ 0 0 = 0 ∨ 3 ≤ σ 0 0 := r.1.1
theorem uI_uI (I : Nat → Nat → Int32) (a j : Nat) (x y : Int32) : uI (uI I a j x) a j y = uI I a j y := by
  funext b i
  unfold uI
  split <;> rfl
theorem c_failBy (x : Int32) : U_X7_failBy fu [.ref 1, .int x] (enc A I) = some (some (.int (-10 - x)), enc A (uI I 1 7 x)) := by
  simp only [u_X7_failBy, M_X7_failBy, io_1, gr_1_0, gr_1_1, gr_1_2, gr_1_3, gr_1_4, gr_1_5, gi_1_6, pf_1_6, gi_1_7, pf_1_7, io_2, gr_2_0, gr_2_1, gr_2_2, gr_2_3, gr_2_4, gr_2_5, gr_2_6, gr_2_7, gi_2_8, pf_2_8, gi_2_9, pf_2_9, gi_2_10, pf_2_10, gi_2_11, pf_2_11, gi_2_12, pf_2_12, gi_2_13, pf_2_13, gi_2_14, pf_2_14, io_11, gr_11_0, gr_11_1, gr_11_2, io_15, gr_15_0, gr_15_1, gi_15_2, pf_15_2, gi_15_3, pf_15_3, gi_15_4, pf_15_4, gi_15_5, pf_15_5, io_18, gr_18_0, gr_18_1, gi_18_2, pf_18_2, io_21, gr_21_0, gr_21_1, gr_21_2, gr_21_3, gi_21_4, pf_21_4, gi_21_5, pf_21_5, gi_21_6, pf_21_6, gi_21_7, pf_21_7, io_34, gr_34_0, gi_34_1, pf_34_1, al_3, al_4, al_5, al_6, al_7, al_8, al_9, al_10, al_12, al_13, al_14, al_16, al_17, al_19, al_20, al_22, al_23, al_24, al_26, al_27, al_28, al_29, al_30, al_31, al_32, al_33, al_35, ↓reduceIte, Option.bind_some, cI_some, cL_some, cV_some, rz_0, rz_1]
theorem uI_s (I : Nat → Nat → Int32) (a j : Nat) (x : Int32) : uI I a j x a j = x := if_pos ⟨rfl, rfl⟩
theorem uI_self (I : Nat → Nat → Int32) (a j : Nat) : uI I a j (I a j) = I := by
  funext b i
  unfold uI
  split
  next h => rw [h.1, h.2]
  next => rfl
end O2
end
section
theorem n_xor (a b : Nat) : nI a ^^^ nI b = nI (a ^^^ b) := by
  unfold nI
  rw [← Int32.toBitVec_inj]
  simp [BitVec.ofNat_xor]
theorem bits_flip {p q : Nat → Bool} {n c : Nat} (hc : c < n) (hq : ∀ i, q i = if i = c then !p c else p i) : bits p n ^^^ 2 ^ c = bits q n := by
  refine bits_ext (n := n) ?_ (bits_lt q n) fun i hi => ?_
  · exact Nat.xor_lt_two_pow (bits_lt p n) (Nat.pow_lt_pow_right (by omega) hc)
  · rw [Nat.testBit_xor, bits_test, bits_test, Nat.testBit_two_pow, hq i]
    by_cases h : i = c
    · subst h; simp [hi]
    · have h' : ¬ c = i := fun q => h q.symm
      simp [hi, h, h']
section O3
variable {σ : SG} {A : Nat → List Int32} {I : Nat → Nat → Int32} {fu : Nat}
theorem rd_self {xs : List Int32} {j : Nat} (x : Int32) (h : j < xs.length) : rd (xs.set j x) j = x := by rw [rd_set _ _ h, if_pos rfl]
theorem rd_oth {xs : List Int32} {i j : Nat} (x : Int32) (h : j < xs.length) (hij : i ≠ j) : rd (xs.set j x) i = rd xs i := by rw [rd_set _ _ h, if_neg hij]
end O3
end
section
theorem bits_S (p : Nat → Bool) (n : Nat) (h : p n = false) : bits p (n + 1) = bits p n := by
  show bits p n + (if p n then 2 ^ n else 0) = bits p n
  rw [h]; simp
section O4
variable {σ : SG} {A : Nat → List Int32} {I : Nat → Nat → Int32} {fu : Nat}
/-- a stone more -/
def addS (σ : SG) (k h w t : Nat) : SG := uN (uN (uN (uN (uN (uN σ 0 3 (σ 0 3 + 1)) 3 (σ 0 3) k) 4 (σ 0 3) h) 5 (σ 0 3) w) 6 (σ 0 3) t) 8 (σ 0 3) 0
end O4
end
section
section O5
variable {σ : SG} {A : Nat → List Int32} {I : Nat → Nat → Int32} {fu : Nat}
/-- a stone moved: k is 0, or its cell and 1 -/
def setS (σ : SG) (s k : Nat) : SG := fun t i => if t = 7 then (if i + 1 = k then s + 1 else if σ 7 i = s + 1 then 0 else σ 7 i) else if t = 8 ∧ i = s then k else σ t i
theorem RR.uniq (r : RR σ A I) {c b s : Nat} (hc : c < σ 0 0) (hb : b < σ 0 0) (h1 : σ 7 c = s + 1) (h2 : σ 7 b = s + 1) : c = b := by
  have e1 := (r.row hc h1).2
  have e2 := (r.row hb h2).2
  omega
theorem c_takeUp (hf : 1000 ≤ fu) (r : RR σ A I) {s : Nat} (hs : s < σ 0 3) (hg : σ 8 s ≠ 100) : ∃ A1, U_X0_takeUp fu [.ref 2, .int (nI s)] (enc A I) = some (none, enc A1 I) ∧ (∀ k, k ≠ 5 → A1 k = A k) ∧ (A1 5).length = 7 ∧ ∀ i, i < σ 0 0 → rd (A1 5) i = ro (if σ 7 i = s + 1 then 0 else σ 7 i) := by
  have hn := r.n7
  have hl : (A 5).length = 7 := r.len rfl
  simp only [u_X0_takeUp, M_X0_takeUp, c_cellOf hf r hs, io_1, gr_1_0, gr_1_1, gr_1_2, gr_1_3, gr_1_4, gr_1_5, gi_1_6, pf_1_6, gi_1_7, pf_1_7, io_2, gr_2_0, gr_2_1, gr_2_2, gr_2_3, gr_2_4, gr_2_5, gr_2_6, gr_2_7, gi_2_8, pf_2_8, gi_2_9, pf_2_9, gi_2_10, pf_2_10, gi_2_11, pf_2_11, gi_2_12, pf_2_12, gi_2_13, pf_2_13, gi_2_14, pf_2_14, io_11, gr_11_0, gr_11_1, gr_11_2, io_15, gr_15_0, gr_15_1, gi_15_2, pf_15_2, gi_15_3, pf_15_3, gi_15_4, pf_15_4, gi_15_5, pf_15_5, io_18, gr_18_0, gr_18_1, gi_18_2, pf_18_2, io_21, gr_21_0, gr_21_1, gr_21_2, gr_21_3, gi_21_4, pf_21_4, gi_21_5, pf_21_5, gi_21_6, pf_21_6, gi_21_7, pf_21_7, io_34, gr_34_0, gi_34_1, pf_34_1, al_3, al_4, al_5, al_6, al_7, al_8, al_9, al_10, al_12, al_13, al_14, al_16, al_17, al_19, al_20, al_22, al_23, al_24, al_26, al_27, al_28, al_29, al_30, al_31, al_32, al_33, al_35, ↓reduceIte, Option.bind_some, cI_some, cL_some, cV_some, rz_0, rz_1, if_neg hg]
  rcases r.plc hs with h | h | ⟨b, h1, h2, h3⟩
  · refine ⟨A, by rw [h]; rfl, fun _ _ => rfl, hl, fun i hi => ?_⟩
    rw [r.v5 hi, if_neg]
    intro q
    have := (r.row hi q).2
    omega
  · exact absurd h hg
  · have e : pl (σ 8 s) = nI b := by rw [h2, pl, if_neg (by omega), if_neg (by omega), Nat.add_sub_cancel]
    have hlb : b < (A 5).length := by omega
    refine ⟨uA A 5 ((A 5).set b (-9)), ?_, fun k hk => uA_n _ _ _ hk, by rw [uA_s, List.length_set]; exact hl, fun i hi => ?_⟩
    · rw [e, if_neg (by rw [n_m9 (by omega)]; exact id), si_5 A I (-9) hlb (by omega)]
      rfl
    · rw [uA_s, rd_set _ _ hlb, r.v5 hi]
      by_cases q : i = b
      · rw [if_pos q, if_pos (by rw [q]; exact h3)]; rfl
      · rw [if_neg q, if_neg (fun z => q (r.uniq hi h1 z h3))]
theorem c_set2 (hf : 1000 ≤ fu) (r : RR σ A I) {s k : Nat} (hs : s < σ 0 3) (hg : σ 8 s ≠ 100) (hk : k ≤ σ 0 0) (hk2 : ∀ c, k = c + 1 → σ 7 c = 0) {y : Int32} (hy : y = ro k) (n : Nat) :
    ∃ A1, (F_X7_set fu (n + 1)).2 1 (nI s) y (enc A I) = some (some (.int 1), enc A1 I) ∧ (∀ k, k ≠ 5 → A1 k = A k) ∧ (A1 5).length = 7 ∧ ∀ i, i < σ 0 0 → rd (A1 5) i = ro (setS σ s k 7 i) := by
  have hn := r.n7
  obtain ⟨A1, e1, e2, e3, e4⟩ := c_takeUp hf r hs hg
  have hset : ∀ i, setS σ s k 7 i = if i + 1 = k then s + 1 else if σ 7 i = s + 1 then 0 else σ 7 i := fun i => by simp [setS]
  simp only [F_X7_set, io_1, gr_1_0, gr_1_1, gr_1_2, gr_1_3, gr_1_4, gr_1_5, gi_1_6, pf_1_6, gi_1_7, pf_1_7, io_2, gr_2_0, gr_2_1, gr_2_2, gr_2_3, gr_2_4, gr_2_5, gr_2_6, gr_2_7, gi_2_8, pf_2_8, gi_2_9, pf_2_9, gi_2_10, pf_2_10, gi_2_11, pf_2_11, gi_2_12, pf_2_12, gi_2_13, pf_2_13, gi_2_14, pf_2_14, io_11, gr_11_0, gr_11_1, gr_11_2, io_15, gr_15_0, gr_15_1, gi_15_2, pf_15_2, gi_15_3, pf_15_3, gi_15_4, pf_15_4, gi_15_5, pf_15_5, io_18, gr_18_0, gr_18_1, gi_18_2, pf_18_2, io_21, gr_21_0, gr_21_1, gr_21_2, gr_21_3, gi_21_4, pf_21_4, gi_21_5, pf_21_5, gi_21_6, pf_21_6, gi_21_7, pf_21_7, io_34, gr_34_0, gi_34_1, pf_34_1, al_3, al_4, al_5, al_6, al_7, al_8, al_9, al_10, al_12, al_13, al_14, al_16, al_17, al_19, al_20, al_22, al_23, al_24, al_26, al_27, al_28, al_29, al_30, al_31, al_32, al_33, al_35, ↓reduceIte, Option.bind_some, cI_some, cL_some, cV_some, rz_0, rz_1, e1]
  cases k with
  | zero =>
    subst hy
    refine ⟨A1, by rw [if_pos (show ro 0 = -9 from rfl)], e2, e3, fun i hi => ?_⟩
    rw [hset, if_neg (by omega)]
    exact e4 i hi
  | succ c =>
    subst hy
    have hlc : c < (A1 5).length := by omega
    have hM := r.m6
    refine ⟨uA A1 5 ((A1 5).set c (nI s)), ?_, fun j hj => (uA_n _ _ _ hj).trans (e2 j hj), by rw [uA_s, List.length_set]; exact e3, fun i hi => ?_⟩
    · rw [if_neg (by show ¬ nI c = -9; rw [n_m9 (by omega)]; exact id), show ro (c + 1) = nI c from rfl, si_5 A1 I (nI s) hlc (by omega)]
      rfl
    · rw [uA_s, rd_set _ _ hlc, hset]
      by_cases q : i = c
      · rw [if_pos q, if_pos (by omega)]; rfl
      · rw [if_neg q, if_neg (by omega)]
        exact e4 i hi
end O5
end
section
/-! ===== crossing: the mathematics of strides over a row ===== -/
section CM
variable (N : Nat) (S : Nat → Bool) (e : Nat → Nat) (d : Nat)
/-- near enough for one stride; places: 0 the near bank, c + 1 a cell, N + 1 the far bank -/
abbrev near (p q : Nat) : Prop := (p < q → q ≤ p + e p + e q + d) ∧ (q < p → p ≤ q + e p + e q + d)
def edge (p q : Nat) : Prop := p ≠ q ∧ q ≤ N + 1 ∧ S q = true ∧ near e d p q
def Wk (a : Nat) : Nat → Nat → Prop
  | 0, p => p = a
  | L + 1, q => ∃ p, Wk a L p ∧ edge N S e d p q
/-- what always holds of a row's stands and eases -/
def Rw : Prop := S 0 = true ∧ S (N + 1) = true ∧ e 0 = 0 ∧ e (N + 1) = 0 ∧ ∀ p, e p ≤ 1
def rea (p : Nat) : Prop := ∃ L, Wk N S e d 0 L p
variable {N S e d}
theorem Wk.z {a : Nat} : Wk N S e d a 0 a := rfl
theorem Wk.s {a L p q : Nat} (h : Wk N S e d a L p) (k : edge N S e d p q) : Wk N S e d a (L + 1) q := ⟨p, h, k⟩
theorem Wk.ind {a : Nat} {P : Nat → Nat → Prop} (hz : P 0 a) (hs : ∀ L p q, Wk N S e d a L p → edge N S e d p q → P L p → P (L + 1) q) : ∀ {L p : Nat}, Wk N S e d a L p → P L p := by
  intro L
  induction L with
  | zero => intro p h; have h : p = a := h; subst h; exact hz
  | succ L ih => rintro q ⟨p, g, k⟩; exact hs L p q g k (ih g)
theorem near_sym {p q : Nat} (h : near e d p q) : near e d q p := ⟨fun k => by have := h.2 k; omega, fun k => by have := h.1 k; omega⟩
theorem Wk.st {a L p : Nat} (ha : S a = true) (hn : a ≤ N + 1) (h : Wk N S e d a L p) : S p = true ∧ p ≤ N + 1 := by
  cases L with
  | zero => have h : p = a := h; subst h; exact ⟨ha, hn⟩
  | succ L => obtain ⟨_, _, g⟩ := h; exact ⟨g.2.2.1, g.2.1⟩
theorem Wk.rev {a L p : Nat} (ha : S a = true) (hn : a ≤ N + 1) (h : Wk N S e d a L p) : ∀ b M, Wk N S e d b M p → Wk N S e d b (M + L) a := by
  refine Wk.ind (P := fun L p => ∀ b M, Wk N S e d b M p → Wk N S e d b (M + L) a) ?_ ?_ h
  · intro b M g; exact g
  · intro L p q g k ih b M j
    have hp := g.st ha hn
    have := ih b (M + 1) (Wk.s j ⟨fun q => k.1 q.symm, hp.2, hp.1, near_sym k.2.2.2⟩)
    rw [show M + (L + 1) = M + 1 + L by omega]
    exact this
/-- who goes over a place could stop there -/
theorem Wk.over (r : Rw N S e) {L p : Nat} (h : Wk N S e d 0 L p) : ∀ q, 1 ≤ q → q ≤ p → ∃ t, t < q ∧ rea N S e d t ∧ q ≤ t + e t + e q + d := by
  refine Wk.ind (P := fun L p => ∀ q, 1 ≤ q → q ≤ p → ∃ t, t < q ∧ rea N S e d t ∧ q ≤ t + e t + e q + d) ?_ ?_ h
  · intro q h1 h2; omega
  · intro L p q g k ih b h1 h2
    by_cases hb : b ≤ p
    · exact ih b h1 hb
    · refine ⟨p, by omega, ⟨L, g⟩, ?_⟩
      have h := k.2.2.2.1 (by omega)
      have hb1 := r.2.2.2.2 b
      have hq1 := r.2.2.2.2 q
      by_cases hq : b = q
      · subst hq; exact h
      · omega
/-- from farther on it is never more strides to the far bank -/
theorem Wk.mono (r : Rw N S e) {L p : Nat} (h : Wk N S e d (N + 1) L p) : ∀ q, p ≤ q → q ≤ N + 1 → S q = true → ∃ M, M ≤ L ∧ Wk N S e d (N + 1) M q := by
  refine Wk.ind (P := fun L p => ∀ q, p ≤ q → q ≤ N + 1 → S q = true → ∃ M, M ≤ L ∧ Wk N S e d (N + 1) M q) ?_ ?_ h
  · intro q h1 h2 _; exact ⟨0, Nat.le_refl _, by rw [show q = N + 1 by omega]; exact .z⟩
  · intro L p q g k ih b h1 h2 hs
    by_cases hb : p ≤ b
    · obtain ⟨M, hM, w⟩ := ih b hb h2 hs
      exact ⟨M, by omega, w⟩
    · by_cases hq : q = b
      · subst hq; exact ⟨L + 1, Nat.le_refl _, .s g k⟩
      · have h := k.2.2.2.2 (by omega)
        have hq1 := r.2.2.2.2 q
        refine ⟨L + 1, Nat.le_refl _, .s g ⟨by omega, h2, hs, fun z => by omega, fun _ => ?_⟩⟩
        omega
variable (S e d)
/-- the class's way: how far one comes, counted from the near bank -/
def gr : Nat → Nat → Nat → Nat
  | 0, _, G => G
  | m + 1, c, G => if S (c + 1) = true then (if G + e (c + 1) < c + 1 then G else gr m (c + 1) (c + 1 + e (c + 1) + d)) else gr m (c + 1) G
variable {S e d}
theorem Rw.wlt (r : Rw N S e) {b G : Nat} (hS : ∀ q, q < b → S q = true → q ≤ N → q + e q + d ≤ G) (hb : G + e b < b) (hbN : b ≤ N) {L p : Nat} (h : Wk N S e d 0 L p) : p < b := by
  refine Wk.ind (P := fun L p => p < b) ?_ ?_ h
  · omega
  · intro L p q g k ih
    apply Nat.lt_of_not_le
    intro hq
    have hp := g.st r.1 (by omega)
    have h1 := hS p ih hp.1 (by omega)
    have h2 := k.2.2.2.1 (by omega)
    have hq1 := r.2.2.2.2 q
    by_cases z : q = b
    · subst z; omega
    · omega
theorem gr_spec (r : Rw N S e) : ∀ m c G, m + c = N → (∃ p, p ≤ c ∧ rea N S e d p ∧ G = p + e p + d) → (∀ q, q ≤ c → S q = true → rea N S e d q) → (∀ q, q ≤ c → S q = true → q + e q + d ≤ G) →
    (∃ p, p ≤ N ∧ rea N S e d p ∧ gr S e d m c G = p + e p + d) ∧ (∀ q, q ≤ N → rea N S e d q → q + e q + d ≤ gr S e d m c G) ∧ (∀ q, q ≤ N → S q = true → q ≤ gr S e d m c G + e q → rea N S e d q) := by
  intro m
  induction m with
  | zero =>
    intro c G hm h1 h2 h3
    have : c = N := by omega
    subst this
    exact ⟨h1, fun q hq ⟨L, hr⟩ => h3 q hq (hr.st r.1 (by omega)).1, fun q hq hs _ => h2 q hq hs⟩
  | succ m ih =>
    intro c G hm h1 h2 h3
    unfold gr
    by_cases hs : S (c + 1) = true
    · rw [if_pos hs]
      by_cases hg : G + e (c + 1) < c + 1
      · rw [if_pos hg]
        have hlt : ∀ q, rea N S e d q → q < c + 1 := fun q ⟨L, w⟩ => r.wlt (G := G) (fun t ht hst _ => h3 t (by omega) hst) hg (by omega) w
        refine ⟨?_, fun q hq hr => h3 q (by have := hlt q hr; omega) ?_, fun q hq hst hle => ?_⟩
        · obtain ⟨p, a, b, z⟩ := h1; exact ⟨p, by omega, b, z⟩
        · obtain ⟨L, w⟩ := hr; exact (w.st r.1 (by omega)).1
        · by_cases hc : q ≤ c
          · exact h2 q hc hst
          · have hq1 := r.2.2.2.2 q
            by_cases z : q = c + 1
            · subst z; omega
            · omega
      · rw [if_neg hg]
        have hreach : rea N S e d (c + 1) := by
          obtain ⟨p, a, ⟨L, w⟩, z⟩ := h1
          exact ⟨L + 1, .s w ⟨by omega, by omega, hs, fun _ => by omega, fun _ => by omega⟩⟩
        refine ih (c + 1) _ (by omega) ⟨c + 1, Nat.le_refl _, hreach, rfl⟩ (fun q hq hst => ?_) (fun q hq hst => ?_)
        · by_cases z : q = c + 1
          · subst z; exact hreach
          · exact h2 q (by omega) hst
        · by_cases z : q = c + 1
          · subst z; exact Nat.le_refl _
          · have hq1 := r.2.2.2.2 q
            omega
    · rw [if_neg hs]
      refine ih (c + 1) G (by omega) ?_ (fun q hq hst => ?_) (fun q hq hst => ?_)
      · obtain ⟨p, a, b, z⟩ := h1; exact ⟨p, by omega, b, z⟩
      · by_cases z : q = c + 1
        · subst z; exact absurd hst hs
        · exact h2 q (by omega) hst
      · by_cases z : q = c + 1
        · subst z; exact absurd hst hs
        · exact h3 q (by omega) hst
variable (N S e d)
def grN : Nat := gr S e d N 0 d
variable {N S e d}
theorem grN_spec (r : Rw N S e) : (∃ p, p ≤ N ∧ rea N S e d p ∧ grN N S e d = p + e p + d) ∧ (∀ q, q ≤ N → rea N S e d q → q + e q + d ≤ grN N S e d) ∧ (∀ q, q ≤ N → S q = true → q ≤ grN N S e d + e q → rea N S e d q) := by
  have h0 : rea N S e d 0 := ⟨0, .z⟩
  refine gr_spec r N 0 d (by omega) ⟨0, Nat.le_refl _, h0, by rw [r.2.2.1]; omega⟩ (fun q hq _ => ?_) (fun q hq _ => ?_)
  · rw [show q = 0 by omega]; exact h0
  · rw [show q = 0 by omega, r.2.2.1]; omega
/-- one comes across just where the class's number says so -/
theorem grN_cross (r : Rw N S e) : N + 1 ≤ grN N S e d ↔ rea N S e d (N + 1) := by
  obtain ⟨⟨p, hp, ⟨L, w⟩, hg⟩, h2, h3⟩ := grN_spec (d := d) r
  constructor
  · intro h
    exact ⟨L + 1, .s w ⟨by omega, by omega, r.2.1, fun _ => by rw [r.2.2.2.1]; omega, fun _ => by omega⟩⟩
  · rintro ⟨L, w⟩
    cases L with
    | zero => have w : N + 1 = 0 := w; omega
    | succ L =>
      obtain ⟨p, g, k⟩ := w
      have hp := g.st r.1 (by omega)
      have hp2 : p ≤ N := by have := k.1; omega
      have := h2 p hp2 ⟨_, g⟩
      have k2 := k.2.2.2.1 (by omega)
      rw [r.2.2.2.1] at k2
      omega
/-- a place where nobody stands is near by the class's number just where it is near to a place that one comes to -/
theorem grN_near (r : Rw N S e) {q : Nat} (h1 : 1 ≤ q) (hq : q ≤ N) (hs : S q = false) : q ≤ grN N S e d + e q ↔ ∃ p, p ≤ N ∧ p ≠ q ∧ rea N S e d p ∧ near e d p q := by
  obtain ⟨⟨p, hp, ⟨L, w⟩, hg⟩, h2, h3⟩ := grN_spec (d := d) r
  constructor
  · intro h
    by_cases hpq : p < q
    · exact ⟨p, hp, by omega, ⟨L, w⟩, fun _ => by omega, fun _ => by omega⟩
    · obtain ⟨t, ht, hr, hn⟩ := w.over r q h1 (by omega)
      exact ⟨t, by omega, by omega, hr, fun _ => hn, fun _ => by omega⟩
  · rintro ⟨p, hp, hpq, hr, hn⟩
    by_cases hlt : p < q
    · have := h2 p hp hr
      have := hn.1 hlt
      omega
    · obtain ⟨L, w⟩ := hr
      obtain ⟨t, ht, hr, hn⟩ := w.over r q h1 (by omega)
      have := h2 t (by omega) hr
      omega
/-- one who comes across comes to every stand, from both banks -/
theorem cross_all (r : Rw N S e) (h : rea N S e d (N + 1)) {q : Nat} (hq : q ≤ N + 1) (hs : S q = true) : rea N S e d q ∧ ∃ M, Wk N S e d (N + 1) M q := by
  have h' := h
  obtain ⟨L, w⟩ := h
  refine ⟨?_, ?_⟩
  · by_cases z : q = N + 1
    · rw [z]; exact h'
    · have g := (grN_cross r).mpr h'
      exact (grN_spec r).2.2 q (by omega) hs (by omega)
  · have w2 := w.rev r.1 (by omega) (N + 1) 0 .z
    obtain ⟨M, _, w3⟩ := w2.mono r q (by omega) hq hs
    exact ⟨M, w3⟩
theorem cross_of (r : Rw N S e) {q L M : Nat} (h : Wk N S e d 0 L q) (g : Wk N S e d (N + 1) M q) : rea N S e d (N + 1) :=
  ⟨_, g.rev r.2.1 (by omega) 0 L h⟩
/-- who goes farther comes wherever the other does -/
theorem Wk.more {d2 : Nat} (hd : d ≤ d2) {a L p : Nat} (h : Wk N S e d a L p) : Wk N S e d2 a L p := by
  refine Wk.ind (P := fun L p => Wk N S e d2 a L p) ?_ ?_ h
  · exact .z
  · intro L p q g k ih
    exact .s ih ⟨k.1, k.2.1, k.2.2.1, fun z => by have := k.2.2.2.1 z; omega, fun z => by have := k.2.2.2.2 z; omega⟩
theorem rea.more {d2 : Nat} (hd : d ≤ d2) {p : Nat} (h : rea N S e d p) : rea N S e d2 p := by
  obtain ⟨L, w⟩ := h; exact ⟨L, w.more hd⟩
/-- the numbers at the end of the model's rounds -/
def Dst (N : Nat) (S : Nat → Bool) (e : Nat → Nat) (d a : Nat) (f : Nat → Nat) : Prop :=
  (∀ p, p ≤ N + 1 → f p = 1000000 ∨ (f p < 1000000 ∧ Wk N S e d a (f p) p)) ∧ ∀ L p, Wk N S e d a L p → f p ≤ L
theorem Dst.iff {a : Nat} {f : Nat → Nat} (D : Dst N S e d a f) {p : Nat} (hp : p ≤ N + 1) (hb : ∀ L, Wk N S e d a L p → ∃ M, M < 1000000 ∧ Wk N S e d a M p) : f p < 1000000 ↔ ∃ L, Wk N S e d a L p := by
  constructor
  · intro h
    rcases D.1 p hp with q | q
    · omega
    · exact ⟨_, q.2⟩
  · rintro ⟨L, w⟩
    obtain ⟨M, hM, w2⟩ := hb L w
    have := D.2 M p w2
    omega
end CM
end
section
/-! ===== the model's crossing by machine numbers ===== -/
theorem uA_uA (A : Nat → List Int32) (k : Nat) (x y : List Int32) : uA (uA A k x) k y = uA A k y := by
  funext j
  unfold uA
  by_cases h : j = k
  · rw [if_pos h, if_pos h]
  · rw [if_neg h, if_neg h, if_neg h]
theorem uA_self (A : Nat → List Int32) (k : Nat) : uA A k (A k) = A := by
  funext j
  unfold uA
  by_cases h : j = k
  · rw [if_pos h, h]
  · rw [if_neg h]
theorem top_pos : ∀ h, h < 21 → ∀ d, d < 10 → ∀ v, v < 10 → (0 < nI h - nI d - nI v ↔ d + v < h) := by decide +kernel
theorem str_pos : ∀ a, a < 9 → ∀ x, x < 2 → ∀ y, y < 2 → ∀ d, d < 10 → (nI d < nI a - nI x - nI y ↔ d + x + y < a) := by decide +kernel
theorem n_subS : ∀ a, a < 9 → ∀ b, b < 9 → b ≤ a → nI a - nI b = nI (a - b) := by decide +kernel
theorem n_sub1 (c : Nat) : nI (c + 1) - 1 = nI c := by
  rw [← nI_1]
  exact Int32.add_sub_cancel _ _
def Sd (σ : SG) (L : Nat → Nat) (v p : Nat) : Bool := decide (p = 0 ∨ p = σ 0 0 + 1 ∨ (L (p - 1) ≠ 0 ∧ σ 1 (p - 1) + v < σ 4 (L (p - 1) - 1)))
def ez (σ : SG) (L : Nat → Nat) (p : Nat) : Nat := if p = 0 ∨ p = σ 0 0 + 1 then 0 else if L (p - 1) ≠ 0 ∧ σ 3 (L (p - 1) - 1) = 2 then 1 else 0
theorem ez1 (σ : SG) (L : Nat → Nat) (p : Nat) : ez σ L p ≤ 1 := by unfold ez; split <;> (try split) <;> omega
theorem rw_of (σ : SG) (L : Nat → Nat) (v : Nat) : Rw (σ 0 0) (Sd σ L v) (ez σ L) := by
  refine ⟨by simp [Sd], by simp [Sd], by simp [ez], by simp [ez], ez1 σ L⟩
section FR
variable {σ : SG} {A : Nat → List Int32} {I : Nat → Nat → Int32} {fu : Nat} {L : Nat → Nat} {v : Nat}
/-! the rounds -/
def sm (f : Nat → Nat) : Nat → Nat
  | 0 => 0
  | n + 1 => sm f n + f n
theorem sm_le {f g : Nat → Nat} : ∀ n, (∀ i, i < n → g i ≤ f i) → sm g n ≤ sm f n := by
  intro n
  induction n with
  | zero => intro _; exact Nat.le_refl _
  | succ n ih => intro h; have := ih (fun i hi => h i (by omega)); have := h n (by omega); unfold sm; omega
theorem sm_lt {f g : Nat → Nat} {j : Nat} : ∀ n, j < n → (∀ i, i < n → g i ≤ f i) → g j < f j → sm g n < sm f n := by
  intro n
  induction n with
  | zero => intro h; omega
  | succ n ih =>
    intro hj h hl
    unfold sm
    by_cases q : j = n
    · subst q
      have := sm_le j (fun i hi => h i (by omega))
      omega
    · have := ih (by omega) (fun i hi => h i (by omega)) hl
      have := h n (by omega)
      omega
theorem sm_cap {f : Nat → Nat} : ∀ n, (∀ i, i < n → f i ≤ 1000000) → sm f n ≤ n * 1000000 := by
  intro n
  induction n with
  | zero => intro _; exact Nat.zero_le _
  | succ n ih => intro h; have := ih (fun i hi => h i (by omega)); have := h n (by omega); unfold sm; omega
/-- the row of numbers, and that each is a walk's length -/
def FW (σ : SG) (S : Nat → Bool) (e : Nat → Nat) (d a : Nat) (xs : List Int32) (f : Nat → Nat) : Prop :=
  xs.length = 9 ∧ (∀ i, i ≤ σ 0 0 + 1 → rd xs i = nI (f i)) ∧ (∀ i, i ≤ σ 0 0 + 1 → f i = 1000000 ∨ (f i < 1000000 ∧ Wk (σ 0 0) S e d a (f i) i)) ∧ f a = 0
theorem FW.le {S : Nat → Bool} {e : Nat → Nat} {d a : Nat} {xs : List Int32} {f : Nat → Nat} (h : FW σ S e d a xs f) {i : Nat} (hi : i ≤ σ 0 0 + 1) : f i ≤ 1000000 := by
  rcases h.2.2.1 i hi with q | q <;> omega
theorem RR.sc (r : RR σ A I) {k : Nat} {xs : List Int32} (h : scrA k = true) (hl : xs.length = (A k).length) : RR σ (uA A k xs) I := (Fr.arr (Fr.rf A I) h hl).R r
def updN (f : Nat → Nat) (q x : Nat) : Nat → Nat := fun i => if i = q then x else f i
end FR
end
section
/-! ===== who comes across: both objects ===== -/
section SH
variable {N : Nat} {S : Nat → Bool} {e : Nat → Nat} {d : Nat}
theorem short0 (r : Rw N S e) : ∀ p, p ≤ N + 1 → rea N S e d p → ∃ M, M ≤ p ∧ Wk N S e d 0 M p := by
  intro p
  induction p using Nat.strongRecOn with
  | _ p ih =>
    intro hp hr
    by_cases h0 : p = 0
    · subst h0; exact ⟨0, Nat.le_refl _, .z⟩
    · obtain ⟨L, w⟩ := hr
      obtain ⟨t, ht, hrt, hn⟩ := w.over r p (by omega) (Nat.le_refl _)
      obtain ⟨M, hM, w2⟩ := ih t ht (by omega) hrt
      exact ⟨M + 1, by omega, w2.s ⟨by omega, hp, (w.st r.1 (by omega)).1, fun _ => hn, fun _ => by omega⟩⟩
theorem shortN (r : Rw N S e) : ∀ L p, Wk N S e d (N + 1) L p → ∃ M, M + p ≤ N + 1 ∧ Wk N S e d (N + 1) M p := by
  intro L
  induction L using Nat.strongRecOn with
  | _ L ih =>
    intro p w
    cases L with
    | zero => have w' : p = N + 1 := w; subst w'; exact ⟨0, by omega, .z⟩
    | succ L =>
      obtain ⟨q, w1, k⟩ := w
      by_cases h : q < p
      · obtain ⟨M, hM, w2⟩ := w1.mono r p (by omega) k.2.1 k.2.2.1
        exact ih M (by omega) p w2
      · obtain ⟨M, hM, w2⟩ := ih L (by omega) q w1
        have := k.1
        exact ⟨M + 1, by omega, w2.s k⟩
theorem Dst.i0 (r : Rw N S e) (hN : N ≤ 7) {f : Nat → Nat} (D : Dst N S e d 0 f) {p : Nat} (hp : p ≤ N + 1) : f p < 1000000 ↔ rea N S e d p :=
  D.iff hp fun L w => by obtain ⟨M, hM, g⟩ := short0 r p hp ⟨L, w⟩; exact ⟨M, by omega, g⟩
theorem Dst.iN (r : Rw N S e) (hN : N ≤ 7) {f : Nat → Nat} (D : Dst N S e d (N + 1) f) {p : Nat} (hp : p ≤ N + 1) : f p < 1000000 ↔ ∃ L, Wk N S e d (N + 1) L p :=
  D.iff hp fun L w => by obtain ⟨M, hM, g⟩ := shortN r L p w; exact ⟨M, by omega, g⟩
theorem gr_congr {S' : Nat → Bool} {e' : Nat → Nat} : ∀ m c G, (∀ i, i < m → S (c + i + 1) = S' (c + i + 1) ∧ (S (c + i + 1) = true → e (c + i + 1) = e' (c + i + 1))) → gr S e d m c G = gr S' e' d m c G := by
  intro m
  induction m with
  | zero => intro c G _; rfl
  | succ m ih =>
    intro c G h
    have h0 := h 0 (by omega)
    rw [Nat.add_zero] at h0
    have ht : ∀ i, i < m → S (c + 1 + i + 1) = S' (c + 1 + i + 1) ∧ (S (c + 1 + i + 1) = true → e (c + 1 + i + 1) = e' (c + 1 + i + 1)) := fun i hi => by
      have := h (i + 1) (by omega)
      rw [show c + (i + 1) + 1 = c + 1 + i + 1 by omega] at this
      exact this
    unfold gr
    rw [← h0.1]
    by_cases hs : S (c + 1) = true
    · rw [if_pos hs, if_pos hs, ← h0.2 hs, ih _ _ ht]
    · rw [if_neg hs, if_neg hs, ih _ _ ht]
end SH
theorem far_lt : ∀ G, G < 20 → ∀ c, c < 8 → ∀ x, x < 2 → (nI G - 1 < nI c - nI x ↔ G + x < c + 1) := by decide +kernel
theorem top_lt : ∀ h, h < 21 → ∀ d, d < 10 → ∀ v, v < 10 → (nI h - nI d - nI v < 1 ↔ ¬ (d + v < h)) := by decide +kernel
theorem far_cmp : ∀ G, G < 20 → ∀ c, c < 8 → (nI G - 1 < nI c ↔ G < c + 1) := by decide +kernel
theorem bits_ge {p : Nat → Bool} {n : Nat} (h : n ≤ 7) : bits p n < 128 := Nat.lt_of_lt_of_le (bits_lt p n) (Nat.pow_le_pow_right (by omega) h)
theorem bits_step (p : Nat → Bool) {c : Nat} (hc : c < 31) : (if p c = true then nI (bits p c) ||| (1 : Int32) <<< (nI c &&& 31) else nI (bits p c)) = nI (bits p (c + 1)) := by
  have e : bits p (c + 1) = bits p c + (if p c = true then 2 ^ c else 0) := rfl
  by_cases h : p c = true
  · rw [if_pos h, e, if_pos h, sh_1 hc, n_or, bits_or]
  · rw [if_neg h, e, if_neg h, Nat.add_zero]
/-- the cells whose stone stands dry -/
def dryB (σ : SG) (v c : Nat) : Bool := decide (σ 7 c ≠ 0 ∧ σ 1 c + v < σ 4 (σ 7 c - 1))
def kndB (σ : SG) (t c : Nat) : Bool := decide (σ 7 c ≠ 0 ∧ t ≤ σ 3 (σ 7 c - 1))
section CR
variable {σ : SG} {A : Nat → List Int32} {I : Nat → Nat → Int32} {fu : Nat}
theorem c_dry_loop (r : RR σ A I) {v : Nat} (hv : v ≤ 9) : ∀ m c n, c + m = σ 0 0 → m < n → F_X0_dry fu n 2 (nI v) (nI (bits (dryB σ v) c)) (nI c) (enc A I) = some (some (.int (nI (bits (dryB σ v) (σ 0 0)))), enc A I) := by
  have hn := r.n7
  intro m
  induction m with
  | zero =>
    intro c n hc hm
    obtain ⟨n, rfl⟩ : ∃ k, n = k + 1 := ⟨n - 1, by omega⟩
    simp only [F_X0_dry, io_1, gr_1_0, gr_1_1, gr_1_2, gr_1_3, gr_1_4, gr_1_5, gi_1_6, pf_1_6, gi_1_7, pf_1_7, io_2, gr_2_0, gr_2_1, gr_2_2, gr_2_3, gr_2_4, gr_2_5, gr_2_6, gr_2_7, gi_2_8, pf_2_8, gi_2_9, pf_2_9, gi_2_10, pf_2_10, gi_2_11, pf_2_11, gi_2_12, pf_2_12, gi_2_13, pf_2_13, gi_2_14, pf_2_14, io_11, gr_11_0, gr_11_1, gr_11_2, io_15, gr_15_0, gr_15_1, gi_15_2, pf_15_2, gi_15_3, pf_15_3, gi_15_4, pf_15_4, gi_15_5, pf_15_5, io_18, gr_18_0, gr_18_1, gi_18_2, pf_18_2, io_21, gr_21_0, gr_21_1, gr_21_2, gr_21_3, gi_21_4, pf_21_4, gi_21_5, pf_21_5, gi_21_6, pf_21_6, gi_21_7, pf_21_7, io_34, gr_34_0, gi_34_1, pf_34_1, al_3, al_4, al_5, al_6, al_7, al_8, al_9, al_10, al_12, al_13, al_14, al_16, al_17, al_19, al_20, al_22, al_23, al_24, al_26, al_27, al_28, al_29, al_30, al_31, al_32, al_33, al_35, ↓reduceIte, Option.bind_some, cI_some, cL_some, cV_some, rz_0, rz_1, r.i2_8, n_lt (show c < 2147483648 by omega) (show σ 0 0 < 2147483648 by omega)]
    rw [if_neg (by omega), show c = σ 0 0 by omega]
  | succ m ih =>
    intro c n hcm hm
    obtain ⟨n, rfl⟩ : ∃ k, n = k + 1 := ⟨n - 1, by omega⟩
    have hc : c < σ 0 0 := by omega
    have h6 := r.row_lt hc
    have e := ih (c + 1) n (by omega) (by omega)
    rw [← bits_step (dryB σ v) (show c < 31 by omega)] at e
    simp only [F_X0_dry, io_1, gr_1_0, gr_1_1, gr_1_2, gr_1_3, gr_1_4, gr_1_5, gi_1_6, pf_1_6, gi_1_7, pf_1_7, io_2, gr_2_0, gr_2_1, gr_2_2, gr_2_3, gr_2_4, gr_2_5, gr_2_6, gr_2_7, gi_2_8, pf_2_8, gi_2_9, pf_2_9, gi_2_10, pf_2_10, gi_2_11, pf_2_11, gi_2_12, pf_2_12, gi_2_13, pf_2_13, gi_2_14, pf_2_14, io_11, gr_11_0, gr_11_1, gr_11_2, io_15, gr_15_0, gr_15_1, gi_15_2, pf_15_2, gi_15_3, pf_15_3, gi_15_4, pf_15_4, gi_15_5, pf_15_5, io_18, gr_18_0, gr_18_1, gi_18_2, pf_18_2, io_21, gr_21_0, gr_21_1, gr_21_2, gr_21_3, gi_21_4, pf_21_4, gi_21_5, pf_21_5, gi_21_6, pf_21_6, gi_21_7, pf_21_7, io_34, gr_34_0, gi_34_1, pf_34_1, al_3, al_4, al_5, al_6, al_7, al_8, al_9, al_10, al_12, al_13, al_14, al_16, al_17, al_19, al_20, al_22, al_23, al_24, al_26, al_27, al_28, al_29, al_30, al_31, al_32, al_33, al_35, ↓reduceIte, Option.bind_some, cI_some, cL_some, cV_some, rz_0, rz_1, r.i2_8, n_lt (show c < 2147483648 by omega) (show σ 0 0 < 2147483648 by omega), r.a5 hc, ro_9 (show σ 7 c < 2147483648 by omega), nI_1]
    rw [if_pos hc]
    cases hk : σ 7 c with
    | zero =>
      rw [if_pos rfl]
      rw [if_neg (by simp [dryB, hk])] at e
      exact e
    | succ s =>
      have hs := (r.row hc hk).1
      have t1 := (r.sto hs).2.2.1
      have t2 := (r.cel hc).1
      rw [if_neg (by omega), ro_s, c_topOf r hs hc]
      simp only [io_1, gr_1_0, gr_1_1, gr_1_2, gr_1_3, gr_1_4, gr_1_5, gi_1_6, pf_1_6, gi_1_7, pf_1_7, io_2, gr_2_0, gr_2_1, gr_2_2, gr_2_3, gr_2_4, gr_2_5, gr_2_6, gr_2_7, gi_2_8, pf_2_8, gi_2_9, pf_2_9, gi_2_10, pf_2_10, gi_2_11, pf_2_11, gi_2_12, pf_2_12, gi_2_13, pf_2_13, gi_2_14, pf_2_14, io_11, gr_11_0, gr_11_1, gr_11_2, io_15, gr_15_0, gr_15_1, gi_15_2, pf_15_2, gi_15_3, pf_15_3, gi_15_4, pf_15_4, gi_15_5, pf_15_5, io_18, gr_18_0, gr_18_1, gi_18_2, pf_18_2, io_21, gr_21_0, gr_21_1, gr_21_2, gr_21_3, gi_21_4, pf_21_4, gi_21_5, pf_21_5, gi_21_6, pf_21_6, gi_21_7, pf_21_7, io_34, gr_34_0, gi_34_1, pf_34_1, al_3, al_4, al_5, al_6, al_7, al_8, al_9, al_10, al_12, al_13, al_14, al_16, al_17, al_19, al_20, al_22, al_23, al_24, al_26, al_27, al_28, al_29, al_30, al_31, al_32, al_33, al_35, ↓reduceIte, Option.bind_some, cI_some, cL_some, cV_some, rz_0, rz_1, topI]
      have e1 : dryB σ v c = true ↔ σ 1 c + v < σ 4 s := by
        unfold dryB
        rw [decide_eq_true_iff, hk]
        simp only [Nat.add_sub_cancel]
        omega
      have e2 := top_lt _ (show σ 4 s < 21 by omega) _ (show σ 1 c < 10 by omega) _ (show v < 10 by omega)
      by_cases q : σ 1 c + v < σ 4 s
      · rw [if_neg (fun z => e2.mp z q)]
        rw [if_pos (e1.mpr q)] at e
        exact e
      · rw [if_pos (e2.mpr q)]
        rw [if_neg (fun z => q (e1.mp z))] at e
        exact e
theorem c_dry (hf : 1000 ≤ fu) (r : RR σ A I) {v : Nat} (hv : v ≤ 9) : U_X0_dry fu [.ref 2, .int (nI v)] (enc A I) = some (some (.int (nI (bits (dryB σ v) (σ 0 0)))), enc A I) := by
  have hn := r.n7
  simp only [u_X0_dry, M_X0_dry, io_1, gr_1_0, gr_1_1, gr_1_2, gr_1_3, gr_1_4, gr_1_5, gi_1_6, pf_1_6, gi_1_7, pf_1_7, io_2, gr_2_0, gr_2_1, gr_2_2, gr_2_3, gr_2_4, gr_2_5, gr_2_6, gr_2_7, gi_2_8, pf_2_8, gi_2_9, pf_2_9, gi_2_10, pf_2_10, gi_2_11, pf_2_11, gi_2_12, pf_2_12, gi_2_13, pf_2_13, gi_2_14, pf_2_14, io_11, gr_11_0, gr_11_1, gr_11_2, io_15, gr_15_0, gr_15_1, gi_15_2, pf_15_2, gi_15_3, pf_15_3, gi_15_4, pf_15_4, gi_15_5, pf_15_5, io_18, gr_18_0, gr_18_1, gi_18_2, pf_18_2, io_21, gr_21_0, gr_21_1, gr_21_2, gr_21_3, gi_21_4, pf_21_4, gi_21_5, pf_21_5, gi_21_6, pf_21_6, gi_21_7, pf_21_7, io_34, gr_34_0, gi_34_1, pf_34_1, al_3, al_4, al_5, al_6, al_7, al_8, al_9, al_10, al_12, al_13, al_14, al_16, al_17, al_19, al_20, al_22, al_23, al_24, al_26, al_27, al_28, al_29, al_30, al_31, al_32, al_33, al_35, ↓reduceIte, Option.bind_some, cI_some, cL_some, cV_some, rz_0, rz_1]
  exact c_dry_loop r hv (σ 0 0) 0 fu (by omega) (by omega)
theorem c_ofKind_loop (r : RR σ A I) {t : Nat} (ht : t ≤ 2) : ∀ m c n, c + m = σ 0 0 → m < n → F_X0_ofKind fu n 2 (nI t) (nI (bits (kndB σ t) c)) (nI c) (enc A I) = some (some (.int (nI (bits (kndB σ t) (σ 0 0)))), enc A I) := by
  have hn := r.n7
  intro m
  induction m with
  | zero =>
    intro c n hc hm
    obtain ⟨n, rfl⟩ : ∃ k, n = k + 1 := ⟨n - 1, by omega⟩
    simp only [F_X0_ofKind, io_1, gr_1_0, gr_1_1, gr_1_2, gr_1_3, gr_1_4, gr_1_5, gi_1_6, pf_1_6, gi_1_7, pf_1_7, io_2, gr_2_0, gr_2_1, gr_2_2, gr_2_3, gr_2_4, gr_2_5, gr_2_6, gr_2_7, gi_2_8, pf_2_8, gi_2_9, pf_2_9, gi_2_10, pf_2_10, gi_2_11, pf_2_11, gi_2_12, pf_2_12, gi_2_13, pf_2_13, gi_2_14, pf_2_14, io_11, gr_11_0, gr_11_1, gr_11_2, io_15, gr_15_0, gr_15_1, gi_15_2, pf_15_2, gi_15_3, pf_15_3, gi_15_4, pf_15_4, gi_15_5, pf_15_5, io_18, gr_18_0, gr_18_1, gi_18_2, pf_18_2, io_21, gr_21_0, gr_21_1, gr_21_2, gr_21_3, gi_21_4, pf_21_4, gi_21_5, pf_21_5, gi_21_6, pf_21_6, gi_21_7, pf_21_7, io_34, gr_34_0, gi_34_1, pf_34_1, al_3, al_4, al_5, al_6, al_7, al_8, al_9, al_10, al_12, al_13, al_14, al_16, al_17, al_19, al_20, al_22, al_23, al_24, al_26, al_27, al_28, al_29, al_30, al_31, al_32, al_33, al_35, ↓reduceIte, Option.bind_some, cI_some, cL_some, cV_some, rz_0, rz_1, r.i2_8, n_lt (show c < 2147483648 by omega) (show σ 0 0 < 2147483648 by omega)]
    rw [if_neg (by omega), show c = σ 0 0 by omega]
  | succ m ih =>
    intro c n hcm hm
    obtain ⟨n, rfl⟩ : ∃ k, n = k + 1 := ⟨n - 1, by omega⟩
    have hc : c < σ 0 0 := by omega
    have h6 := r.row_lt hc
    have e := ih (c + 1) n (by omega) (by omega)
    rw [← bits_step (kndB σ t) (show c < 31 by omega)] at e
    simp only [F_X0_ofKind, io_1, gr_1_0, gr_1_1, gr_1_2, gr_1_3, gr_1_4, gr_1_5, gi_1_6, pf_1_6, gi_1_7, pf_1_7, io_2, gr_2_0, gr_2_1, gr_2_2, gr_2_3, gr_2_4, gr_2_5, gr_2_6, gr_2_7, gi_2_8, pf_2_8, gi_2_9, pf_2_9, gi_2_10, pf_2_10, gi_2_11, pf_2_11, gi_2_12, pf_2_12, gi_2_13, pf_2_13, gi_2_14, pf_2_14, io_11, gr_11_0, gr_11_1, gr_11_2, io_15, gr_15_0, gr_15_1, gi_15_2, pf_15_2, gi_15_3, pf_15_3, gi_15_4, pf_15_4, gi_15_5, pf_15_5, io_18, gr_18_0, gr_18_1, gi_18_2, pf_18_2, io_21, gr_21_0, gr_21_1, gr_21_2, gr_21_3, gi_21_4, pf_21_4, gi_21_5, pf_21_5, gi_21_6, pf_21_6, gi_21_7, pf_21_7, io_34, gr_34_0, gi_34_1, pf_34_1, al_3, al_4, al_5, al_6, al_7, al_8, al_9, al_10, al_12, al_13, al_14, al_16, al_17, al_19, al_20, al_22, al_23, al_24, al_26, al_27, al_28, al_29, al_30, al_31, al_32, al_33, al_35, ↓reduceIte, Option.bind_some, cI_some, cL_some, cV_some, rz_0, rz_1, r.i2_8, n_lt (show c < 2147483648 by omega) (show σ 0 0 < 2147483648 by omega), r.a5 hc, ro_9 (show σ 7 c < 2147483648 by omega), nI_1]
    rw [if_pos hc]
    cases hk : σ 7 c with
    | zero =>
      rw [if_pos rfl]
      rw [if_neg (by simp [kndB, hk])] at e
      exact e
    | succ s =>
      have hs := (r.row hc hk).1
      have t1 := (r.sto hs).1
      rw [if_neg (by omega), ro_s, r.a6 hs]
      simp only [Option.bind_some, n_lt (show σ 3 s < 2147483648 by omega) (show t < 2147483648 by omega)]
      have e1 : kndB σ t c = true ↔ t ≤ σ 3 s := by
        unfold kndB
        rw [decide_eq_true_iff, hk]
        simp only [Nat.add_sub_cancel]
        omega
      by_cases q : t ≤ σ 3 s
      · rw [if_neg (by omega)]
        rw [if_pos (e1.mpr q)] at e
        exact e
      · rw [if_pos (by omega)]
        rw [if_neg (fun z => q (e1.mp z))] at e
        exact e
theorem c_ofKind (hf : 1000 ≤ fu) (r : RR σ A I) {t : Nat} (ht : t ≤ 2) : U_X0_ofKind fu [.ref 2, .int (nI t)] (enc A I) = some (some (.int (nI (bits (kndB σ t) (σ 0 0)))), enc A I) := by
  have hn := r.n7
  simp only [u_X0_ofKind, M_X0_ofKind, io_1, gr_1_0, gr_1_1, gr_1_2, gr_1_3, gr_1_4, gr_1_5, gi_1_6, pf_1_6, gi_1_7, pf_1_7, io_2, gr_2_0, gr_2_1, gr_2_2, gr_2_3, gr_2_4, gr_2_5, gr_2_6, gr_2_7, gi_2_8, pf_2_8, gi_2_9, pf_2_9, gi_2_10, pf_2_10, gi_2_11, pf_2_11, gi_2_12, pf_2_12, gi_2_13, pf_2_13, gi_2_14, pf_2_14, io_11, gr_11_0, gr_11_1, gr_11_2, io_15, gr_15_0, gr_15_1, gi_15_2, pf_15_2, gi_15_3, pf_15_3, gi_15_4, pf_15_4, gi_15_5, pf_15_5, io_18, gr_18_0, gr_18_1, gi_18_2, pf_18_2, io_21, gr_21_0, gr_21_1, gr_21_2, gr_21_3, gi_21_4, pf_21_4, gi_21_5, pf_21_5, gi_21_6, pf_21_6, gi_21_7, pf_21_7, io_34, gr_34_0, gi_34_1, pf_34_1, al_3, al_4, al_5, al_6, al_7, al_8, al_9, al_10, al_12, al_13, al_14, al_16, al_17, al_19, al_20, al_22, al_23, al_24, al_26, al_27, al_28, al_29, al_30, al_31, al_32, al_33, al_35, ↓reduceIte, Option.bind_some, cI_some, cL_some, cV_some, rz_0, rz_1]
  exact c_ofKind_loop r ht (σ 0 0) 0 fu (by omega) (by omega)
theorem c_filled (hf : 1000 ≤ fu) (r : RR σ A I) : U_X0_filled fu [.ref 2] (enc A I) = some (some (.int (nI (bits (fun c => σ 7 c != 0) (σ 0 0)))), enc A I) := by
  have h := c_ofKind hf r (t := 0) (by omega)
  have e : bits (kndB σ 0) (σ 0 0) = bits (fun c => σ 7 c != 0) (σ 0 0) := bits_congr _ fun i _ => by
    unfold kndB
    by_cases q : σ 7 i = 0 <;> simp [q]
  rw [e] at h
  simp only [u_X0_filled, M_X0_filled, io_1, gr_1_0, gr_1_1, gr_1_2, gr_1_3, gr_1_4, gr_1_5, gi_1_6, pf_1_6, gi_1_7, pf_1_7, io_2, gr_2_0, gr_2_1, gr_2_2, gr_2_3, gr_2_4, gr_2_5, gr_2_6, gr_2_7, gi_2_8, pf_2_8, gi_2_9, pf_2_9, gi_2_10, pf_2_10, gi_2_11, pf_2_11, gi_2_12, pf_2_12, gi_2_13, pf_2_13, gi_2_14, pf_2_14, io_11, gr_11_0, gr_11_1, gr_11_2, io_15, gr_15_0, gr_15_1, gi_15_2, pf_15_2, gi_15_3, pf_15_3, gi_15_4, pf_15_4, gi_15_5, pf_15_5, io_18, gr_18_0, gr_18_1, gi_18_2, pf_18_2, io_21, gr_21_0, gr_21_1, gr_21_2, gr_21_3, gi_21_4, pf_21_4, gi_21_5, pf_21_5, gi_21_6, pf_21_6, gi_21_7, pf_21_7, io_34, gr_34_0, gi_34_1, pf_34_1, al_3, al_4, al_5, al_6, al_7, al_8, al_9, al_10, al_12, al_13, al_14, al_16, al_17, al_19, al_20, al_22, al_23, al_24, al_26, al_27, al_28, al_29, al_30, al_31, al_32, al_33, al_35, ↓reduceIte, Option.bind_some, cI_some, cL_some, cV_some, rz_0, rz_1]
  rw [show (0 : Int32) = nI 0 from rfl, h]
  rfl
theorem c_farthest_loop (hf : 1000 ≤ fu) {a t N d : Nat} (ha : a < 128) (ht : t < 128) (hN : N ≤ 7) (hd : d ≤ 9) (w : XW) : ∀ m c G n, c + m = N → 2 * m < n → G ≤ c + 10 →
    (F_X7_farthest fu n).1 (nI a) (nI t) (nI N) (nI d) (nI G - 1) (nI c) w = some (some (.int (nI (gr (fun p => a.testBit (p - 1)) (fun p => if t.testBit (p - 1) = true then 1 else 0) d m c G) - 1)), w) := by
  intro m
  induction m with
  | zero =>
    intro c G n hc hm hG
    obtain ⟨n, rfl⟩ : ∃ k, n = k + 1 := ⟨n - 1, by omega⟩
    simp only [F_X7_farthest, n_lt (show c < 2147483648 by omega) (show N < 2147483648 by omega), gr]
    rw [if_neg (by omega)]
  | succ m ih =>
    intro c G n hcm hm hG
    obtain ⟨n, rfl⟩ : ∃ k, n = k + 2 := ⟨n - 2, by omega⟩
    have hc : c < N := by omega
    have hst : ∀ x, x ≤ 1 → (F_X7_farthest fu (n + 1)).2 (nI a) (nI t) (nI N) (nI d) (nI G - 1) (nI c) (nI x) w = if G + x < c + 1 then some (some (.int (nI G - 1)), w) else (F_X7_farthest fu n).1 (nI a) (nI t) (nI N) (nI d) (nI (c + 1 + x + d) - 1) (nI (c + 1)) w := by
      intro x hx
      simp only [F_X7_farthest]
      have e1 : nI c + nI x + nI d = nI (c + 1 + x + d) - 1 := by
        rw [show c + 1 + x + d = c + x + d + 1 by omega, n_sub1, nI_add, nI_add]
      rw [e1, nI_1]
      have z := far_lt G (by omega) c (by omega) x (by omega)
      by_cases q : G + x < c + 1
      · rw [if_pos (z.mpr q), if_pos q]
      · rw [if_neg (fun y => q (z.mp y)), if_neg q]
    show (F_X7_farthest fu (n + 1 + 1)).1 (nI a) (nI t) (nI N) (nI d) (nI G - 1) (nI c) w = _
    rw [F_X7_farthest]
    simp only [n_lt (show c < 2147483648 by omega) (show N < 2147483648 by omega), c_hasn w (show a < 2147483648 by omega) (show c < 31 by omega), c_hasn w (show t < 2147483648 by omega) (show c < 31 by omega), io_1, gr_1_0, gr_1_1, gr_1_2, gr_1_3, gr_1_4, gr_1_5, gi_1_6, pf_1_6, gi_1_7, pf_1_7, io_2, gr_2_0, gr_2_1, gr_2_2, gr_2_3, gr_2_4, gr_2_5, gr_2_6, gr_2_7, gi_2_8, pf_2_8, gi_2_9, pf_2_9, gi_2_10, pf_2_10, gi_2_11, pf_2_11, gi_2_12, pf_2_12, gi_2_13, pf_2_13, gi_2_14, pf_2_14, io_11, gr_11_0, gr_11_1, gr_11_2, io_15, gr_15_0, gr_15_1, gi_15_2, pf_15_2, gi_15_3, pf_15_3, gi_15_4, pf_15_4, gi_15_5, pf_15_5, io_18, gr_18_0, gr_18_1, gi_18_2, pf_18_2, io_21, gr_21_0, gr_21_1, gr_21_2, gr_21_3, gi_21_4, pf_21_4, gi_21_5, pf_21_5, gi_21_6, pf_21_6, gi_21_7, pf_21_7, io_34, gr_34_0, gi_34_1, pf_34_1, al_3, al_4, al_5, al_6, al_7, al_8, al_9, al_10, al_12, al_13, al_14, al_16, al_17, al_19, al_20, al_22, al_23, al_24, al_26, al_27, al_28, al_29, al_30, al_31, al_32, al_33, al_35, ↓reduceIte, Option.bind_some, cI_some, cL_some, cV_some, rz_0, rz_1, bI_0, gr, Nat.add_sub_cancel]
    rw [if_pos hc]
    by_cases h : a.testBit c = true
    · rw [if_neg (fun q => q h), if_pos h]
      by_cases h2 : t.testBit c = true
      · rw [if_neg (fun q => q h2), if_pos h2]
        refine (hst 1 (by omega)).trans ?_
        by_cases q : G + 1 < c + 1
        · rw [if_pos q, if_pos q]
        · rw [if_neg q, if_neg q]
          exact ih (c + 1) _ n (by omega) (by omega) (by omega)
      · rw [if_pos h2, if_neg h2]
        refine (hst 0 (by omega)).trans ?_
        by_cases q : G + 0 < c + 1
        · rw [if_pos q, if_pos q]
        · rw [if_neg q, if_neg q]
          exact ih (c + 1) _ n (by omega) (by omega) (by omega)
    · rw [if_pos h, if_neg h, nI_1]
      rw [show n + 1 = n + 1 from rfl]
      exact ih (c + 1) G (n + 1) (by omega) (by omega) (by omega)
/-- what of the row stands, when only a set of cells counts -/
def Lst (σ : SG) (st : Nat → Bool) (c : Nat) : Nat := if st c = true then σ 7 c else 0
/-- one comes across -/
abbrev X (σ : SG) (L : Nat → Nat) (v d : Nat) : Prop := σ 0 0 + 1 ≤ grN (σ 0 0) (Sd σ L v) (ez σ L) d
theorem and_test (p q : Nat → Bool) (n c : Nat) : (bits p n &&& bits q n).testBit c = (decide (c < n) && (p c && q c)) := by
  rw [Nat.testBit_and, bits_test, bits_test]
  by_cases h : c < n <;> simp [h]
theorem gr_row {σ : SG} {st : Nat → Bool} {v d m c : Nat} (h3 : ∀ i, i < σ 0 0 → σ 7 i ≠ 0 → σ 3 (σ 7 i - 1) ≤ 2) (h : m + c = σ 0 0) (G : Nat) : gr (fun p => (bits (dryB σ v) (σ 0 0) &&& bits st (σ 0 0)).testBit (p - 1)) (fun p => if (bits (kndB σ 2) (σ 0 0)).testBit (p - 1) = true then 1 else 0) d m c G = gr (Sd σ (Lst σ st) v) (ez σ (Lst σ st)) d m c G := by
  refine gr_congr m c G fun i hi => ?_
  simp only [Nat.add_sub_cancel, and_test, bits_test, show c + i < σ 0 0 by omega, decide_true, Bool.true_and]
  have e1 : Sd σ (Lst σ st) v (c + i + 1) = (dryB σ v (c + i) && st (c + i)) := by
    unfold Sd dryB Lst
    simp only [Nat.add_sub_cancel]
    by_cases q : st (c + i) = true
    · simp only [q, ↓reduceIte, Bool.and_true]
      refine decide_eq_decide.mpr ?_
      omega
    · simp only [q, Bool.and_false]
      exact decide_eq_false (by simp; omega)
  refine ⟨e1.symm, fun hs => ?_⟩
  rw [Bool.and_eq_true] at hs
  have hd := of_decide_eq_true hs.1
  have hl : Lst σ st (c + i) = σ 7 (c + i) := if_pos hs.2
  unfold ez kndB
  simp only [Nat.add_sub_cancel, hl]
  rw [if_neg (show ¬ (c + i + 1 = 0 ∨ c + i + 1 = σ 0 0 + 1) by omega)]
  have h2 := h3 (c + i) (by omega) hd.1
  by_cases q : σ 3 (σ 7 (c + i) - 1) = 2
  · rw [if_pos (decide_eq_true ⟨hd.1, by omega⟩), if_pos ⟨hd.1, q⟩]
  · rw [if_neg (fun z => q (by have := (of_decide_eq_true z).2; omega)), if_neg (fun z => q z.2)]
theorem RR.k2 (r : RR σ A I) : ∀ i, i < σ 0 0 → σ 7 i ≠ 0 → σ 3 (σ 7 i - 1) ≤ 2 := by
  intro i hi h
  obtain ⟨s, hs⟩ : ∃ s, σ 7 i = s + 1 := ⟨σ 7 i - 1, by omega⟩
  rw [hs, Nat.add_sub_cancel]
  exact (r.sto (r.row hi hs).1).1
theorem grN_le (σ : SG) (L : Nat → Nat) (v : Nat) {d : Nat} (hd : d ≤ 9) (hn : σ 0 0 ≤ 7) : grN (σ 0 0) (Sd σ L v) (ez σ L) d < 18 := by
  obtain ⟨⟨p, hp, _, hg⟩, _⟩ := grN_spec (d := d) (rw_of σ L v)
  have := ez1 σ L p
  omega
theorem c_far (hf : 1000 ≤ fu) (r : RR σ A I) {v d : Nat} (hd : d ≤ 9) (st : Nat → Bool) (w : XW) : U_X7_farthest fu [.int (nI (bits (dryB σ v) (σ 0 0) &&& bits st (σ 0 0))), .int (nI (bits (kndB σ 2) (σ 0 0))), .int (nI (σ 0 0)), .int (nI d)] w = some (some (.int (nI (grN (σ 0 0) (Sd σ (Lst σ st) v) (ez σ (Lst σ st)) d) - 1)), w) := by
  have hn := r.n7
  have e := c_farthest_loop (fu := fu) hf (a := bits (dryB σ v) (σ 0 0) &&& bits st (σ 0 0)) (t := bits (kndB σ 2) (σ 0 0)) (N := σ 0 0) (d := d) (Nat.lt_of_le_of_lt Nat.and_le_left (bits_ge hn)) (bits_ge hn) hn hd w (σ 0 0) 0 d fu (by omega) (by omega) (by omega)
  rw [gr_row r.k2 (by omega)] at e
  simp only [u_X7_farthest, M_X7_farthest]
  exact e
theorem c_isCrossed (hf : 1000 ≤ fu) (r : RR σ A I) {v d : Nat} (hv : v ≤ 9) (hd : d ≤ 9) (st : Nat → Bool) : U_X0_isCrossed fu [.ref 2, .int (nI (bits st (σ 0 0))), .int (nI v), .int (nI d)] (enc A I) = some (some (.int (bI (X σ (Lst σ st) v d))), enc A I) := by
  have hn := r.n7
  have hg := grN_le σ (Lst σ st) v hd hn
  simp only [u_X0_isCrossed, M_X0_isCrossed, io_1, gr_1_0, gr_1_1, gr_1_2, gr_1_3, gr_1_4, gr_1_5, gi_1_6, pf_1_6, gi_1_7, pf_1_7, io_2, gr_2_0, gr_2_1, gr_2_2, gr_2_3, gr_2_4, gr_2_5, gr_2_6, gr_2_7, gi_2_8, pf_2_8, gi_2_9, pf_2_9, gi_2_10, pf_2_10, gi_2_11, pf_2_11, gi_2_12, pf_2_12, gi_2_13, pf_2_13, gi_2_14, pf_2_14, io_11, gr_11_0, gr_11_1, gr_11_2, io_15, gr_15_0, gr_15_1, gi_15_2, pf_15_2, gi_15_3, pf_15_3, gi_15_4, pf_15_4, gi_15_5, pf_15_5, io_18, gr_18_0, gr_18_1, gi_18_2, pf_18_2, io_21, gr_21_0, gr_21_1, gr_21_2, gr_21_3, gi_21_4, pf_21_4, gi_21_5, pf_21_5, gi_21_6, pf_21_6, gi_21_7, pf_21_7, io_34, gr_34_0, gi_34_1, pf_34_1, al_3, al_4, al_5, al_6, al_7, al_8, al_9, al_10, al_12, al_13, al_14, al_16, al_17, al_19, al_20, al_22, al_23, al_24, al_26, al_27, al_28, al_29, al_30, al_31, al_32, al_33, al_35, ↓reduceIte, Option.bind_some, cI_some, cL_some, cV_some, rz_0, rz_1, c_dry hf r hv]
  rw [show (2 : Int32) = nI 2 from rfl, c_ofKind hf r (by omega)]
  simp only [io_1, gr_1_0, gr_1_1, gr_1_2, gr_1_3, gr_1_4, gr_1_5, gi_1_6, pf_1_6, gi_1_7, pf_1_7, io_2, gr_2_0, gr_2_1, gr_2_2, gr_2_3, gr_2_4, gr_2_5, gr_2_6, gr_2_7, gi_2_8, pf_2_8, gi_2_9, pf_2_9, gi_2_10, pf_2_10, gi_2_11, pf_2_11, gi_2_12, pf_2_12, gi_2_13, pf_2_13, gi_2_14, pf_2_14, io_11, gr_11_0, gr_11_1, gr_11_2, io_15, gr_15_0, gr_15_1, gi_15_2, pf_15_2, gi_15_3, pf_15_3, gi_15_4, pf_15_4, gi_15_5, pf_15_5, io_18, gr_18_0, gr_18_1, gi_18_2, pf_18_2, io_21, gr_21_0, gr_21_1, gr_21_2, gr_21_3, gi_21_4, pf_21_4, gi_21_5, pf_21_5, gi_21_6, pf_21_6, gi_21_7, pf_21_7, io_34, gr_34_0, gi_34_1, pf_34_1, al_3, al_4, al_5, al_6, al_7, al_8, al_9, al_10, al_12, al_13, al_14, al_16, al_17, al_19, al_20, al_22, al_23, al_24, al_26, al_27, al_28, al_29, al_30, al_31, al_32, al_33, al_35, ↓reduceIte, Option.bind_some, cI_some, cL_some, cV_some, rz_0, rz_1, r.i2_8, n_and, c_far hf r hd]
  have z := far_cmp (grN (σ 0 0) (Sd σ (Lst σ st) v) (ez σ (Lst σ st)) d) (by omega) (σ 0 0) (by omega)
  by_cases q : X σ (Lst σ st) v d
  · rw [if_neg (fun y => by have := z.mp y; unfold X at q; omega), bI_t q]
  · rw [if_pos (z.mpr (by unfold X at q; omega)), bI_f q]
theorem Lst_all (σ : SG) : Lst σ (fun c => σ 7 c != 0) = σ 7 := by
  funext c
  unfold Lst
  by_cases q : σ 7 c = 0 <;> simp [q]
theorem c_cross (hf : 1000 ≤ fu) (r : RR σ A I) {v d : Nat} (hv : v ≤ 9) (hd : d ≤ 9) : U_X0_isCrossed fu [.ref 2, .int (nI (bits (fun c => σ 7 c != 0) (σ 0 0))), .int (nI v), .int (nI d)] (enc A I) = some (some (.int (bI (X σ (σ 7) v d))), enc A I) := by
  rw [c_isCrossed hf r hv hd, Lst_all]
/-! the model -/
theorem X_rea (σ : SG) (L : Nat → Nat) (v d : Nat) : X σ L v d ↔ rea (σ 0 0) (Sd σ L v) (ez σ L) d (σ 0 0 + 1) := grN_cross (rw_of σ L v)
end CR
end
section
section O6
variable {σ : SG} {A : Nat → List Int32} {I : Nat → Nat → Int32} {fu : Nat}
theorem c_reachOf (r : RR σ A I) {x g : Nat} (hx : x < σ 0 4) (hg : g ≤ 1) : U_X0_reachOf fu [.ref 2, .int (nI x), .int (nI g)] (enc A I) = some (some (.int (nI (σ 10 x - g))), enc A I) := by
  have hw := r.wal hx
  simp only [u_X0_reachOf, M_X0_reachOf, io_1, gr_1_0, gr_1_1, gr_1_2, gr_1_3, gr_1_4, gr_1_5, gi_1_6, pf_1_6, gi_1_7, pf_1_7, io_2, gr_2_0, gr_2_1, gr_2_2, gr_2_3, gr_2_4, gr_2_5, gr_2_6, gr_2_7, gi_2_8, pf_2_8, gi_2_9, pf_2_9, gi_2_10, pf_2_10, gi_2_11, pf_2_11, gi_2_12, pf_2_12, gi_2_13, pf_2_13, gi_2_14, pf_2_14, io_11, gr_11_0, gr_11_1, gr_11_2, io_15, gr_15_0, gr_15_1, gi_15_2, pf_15_2, gi_15_3, pf_15_3, gi_15_4, pf_15_4, gi_15_5, pf_15_5, io_18, gr_18_0, gr_18_1, gi_18_2, pf_18_2, io_21, gr_21_0, gr_21_1, gr_21_2, gr_21_3, gi_21_4, pf_21_4, gi_21_5, pf_21_5, gi_21_6, pf_21_6, gi_21_7, pf_21_7, io_34, gr_34_0, gi_34_1, pf_34_1, al_3, al_4, al_5, al_6, al_7, al_8, al_9, al_10, al_12, al_13, al_14, al_16, al_17, al_19, al_20, al_22, al_23, al_24, al_26, al_27, al_28, al_29, al_30, al_31, al_32, al_33, al_35, ↓reduceIte, Option.bind_some, cI_some, cL_some, cV_some, rz_0, rz_1, nI_pe0 (show g < 2147483648 by omega), r.a10 hx]
  by_cases h : g = 0
  · rw [if_pos h, h]; rfl
  · rw [if_neg h, show g = 1 by omega]
    obtain ⟨y, hy⟩ : ∃ y, σ 10 x = y + 1 := ⟨σ 10 x - 1, by omega⟩
    rw [hy, n_sub1]
    rfl
/-- the highest water, of those below one, by which a thing holds -/
def topv (P : Nat → Bool) : Nat → Int32
  | 0 => -9
  | j + 1 => if P j = true then nI j else topv P j
theorem c_highest (hf : 1000 ≤ fu) (r : RR σ A I) {x g : Nat} (hx : x < σ 0 4) (hg : g ≤ 1) : ∀ j n, j ≤ 10 → j < n → F_X7_highest fu n 1 (nI x) (nI g) (nI j - 1) (enc A I) = some (some (.int (topv (fun v => decide (X σ (σ 7) v (σ 10 x - g))) j)), enc A I) := by
  have hw := r.wal hx
  intro j
  induction j with
  | zero =>
    intro n _ hn
    obtain ⟨n, rfl⟩ : ∃ k, n = k + 1 := ⟨n - 1, by omega⟩
    simp only [F_X7_highest]
    rw [if_pos (by decide)]
    rfl
  | succ j ih =>
    intro n hj hn
    obtain ⟨n, rfl⟩ : ∃ k, n = k + 1 := ⟨n - 1, by omega⟩
    simp only [F_X7_highest, n_sub1, n_neg (show j < 2147483648 by omega), io_1, gr_1_0, gr_1_1, gr_1_2, gr_1_3, gr_1_4, gr_1_5, gi_1_6, pf_1_6, gi_1_7, pf_1_7, io_2, gr_2_0, gr_2_1, gr_2_2, gr_2_3, gr_2_4, gr_2_5, gr_2_6, gr_2_7, gi_2_8, pf_2_8, gi_2_9, pf_2_9, gi_2_10, pf_2_10, gi_2_11, pf_2_11, gi_2_12, pf_2_12, gi_2_13, pf_2_13, gi_2_14, pf_2_14, io_11, gr_11_0, gr_11_1, gr_11_2, io_15, gr_15_0, gr_15_1, gi_15_2, pf_15_2, gi_15_3, pf_15_3, gi_15_4, pf_15_4, gi_15_5, pf_15_5, io_18, gr_18_0, gr_18_1, gi_18_2, pf_18_2, io_21, gr_21_0, gr_21_1, gr_21_2, gr_21_3, gi_21_4, pf_21_4, gi_21_5, pf_21_5, gi_21_6, pf_21_6, gi_21_7, pf_21_7, io_34, gr_34_0, gi_34_1, pf_34_1, al_3, al_4, al_5, al_6, al_7, al_8, al_9, al_10, al_12, al_13, al_14, al_16, al_17, al_19, al_20, al_22, al_23, al_24, al_26, al_27, al_28, al_29, al_30, al_31, al_32, al_33, al_35, ↓reduceIte, Option.bind_some, cI_some, cL_some, cV_some, rz_0, rz_1, c_filled hf r, c_reachOf r hx hg, c_cross hf r (show j ≤ 9 by omega) (show σ 10 x - g ≤ 9 by omega), bI_0, if_false]
    by_cases q : X σ (σ 7) j (σ 10 x - g)
    · rw [if_neg (fun y => y q), topv, if_pos (decide_eq_true q)]
    · rw [if_pos q, topv, if_neg (by rw [decide_eq_true_iff]; exact q)]
      rw [show nI j + (-1) = nI j - 1 from (Int32.sub_eq_add_neg _ _).symm]
      exact ih n (by omega) (by omega)
end O6
end
section
section O7
theorem bits_and (p q : Nat → Bool) (n : Nat) : bits p n &&& bits q n = bits (fun i => p i && q i) n := by
  refine bits_ext (n := n) (Nat.lt_of_le_of_lt Nat.and_le_left (bits_lt p n)) (bits_lt _ n) fun i hi => ?_
  rw [and_test, bits_test]
theorem bits_z {p : Nat → Bool} : ∀ n, (∀ i, i < n → p i = false) → bits p n = 0 := by
  intro n
  induction n with
  | zero => intro _; rfl
  | succ n ih => intro h; rw [bits_S _ _ (h n (by omega))]; exact ih (fun i hi => h i (by omega))
theorem n_or0 (a : Nat) : nI a ||| 0 = nI a := by
  rw [show (0 : Int32) = nI 0 from rfl, n_or, Nat.or_zero]
theorem bits_stepO (p : Nat → Bool) {c : Nat} (hc : c < 31) : (if p c = true then nI (bits p c) ||| (1 : Int32) <<< (nI c &&& 31) else nI (bits p c) ||| 0) = nI (bits p (c + 1)) := by
  rw [n_or0]
  exact bits_step p hc
variable {σ : SG} {A : Nat → List Int32} {I : Nat → Nat → Int32} {fu : Nat}
theorem X_more (σ : SG) (L : Nat → Nat) (v : Nat) {d d2 : Nat} (h : d ≤ d2) (x : X σ L v d) : X σ L v d2 := (X_rea σ L v d2).mpr (((X_rea σ L v d).mp x).more h)
theorem Sd_dry (σ : SG) {v c : Nat} (hc : c < σ 0 0) : Sd σ (σ 7) v (c + 1) = dryB σ v c := by
  unfold Sd dryB
  simp only [Nat.add_sub_cancel]
  refine decide_eq_decide.mpr ?_
  omega
end O7
end
section
/-! ===== how many bits; fits ===== -/
def cnt (p : Nat → Bool) : Nat → Nat
  | 0 => 0
  | n + 1 => cnt p n + (if p n = true then 1 else 0)
theorem cnt_congr {p q : Nat → Bool} : ∀ n, (∀ i, i < n → p i = q i) → cnt p n = cnt q n := by
  intro n
  induction n with
  | zero => intro _; rfl
  | succ n ih => intro h; unfold cnt; rw [ih (fun i hi => h i (by omega)), h n (by omega)]
theorem cnt_le (p : Nat → Bool) : ∀ n, cnt p n ≤ n := by
  intro n
  induction n with
  | zero => exact Nat.le_refl _
  | succ n ih => unfold cnt; split <;> omega
theorem cnt_ext (p : Nat → Bool) (n : Nat) : ∀ m, cnt (fun i => decide (i < n) && p i) (n + m) = cnt p n := by
  intro m
  induction m with
  | zero => exact cnt_congr n fun i hi => by simp [hi]
  | succ m ih =>
    show cnt (fun i => decide (i < n) && p i) (n + m) + (if (decide (n + m < n) && p (n + m)) = true then 1 else 0) = _
    rw [ih]
    have h : ¬ n + m < n := by omega
    simp [h]
def pc (x : Nat) : Nat := cnt (fun i => x.testBit i) 7
theorem pc_bits (p : Nat → Bool) {n : Nat} (h : n ≤ 7) : pc (bits p n) = cnt p n := by
  unfold pc
  have e := cnt_ext p n (7 - n)
  rw [show n + (7 - n) = 7 by omega] at e
  rw [← e]
  exact cnt_congr 7 fun i _ => bits_test p n i
def bcI (a : Int32) : Int32 := match M_J6_bitCount_0f7a4 0 a [] with
  | some (some (.int y), _) => y
  | _ => 0
theorem bc_eq (fu : Nat) (a : Int32) (w : XW) : U_J6_bitCount_0f7a4 fu [.int a] w = some (some (.int (bcI a)), w) := rfl
theorem bc_small : ∀ x, x < 128 → bcI (nI x) = nI (pc x) := by decide +kernel
theorem c_bitCount (fu : Nat) (w : XW) {x : Nat} (h : x < 128) : U_J6_bitCount_0f7a4 fu [.int (nI x)] w = some (some (.int (nI (pc x))), w) := by rw [bc_eq, bc_small x h]
theorem n_all (x : Int32) : ∃ k, k < 4294967296 ∧ x = nI k := by
  refine ⟨x.toBitVec.toNat, x.toBitVec.isLt, ?_⟩
  unfold nI
  rw [← Int32.toBitVec_inj]
  simp
theorem n_z {y : Nat} (hy : y < 4294967296) (h : nI y = 0) : y = 0 := by
  have := congrArg (fun z => z.toBitVec.toNat) h
  unfold nI at this
  simp at this
  omega
theorem n_msk : ∀ n, n < 8 → (-1 : Int32) <<< (nI n &&& 31) = nI (2 ^ 32 - (2 ^ n - 1 + 1)) := by decide +kernel
theorem fits_in (x : Int32) {n : Nat} (hn : n ≤ 7) : (∃ j, j < 2 ^ n ∧ x = nI j ∧ x &&& ((-1 : Int32) <<< (nI n &&& 31)) = 0) ∨ (¬ (0 ≤ x ∧ x < nI (2 ^ n)) ∧ ¬ x &&& ((-1 : Int32) <<< (nI n &&& 31)) = 0) := by
  obtain ⟨k, hk, rfl⟩ := n_all x
  rw [n_msk n (by omega), n_and]
  have hpos : 0 < 2 ^ n := Nat.pos_of_ne_zero (by simp)
  have hp7 : 2 ^ n ≤ 128 := Nat.pow_le_pow_right (n := 2) (by omega) hn
  have tb : ∀ i, (2 ^ 32 - (2 ^ n - 1 + 1)).testBit i = (decide (i < 32) && !decide (i < n)) := fun i => by
    rw [Nat.testBit_two_pow_sub_succ (by omega), Nat.testBit_two_pow_sub_one]
  by_cases h : k < 2 ^ n
  · refine Or.inl ⟨k, h, rfl, ?_⟩
    have : k &&& (2 ^ 32 - (2 ^ n - 1 + 1)) = 0 := by
      apply Nat.eq_of_testBit_eq
      intro i
      rw [Nat.testBit_and, tb, Nat.zero_testBit]
      by_cases q : i < n
      · simp [q]
      · rw [Nat.testBit_lt_two_pow (Nat.lt_of_lt_of_le h (Nat.pow_le_pow_right (by omega) (by omega)))]
        rfl
    rw [this]
    rfl
  · have hz : ¬ nI (k &&& (2 ^ 32 - (2 ^ n - 1 + 1))) = 0 := by
      intro z
      have z0 := n_z (Nat.lt_of_le_of_lt Nat.and_le_left hk) z
      apply h
      apply Nat.lt_pow_two_of_testBit
      intro i hi
      have := congrArg (fun y => y.testBit i) z0
      simp only [Nat.testBit_and, tb, Nat.zero_testBit] at this
      by_cases q : i < 32
      · have q2 : ¬ i < n := by omega
        simpa [q, q2] using this
      · exact Nat.testBit_lt_two_pow (Nat.lt_of_lt_of_le (show k < 2 ^ 32 from hk) (Nat.pow_le_pow_right (n := 2) (by omega) (by omega)))
    refine Or.inr ⟨?_, hz⟩
    rintro ⟨a, b⟩
    rcases n_in (nI k) (n := 2 ^ n) (by omega) with ⟨j, hj, e⟩ | q
    · have := congrArg (fun z => z.toBitVec.toNat) e
      unfold nI at this
      simp at this
      omega
    · exact q ⟨a, b⟩
section O9
variable {σ : SG} {A : Nat → List Int32} {I : Nat → Nat → Int32} {fu : Nat}
end O9
end
section
section P2
theorem cnt_flip {p q : Nat → Bool} {c : Nat} (hp : p c = false) (hq : q c = true) (h : ∀ i, i ≠ c → q i = p i) : ∀ n, c < n → cnt q n = cnt p n + 1 := by
  intro n
  induction n with
  | zero => intro h; omega
  | succ n ih =>
    intro hc
    unfold cnt
    by_cases y : c = n
    · subst y
      rw [cnt_congr c (fun i hi => h i (by omega)), hp, hq]
      rfl
    · rw [ih (by omega), h n (fun z => y z.symm)]
      omega
variable {σ : SG} {A : Nat → List Int32} {I : Nat → Nat → Int32} {fu : Nat}
theorem pl_neg (r : RR σ A I) {s : Nat} (hs : s < σ 0 3) : (pl (σ 8 s) < 0) = (σ 8 s = 0 ∨ σ 8 s = 100) := by
  have hn := r.n7
  rcases r.plc hs with h | h | ⟨c, h1, h2, h3⟩
  · rw [h]; exact propext ⟨fun _ => Or.inl rfl, fun _ => by decide⟩
  · rw [h]; exact propext ⟨fun _ => Or.inr rfl, fun _ => by decide⟩
  · rw [h2, pl, if_neg (by omega), if_neg (by omega), Nat.add_sub_cancel, n_neg (by omega)]
    exact propext ⟨False.elim, fun z => by omega⟩
theorem pl_m5 (r : RR σ A I) {s : Nat} (hs : s < σ 0 3) : (pl (σ 8 s) = -5) = (σ 8 s = 100) := by
  have hn := r.n7
  rcases r.plc hs with h | h | ⟨c, h1, h2, h3⟩
  · rw [h]; exact propext ⟨fun z => absurd z (by decide), fun z => by omega⟩
  · rw [h]; exact propext ⟨fun _ => rfl, fun _ => rfl⟩
  · rw [h2, pl, if_neg (by omega), if_neg (by omega), Nat.add_sub_cancel]
    refine propext ⟨fun z => ?_, fun z => by omega⟩
    have := n_neg (show c < 2147483648 by omega)
    rw [z] at this
    exact absurd (show (-5 : Int32) < 0 by decide) (by rw [this]; exact id)
end P2
end
section
/-! ===== sheets ===== -/
section P5
variable {σ : SG} {A : Nat → List Int32} {I : Nat → Nat → Int32} {fu : Nat}
theorem rd_oob {xs : List Int32} (i : Nat) {j : Nat} (x : Int32) (h : i ≠ j) : rd (xs.set j x) i = rd xs i := by
  unfold rd
  rw [List.getD_eq_getElem?_getD, List.getD_eq_getElem?_getD, List.getElem?_set]
  rw [if_neg (fun q => h q.symm)]
theorem n_sheet (x : Int32) : (∃ q, q < 4 ∧ x = nI q ∧ bI (0 ≤ x ∧ x ≤ 3) = 1) ∨ (¬ (0 ≤ x ∧ x ≤ 3)) := by
  rcases n_rng x (a := 0) (b := 3) (by omega) (by omega) with ⟨q, _, hq, rfl⟩ | h
  · exact Or.inl ⟨q, by omega, rfl, bI_t (n_rin (b := 3) (Nat.zero_le q) hq (by decide))⟩
  · exact Or.inr h
end P5
end
section
section P6
variable {σ : SG} {A : Nat → List Int32} {I : Nat → Nat → Int32} {fu : Nat}
theorem n_upto (x : Int32) {n : Nat} (hn : n < 2147483648) : (∃ j, j < n ∧ x = nI j ∧ 0 ≤ x ∧ x ≤ nI n - 1) ∨ ¬ (0 ≤ x ∧ x ≤ nI n - 1) := by
  cases n with
  | zero =>
    refine Or.inr fun z => ?_
    have := Int32.le_trans z.1 z.2
    exact absurd this (by decide)
  | succ k =>
    rw [n_sub1]
    rcases n_rng x (a := 0) (b := k) (by omega) (by omega) with ⟨j, _, hj, rfl⟩ | h
    · exact Or.inl ⟨j, by omega, rfl, n_rin (Nat.zero_le j) hj (by omega)⟩
    · exact Or.inr h
theorem n_60 (q j : Nat) : nI q * 60 + nI j = nI (60 * q + j) ∧ 60 * nI q + nI j = nI (60 * q + j) := by
  rw [show (60 : Int32) = nI 60 from rfl, pk_mul, pk_mul, nI_add, nI_add, Nat.mul_comm]
  exact ⟨rfl, rfl⟩
/-- what a cell of a sort keeps of a number -/
def cutI (t : Nat) (v : Int32) : Int32 := if t = 0 then Int8.toInt32 (Int32.toInt8 v) else if t = 1 then Int16.toInt32 (Int32.toInt16 v) else v
theorem c_cut (w : XW) {t : Nat} (ht : t ≤ 2) (v : Int32) : U_X4_cut fu [.int v, .int (nI t)] w = some (some (.int (cutI t v)), w) := by
  simp only [u_X4_cut, M_X4_cut, cutI]
  have e0 : (nI t = 0) = (t = 0) := nI_pe0 (by omega)
  have e1 : (nI t = 1) = (t = 1) := n_eq (by omega) (by decide)
  by_cases h0 : t = 0
  · rw [if_pos (by rw [e0]; exact h0), if_pos h0]
  · rw [if_neg (by rw [e0]; exact h0), if_neg h0]
    by_cases h1 : t = 1
    · rw [if_pos (by rw [e1]; exact h1), if_pos h1]
    · rw [if_neg (by rw [e1]; exact h1), if_neg h1]
end P6
end
section
section P7
variable {σ : SG} {A : Nat → List Int32} {I : Nat → Nat → Int32} {fu : Nat}
/-- a stretch of noughts -/
def zed (xs : List Int32) (a : Nat) : Nat → List Int32
  | 0 => xs
  | k + 1 => (zed xs a k).set (a + k) 0
theorem zed_l (xs : List Int32) (a : Nat) : ∀ k, (zed xs a k).length = xs.length := by
  intro k
  induction k with
  | zero => rfl
  | succ k ih => unfold zed; rw [List.length_set]; exact ih
theorem zed_in (xs : List Int32) (a : Nat) : ∀ k, a + k ≤ xs.length → ∀ i, a ≤ i → i < a + k → rd (zed xs a k) i = 0 := by
  intro k
  induction k with
  | zero => intro _ i h1 h2; omega
  | succ k ih =>
    intro hl i h1 h2
    unfold zed
    rw [rd_set _ _ (by rw [zed_l]; omega)]
    by_cases y : i = a + k
    · rw [if_pos y]
    · rw [if_neg y]; exact ih (by omega) i h1 (by omega)
theorem zed_out (xs : List Int32) (a : Nat) : ∀ k, ∀ i, (i < a ∨ a + k ≤ i) → rd (zed xs a k) i = rd xs i := by
  intro k
  induction k with
  | zero => intro i _; rfl
  | succ k ih =>
    intro i h
    unfold zed
    rw [rd_oob i _ (by omega)]
    exact ih i (by omega)
theorem c_fill14 (hf : 1000 ≤ fu) (h14 : (A 14).length = 240) {a m : Nat} (hm : a + m ≤ 240) : U_J7_fill_fda19 fu [.ref 14, .int (nI a), .int (nI (a + m)), .int 0] (enc A I) = some (none, enc (uA A 14 (zed (A 14) a m)) I) := by
  have loop : ∀ d k n, k + d = m → d < n → F_J7_fill_fda19 fu n 14 (nI (a + m)) 0 (nI (a + k)) (enc (uA A 14 (zed (A 14) a k)) I) = some (none, enc (uA A 14 (zed (A 14) a m)) I) := by
    intro d
    induction d with
    | zero =>
      intro k n hk hn
      obtain ⟨n, rfl⟩ : ∃ j, n = j + 1 := ⟨n - 1, by omega⟩
      simp only [F_J7_fill_fda19, n_lt (show a + k < 2147483648 by omega) (show a + m < 2147483648 by omega)]
      rw [if_neg (by omega), show k = m by omega]
    | succ d ih =>
      intro k n hk hn
      obtain ⟨n, rfl⟩ : ∃ j, n = j + 1 := ⟨n - 1, by omega⟩
      have e := si_14 (uA A 14 (zed (A 14) a k)) I 0 (show a + k < _ by rw [uA_s, zed_l]; omega) (show a + k < 2147483648 by omega)
      rw [uA_s, uA_uA] at e
      simp only [F_J7_fill_fda19, n_lt (show a + k < 2147483648 by omega) (show a + m < 2147483648 by omega), nI_1]
      rw [if_pos (by omega), e]
      exact ih (k + 1) n (by omega) (by omega)
  have hal : aL (enc A I) 14 = some (nI 240) := by rw [al_14, h14]; rfl
  simp only [u_J7_fill_fda19, M_J7_fill_fda19, hal, Option.bind_some, u_J7_rangeCheck_23922, M_J7_rangeCheck_23922, n_lt (show a + m < 2147483648 by omega) (show a < 2147483648 by omega), n_neg (show a < 2147483648 by omega), if_false, n_lt (show 240 < 2147483648 by omega) (show a + m < 2147483648 by omega)]
  rw [if_neg (by omega), if_neg (by omega), cV_some]
  have := loop m 0 fu (by omega) (by omega)
  have e0 : uA A 14 (zed (A 14) a 0) = A := uA_self A 14
  rw [e0] at this
  exact this
end P7
end
section
section P8
variable {σ : SG} {A : Nat → List Int32} {I : Nat → Nat → Int32} {fu : Nat}
/-- the fault that one comes to who takes n cells from i on as a row of a sort; 0: none -/
def fvI (o : Option (Nat × Nat)) (y i n : Int32) : Int32 := match o with
  | none => 1
  | some (n0, t0) => if nI t0 = y then (if n < 0 then 4 else if i < 0 then 3 else if nI n0 < i then 3 else if nI n0 - i < n then 3 else 0) else 2
theorem n_sub60 : ∀ a, a < 61 → ∀ b, b < 61 → b ≤ a → nI a - nI b = nI (a - b) := by decide +kernel
end P8
end
section
/-! ===== sheets, the class's half ===== -/
section P9
variable {σ : SG} {A : Nat → List Int32} {I : Nat → Nat → Int32} {fu : Nat}
/-- what is held of a sheet: nothing, or how many cells and of which sort -/
def SHo (A : Nat → List Int32) (q : Nat) : Option (Nat × Nat) → Prop
  | none => rd (A 13) q = -1
  | some (n, t) => n ≤ 60 ∧ t ≤ 2 ∧ rd (A 13) q = nI n ∧ rd (A 12) q = nI t
theorem SHo.rs {A : Nat → List Int32} (h : ∀ q, q < 4 → ∃ o, SHo A q o) : RS A := fun q hq => by
  obtain ⟨o, ho⟩ := h q hq
  cases o with
  | none => exact Or.inl ho
  | some p => exact Or.inr ⟨p.1, p.2, ho⟩
theorem RS.o {A : Nat → List Int32} (h : RS A) {q : Nat} (hq : q < 4) : ∃ o, SHo A q o := by
  rcases h q hq with a | ⟨n, t, a⟩
  · exact ⟨none, a⟩
  · exact ⟨some (n, t), a⟩
theorem RR.rs (r : RR σ A I) : RS A := r.2.2.2
/-- sheets, fault and trace changed -/
theorem RR.she (r : RR σ A I) {B : Nat → List Int32} {J : Nat → Nat → Int32} (hB : ∀ k, k ≠ 12 → k ≠ 13 → k ≠ 14 → B k = A k) (hL : ∀ k, (B k).length = (A k).length)
    (hJ : ∀ o j, ¬ (o = 1 ∧ (j = 6 ∨ j = 7)) → J o j = I o j) (hS : RS B) : RR σ B J := by
  obtain ⟨r1, r2, r3, r5⟩ := r
  have b : ∀ k, 15 ≤ k ∨ k ≤ 11 → B k = A k := fun k hk => hB k (by omega) (by omega) (by omega)
  refine ⟨r1, fun k hk => (hL k).trans (r2 k hk), ?_, hS⟩
  unfold RC at *
  rw [hJ 2 8 (by omega), hJ 2 9 (by omega), hJ 2 10 (by omega), hJ 2 11 (by omega), hJ 2 12 (by omega), hJ 2 13 (by omega), hJ 2 14 (by omega), b 3 (by omega), b 4 (by omega), b 5 (by omega), b 6 (by omega), b 7 (by omega), b 8 (by omega), b 9 (by omega), b 10 (by omega)]
  exact r3
theorem RR.f17 (r : RR σ A I) (x : Int32) : RR σ A (uI I 1 7 x) := by
  refine r.she (fun _ _ _ _ => rfl) (fun _ => rfl) (fun a b h1 => ?_) r.rs
  unfold uI
  rw [if_neg (fun w => h1 ⟨w.1, Or.inr w.2⟩)]
theorem ai_I (A : Nat → List Int32) (I : Nat → Nat → Int32) {q : Nat} (hL : LEN A) (hq : q < 4) : aI (enc A I) 13 (nI q) = some (rd (A 13) q) ∧ aI (enc A I) 12 (nI q) = some (rd (A 12) q) :=
  ⟨ai_13 A I (by rw [hL 13 rfl]; exact hq) (by omega), ai_12 A I (by rw [hL 12 rfl]; exact hq) (by omega)⟩
theorem c_thereS (hL : LEN A) {q : Nat} (hq : q < 4) {o : Option (Nat × Nat)} (h : SHo A q o) : U_X4_isThere fu [.ref 11, .int (nI q)] (enc A I) = some (some (.int (bI (o ≠ none))), enc A I) := by
  have e : aI (enc A I) 13 (nI q) = some (rd (A 13) q) := ai_13 A I (by rw [hL 13 rfl]; show q < 4; omega) (by omega)
  simp only [u_X4_isThere, M_X4_isThere, io_1, gr_1_0, gr_1_1, gr_1_2, gr_1_3, gr_1_4, gr_1_5, gi_1_6, pf_1_6, gi_1_7, pf_1_7, io_2, gr_2_0, gr_2_1, gr_2_2, gr_2_3, gr_2_4, gr_2_5, gr_2_6, gr_2_7, gi_2_8, pf_2_8, gi_2_9, pf_2_9, gi_2_10, pf_2_10, gi_2_11, pf_2_11, gi_2_12, pf_2_12, gi_2_13, pf_2_13, gi_2_14, pf_2_14, io_11, gr_11_0, gr_11_1, gr_11_2, io_15, gr_15_0, gr_15_1, gi_15_2, pf_15_2, gi_15_3, pf_15_3, gi_15_4, pf_15_4, gi_15_5, pf_15_5, io_18, gr_18_0, gr_18_1, gi_18_2, pf_18_2, io_21, gr_21_0, gr_21_1, gr_21_2, gr_21_3, gi_21_4, pf_21_4, gi_21_5, pf_21_5, gi_21_6, pf_21_6, gi_21_7, pf_21_7, io_34, gr_34_0, gi_34_1, pf_34_1, al_3, al_4, al_5, al_6, al_7, al_8, al_9, al_10, al_12, al_13, al_14, al_16, al_17, al_19, al_20, al_22, al_23, al_24, al_26, al_27, al_28, al_29, al_30, al_31, al_32, al_33, al_35, ↓reduceIte, Option.bind_some, cI_some, cL_some, cV_some, rz_0, rz_1, e]
  cases o with
  | none =>
    rw [show rd (A 13) q = -1 from h, if_pos rfl, bI_f (fun z => z rfl)]
  | some p =>
    obtain ⟨n, t⟩ := p
    obtain ⟨a1, a2, a3, a5⟩ := h
    rw [a3, if_neg, bI_t (by simp)]
    intro z
    have := n_neg (show n < 2147483648 by omega)
    rw [z] at this
    exact absurd (show (-1 : Int32) < 0 by decide) (by rw [this]; exact id)
theorem c_fault (hL : LEN A) {q : Nat} (hq : q < 4) {o : Option (Nat × Nat)} (h : SHo A q o) (y i n : Int32) : U_X4_faultOfCells fu [.ref 11, .int (nI q), .int y, .int i, .int n] (enc A I) = some (some (.int (fvI o y i n)), enc A I) := by
  have arr := ai_I A I hL hq
  simp only [u_X4_faultOfCells, M_X4_faultOfCells, io_1, gr_1_0, gr_1_1, gr_1_2, gr_1_3, gr_1_4, gr_1_5, gi_1_6, pf_1_6, gi_1_7, pf_1_7, io_2, gr_2_0, gr_2_1, gr_2_2, gr_2_3, gr_2_4, gr_2_5, gr_2_6, gr_2_7, gi_2_8, pf_2_8, gi_2_9, pf_2_9, gi_2_10, pf_2_10, gi_2_11, pf_2_11, gi_2_12, pf_2_12, gi_2_13, pf_2_13, gi_2_14, pf_2_14, io_11, gr_11_0, gr_11_1, gr_11_2, io_15, gr_15_0, gr_15_1, gi_15_2, pf_15_2, gi_15_3, pf_15_3, gi_15_4, pf_15_4, gi_15_5, pf_15_5, io_18, gr_18_0, gr_18_1, gi_18_2, pf_18_2, io_21, gr_21_0, gr_21_1, gr_21_2, gr_21_3, gi_21_4, pf_21_4, gi_21_5, pf_21_5, gi_21_6, pf_21_6, gi_21_7, pf_21_7, io_34, gr_34_0, gi_34_1, pf_34_1, al_3, al_4, al_5, al_6, al_7, al_8, al_9, al_10, al_12, al_13, al_14, al_16, al_17, al_19, al_20, al_22, al_23, al_24, al_26, al_27, al_28, al_29, al_30, al_31, al_32, al_33, al_35, ↓reduceIte, Option.bind_some, cI_some, cL_some, cV_some, rz_0, rz_1, c_thereS hL hq h, bI_0]
  cases o with
  | none => rw [if_pos (fun z => z rfl)]; rfl
  | some p =>
    obtain ⟨n0, t0⟩ := p
    obtain ⟨a1, a2, a3, a5⟩ := h
    rw [if_neg (fun z => z (by simp)), arr.2, Option.bind_some, a5, fvI]
    by_cases h1 : nI t0 = y
    · rw [if_pos h1, if_pos h1]
      by_cases h2 : n < 0
      · rw [if_pos h2, if_pos h2]
      · rw [if_neg h2, if_neg h2]
        simp only [u_X4_reaches, M_X4_reaches, io_1, gr_1_0, gr_1_1, gr_1_2, gr_1_3, gr_1_4, gr_1_5, gi_1_6, pf_1_6, gi_1_7, pf_1_7, io_2, gr_2_0, gr_2_1, gr_2_2, gr_2_3, gr_2_4, gr_2_5, gr_2_6, gr_2_7, gi_2_8, pf_2_8, gi_2_9, pf_2_9, gi_2_10, pf_2_10, gi_2_11, pf_2_11, gi_2_12, pf_2_12, gi_2_13, pf_2_13, gi_2_14, pf_2_14, io_11, gr_11_0, gr_11_1, gr_11_2, io_15, gr_15_0, gr_15_1, gi_15_2, pf_15_2, gi_15_3, pf_15_3, gi_15_4, pf_15_4, gi_15_5, pf_15_5, io_18, gr_18_0, gr_18_1, gi_18_2, pf_18_2, io_21, gr_21_0, gr_21_1, gr_21_2, gr_21_3, gi_21_4, pf_21_4, gi_21_5, pf_21_5, gi_21_6, pf_21_6, gi_21_7, pf_21_7, io_34, gr_34_0, gi_34_1, pf_34_1, al_3, al_4, al_5, al_6, al_7, al_8, al_9, al_10, al_12, al_13, al_14, al_16, al_17, al_19, al_20, al_22, al_23, al_24, al_26, al_27, al_28, al_29, al_30, al_31, al_32, al_33, al_35, ↓reduceIte, Option.bind_some, cI_some, cL_some, cV_some, rz_0, rz_1, arr.1, a3]
        by_cases h3 : i < 0
        · rw [if_pos h3, if_pos h3]; rfl
        · rw [if_neg h3, if_neg h3]
          by_cases h4 : nI n0 < i
          · rw [if_pos h4, if_pos h4]; rfl
          · rw [if_neg h4, if_neg h4]
            by_cases h5 : nI n0 - i < n
            · rw [if_pos h5, if_pos h5]; rfl
            · rw [if_neg h5, if_neg h5]; rfl
    · rw [if_neg h1, if_neg h1]
theorem c_refuse (hL : LEN A) {q t : Nat} (hq : q < 4) (ht : t ≤ 2) {o : Option (Nat × Nat)} (h : SHo A q o) (i n : Int32) : U_X7_refusalOfCells fu [.ref 1, .int (nI q), .int (nI t), .int i, .int n] (enc A I) = if fvI o (nI t) i n = 0 then some (some (.int 0), enc A I) else some (some (.int (-10 - fvI o (nI t) i n)), enc A (uI I 1 7 (fvI o (nI t) i n))) := by
  have h10 : ¬ (1 : Int32) = 0 := by decide
  have h1 : bI (0 ≤ nI q ∧ nI q ≤ 3) = 1 := bI_t (n_rin (b := 3) (Nat.zero_le q) (by omega) (by decide))
  have h2 : bI (0 ≤ nI t ∧ nI t ≤ 2) = 1 := bI_t (n_rin (b := 2) (Nat.zero_le t) ht (by decide))
  simp only [u_X7_refusalOfCells, M_X7_refusalOfCells, c_isSheet, c_isSort, io_1, gr_1_0, gr_1_1, gr_1_2, gr_1_3, gr_1_4, gr_1_5, gi_1_6, pf_1_6, gi_1_7, pf_1_7, io_2, gr_2_0, gr_2_1, gr_2_2, gr_2_3, gr_2_4, gr_2_5, gr_2_6, gr_2_7, gi_2_8, pf_2_8, gi_2_9, pf_2_9, gi_2_10, pf_2_10, gi_2_11, pf_2_11, gi_2_12, pf_2_12, gi_2_13, pf_2_13, gi_2_14, pf_2_14, io_11, gr_11_0, gr_11_1, gr_11_2, io_15, gr_15_0, gr_15_1, gi_15_2, pf_15_2, gi_15_3, pf_15_3, gi_15_4, pf_15_4, gi_15_5, pf_15_5, io_18, gr_18_0, gr_18_1, gi_18_2, pf_18_2, io_21, gr_21_0, gr_21_1, gr_21_2, gr_21_3, gi_21_4, pf_21_4, gi_21_5, pf_21_5, gi_21_6, pf_21_6, gi_21_7, pf_21_7, io_34, gr_34_0, gi_34_1, pf_34_1, al_3, al_4, al_5, al_6, al_7, al_8, al_9, al_10, al_12, al_13, al_14, al_16, al_17, al_19, al_20, al_22, al_23, al_24, al_26, al_27, al_28, al_29, al_30, al_31, al_32, al_33, al_35, ↓reduceIte, Option.bind_some, cI_some, cL_some, cV_some, rz_0, rz_1, h1, h2, if_neg h10, c_fault hL hq h, c_failBy]
/-- cells that lie within are no fault -/
theorem fvI_in {n0 t0 i n : Nat} (hn0 : n0 ≤ 60) (h : i + n ≤ n0) : fvI (some (n0, t0)) (nI t0) (nI i) (nI n) = 0 := by
  show (if nI t0 = nI t0 then (if nI n < 0 then 4 else if nI i < 0 then 3 else if nI n0 < nI i then 3 else if nI n0 - nI i < nI n then 3 else 0) else (2 : Int32)) = 0
  simp only [if_true, n_neg (show n < 2147483648 by omega), n_neg (show i < 2147483648 by omega), if_false, n_lt (show n0 < 2147483648 by omega) (show i < 2147483648 by omega), n_sub60 n0 (by omega) i (by omega) (by omega), n_lt (show n0 - i < 2147483648 by omega) (show n < 2147483648 by omega)]
  rw [if_neg (by omega), if_neg (by omega)]
theorem k_sheet (hf : 1000 ≤ fu) (r : RR σ A I) {q t n : Nat} (hq : q < 4) (ht2 : t ≤ 2) (hn : n ≤ 60) :
    ∃ A1, U_X7_sheet fu [.ref 1, .int (nI q), .int (nI t), .int (nI n)] (enc A I) = some (some (.int 1), enc A1 (uI I 1 7 0)) ∧ RR σ A1 (uI I 1 7 0) ∧ A1 12 = (A 12).set q (nI t) ∧ A1 13 = (A 13).set q (nI n) ∧ (∀ k, k ≠ 12 → k ≠ 13 → k ≠ 14 → A1 k = A k) ∧ ∀ i, (i < 60 * q ∨ 60 * q + 60 ≤ i) → rd (A1 14) i = rd (A 14) i := by
  have h10 : ¬ (1 : Int32) = 0 := by decide
  have ht : bI (0 ≤ nI q ∧ nI q ≤ 3) = 1 := bI_t (n_rin (b := 3) (Nat.zero_le q) (by omega) (by decide))
  have htt : bI (0 ≤ nI t ∧ nI t ≤ 2) = 1 := bI_t (n_rin (b := 2) (Nat.zero_le t) ht2 (by decide))
  have hbig : ¬ (60 : Int32) < nI n := by
    rw [show (60 : Int32) = nI 60 from rfl, n_lt (by decide) (by omega)]; omega
  have hneg : ¬ nI n < 0 := by rw [n_neg (by omega)]; exact id
  have l12 : q < (A 12).length := by rw [r.len rfl]; exact hq
  have l13 : q < (A 13).length := by rw [r.len rfl]; exact hq
  have l14 : (A 14).length = 240 := r.len rfl
  have s12 := si_12 A (uI I 1 7 0) (nI t) l12 (show q < 2147483648 by omega)
  have s13 := si_13 (uA A 12 ((A 12).set q (nI t))) (uI I 1 7 0) (nI n) (show q < _ by rw [uA_n _ _ _ (by decide)]; exact l13) (show q < 2147483648 by omega)
  rw [uA_n A 12 _ (show (13 : Nat) ≠ 12 by decide)] at s13
  have f14 := c_fill14 (fu := fu) (A := uA (uA A 12 ((A 12).set q (nI t))) 13 ((A 13).set q (nI n))) (I := uI I 1 7 0) hf (by rw [uA_n _ _ _ (by decide), uA_n _ _ _ (by decide)]; exact l14) (show 60 * q + n ≤ 240 by omega)
  rw [uA_n _ 13 _ (show (14 : Nat) ≠ 13 by decide), uA_n _ 12 _ (show (14 : Nat) ≠ 12 by decide)] at f14
  have eq1 : nI q * 60 = nI (60 * q) := by rw [show (60 : Int32) = nI 60 from rfl, pk_mul, Nat.mul_comm]
  have e12 : uA (uA (uA A 12 ((A 12).set q (nI t))) 13 ((A 13).set q (nI n))) 14 (zed (A 14) (60 * q) n) 12 = (A 12).set q (nI t) := by rw [uA_n _ _ _ (by decide), uA_n _ _ _ (by decide), uA_s]
  have e13 : uA (uA (uA A 12 ((A 12).set q (nI t))) 13 ((A 13).set q (nI n))) 14 (zed (A 14) (60 * q) n) 13 = (A 13).set q (nI n) := by rw [uA_n _ _ _ (by decide), uA_s]
  have eo : ∀ k, k ≠ 12 → k ≠ 13 → k ≠ 14 → uA (uA (uA A 12 ((A 12).set q (nI t))) 13 ((A 13).set q (nI n))) 14 (zed (A 14) (60 * q) n) k = A k := fun k a b c => by rw [uA_n _ _ _ c, uA_n _ _ _ b, uA_n _ _ _ a]
  refine ⟨uA (uA (uA A 12 ((A 12).set q (nI t))) 13 ((A 13).set q (nI n))) 14 (zed (A 14) (60 * q) n), ?_, ?_, e12, e13, eo, fun i hi => ?_⟩
  · simp -implicitDefEqProofs only [u_X7_sheet, M_X7_sheet, c_isSheet, c_isSort, io_1, gr_1_0, gr_1_1, gr_1_2, gr_1_3, gr_1_4, gr_1_5, gi_1_6, pf_1_6, gi_1_7, pf_1_7, io_2, gr_2_0, gr_2_1, gr_2_2, gr_2_3, gr_2_4, gr_2_5, gr_2_6, gr_2_7, gi_2_8, pf_2_8, gi_2_9, pf_2_9, gi_2_10, pf_2_10, gi_2_11, pf_2_11, gi_2_12, pf_2_12, gi_2_13, pf_2_13, gi_2_14, pf_2_14, io_11, gr_11_0, gr_11_1, gr_11_2, io_15, gr_15_0, gr_15_1, gi_15_2, pf_15_2, gi_15_3, pf_15_3, gi_15_4, pf_15_4, gi_15_5, pf_15_5, io_18, gr_18_0, gr_18_1, gi_18_2, pf_18_2, io_21, gr_21_0, gr_21_1, gr_21_2, gr_21_3, gi_21_4, pf_21_4, gi_21_5, pf_21_5, gi_21_6, pf_21_6, gi_21_7, pf_21_7, io_34, gr_34_0, gi_34_1, pf_34_1, al_3, al_4, al_5, al_6, al_7, al_8, al_9, al_10, al_12, al_13, al_14, al_16, al_17, al_19, al_20, al_22, al_23, al_24, al_26, al_27, al_28, al_29, al_30, al_31, al_32, al_33, al_35, ↓reduceIte, Option.bind_some, cI_some, cL_some, cV_some, rz_0, rz_1, ht, htt, if_neg h10, if_neg hbig, if_neg hneg, u_X4_renew, M_X4_renew, s12, s13, eq1, nI_add, f14]
  · refine r.she eo (fun k => ?_) (fun a b h1 => ?_) (SHo.rs fun p hp => ?_)
    · by_cases z1 : k = 14
      · rw [z1, uA_s, zed_l]
      · rw [uA_n _ _ _ z1]
        by_cases z2 : k = 13
        · rw [z2, uA_s, List.length_set]
        · rw [uA_n _ _ _ z2]
          by_cases z3 : k = 12
          · rw [z3, uA_s, List.length_set]
          · rw [uA_n _ _ _ z3]
    · unfold uI
      rw [if_neg (fun w => h1 ⟨w.1, Or.inr w.2⟩)]
    · by_cases zp : p = q
      · refine ⟨some (n, t), hn, ht2, ?_, ?_⟩
        · rw [e13, rd_set _ _ l13, if_pos zp]
        · rw [e12, rd_set _ _ l12, if_pos zp]
      · obtain ⟨o2, ho2⟩ := r.rs.o hp
        refine ⟨o2, ?_⟩
        cases o2 with
        | none => show rd _ p = -1; rw [e13, rd_set _ _ l13, if_neg zp]; exact ho2
        | some w =>
          obtain ⟨n2, t2⟩ := w
          obtain ⟨b1, b2, b3, b4⟩ := ho2
          refine ⟨b1, b2, ?_, ?_⟩
          · rw [e13, rd_set _ _ l13, if_neg zp]; exact b3
          · rw [e12, rd_set _ _ l12, if_neg zp]; exact b4
  · rw [uA_s]
    exact zed_out _ _ _ i (by omega)
theorem k_put (r : RR σ A I) {q n t j : Nat} (hq : q < 4) (ho : SHo A q (some (n, t))) (hj : j < n) (z : Int32) :
    U_X7_put fu [.ref 1, .int (nI q), .int (nI j), .int z] (enc A I) = some (some (.int 1), enc (uA A 14 ((A 14).set (60 * q + j) (cutI t z))) (uI I 1 7 0)) ∧ RR σ (uA A 14 ((A 14).set (60 * q + j) (cutI t z))) (uI I 1 7 0) := by
  have h10 : ¬ (1 : Int32) = 0 := by decide
  have ht : bI (0 ≤ nI q ∧ nI q ≤ 3) = 1 := bI_t (n_rin (b := 3) (Nat.zero_le q) (by omega) (by decide))
  have cth := fun J => c_thereS (fu := fu) (I := J) r.2.1 hq ho
  have arr := fun J => ai_I A J r.2.1 hq
  obtain ⟨a1, a2, a3, a5⟩ := ho
  obtain ⟨n', rfl⟩ : ∃ n', n = n' + 1 := ⟨n - 1, by omega⟩
  have w12 := n_rin (j := j) (a := 0) (b := n') (Nat.zero_le j) (by omega) (by omega)
  have hw : bI (0 ≤ nI j ∧ nI j ≤ nI (n' + 1) - 1) = 1 := bI_t (by rw [n_sub1]; exact w12)
  have l14 : 60 * q + j < (A 14).length := by rw [r.len rfl]; show 60 * q + j < 240; omega
  have s14 := si_14 A (uI I 1 7 0) (cutI t z) l14 (show 60 * q + j < 2147483648 by omega)
  refine ⟨?_, ?_⟩
  · simp only [u_X7_put, M_X7_put, c_isSheet, io_1, gr_1_0, gr_1_1, gr_1_2, gr_1_3, gr_1_4, gr_1_5, gi_1_6, pf_1_6, gi_1_7, pf_1_7, io_2, gr_2_0, gr_2_1, gr_2_2, gr_2_3, gr_2_4, gr_2_5, gr_2_6, gr_2_7, gi_2_8, pf_2_8, gi_2_9, pf_2_9, gi_2_10, pf_2_10, gi_2_11, pf_2_11, gi_2_12, pf_2_12, gi_2_13, pf_2_13, gi_2_14, pf_2_14, io_11, gr_11_0, gr_11_1, gr_11_2, io_15, gr_15_0, gr_15_1, gi_15_2, pf_15_2, gi_15_3, pf_15_3, gi_15_4, pf_15_4, gi_15_5, pf_15_5, io_18, gr_18_0, gr_18_1, gi_18_2, pf_18_2, io_21, gr_21_0, gr_21_1, gr_21_2, gr_21_3, gi_21_4, pf_21_4, gi_21_5, pf_21_5, gi_21_6, pf_21_6, gi_21_7, pf_21_7, io_34, gr_34_0, gi_34_1, pf_34_1, al_3, al_4, al_5, al_6, al_7, al_8, al_9, al_10, al_12, al_13, al_14, al_16, al_17, al_19, al_20, al_22, al_23, al_24, al_26, al_27, al_28, al_29, al_30, al_31, al_32, al_33, al_35, ↓reduceIte, Option.bind_some, cI_some, cL_some, cV_some, rz_0, rz_1, ht, if_neg h10, cth, bI_0, ne_eq, reduceCtorEq, not_false_eq_true, not_true_eq_false, if_false, (arr _).1, a3, c_within, hw, u_X4_write, M_X4_write, (arr _).2, a5, c_cut _ a2, (n_60 q j).1, s14]
    rw [if_neg (fun y => y (by rw [n_sub1]; exact w12))]
  · refine r.she (fun k a b c => uA_n _ _ _ c) (fun k => ?_) (fun a b h1 => ?_) (SHo.rs fun p hp => ?_)
    · by_cases z1 : k = 14
      · rw [z1, uA_s, List.length_set]
      · rw [uA_n _ _ _ z1]
    · unfold uI
      rw [if_neg (fun w => h1 ⟨w.1, Or.inr w.2⟩)]
    · obtain ⟨o2, ho2⟩ := r.rs.o hp
      refine ⟨o2, ?_⟩
      cases o2 with
      | none => show rd _ p = -1; rw [uA_n _ _ _ (by decide)]; exact ho2
      | some w =>
        obtain ⟨n2, t2⟩ := w
        obtain ⟨b1, b2, b3, b4⟩ := ho2
        refine ⟨b1, b2, ?_, ?_⟩
        · rw [uA_n _ _ _ (by decide)]; exact b3
        · rw [uA_n _ _ _ (by decide)]; exact b4
end P9
end
section
section Q1
variable {σ : SG} {A : Nat → List Int32} {I : Nat → Nat → Int32} {fu : Nat}
/-- whether all cells of a stretch are within a limit -/
def allW (f : Nat → Int32) (lim : Int32) : Nat → Nat → Bool
  | _, 0 => true
  | k, m + 1 => decide (0 ≤ f k ∧ f k ≤ lim) && allW f lim (k + 1) m
theorem allW_t {f : Nat → Int32} {lim : Int32} : ∀ m k, allW f lim k m = true → ∀ j, k ≤ j → j < k + m → 0 ≤ f j ∧ f j ≤ lim := by
  intro m
  induction m with
  | zero => intro k _ j h1 h2; omega
  | succ m ih =>
    intro k h j h1 h2
    rw [allW, Bool.and_eq_true, decide_eq_true_iff] at h
    by_cases y : j = k
    · rw [y]; exact h.1
    · exact ih (k + 1) h.2 j (by omega) (by omega)
theorem c_at (hL : LEN A) {q j : Nat} (h : 60 * q + j < 240) : U_X4_at fu [.ref 11, .int (nI q), .int (nI j)] (enc A I) = some (some (.int (rd (A 14) (60 * q + j))), enc A I) := by
  simp only [u_X4_at, M_X4_at, io_1, gr_1_0, gr_1_1, gr_1_2, gr_1_3, gr_1_4, gr_1_5, gi_1_6, pf_1_6, gi_1_7, pf_1_7, io_2, gr_2_0, gr_2_1, gr_2_2, gr_2_3, gr_2_4, gr_2_5, gr_2_6, gr_2_7, gi_2_8, pf_2_8, gi_2_9, pf_2_9, gi_2_10, pf_2_10, gi_2_11, pf_2_11, gi_2_12, pf_2_12, gi_2_13, pf_2_13, gi_2_14, pf_2_14, io_11, gr_11_0, gr_11_1, gr_11_2, io_15, gr_15_0, gr_15_1, gi_15_2, pf_15_2, gi_15_3, pf_15_3, gi_15_4, pf_15_4, gi_15_5, pf_15_5, io_18, gr_18_0, gr_18_1, gi_18_2, pf_18_2, io_21, gr_21_0, gr_21_1, gr_21_2, gr_21_3, gi_21_4, pf_21_4, gi_21_5, pf_21_5, gi_21_6, pf_21_6, gi_21_7, pf_21_7, io_34, gr_34_0, gi_34_1, pf_34_1, al_3, al_4, al_5, al_6, al_7, al_8, al_9, al_10, al_12, al_13, al_14, al_16, al_17, al_19, al_20, al_22, al_23, al_24, al_26, al_27, al_28, al_29, al_30, al_31, al_32, al_33, al_35, ↓reduceIte, Option.bind_some, cI_some, cL_some, cV_some, rz_0, rz_1, (n_60 q j).1, ai_14 A I (show 60 * q + j < (A 14).length by rw [hL 14 rfl]; exact h) (show 60 * q + j < 2147483648 by omega)]
theorem c_areW (hf : 1000 ≤ fu) (hL : LEN A) {q i kk : Nat} (h : 60 * q + i + kk ≤ 240) (lim : Int32) : U_X4_areWithin fu [.ref 11, .int (nI q), .int (nI i), .int (nI kk), .int lim] (enc A I) = some (some (.int (bI (allW (fun k => rd (A 14) (60 * q + i + k)) lim 0 kk = true))), enc A I) := by
  have loop : ∀ m k n, k + m = kk → m < n → F_X4_areWithin fu n 11 (nI q) (nI i) (nI kk) lim (nI (i + k)) (enc A I) = some (some (.int (bI (allW (fun k => rd (A 14) (60 * q + i + k)) lim k m = true))), enc A I) := by
    intro m
    induction m with
    | zero =>
      intro k n hk hn
      obtain ⟨n, rfl⟩ : ∃ j, n = j + 1 := ⟨n - 1, by omega⟩
      simp only [F_X4_areWithin, nI_add, n_lt (show i + k < 2147483648 by omega) (show i + kk < 2147483648 by omega)]
      rw [if_neg (by omega), bI_t (show allW (fun k => rd (A 14) (60 * q + i + k)) lim k 0 = true from rfl)]
      exact rz_1 _
    | succ m ih =>
      intro k n hk hn
      obtain ⟨n, rfl⟩ : ∃ j, n = j + 1 := ⟨n - 1, by omega⟩
      simp only [F_X4_areWithin, nI_add, n_lt (show i + k < 2147483648 by omega) (show i + kk < 2147483648 by omega), c_at hL (show 60 * q + (i + k) < 240 by omega), c_within, io_1, gr_1_0, gr_1_1, gr_1_2, gr_1_3, gr_1_4, gr_1_5, gi_1_6, pf_1_6, gi_1_7, pf_1_7, io_2, gr_2_0, gr_2_1, gr_2_2, gr_2_3, gr_2_4, gr_2_5, gr_2_6, gr_2_7, gi_2_8, pf_2_8, gi_2_9, pf_2_9, gi_2_10, pf_2_10, gi_2_11, pf_2_11, gi_2_12, pf_2_12, gi_2_13, pf_2_13, gi_2_14, pf_2_14, io_11, gr_11_0, gr_11_1, gr_11_2, io_15, gr_15_0, gr_15_1, gi_15_2, pf_15_2, gi_15_3, pf_15_3, gi_15_4, pf_15_4, gi_15_5, pf_15_5, io_18, gr_18_0, gr_18_1, gi_18_2, pf_18_2, io_21, gr_21_0, gr_21_1, gr_21_2, gr_21_3, gi_21_4, pf_21_4, gi_21_5, pf_21_5, gi_21_6, pf_21_6, gi_21_7, pf_21_7, io_34, gr_34_0, gi_34_1, pf_34_1, al_3, al_4, al_5, al_6, al_7, al_8, al_9, al_10, al_12, al_13, al_14, al_16, al_17, al_19, al_20, al_22, al_23, al_24, al_26, al_27, al_28, al_29, al_30, al_31, al_32, al_33, al_35, ↓reduceIte, Option.bind_some, cI_some, cL_some, cV_some, rz_0, rz_1, bI_0, nI_1]
      rw [if_pos (by omega), ← Nat.add_assoc]
      by_cases z : 0 ≤ rd (A 14) (60 * q + i + k) ∧ rd (A 14) (60 * q + i + k) ≤ lim
      · rw [if_neg (fun y => y z), allW, decide_eq_true z, Bool.true_and]
        exact ih (k + 1) n (by omega) (by omega)
      · rw [if_pos z, allW, decide_eq_false z, Bool.false_and, bI_f (by decide)]
  simp only [u_X4_areWithin, M_X4_areWithin, io_1, gr_1_0, gr_1_1, gr_1_2, gr_1_3, gr_1_4, gr_1_5, gi_1_6, pf_1_6, gi_1_7, pf_1_7, io_2, gr_2_0, gr_2_1, gr_2_2, gr_2_3, gr_2_4, gr_2_5, gr_2_6, gr_2_7, gi_2_8, pf_2_8, gi_2_9, pf_2_9, gi_2_10, pf_2_10, gi_2_11, pf_2_11, gi_2_12, pf_2_12, gi_2_13, pf_2_13, gi_2_14, pf_2_14, io_11, gr_11_0, gr_11_1, gr_11_2, io_15, gr_15_0, gr_15_1, gi_15_2, pf_15_2, gi_15_3, pf_15_3, gi_15_4, pf_15_4, gi_15_5, pf_15_5, io_18, gr_18_0, gr_18_1, gi_18_2, pf_18_2, io_21, gr_21_0, gr_21_1, gr_21_2, gr_21_3, gi_21_4, pf_21_4, gi_21_5, pf_21_5, gi_21_6, pf_21_6, gi_21_7, pf_21_7, io_34, gr_34_0, gi_34_1, pf_34_1, al_3, al_4, al_5, al_6, al_7, al_8, al_9, al_10, al_12, al_13, al_14, al_16, al_17, al_19, al_20, al_22, al_23, al_24, al_26, al_27, al_28, al_29, al_30, al_31, al_32, al_33, al_35, ↓reduceIte, Option.bind_some, cI_some, cL_some, cV_some, rz_0, rz_1]
  exact loop kk 0 fu (by omega) (by omega)
theorem c_daysL (hf : 1000 ≤ fu) (r : RR σ A I) {x q i kk : Nat} (hx : x < σ 0 4) (h : 60 * q + i + kk ≤ 240) {v : Nat → Nat} (hv : ∀ k, k < kk → rd (A 14) (60 * q + i + k) = nI (v k) ∧ v k ≤ 9) : ∀ m k n, k + m = kk → m < n →
    F_X7_days fu n 1 (nI x) (nI q) (nI i) (nI kk) (nI (cnt (fun k => decide (X σ (σ 7) (v k) (σ 10 x))) k)) (nI k) (enc A I) = some (some (.int (nI (cnt (fun k => decide (X σ (σ 7) (v k) (σ 10 x))) kk))), enc A I) := by
  have hw := r.wal hx
  intro m
  induction m with
  | zero =>
    intro k n hk hn
    obtain ⟨n, rfl⟩ : ∃ j, n = j + 1 := ⟨n - 1, by omega⟩
    simp only [F_X7_days, n_lt (show k < 2147483648 by omega) (show kk < 2147483648 by omega)]
    rw [if_neg (by omega), show k = kk by omega]
  | succ m ih =>
    intro k n hk hn
    obtain ⟨n, rfl⟩ : ∃ j, n = j + 1 := ⟨n - 1, by omega⟩
    have e := ih (k + 1) n (by omega) (by omega)
    rw [cnt] at e
    obtain ⟨h1, h2⟩ := hv k (by omega)
    have rx := c_reachOf (fu := fu) r hx (g := 0) (by omega)
    rw [Nat.sub_zero, show nI 0 = (0 : Int32) from rfl] at rx
    have ca := c_at (fu := fu) (I := I) r.2.1 (show 60 * q + (i + k) < 240 by omega)
    rw [← Nat.add_assoc, h1] at ca
    simp only [F_X7_days, n_lt (show k < 2147483648 by omega) (show kk < 2147483648 by omega), io_1, gr_1_0, gr_1_1, gr_1_2, gr_1_3, gr_1_4, gr_1_5, gi_1_6, pf_1_6, gi_1_7, pf_1_7, io_2, gr_2_0, gr_2_1, gr_2_2, gr_2_3, gr_2_4, gr_2_5, gr_2_6, gr_2_7, gi_2_8, pf_2_8, gi_2_9, pf_2_9, gi_2_10, pf_2_10, gi_2_11, pf_2_11, gi_2_12, pf_2_12, gi_2_13, pf_2_13, gi_2_14, pf_2_14, io_11, gr_11_0, gr_11_1, gr_11_2, io_15, gr_15_0, gr_15_1, gi_15_2, pf_15_2, gi_15_3, pf_15_3, gi_15_4, pf_15_4, gi_15_5, pf_15_5, io_18, gr_18_0, gr_18_1, gi_18_2, pf_18_2, io_21, gr_21_0, gr_21_1, gr_21_2, gr_21_3, gi_21_4, pf_21_4, gi_21_5, pf_21_5, gi_21_6, pf_21_6, gi_21_7, pf_21_7, io_34, gr_34_0, gi_34_1, pf_34_1, al_3, al_4, al_5, al_6, al_7, al_8, al_9, al_10, al_12, al_13, al_14, al_16, al_17, al_19, al_20, al_22, al_23, al_24, al_26, al_27, al_28, al_29, al_30, al_31, al_32, al_33, al_35, ↓reduceIte, Option.bind_some, cI_some, cL_some, cV_some, rz_0, rz_1, nI_add, ca, c_filled hf r, rx, c_cross hf r h2 (show σ 10 x ≤ 9 by omega), bI_0, nI_1]
    rw [if_pos (by omega)]
    by_cases z : X σ (σ 7) (v k) (σ 10 x)
    · rw [if_neg (fun y => y z)]
      rw [if_pos (decide_eq_true z)] at e
      exact e
    · rw [if_pos z]
      rw [if_neg (by rw [decide_eq_true_iff]; exact z)] at e
      exact e
theorem allW_congr {f g : Nat → Int32} {lim : Int32} : ∀ m k, (∀ j, k ≤ j → j < k + m → f j = g j) → allW f lim k m = allW g lim k m := by
  intro m
  induction m with
  | zero => intro k _; rfl
  | succ m ih =>
    intro k h
    rw [allW, allW, h k (Nat.le_refl _) (by omega), ih (k + 1) (fun j h1 h2 => h j (by omega) (by omega))]
end Q1
end
section
/-! ===== texts ===== -/
def dgt (x : Int32) : Prop := 48 ≤ x ∧ x ≤ 57
/-- whether a text of m cells goes on with a code at a place -/
def gon (m p : Nat) (x : Int32) : Bool :=
  if p = 0 then decide (x = 100) else if p = m + 1 then decide (x = 59) else if p = 2 * m + 3 then decide (x = 59) else if p = m + 2 then decide (x = 98) else if p = 2 * m + 4 then decide (x = 112) else decide (48 ≤ x ∧ x ≤ 57)
def tol (v : Nat → Int32) (n : Nat) : Nat → Nat → Nat
  | 0, k => k
  | d + 1, k => if k + 1 < n ∧ (48 ≤ v (1 + k) ∧ v (1 + k) ≤ 57) then tol v n d (k + 1) else k
theorem tol_spec (v : Nat → Int32) (n : Nat) : ∀ d k, k + d = 7 → (∀ j, j < k → j + 1 < n ∧ (48 ≤ v (1 + j) ∧ v (1 + j) ≤ 57)) →
    k ≤ tol v n d k ∧ tol v n d k ≤ 7 ∧ (∀ j, j < tol v n d k → j + 1 < n ∧ (48 ≤ v (1 + j) ∧ v (1 + j) ≤ 57)) ∧ (tol v n d k = 7 ∨ ¬ (tol v n d k + 1 < n ∧ (48 ≤ v (1 + tol v n d k) ∧ v (1 + tol v n d k) ≤ 57))) := by
  intro d
  induction d with
  | zero => intro k hk h; exact ⟨Nat.le_refl _, by rw [tol]; omega, h, Or.inl (by rw [tol]; omega)⟩
  | succ d ih =>
    intro k hk h
    rw [tol]
    by_cases z : k + 1 < n ∧ (48 ≤ v (1 + k) ∧ v (1 + k) ≤ 57)
    · rw [if_pos z]
      obtain ⟨a, b, c⟩ := ih (k + 1) (by omega) (fun j hj => by
        by_cases y : j = k
        · rw [y]; exact z
        · exact h j (by omega))
      exact ⟨by omega, b, c⟩
    · rw [if_neg z]
      exact ⟨Nat.le_refl _, by omega, h, Or.inr z⟩
def mtl (v : Nat → Int32) (n : Nat) : Nat := if tol v n 7 0 < 3 then 3 else tol v n 7 0
theorem mtl_le (v : Nat → Int32) (n : Nat) : 3 ≤ mtl v n ∧ mtl v n ≤ 7 := by
  have := (tol_spec v n 7 0 (by omega) (fun j hj => by omega)).2.1
  unfold mtl
  split <;> omega
def OkT (v : Nat → Int32) (n m p : Nat) : Prop := ∀ k, k < p → k < n ∧ k < 2 * m + 6 ∧ gon m k (v k) = true
def StT (v : Nat → Int32) (n m p : Nat) : Prop := OkT v n m p ∧ (p = n ∨ p = 2 * m + 6 ∨ gon m p (v p) = false)
theorem StT.uniq {v : Nat → Int32} {n m p k : Nat} (h : StT v n m p) (g : StT v n m k) : p = k := by
  have key : ∀ {p k : Nat}, StT v n m p → StT v n m k → ¬ p < k := fun {p k} h g z => by
    obtain ⟨a, b, c⟩ := g.1 p z
    rcases h.2 with e | e | e
    · omega
    · omega
    · rw [c] at e; cases e
  have := key h g
  have := key g h
  omega
theorem OkT.s {v : Nat → Int32} {n m p : Nat} (h : OkT v n m p) (h1 : p < n) (h2 : p < 2 * m + 6) (h3 : gon m p (v p) = true) : OkT v n m (p + 1) := fun k hk => by
  by_cases y : k = p
  · rw [y]; exact ⟨h1, h2, h3⟩
  · exact h k (by omega)
theorem OkT.n {v : Nat → Int32} {n m p : Nat} (h : OkT v n m p) : p ≤ n ∧ p ≤ 2 * m + 6 := by
  cases p with
  | zero => exact ⟨Nat.zero_le _, Nat.zero_le _⟩
  | succ p => have := h p (by omega); omega
theorem gon_0 {m : Nat} {x : Int32} : gon m 0 x = decide (x = 100) := rfl
theorem gon_a {m : Nat} {x : Int32} : gon m (m + 1) x = decide (x = 59) := by unfold gon; rw [if_neg (by omega), if_pos rfl]
theorem gon_b {m : Nat} {x : Int32} (hm : 3 ≤ m) : gon m (m + 2) x = decide (x = 98) := by unfold gon; rw [if_neg (by omega), if_neg (by omega), if_neg (by omega), if_pos rfl]
theorem gon_c {m : Nat} {x : Int32} (hm : 3 ≤ m) : gon m (2 * m + 3) x = decide (x = 59) := by unfold gon; rw [if_neg (by omega), if_neg (by omega), if_pos rfl]
theorem gon_d {m : Nat} {x : Int32} (hm : 3 ≤ m) : gon m (2 * m + 4) x = decide (x = 112) := by unfold gon; rw [if_neg (by omega), if_neg (by omega), if_neg (by omega), if_neg (by omega), if_pos rfl]
theorem gon_g {m p : Nat} {x : Int32} (h0 : p ≠ 0) (h1 : p ≠ m + 1) (h2 : p ≠ m + 2) (h3 : p ≠ 2 * m + 3) (h4 : p ≠ 2 * m + 4) : gon m p x = decide (48 ≤ x ∧ x ≤ 57) := by unfold gon; rw [if_neg h0, if_neg h1, if_neg h3, if_neg h2, if_neg h4]
/-- all that is told, as numbers -/
def dig (x : Int32) : Nat := (x - 48).toNatClampNeg
theorem dig_n {x : Int32} (h : 48 ≤ x ∧ x ≤ 57) : x - 48 = nI (dig x) ∧ dig x ≤ 9 := by
  rcases n_rng x (a := 48) (b := 57) (by omega) (by omega) with ⟨j, h1, h2, rfl⟩ | z
  · have e : nI j - 48 = nI (j - 48) := by rw [show (48 : Int32) = nI 48 from rfl, pk_sub h1]
    unfold dig
    rw [e, nI_clamp (by omega)]
    exact ⟨rfl, by omega⟩
  · exact absurd h z
section Q5
variable {σ : SG} {A : Nat → List Int32} {I : Nat → Nat → Int32} {fu : Nat}
theorem c_isDigit (x : Int32) (w : XW) : U_X5_isDigit fu [.int x] w = some (some (.int (bI (48 ≤ x ∧ x ≤ 57))), w) := by
  simp only [u_X5_isDigit, M_X5_isDigit, c_within, cI_some, rz_b]
theorem n_2m (m k : Nat) : 2 * nI m + nI k = nI (2 * m + k) := by
  rw [show (2 : Int32) = nI 2 from rfl, pk_mul, nI_add]
theorem c_goesOn {m p : Nat} (hm : m ≤ 7) (hp : p ≤ 300) (x : Int32) (w : XW) : U_X5_goesOn fu [.int x, .int (nI p), .int (nI m)] w = some (some (.int (bI (gon m p x = true))), w) := by
  have e3 : 2 * nI m + 3 = nI (2 * m + 3) := n_2m m 3
  have e4 : 2 * nI m + 4 = nI (2 * m + 4) := n_2m m 4
  have e2 : nI m + 2 = nI (m + 2) := nI_add m 2
  simp only [u_X5_goesOn, M_X5_goesOn, nI_pe0 (show p < 2147483648 by omega), nI_1, e2, e3, e4, n_eq (show p < 2147483648 by omega) (show m + 1 < 2147483648 by omega), n_eq (show p < 2147483648 by omega) (show m + 2 < 2147483648 by omega), n_eq (show p < 2147483648 by omega) (show 2 * m + 3 < 2147483648 by omega), n_eq (show p < 2147483648 by omega) (show 2 * m + 4 < 2147483648 by omega), c_isDigit, cI_some, rz_b, rz_0, rz_1]
  have key : ∀ (c : Prop) [Decidable c], (if c then (some (some (.int 1), w) : Option XO) else some (some (.int 0), w)) = some (some (.int (bI (decide c = true))), w) := fun c _ => by
    by_cases z : c
    · rw [if_pos z, bI_t (decide_eq_true z)]
    · rw [if_neg z, bI_f (by rw [decide_eq_true_iff]; exact z)]
  unfold gon
  by_cases h0 : p = 0
  · rw [if_pos h0, if_pos h0]; exact key _
  · rw [if_neg h0, if_neg h0]
    by_cases h1 : p = m + 1
    · rw [if_pos h1, if_pos h1]; exact key _
    · rw [if_neg h1, if_neg h1]
      by_cases h2 : p = 2 * m + 3
      · rw [if_pos h2, if_pos h2]; exact key _
      · rw [if_neg h2, if_neg h2]
        by_cases h3 : p = m + 2
        · rw [if_pos h3, if_pos h3]; exact key _
        · rw [if_neg h3, if_neg h3]
          by_cases h4 : p = 2 * m + 4
          · rw [if_pos h4, if_pos h4]; exact key _
          · rw [if_neg h4, if_neg h4]
            by_cases z : 48 ≤ x ∧ x ≤ 57
            · rw [bI_t z, bI_t (decide_eq_true z)]
            · rw [bI_f z, bI_f (by rw [decide_eq_true_iff]; exact z)]
theorem c_atV (hL : LEN A) {q i p : Nat} {x : Int32} (h : 60 * q + i + p < 240) (hx : rd (A 14) (60 * q + i + p) = x) : U_X4_at fu [.ref 11, .int (nI q), .int (nI (i + p))] (enc A I) = some (some (.int x), enc A I) := by
  have := c_at (fu := fu) (I := I) hL (q := q) (j := i + p) (by omega)
  rw [this, ← hx, Nat.add_assoc]
theorem c_told (hf : 1000 ≤ fu) (hL : LEN A) {q i n : Nat} (hb : 60 * q + i + n ≤ 240) {v : Nat → Int32} (hv : ∀ p, p < n → rd (A 14) (60 * q + i + p) = v p) : U_X5_cellsTold fu [.ref 11, .int (nI q), .int (nI i), .int (nI n)] (enc A I) = some (some (.int (nI (mtl v n))), enc A I) := by
  have mx : ∀ k, k ≤ 7 → oMax [.int (nI k), .int 3] (enc A I) = some (some (.int (nI (if k < 3 then 3 else k))), enc A I) := fun k hk => by
    unfold oMax
    simp only [show (3 : Int32) = nI 3 from rfl, n_lt (show k < 2147483648 by omega) (show 3 < 2147483648 by decide)]
    by_cases z : k < 3
    · rw [if_pos z, if_pos z]
    · rw [if_neg z, if_neg z]
  have loop : ∀ d k N, k + d = 7 → d < N → F_X5_cellsTold fu N 11 (nI q) (nI i) (nI n) (nI k) (enc A I) = some (some (.int (nI (if tol v n d k < 3 then 3 else tol v n d k))), enc A I) := by
    intro d
    induction d with
    | zero =>
      intro k N hk hN
      obtain ⟨N, rfl⟩ : ∃ j, N = j + 1 := ⟨N - 1, by omega⟩
      have e7 : (nI k < 7) = (k < 7) := n_lt (by omega) (by decide)
      simp only [F_X5_cellsTold, e7, mx k (by omega), cI_some, tol]
      rw [if_neg (by omega)]
      rfl
    | succ d ih =>
      intro k N hk hN
      obtain ⟨N, rfl⟩ : ∃ j, N = j + 1 := ⟨N - 1, by omega⟩
      have e7 : (nI k < 7) = (k < 7) := n_lt (by omega) (by decide)
      simp only [F_X5_cellsTold, e7, nI_1, n_lt (show k + 1 < 2147483648 by omega) (show n < 2147483648 by omega)]
      rw [if_pos (by omega), tol]
      by_cases h1 : k + 1 < n
      · have ca := c_atV (fu := fu) (I := I) hL (show 60 * q + i + (1 + k) < 240 by omega) (hv (1 + k) (by omega))
        rw [if_pos h1, show nI (i + 1) + nI k = nI (i + (1 + k)) by rw [nI_add, Nat.add_assoc], ca, cI_some, c_isDigit, cI_some]
        simp only [bI_0]
        by_cases h2 : 48 ≤ v (1 + k) ∧ v (1 + k) ≤ 57
        · have hz : k + 1 < n ∧ (48 ≤ v (1 + k) ∧ v (1 + k) ≤ 57) := ⟨h1, h2⟩
          rw [if_neg (fun z => z h2), if_pos hz]
          exact ih (k + 1) N (by omega) (by omega)
        · have hz : ¬ (k + 1 < n ∧ (48 ≤ v (1 + k) ∧ v (1 + k) ≤ 57)) := fun z => h2 z.2
          rw [if_pos h2, if_neg hz, mx k (by omega)]
          rfl
      · have hz : ¬ (k + 1 < n ∧ (48 ≤ v (1 + k) ∧ v (1 + k) ≤ 57)) := fun z => h1 z.1
        rw [if_neg h1, if_neg hz, mx k (by omega)]
        rfl
  simp only [u_X5_cellsTold, M_X5_cellsTold, io_1, gr_1_0, gr_1_1, gr_1_2, gr_1_3, gr_1_4, gr_1_5, gi_1_6, pf_1_6, gi_1_7, pf_1_7, io_2, gr_2_0, gr_2_1, gr_2_2, gr_2_3, gr_2_4, gr_2_5, gr_2_6, gr_2_7, gi_2_8, pf_2_8, gi_2_9, pf_2_9, gi_2_10, pf_2_10, gi_2_11, pf_2_11, gi_2_12, pf_2_12, gi_2_13, pf_2_13, gi_2_14, pf_2_14, io_11, gr_11_0, gr_11_1, gr_11_2, io_15, gr_15_0, gr_15_1, gi_15_2, pf_15_2, gi_15_3, pf_15_3, gi_15_4, pf_15_4, gi_15_5, pf_15_5, io_18, gr_18_0, gr_18_1, gi_18_2, pf_18_2, io_21, gr_21_0, gr_21_1, gr_21_2, gr_21_3, gi_21_4, pf_21_4, gi_21_5, pf_21_5, gi_21_6, pf_21_6, gi_21_7, pf_21_7, io_34, gr_34_0, gi_34_1, pf_34_1, al_3, al_4, al_5, al_6, al_7, al_8, al_9, al_10, al_12, al_13, al_14, al_16, al_17, al_19, al_20, al_22, al_23, al_24, al_26, al_27, al_28, al_29, al_30, al_31, al_32, al_33, al_35, ↓reduceIte, Option.bind_some, cI_some, cL_some, cV_some, rz_0, rz_1]
  exact loop 7 0 fu (by omega) (by omega)
theorem c_first (hf : 1000 ≤ fu) (hL : LEN A) {q i n : Nat} (hb : 60 * q + i + n ≤ 240) {v : Nat → Int32} (hv : ∀ p, p < n → rd (A 14) (60 * q + i + p) = v p) : ∃ p, StT v n (mtl v n) p ∧ p ≤ 240 ∧ U_X5_firstFault fu [.ref 11, .int (nI q), .int (nI i), .int (nI n)] (enc A I) = some (some (.int (if p = n ∧ p = 2 * mtl v n + 6 then -1 else nI p)), enc A I) := by
  have hm := mtl_le v n
  have mn : ∀ a b, a < 300 → b < 300 → oMin [.int (nI a), .int (nI b)] (enc A I) = some (some (.int (nI (if b < a then b else a))), enc A I) := fun a b ha hb => by
    unfold oMin
    simp only [n_lt (show b < 2147483648 by omega) (show a < 2147483648 by omega)]
    by_cases z : b < a
    · rw [if_pos z, if_pos z]
    · rw [if_neg z, if_neg z]
  have loop : ∀ d p N, p + d = n → d < N → OkT v n (mtl v n) p → ∃ p', StT v n (mtl v n) p' ∧ p' ≤ 240 ∧ F_X5_firstFault fu N 11 (nI q) (nI i) (nI n) (nI (mtl v n)) (nI (2 * mtl v n + 6)) (nI p) (enc A I) = some (some (.int (if p' = n ∧ p' = 2 * mtl v n + 6 then -1 else nI p')), enc A I) := by
    intro d
    induction d with
    | zero =>
      intro p N hp hN ho
      obtain ⟨N, rfl⟩ : ∃ j, N = j + 1 := ⟨N - 1, by omega⟩
      have := ho.n
      refine ⟨p, ⟨ho, Or.inl (by omega)⟩, by omega, ?_⟩
      simp only [F_X5_firstFault, n_lt (show p < 2147483648 by omega) (show n < 2147483648 by omega), n_eq (show n < 2147483648 by omega) (show 2 * mtl v n + 6 < 2147483648 by omega)]
      rw [if_neg (by omega)]
      by_cases z : n = 2 * mtl v n + 6
      · rw [if_pos z, if_pos ⟨by omega, by omega⟩]
      · rw [if_neg z, if_neg (by omega), mn n _ (by omega) (by omega), if_neg (by omega), cI_some, show p = n by omega]
    | succ d ih =>
      intro p N hp hN ho
      obtain ⟨N, rfl⟩ : ∃ j, N = j + 1 := ⟨N - 1, by omega⟩
      have hpn := ho.n
      simp only [F_X5_firstFault, n_lt (show p < 2147483648 by omega) (show n < 2147483648 by omega), n_lt (show p < 2147483648 by omega) (show 2 * mtl v n + 6 < 2147483648 by omega), n_eq (show n < 2147483648 by omega) (show 2 * mtl v n + 6 < 2147483648 by omega)]
      rw [if_pos (by omega)]
      by_cases h1 : p < 2 * mtl v n + 6
      · have ca := c_atV (fu := fu) (I := I) hL (show 60 * q + i + p < 240 by omega) (hv p (by omega))
        rw [if_pos h1, nI_add, ca, cI_some, c_goesOn hm.2 (by omega), cI_some]
        simp only [bI_0]
        by_cases h2 : gon (mtl v n) p (v p) = true
        · rw [if_neg (fun z => z h2), nI_1]
          exact ih (p + 1) N (by omega) (by omega) (ho.s (by omega) h1 h2)
        · rw [if_pos h2]
          exact ⟨p, ⟨ho, Or.inr (Or.inr (Bool.eq_false_iff.mpr h2))⟩, by omega, by rw [if_neg (by omega)]⟩
      · refine ⟨p, ⟨ho, Or.inr (Or.inl (by omega))⟩, by omega, ?_⟩
        rw [if_neg h1, if_neg (by omega), if_neg (by omega), mn n _ (by omega) (by omega), if_pos (by omega), cI_some, show p = 2 * mtl v n + 6 by omega]
  obtain ⟨p, h1, h2, h3⟩ := loop n 0 fu (by omega) (by omega) (fun k hk => by omega)
  refine ⟨p, h1, h2, ?_⟩
  have e6 : 2 * nI (mtl v n) + 6 = nI (2 * mtl v n + 6) := n_2m _ 6
  simp only [u_X5_firstFault, M_X5_firstFault, io_1, gr_1_0, gr_1_1, gr_1_2, gr_1_3, gr_1_4, gr_1_5, gi_1_6, pf_1_6, gi_1_7, pf_1_7, io_2, gr_2_0, gr_2_1, gr_2_2, gr_2_3, gr_2_4, gr_2_5, gr_2_6, gr_2_7, gi_2_8, pf_2_8, gi_2_9, pf_2_9, gi_2_10, pf_2_10, gi_2_11, pf_2_11, gi_2_12, pf_2_12, gi_2_13, pf_2_13, gi_2_14, pf_2_14, io_11, gr_11_0, gr_11_1, gr_11_2, io_15, gr_15_0, gr_15_1, gi_15_2, pf_15_2, gi_15_3, pf_15_3, gi_15_4, pf_15_4, gi_15_5, pf_15_5, io_18, gr_18_0, gr_18_1, gi_18_2, pf_18_2, io_21, gr_21_0, gr_21_1, gr_21_2, gr_21_3, gi_21_4, pf_21_4, gi_21_5, pf_21_5, gi_21_6, pf_21_6, gi_21_7, pf_21_7, io_34, gr_34_0, gi_34_1, pf_34_1, al_3, al_4, al_5, al_6, al_7, al_8, al_9, al_10, al_12, al_13, al_14, al_16, al_17, al_19, al_20, al_22, al_23, al_24, al_26, al_27, al_28, al_29, al_30, al_31, al_32, al_33, al_35, ↓reduceIte, Option.bind_some, cI_some, cL_some, cV_some, rz_0, rz_1, c_told hf hL hb hv, u_X5_length, M_X5_length, e6]
  exact h3
/-! the model -/
end Q5
end
section
section Q7
variable {σ : SG} {A : Nat → List Int32} {I : Nat → Nat → Int32} {fu : Nat}
theorem c_fill5 (hf : 1000 ≤ fu) (h5 : (A 5).length = 7) : ∃ xs, xs.length = 7 ∧ (∀ i, i < 7 → rd xs i = -9) ∧ U_J7_fill_53178 fu [.ref 5, .int (-9)] (enc A I) = some (none, enc (uA A 5 xs) I) := by
  have loop : ∀ d c n xs, c + d = 7 → d < n → xs.length = 7 → (∀ i, i < c → rd xs i = -9) → ∃ ys, ys.length = 7 ∧ (∀ i, i < 7 → rd ys i = -9) ∧ F_J7_fill_53178 fu n 5 (-9) (nI c) (nI 7) (enc (uA A 5 xs) I) = some (none, enc (uA A 5 ys) I) := by
    intro d
    induction d with
    | zero =>
      intro c n xs hc hn hl h
      obtain ⟨n, rfl⟩ : ∃ j, n = j + 1 := ⟨n - 1, by omega⟩
      refine ⟨xs, hl, fun i hi => h i (by omega), ?_⟩
      simp only [F_J7_fill_53178, n_lt (show c < 2147483648 by omega) (show 7 < 2147483648 by omega)]
      rw [if_neg (by omega)]
    | succ d ih =>
      intro c n xs hc hn hl h
      obtain ⟨n, rfl⟩ : ∃ j, n = j + 1 := ⟨n - 1, by omega⟩
      have hlc : c < xs.length := by omega
      obtain ⟨ys, g1, g2, g3⟩ := ih (c + 1) n (xs.set c (-9)) (by omega) (by omega) (by rw [List.length_set]; exact hl) (fun i hi => by
        rw [rd_set _ _ hlc]
        by_cases y : i = c
        · rw [if_pos y]
        · rw [if_neg y]; exact h i (by omega))
      refine ⟨ys, g1, g2, ?_⟩
      simp only [F_J7_fill_53178, n_lt (show c < 2147483648 by omega) (show 7 < 2147483648 by omega), nI_1]
      rw [if_pos (by omega), si_5 _ _ _ (by rw [uA_s]; exact hlc) (by omega), uA_s, uA_uA]
      exact g3
  obtain ⟨ys, g1, g2, g3⟩ := loop 7 0 fu (A 5) (by omega) (by omega) h5 (fun i hi => by omega)
  rw [uA_self] at g3
  refine ⟨ys, g1, g2, ?_⟩
  have hal : aL (enc A I) 5 = some (nI 7) := by rw [al_5, h5]; rfl
  simp only [u_J7_fill_53178, M_J7_fill_53178, hal, Option.bind_some]
  exact g3
def anw (I : Nat → Nat → Int32) : Nat → Nat → Int32 := uI (uI (uI (uI (uI I 2 10 0) 2 11 0) 2 12 0) 2 13 0) 2 14 0
theorem c_makeAnew (hf : 1000 ≤ fu) (hL : LEN A) : ∃ xs, xs.length = 7 ∧ (∀ i, i < 7 → rd xs i = -9) ∧ U_X0_makeAnew fu [.ref 2] (enc A I) = some (none, enc (uA A 5 xs) (anw I)) := by
  obtain ⟨xs, h1, h2, h3⟩ := c_fill5 (fu := fu) (A := A) (I := I) hf (hL 5 rfl)
  refine ⟨xs, h1, h2, ?_⟩
  simp only [u_X0_makeAnew, M_X0_makeAnew, io_1, gr_1_0, gr_1_1, gr_1_2, gr_1_3, gr_1_4, gr_1_5, gi_1_6, pf_1_6, gi_1_7, pf_1_7, io_2, gr_2_0, gr_2_1, gr_2_2, gr_2_3, gr_2_4, gr_2_5, gr_2_6, gr_2_7, gi_2_8, pf_2_8, gi_2_9, pf_2_9, gi_2_10, pf_2_10, gi_2_11, pf_2_11, gi_2_12, pf_2_12, gi_2_13, pf_2_13, gi_2_14, pf_2_14, io_11, gr_11_0, gr_11_1, gr_11_2, io_15, gr_15_0, gr_15_1, gi_15_2, pf_15_2, gi_15_3, pf_15_3, gi_15_4, pf_15_4, gi_15_5, pf_15_5, io_18, gr_18_0, gr_18_1, gi_18_2, pf_18_2, io_21, gr_21_0, gr_21_1, gr_21_2, gr_21_3, gi_21_4, pf_21_4, gi_21_5, pf_21_5, gi_21_6, pf_21_6, gi_21_7, pf_21_7, io_34, gr_34_0, gi_34_1, pf_34_1, al_3, al_4, al_5, al_6, al_7, al_8, al_9, al_10, al_12, al_13, al_14, al_16, al_17, al_19, al_20, al_22, al_23, al_24, al_26, al_27, al_28, al_29, al_30, al_31, al_32, al_33, al_35, ↓reduceIte, Option.bind_some, cI_some, cL_some, cV_some, rz_0, rz_1, h3]
  rfl
theorem c_readL {q i n m : Nat} (hb : 60 * q + i + n ≤ 240) {v : Nat → Int32} (hm7 : m ≤ 7) (hn : 2 * m + 6 ≤ n) : ∀ d c N ds bs (A : Nat → List Int32) (I : Nat → Nat → Int32), LEN A → (∀ p, p < n → rd (A 14) (60 * q + i + p) = v p) → c + d = m → d < N → ds.length = 7 → bs.length = 7 → (∀ j, j < c → rd ds j = v (1 + j) - 48 ∧ rd bs j = v (m + 3 + j) - 48) →
    ∃ es cs, F_X5_readInto fu N 2 11 (nI q) (nI i) (nI m) (nI c) (enc (uA (uA A 3 ds) 4 bs) I) = some (none, enc (uA (uA A 3 es) 4 cs) (uI (uI I 2 9 (v (2 * m + 5) - 48)) 2 8 (nI m))) ∧ es.length = 7 ∧ cs.length = 7 ∧ ∀ j, j < m → rd es j = v (1 + j) - 48 ∧ rd cs j = v (m + 3 + j) - 48 := by
  intro d
  induction d with
  | zero =>
    intro c N ds bs A I hL hv hc hN hd hbs h
    obtain ⟨N, rfl⟩ : ∃ j, N = j + 1 := ⟨N - 1, by omega⟩
    refine ⟨ds, bs, ?_, hd, hbs, fun j hj => h j (by omega)⟩
    have hL1 : LEN (uA (uA A 3 ds) 4 bs) := (hL.set (by rw [hd]; exact (hL 3 rfl).symm)).set (by rw [hbs, uA_n _ _ _ (by decide)]; exact (hL 4 rfl).symm)
    have ca := c_atV (fu := fu) (I := I) hL1 (show 60 * q + i + (2 * m + 5) < 240 by omega) (show _ = v (2 * m + 5) by rw [uA_n _ _ _ (by decide), uA_n _ _ _ (by decide), hv (2 * m + 5) (by omega)])
    have e5 : nI i + 2 * nI m + 5 = nI (i + (2 * m + 5)) := by
      rw [show (2 : Int32) = nI 2 from rfl, pk_mul, nI_add, show (5 : Int32) = nI 5 from rfl, nI_add, Nat.add_assoc]
    simp only [F_X5_readInto, n_lt (show c < 2147483648 by omega) (show m < 2147483648 by omega), e5, ca, io_1, gr_1_0, gr_1_1, gr_1_2, gr_1_3, gr_1_4, gr_1_5, gi_1_6, pf_1_6, gi_1_7, pf_1_7, io_2, gr_2_0, gr_2_1, gr_2_2, gr_2_3, gr_2_4, gr_2_5, gr_2_6, gr_2_7, gi_2_8, pf_2_8, gi_2_9, pf_2_9, gi_2_10, pf_2_10, gi_2_11, pf_2_11, gi_2_12, pf_2_12, gi_2_13, pf_2_13, gi_2_14, pf_2_14, io_11, gr_11_0, gr_11_1, gr_11_2, io_15, gr_15_0, gr_15_1, gi_15_2, pf_15_2, gi_15_3, pf_15_3, gi_15_4, pf_15_4, gi_15_5, pf_15_5, io_18, gr_18_0, gr_18_1, gi_18_2, pf_18_2, io_21, gr_21_0, gr_21_1, gr_21_2, gr_21_3, gi_21_4, pf_21_4, gi_21_5, pf_21_5, gi_21_6, pf_21_6, gi_21_7, pf_21_7, io_34, gr_34_0, gi_34_1, pf_34_1, al_3, al_4, al_5, al_6, al_7, al_8, al_9, al_10, al_12, al_13, al_14, al_16, al_17, al_19, al_20, al_22, al_23, al_24, al_26, al_27, al_28, al_29, al_30, al_31, al_32, al_33, al_35, ↓reduceIte, Option.bind_some, cI_some, cL_some, cV_some, rz_0, rz_1]
    rw [if_neg (by omega)]
  | succ d ih =>
    intro c N ds bs A I hL hv hc hN hd hbs h
    obtain ⟨N, rfl⟩ : ∃ j, N = j + 1 := ⟨N - 1, by omega⟩
    have hL1 : LEN (uA (uA A 3 ds) 4 bs) := (hL.set (by rw [hd]; exact (hL 3 rfl).symm)).set (by rw [hbs, uA_n _ _ _ (by decide)]; exact (hL 4 rfl).symm)
    have ca := c_atV (fu := fu) (I := I) hL1 (show 60 * q + i + (1 + c) < 240 by omega) (show _ = v (1 + c) by rw [uA_n _ _ _ (by decide), uA_n _ _ _ (by decide), hv (1 + c) (by omega)])
    have s3 := si_3 (uA (uA A 3 ds) 4 bs) I (v (1 + c) - 48) (show c < _ by rw [uA_n _ _ _ (by decide), uA_s]; omega) (show c < 2147483648 by omega)
    have w3 : uA (uA (uA A 3 ds) 4 bs) 3 ((uA (uA A 3 ds) 4 bs 3).set c (v (1 + c) - 48)) = uA (uA A 3 (ds.set c (v (1 + c) - 48))) 4 bs := by
      funext j
      unfold uA
      by_cases y : j = 3
      · rw [y]; rfl
      · rw [if_neg y]
        by_cases y2 : j = 4
        · rw [if_pos y2, if_pos y2]
        · rw [if_neg y2, if_neg y2, if_neg y, if_neg y]
    rw [w3] at s3
    have hL2 : LEN (uA (uA A 3 (ds.set c (v (1 + c) - 48))) 4 bs) := (hL.set (by rw [List.length_set, hd]; exact (hL 3 rfl).symm)).set (by rw [hbs, uA_n _ _ _ (by decide)]; exact (hL 4 rfl).symm)
    have cb := c_atV (fu := fu) (I := I) hL2 (show 60 * q + i + (m + 3 + c) < 240 by omega) (show _ = v (m + 3 + c) by rw [uA_n _ _ _ (by decide), uA_n _ _ _ (by decide), hv (m + 3 + c) (by omega)])
    have s4 := si_4 (uA (uA A 3 (ds.set c (v (1 + c) - 48))) 4 bs) I (v (m + 3 + c) - 48) (show c < _ by rw [uA_s]; omega) (show c < 2147483648 by omega)
    rw [uA_s, uA_uA] at s4
    have e1 : nI i + 1 + nI c = nI (i + (1 + c)) := by rw [nI_1, nI_add, Nat.add_assoc]
    have e3 : nI i + nI m + 3 + nI c = nI (i + (m + 3 + c)) := by
      rw [show (3 : Int32) = nI 3 from rfl, nI_add, nI_add, nI_add]; congr 1; omega
    simp only [F_X5_readInto, n_lt (show c < 2147483648 by omega) (show m < 2147483648 by omega), e1, ca, io_1, gr_1_0, gr_1_1, gr_1_2, gr_1_3, gr_1_4, gr_1_5, gi_1_6, pf_1_6, gi_1_7, pf_1_7, io_2, gr_2_0, gr_2_1, gr_2_2, gr_2_3, gr_2_4, gr_2_5, gr_2_6, gr_2_7, gi_2_8, pf_2_8, gi_2_9, pf_2_9, gi_2_10, pf_2_10, gi_2_11, pf_2_11, gi_2_12, pf_2_12, gi_2_13, pf_2_13, gi_2_14, pf_2_14, io_11, gr_11_0, gr_11_1, gr_11_2, io_15, gr_15_0, gr_15_1, gi_15_2, pf_15_2, gi_15_3, pf_15_3, gi_15_4, pf_15_4, gi_15_5, pf_15_5, io_18, gr_18_0, gr_18_1, gi_18_2, pf_18_2, io_21, gr_21_0, gr_21_1, gr_21_2, gr_21_3, gi_21_4, pf_21_4, gi_21_5, pf_21_5, gi_21_6, pf_21_6, gi_21_7, pf_21_7, io_34, gr_34_0, gi_34_1, pf_34_1, al_3, al_4, al_5, al_6, al_7, al_8, al_9, al_10, al_12, al_13, al_14, al_16, al_17, al_19, al_20, al_22, al_23, al_24, al_26, al_27, al_28, al_29, al_30, al_31, al_32, al_33, al_35, ↓reduceIte, Option.bind_some, cI_some, cL_some, cV_some, rz_0, rz_1, s3, e3, cb, s4]
    rw [if_pos (by omega), nI_1]
    refine ih (c + 1) N _ _ A I hL hv (by omega) (by omega) (by rw [List.length_set]; exact hd) (by rw [List.length_set]; exact hbs) (fun j hj => ?_)
    rw [rd_set _ _ (by omega), rd_set _ _ (by omega)]
    by_cases y : j = c
    · rw [if_pos y, if_pos y, y]; exact ⟨rfl, rfl⟩
    · rw [if_neg y, if_neg y]; exact h j (by omega)
/-- a brook made anew -/
def newS (m pc : Nat) (dp bd : Nat → Nat) : SG := fun t i => if t = 0 then (if i = 0 then m else if i = 1 then pc else 0) else if t = 1 then dp i else if t = 2 then bd i else 0
theorem newS_wf {m pc : Nat} {dp bd : Nat → Nat} (h3 : 3 ≤ m) (h7 : m ≤ 7) (hp : pc ≤ 9) (h : ∀ c, c < m → dp c ≤ 9 ∧ bd c ≤ 9) : WF (newS m pc dp bd) := by
  refine ⟨Or.inr h3, h7, hp, Nat.zero_le _, Nat.zero_le _, Nat.zero_le _, fun _ => ⟨rfl, rfl⟩, fun c hc => ⟨(h c hc).1, (h c hc).2, Nat.zero_le _⟩, fun s hs => absurd hs (Nat.not_lt_zero _), fun s hs => absurd hs (Nat.not_lt_zero _), fun c hc s hs => ?_, fun s hs => absurd hs (Nat.not_lt_zero _)⟩
  have : (0 : Nat) = s + 1 := hs
  omega
end Q7
end
section
theorem bit_n {a k : Nat} (ha : a < 2147483648) (hk : k < 31) : (nI a >>> (nI k &&& 31)) &&& 1 = nI (if a.testBit k = true then 1 else 0) := by
  rw [has_n ha hk]
  cases a.testBit k <;> rfl
end
section
/-! ===== way: the mathematics ===== -/
section WM
variable {N : Nat} {S : Nat → Bool} {e : Nat → Nat} {d : Nat}
theorem wk_ahead (r : Rw N S e) : ∀ L p, p ≤ N → Wk N S e d (N + 1) L p → ∃ q M, p < q ∧ q ≤ N + 1 ∧ S q = true ∧ near e d p q ∧ M + 1 ≤ L ∧ Wk N S e d (N + 1) M q := by
  intro L
  induction L using Nat.strongRecOn with
  | _ L ih =>
    intro p hp w
    cases L with
    | zero => have w' : p = N + 1 := w; omega
    | succ L =>
      obtain ⟨q, w1, k⟩ := w
      by_cases h : q < p
      · obtain ⟨M, hM, w2⟩ := w1.mono r p (by omega) k.2.1 k.2.2.1
        obtain ⟨t, M2, a, b, c, g, h2, w3⟩ := ih M (by omega) p hp w2
        exact ⟨t, M2, a, b, c, g, by omega, w3⟩
      · have hq := w1.st r.2.1 (Nat.le_refl _)
        have := k.1
        exact ⟨q, L, by omega, hq.2, hq.1, near_sym k.2.2.2, Nat.le_refl _, w1⟩
variable (N S e d)
/-- in how few strides one comes to a place from the far bank -/
def Mn (p l : Nat) : Prop := Wk N S e d (N + 1) l p ∧ ∀ L, Wk N S e d (N + 1) L p → l ≤ L
def LF (f : Nat → Nat) (p : Nat) : Prop := (f p = 99 ∧ ∀ L, ¬ Wk N S e d (N + 1) L p) ∨ (f p ≤ 8 ∧ Mn N S e d p (f p))
/-- the first place ahead that is one nearer -/
def NX (l a q : Nat) : Prop := a < q ∧ q ≤ N + 1 ∧ near e d a q ∧ Mn N S e d q l ∧ ∀ t, a < t → t < q → ¬ (near e d a t ∧ Mn N S e d t l)
def Pth (L : Nat) : Nat → Nat → Prop
  | 0, a => a = 0
  | k + 1, a => ∃ b, Pth L k b ∧ NX N S e d (L - (k + 1)) b a
variable {N S e d}
theorem Mn.uniq {p l m : Nat} (h : Mn N S e d p l) (g : Mn N S e d p m) : l = m := Nat.le_antisymm (h.2 _ g.1) (g.2 _ h.1)
theorem NX.uniq {l a q t : Nat} (h : NX N S e d l a q) (g : NX N S e d l a t) : q = t := by
  rcases Nat.lt_trichotomy q t with z | z | z
  · exact absurd ⟨h.2.2.1, h.2.2.2.1⟩ (g.2.2.2.2 q h.1 z)
  · exact z
  · exact absurd ⟨g.2.2.1, g.2.2.2.1⟩ (h.2.2.2.2 t g.1 z)
theorem Pth.uniq {L : Nat} : ∀ k {a b : Nat}, Pth N S e d L k a → Pth N S e d L k b → a = b := by
  intro k
  induction k with
  | zero => intro a b h g; have h : a = 0 := h; have g : b = 0 := g; omega
  | succ k ih =>
    rintro a b ⟨c, h1, h2⟩ ⟨c', g1, g2⟩
    have := ih h1 g1
    subst this
    exact h2.uniq g2
theorem Mn.st (r : Rw N S e) {p l : Nat} (h : Mn N S e d p l) : S p = true ∧ p ≤ N + 1 := h.1.st r.2.1 (Nat.le_refl _)
theorem Mn.end0 : Mn N S e d (N + 1) 0 := ⟨rfl, fun _ _ => Nat.zero_le _⟩
theorem Mn.lt (r : Rw N S e) {p l : Nat} (h : Mn N S e d p (l + 1)) : p ≤ N := by
  have hp := (h.st r).2
  apply Nat.le_of_not_lt
  intro z
  have e : p = N + 1 := by omega
  rw [e] at h
  have := h.2 0 rfl
  omega
theorem Mn.le (r : Rw N S e) {p l : Nat} (h : Mn N S e d p l) : l + p ≤ N + 1 := by
  obtain ⟨M, hM, w⟩ := shortN r l p h.1
  have := h.2 M w
  omega
/-- the next place is there -/
theorem NX.ex (r : Rw N S e) {a l : Nat} (h : Mn N S e d a (l + 1)) : ∃ q, NX N S e d l a q := by
  have ha := h.lt r
  obtain ⟨q, M, h1, h2, h3, h4, h5, w⟩ := wk_ahead r (l + 1) a ha h.1
  have key : ∀ t, a < t → t ≤ N + 1 → near e d a t → ∀ K, Wk N S e d (N + 1) K t → l ≤ K := fun t z1 z2 z3 K wk => by
    have := h.2 (K + 1) (wk.s ⟨by omega, by omega, (h.st r).1, near_sym z3⟩)
    omega
  have hq : Mn N S e d q l := by
    have e : M = l := by have := key q h1 h2 h4 M w; omega
    rw [e] at w
    exact ⟨w, fun L wk => key q h1 h2 h4 L wk⟩
  -- the least such
  have least : ∀ n, ∀ q, q ≤ n → a < q → q ≤ N + 1 → near e d a q → Mn N S e d q l → ∃ q, NX N S e d l a q := by
    intro n
    induction n with
    | zero => intro q h0 h1; omega
    | succ n ih =>
      intro q h0 h1 h2 h4 hq
      by_cases z : ∃ t, a < t ∧ t < q ∧ near e d a t ∧ Mn N S e d t l
      · obtain ⟨t, z1, z2, z3, z4⟩ := z
        exact ih t (by omega) z1 (by omega) z3 z4
      · exact ⟨q, h1, h2, h4, hq, fun t z1 z2 z3 => z ⟨t, z1, z2, z3.1, z3.2⟩⟩
  exact least q q (Nat.le_refl _) h1 h2 h4 hq
/-- no place behind is one nearer -/
theorem Mn.back (r : Rw N S e) {a t l : Nat} (h : Mn N S e d a (l + 1)) (ht : t ≤ a) (g : Mn N S e d t l) : False := by
  obtain ⟨M, hM, w⟩ := g.1.mono r a ht (h.st r).2 (h.st r).1
  have := h.2 M w
  omega
theorem LF.mn (f : Nat → Nat) {p l : Nat} (h : LF N S e d f p) (hl : l ≤ 8) : f p = l ↔ Mn N S e d p l := by
  rcases h with ⟨h1, h2⟩ | ⟨h1, h2⟩
  · exact ⟨fun z => by omega, fun z => absurd z.1 (h2 l)⟩
  · exact ⟨fun z => by rw [← z]; exact h2, fun z => h2.uniq z⟩
theorem LF.le {f : Nat → Nat} {p : Nat} (h : LF N S e d f p) : f p ≤ 99 := by
  rcases h with h | h <;> omega
theorem Dst.mn {f : Nat → Nat} (D : Dst N S e d (N + 1) f) {p l : Nat} (hp : p ≤ N + 1) (hl : l < 1000000) : f p = l ↔ Mn N S e d p l := by
  constructor
  · intro z
    rcases D.1 p hp with h | h
    · omega
    · rw [z] at h
      exact ⟨h.2, fun L w => by rw [← z]; exact D.2 L p w⟩
  · intro z
    have h1 := D.2 l p z.1
    rcases D.1 p hp with h | h
    · omega
    · have := z.2 _ h.2; omega
/-- by strides ahead alone -/
theorem LF.step (r : Rw N S e) (hN : N ≤ 7) {f : Nat → Nat} {p x : Nat} (hp : p ≤ N) (hf : ∀ t, p < t → t ≤ N + 1 → LF N S e d f t)
    (h1 : x = 99 ∨ ∃ t, p < t ∧ t ≤ N + 1 ∧ S p = true ∧ S t = true ∧ near e d p t ∧ f t ≤ 8 ∧ x = f t + 1)
    (h2 : ∀ t, p < t → t ≤ N + 1 → S p = true → S t = true → near e d p t → x ≤ f t + 1) : (x = 99 ∧ ∀ L, ¬ Wk N S e d (N + 1) L p) ∨ (x ≤ 8 ∧ Mn N S e d p x) := by
  have low : ∀ L, Wk N S e d (N + 1) L p → x ≤ L ∧ x ≤ 10 := fun L w => by
    obtain ⟨q, M, a1, a2, a3, a4, a5, w2⟩ := wk_ahead r L p hp w
    have := h2 q a1 a2 (w.st r.2.1 (Nat.le_refl _)).1 a3 a4
    rcases hf q a1 a2 with ⟨b1, b2⟩ | ⟨b1, b2⟩
    · exact absurd w2 (b2 M)
    · have := b2.2 M w2; omega
  rcases h1 with h1 | ⟨t, a1, a2, a3, a4, a5, a6, a7⟩
  · exact Or.inl ⟨h1, fun L w => by have := low L w; omega⟩
  · rcases hf t a1 a2 with ⟨b1, b2⟩ | ⟨b1, b2⟩
    · omega
    · have w : Wk N S e d (N + 1) x p := by
        rw [a7]
        exact b2.1.s ⟨by omega, by omega, a3, near_sym a5⟩
      have hm : Mn N S e d p x := ⟨w, fun L w => (low L w).1⟩
      have := hm.le r
      exact Or.inr ⟨by omega, hm⟩
end WM
/-! the class -/
theorem n_m1 (k : Nat) : nI k + (-1) = nI k - 1 := (Int32.sub_eq_add_neg (a := nI k) (b := 1)).symm
theorem sh_l1 {a : Nat} (h : a < 1024) : nI a <<< ((1 : Int32) &&& 31) = nI (a * 2) := sh_l (a := a) (k := 1) (by decide) (by omega)
section WC
variable {σ : SG} {A : Nat → List Int32} {I : Nat → Nat → Int32} {fu : Nat} {d : Nat}
abbrev S0 (σ : SG) : Nat → Bool := Sd σ (σ 7) (σ 0 2)
abbrev E0 (σ : SG) : Nat → Nat := ez σ (σ 7)
theorem stops_eq (r : RR σ A I) : (1 ||| nI (bits (dryB σ (σ 0 2)) (σ 0 0)) <<< ((1 : Int32) &&& 31)) ||| ((1 : Int32) <<< (nI (σ 0 0 + 1) &&& 31)) = nI (bits (S0 σ) (σ 0 0 + 2)) := by
  have hn := r.n7
  have h128 := bits_ge (p := dryB σ (σ 0 2)) hn
  rw [sh_l1 (by omega), sh_1 (by omega), show (1 : Int32) = nI 1 from rfl, n_or, n_or]
  congr 1
  refine bits_ext (n := 9) ?_ ?_ fun i hi => ?_
  · refine Nat.or_lt_two_pow (Nat.or_lt_two_pow (by decide) (by omega)) (Nat.pow_lt_pow_right (by decide) (by omega))
  · exact Nat.lt_of_lt_of_le (bits_lt _ _) (Nat.pow_le_pow_right (by omega) (by omega))
  · rw [Nat.testBit_or, Nat.testBit_or, bits_test, Nat.testBit_two_pow, show (1 : Nat) = 2 ^ 0 from rfl, Nat.testBit_two_pow, show bits (dryB σ (σ 0 2)) (σ 0 0) * 2 = bits (dryB σ (σ 0 2)) (σ 0 0) <<< 1 by rw [Nat.shiftLeft_eq], Nat.testBit_shiftLeft, bits_test]
    unfold S0 Sd dryB
    rw [Bool.eq_iff_iff]
    simp only [Bool.or_eq_true, Bool.and_eq_true, decide_eq_true_eq]
    omega
theorem ease_eq (r : RR σ A I) {p : Nat} (hp : p ≤ σ 0 0 + 1) : ((nI (bits (kndB σ 2) (σ 0 0)) <<< ((1 : Int32) &&& 31)) >>> (nI p &&& 31)) &&& 1 = nI (E0 σ p) := by
  have hn := r.n7
  have h128 := bits_ge (p := kndB σ 2) hn
  rw [sh_l1 (by omega), bit_n (by omega) (by omega)]
  congr 1
  rw [show bits (kndB σ 2) (σ 0 0) * 2 = bits (kndB σ 2) (σ 0 0) <<< 1 by rw [Nat.shiftLeft_eq], Nat.testBit_shiftLeft, bits_test]
  unfold E0 ez kndB
  by_cases h0 : p = 0 ∨ p = σ 0 0 + 1
  · rw [if_pos h0, if_neg]
    simp only [Bool.and_eq_true, decide_eq_true_eq]
    omega
  · rw [if_neg h0]
    have h2 := fun z => r.k2 (p - 1) (by omega) z
    by_cases z : σ 7 (p - 1) ≠ 0 ∧ σ 3 (σ 7 (p - 1) - 1) = 2
    · rw [if_pos z, if_pos]
      simp only [Bool.and_eq_true, decide_eq_true_eq]
      omega
    · rw [if_neg z, if_neg]
      simp only [Bool.and_eq_true, decide_eq_true_eq]
      intro w
      have := h2 w.2.2.1
      exact z ⟨w.2.2.1, by omega⟩
/-- what the way's object holds while it looks -/
def WI (σ : SG) (d : Nat) (I : Nat → Nat → Int32) : Prop := I 15 2 = nI (bits (S0 σ) (σ 0 0 + 2)) ∧ I 15 3 = nI (bits (kndB σ 2) (σ 0 0)) <<< ((1 : Int32) &&& 31) ∧ I 15 4 = nI (σ 0 0 + 1) ∧ I 15 5 = nI d
theorem c_strideW (r : RR σ A I) (w : WI σ d I) (hd : d ≤ 9) {p t : Nat} (hpt : p < t) (ht : t ≤ σ 0 0 + 1) : U_X6_isStride fu [.ref 15, .int (nI p), .int (nI t)] (enc A I) = some (some (.int (bI (S0 σ p = true ∧ S0 σ t = true ∧ near (E0 σ) d p t))), enc A I) := by
  have hn := r.n7
  obtain ⟨w1, w2, w3, w4⟩ := w
  have hb : bits (S0 σ) (σ 0 0 + 2) < 2147483648 := Nat.lt_trans (bits_lt _ _) (Nat.lt_of_le_of_lt (Nat.pow_le_pow_right (by omega) (show σ 0 0 + 2 ≤ 9 by omega)) (by decide))
  have t1 : (bits (S0 σ) (σ 0 0 + 2)).testBit p = S0 σ p := by rw [bits_test, decide_eq_true (show p < σ 0 0 + 2 by omega), Bool.true_and]
  have t2 : (bits (S0 σ) (σ 0 0 + 2)).testBit t = S0 σ t := by rw [bits_test, decide_eq_true (show t < σ 0 0 + 2 by omega), Bool.true_and]
  have e1 : E0 σ p ≤ 1 := ez1 σ (σ 7) p
  have e2 : E0 σ t ≤ 1 := ez1 σ (σ 7) t
  have z := str_pos (t - p) (by omega) (E0 σ p) (by omega) (E0 σ t) (by omega) d (by omega)
  simp only [u_X6_isStride, M_X6_isStride, io_1, gr_1_0, gr_1_1, gr_1_2, gr_1_3, gr_1_4, gr_1_5, gi_1_6, pf_1_6, gi_1_7, pf_1_7, io_2, gr_2_0, gr_2_1, gr_2_2, gr_2_3, gr_2_4, gr_2_5, gr_2_6, gr_2_7, gi_2_8, pf_2_8, gi_2_9, pf_2_9, gi_2_10, pf_2_10, gi_2_11, pf_2_11, gi_2_12, pf_2_12, gi_2_13, pf_2_13, gi_2_14, pf_2_14, io_11, gr_11_0, gr_11_1, gr_11_2, io_15, gr_15_0, gr_15_1, gi_15_2, pf_15_2, gi_15_3, pf_15_3, gi_15_4, pf_15_4, gi_15_5, pf_15_5, io_18, gr_18_0, gr_18_1, gi_18_2, pf_18_2, io_21, gr_21_0, gr_21_1, gr_21_2, gr_21_3, gi_21_4, pf_21_4, gi_21_5, pf_21_5, gi_21_6, pf_21_6, gi_21_7, pf_21_7, io_34, gr_34_0, gi_34_1, pf_34_1, al_3, al_4, al_5, al_6, al_7, al_8, al_9, al_10, al_12, al_13, al_14, al_16, al_17, al_19, al_20, al_22, al_23, al_24, al_26, al_27, al_28, al_29, al_30, al_31, al_32, al_33, al_35, ↓reduceIte, Option.bind_some, cI_some, cL_some, cV_some, rz_0, rz_1, w1, w2, w4, ease_eq r (show p ≤ σ 0 0 + 1 by omega), ease_eq r ht, c_hasn _ hb (show p < 31 by omega), c_hasn _ hb (show t < 31 by omega), t1, t2, bI_0, n_subS t (by omega) p (by omega) (by omega)]
  by_cases h1 : S0 σ p = true
  · rw [if_neg (fun y => y h1)]
    by_cases h2 : S0 σ t = true
    · rw [if_neg (fun y => y h2)]
      by_cases h3 : near (E0 σ) d p t
      · rw [if_neg (fun y => by have := z.mp y; have := h3.1 hpt; omega), bI_t ⟨h1, h2, h3⟩]
      · rw [if_pos (z.mpr (by
          apply Nat.lt_of_not_le
          intro y
          exact h3 ⟨fun _ => by omega, fun _ => by omega⟩)), bI_f (fun y => h3 y.2.2)]
    · rw [if_pos h2, bI_f (fun y => h2 y.2.1)]
  · rw [if_pos h1, bI_f (fun y => h1 y.1)]
theorem c_fewest (hf : 1000 ≤ fu) (r : RR σ A I) (w : WI σ d I) (hd : d ≤ 9) {f : Nat → Nat} {p : Nat} (hp : p ≤ σ 0 0) (h17 : ∀ t, p < t → t ≤ σ 0 0 + 1 → rd (A 17) t = nI (f t) ∧ f t ≤ 99) :
    ∃ x, x ≤ 99 ∧ (x = 99 ∨ ∃ t, p < t ∧ t ≤ σ 0 0 + 1 ∧ S0 σ p = true ∧ S0 σ t = true ∧ near (E0 σ) d p t ∧ f t < 98 ∧ x = f t + 1) ∧ (∀ t, p < t → t ≤ σ 0 0 + 1 → S0 σ p = true → S0 σ t = true → near (E0 σ) d p t → x ≤ f t + 1) ∧
      U_X6_fewestFrom fu [.ref 15, .int (nI p)] (enc A I) = some (some (.int (nI x)), enc A I) := by
  have hn := r.n7
  have l17 : (A 17).length = 9 := r.len rfl
  have loop : ∀ m t n y, t + m = σ 0 0 + 2 → m < n → p < t → y ≤ 99 → (y = 99 ∨ ∃ t, p < t ∧ t ≤ σ 0 0 + 1 ∧ S0 σ p = true ∧ S0 σ t = true ∧ near (E0 σ) d p t ∧ f t < 98 ∧ y = f t + 1) → (∀ s, p < s → s < t → S0 σ p = true → S0 σ s = true → near (E0 σ) d p s → y ≤ f s + 1) →
      ∃ x, x ≤ 99 ∧ (x = 99 ∨ ∃ t, p < t ∧ t ≤ σ 0 0 + 1 ∧ S0 σ p = true ∧ S0 σ t = true ∧ near (E0 σ) d p t ∧ f t < 98 ∧ x = f t + 1) ∧ (∀ t, p < t → t ≤ σ 0 0 + 1 → S0 σ p = true → S0 σ t = true → near (E0 σ) d p t → x ≤ f t + 1) ∧
      F_X6_fewestFrom fu n 15 (nI p) (nI y) (nI t) (enc A I) = some (some (.int (nI x)), enc A I) := by
    intro m
    induction m with
    | zero =>
      intro t n y ht hn2 hpt hy h1 h2
      obtain ⟨n, rfl⟩ : ∃ k, n = k + 1 := ⟨n - 1, by omega⟩
      refine ⟨y, hy, h1, fun s a b => h2 s a (by omega), ?_⟩
      simp only [F_X6_fewestFrom, io_1, gr_1_0, gr_1_1, gr_1_2, gr_1_3, gr_1_4, gr_1_5, gi_1_6, pf_1_6, gi_1_7, pf_1_7, io_2, gr_2_0, gr_2_1, gr_2_2, gr_2_3, gr_2_4, gr_2_5, gr_2_6, gr_2_7, gi_2_8, pf_2_8, gi_2_9, pf_2_9, gi_2_10, pf_2_10, gi_2_11, pf_2_11, gi_2_12, pf_2_12, gi_2_13, pf_2_13, gi_2_14, pf_2_14, io_11, gr_11_0, gr_11_1, gr_11_2, io_15, gr_15_0, gr_15_1, gi_15_2, pf_15_2, gi_15_3, pf_15_3, gi_15_4, pf_15_4, gi_15_5, pf_15_5, io_18, gr_18_0, gr_18_1, gi_18_2, pf_18_2, io_21, gr_21_0, gr_21_1, gr_21_2, gr_21_3, gi_21_4, pf_21_4, gi_21_5, pf_21_5, gi_21_6, pf_21_6, gi_21_7, pf_21_7, io_34, gr_34_0, gi_34_1, pf_34_1, al_3, al_4, al_5, al_6, al_7, al_8, al_9, al_10, al_12, al_13, al_14, al_16, al_17, al_19, al_20, al_22, al_23, al_24, al_26, al_27, al_28, al_29, al_30, al_31, al_32, al_33, al_35, ↓reduceIte, Option.bind_some, cI_some, cL_some, cV_some, rz_0, rz_1, w.2.2.1, n_lt (show σ 0 0 + 1 < 2147483648 by omega) (show t < 2147483648 by omega)]
      rw [if_pos (by omega)]
    | succ m ih =>
      intro t n y ht hn2 hpt hy h1 h2
      obtain ⟨n, rfl⟩ : ∃ k, n = k + 1 := ⟨n - 1, by omega⟩
      obtain ⟨v1, v2⟩ := h17 t hpt (by omega)
      have e17 : aI (enc A I) 17 (nI t) = some (nI (f t)) := by rw [ai_17 A I (by omega) (by omega), v1]
      simp only [F_X6_fewestFrom, io_1, gr_1_0, gr_1_1, gr_1_2, gr_1_3, gr_1_4, gr_1_5, gi_1_6, pf_1_6, gi_1_7, pf_1_7, io_2, gr_2_0, gr_2_1, gr_2_2, gr_2_3, gr_2_4, gr_2_5, gr_2_6, gr_2_7, gi_2_8, pf_2_8, gi_2_9, pf_2_9, gi_2_10, pf_2_10, gi_2_11, pf_2_11, gi_2_12, pf_2_12, gi_2_13, pf_2_13, gi_2_14, pf_2_14, io_11, gr_11_0, gr_11_1, gr_11_2, io_15, gr_15_0, gr_15_1, gi_15_2, pf_15_2, gi_15_3, pf_15_3, gi_15_4, pf_15_4, gi_15_5, pf_15_5, io_18, gr_18_0, gr_18_1, gi_18_2, pf_18_2, io_21, gr_21_0, gr_21_1, gr_21_2, gr_21_3, gi_21_4, pf_21_4, gi_21_5, pf_21_5, gi_21_6, pf_21_6, gi_21_7, pf_21_7, io_34, gr_34_0, gi_34_1, pf_34_1, al_3, al_4, al_5, al_6, al_7, al_8, al_9, al_10, al_12, al_13, al_14, al_16, al_17, al_19, al_20, al_22, al_23, al_24, al_26, al_27, al_28, al_29, al_30, al_31, al_32, al_33, al_35, ↓reduceIte, Option.bind_some, cI_some, cL_some, cV_some, rz_0, rz_1, w.2.2.1, n_lt (show σ 0 0 + 1 < 2147483648 by omega) (show t < 2147483648 by omega), c_strideW r w hd hpt (show t ≤ σ 0 0 + 1 by omega), bI_0, nI_1, e17]
      rw [if_neg (by omega)]
      by_cases z : S0 σ p = true ∧ S0 σ t = true ∧ near (E0 σ) d p t
      · have em : oMin [.int (nI y), .int (nI (f t + 1))] (enc A I) = some (some (.int (nI (if f t + 1 < y then f t + 1 else y))), enc A I) := by
          unfold oMin
          simp only [n_lt (show f t + 1 < 2147483648 by omega) (show y < 2147483648 by omega)]
          by_cases q : f t + 1 < y
          · rw [if_pos q, if_pos q]
          · rw [if_neg q, if_neg q]
        rw [if_neg (fun q => q z), em, cI_some]
        refine ih (t + 1) n _ (by omega) (by omega) (by omega) (by split <;> omega) ?_ (fun s a b c g h => ?_)
        · by_cases q : f t + 1 < y
          · rw [if_pos q]; exact Or.inr ⟨t, hpt, by omega, z.1, z.2.1, z.2.2, by omega, rfl⟩
          · rw [if_neg q]; exact h1
        · by_cases q2 : s = t
          · rw [q2]; split <;> omega
          · have := h2 s a (by omega) c g h
            split <;> omega
      · rw [if_pos z]
        refine ih (t + 1) n y (by omega) (by omega) (by omega) hy h1 (fun s a b c g h => ?_)
        by_cases q2 : s = t
        · rw [q2] at g h; exact absurd ⟨c, g, h⟩ z
        · exact h2 s a (by omega) c g h
  obtain ⟨x, a, b, c, g⟩ := loop (σ 0 0 + 1 - p) (p + 1) fu 99 (by omega) (by omega) (by omega) (by omega) (Or.inl rfl) (fun s a b => by omega)
  refine ⟨x, a, b, c, ?_⟩
  simp only [u_X6_fewestFrom, M_X6_fewestFrom, io_1, gr_1_0, gr_1_1, gr_1_2, gr_1_3, gr_1_4, gr_1_5, gi_1_6, pf_1_6, gi_1_7, pf_1_7, io_2, gr_2_0, gr_2_1, gr_2_2, gr_2_3, gr_2_4, gr_2_5, gr_2_6, gr_2_7, gi_2_8, pf_2_8, gi_2_9, pf_2_9, gi_2_10, pf_2_10, gi_2_11, pf_2_11, gi_2_12, pf_2_12, gi_2_13, pf_2_13, gi_2_14, pf_2_14, io_11, gr_11_0, gr_11_1, gr_11_2, io_15, gr_15_0, gr_15_1, gi_15_2, pf_15_2, gi_15_3, pf_15_3, gi_15_4, pf_15_4, gi_15_5, pf_15_5, io_18, gr_18_0, gr_18_1, gi_18_2, pf_18_2, io_21, gr_21_0, gr_21_1, gr_21_2, gr_21_3, gi_21_4, pf_21_4, gi_21_5, pf_21_5, gi_21_6, pf_21_6, gi_21_7, pf_21_7, io_34, gr_34_0, gi_34_1, pf_34_1, al_3, al_4, al_5, al_6, al_7, al_8, al_9, al_10, al_12, al_13, al_14, al_16, al_17, al_19, al_20, al_22, al_23, al_24, al_26, al_27, al_28, al_29, al_30, al_31, al_32, al_33, al_35, ↓reduceIte, Option.bind_some, cI_some, cL_some, cV_some, rz_0, rz_1, nI_1]
  exact g
end WC
end
section
section WC2
variable {σ : SG} {A : Nat → List Int32} {I : Nat → Nat → Int32} {fu : Nat} {d : Nat}
abbrev LF0 (σ : SG) (d : Nat) : (Nat → Nat) → Nat → Prop := LF (σ 0 0) (S0 σ) (E0 σ) d
abbrev Mn0 (σ : SG) (d : Nat) : Nat → Nat → Prop := Mn (σ 0 0) (S0 σ) (E0 σ) d
abbrev NX0 (σ : SG) (d : Nat) : Nat → Nat → Nat → Prop := NX (σ 0 0) (S0 σ) (E0 σ) d
abbrev Pth0 (σ : SG) (d : Nat) : Nat → Nat → Nat → Prop := Pth (σ 0 0) (S0 σ) (E0 σ) d
theorem c_left (hf : 1000 ≤ fu) (w : WI σ d I) (hd : d ≤ 9) : ∀ k (A : Nat → List Int32) (f : Nat → Nat), RR σ A I → k ≤ σ 0 0 + 1 → (∀ t, k ≤ t → t ≤ σ 0 0 + 1 → rd (A 17) t = nI (f t) ∧ LF0 σ d f t) → ∀ n,
    ∃ xs f', xs.length = 9 ∧ (∀ t, t ≤ σ 0 0 + 1 → rd xs t = nI (f' t) ∧ LF0 σ d f' t) ∧ (F_X6_find fu (n + (k + 1))).1 15 (nI k - 1) (enc A I) = if f' 0 < 99 then (F_X6_find fu n).2 15 0 0 (enc (uA A 17 xs) I) else some (some (.int (-9)), enc (uA A 17 xs) I) := by
  intro k
  induction k with
  | zero =>
    intro A f r hk h n
    have l17 : (A 17).length = 9 := r.len rfl
    obtain ⟨v1, v2⟩ := h 0 (by omega) (by omega)
    refine ⟨A 17, f, l17, fun t ht => h t (by omega) ht, ?_⟩
    have e17 : aI (enc A I) 17 0 = some (nI (f 0)) := by rw [← v1]; exact ai_17 (j := 0) A I (by omega) (by omega)
    have := v2.le
    rw [uA_self, show n + (0 + 1) = n + 1 by omega, F_X6_find]
    have e99 : (nI (f 0) < 99) = (f 0 < 99) := n_lt (by omega) (by decide)
    simp only [io_1, gr_1_0, gr_1_1, gr_1_2, gr_1_3, gr_1_4, gr_1_5, gi_1_6, pf_1_6, gi_1_7, pf_1_7, io_2, gr_2_0, gr_2_1, gr_2_2, gr_2_3, gr_2_4, gr_2_5, gr_2_6, gr_2_7, gi_2_8, pf_2_8, gi_2_9, pf_2_9, gi_2_10, pf_2_10, gi_2_11, pf_2_11, gi_2_12, pf_2_12, gi_2_13, pf_2_13, gi_2_14, pf_2_14, io_11, gr_11_0, gr_11_1, gr_11_2, io_15, gr_15_0, gr_15_1, gi_15_2, pf_15_2, gi_15_3, pf_15_3, gi_15_4, pf_15_4, gi_15_5, pf_15_5, io_18, gr_18_0, gr_18_1, gi_18_2, pf_18_2, io_21, gr_21_0, gr_21_1, gr_21_2, gr_21_3, gi_21_4, pf_21_4, gi_21_5, pf_21_5, gi_21_6, pf_21_6, gi_21_7, pf_21_7, io_34, gr_34_0, gi_34_1, pf_34_1, al_3, al_4, al_5, al_6, al_7, al_8, al_9, al_10, al_12, al_13, al_14, al_16, al_17, al_19, al_20, al_22, al_23, al_24, al_26, al_27, al_28, al_29, al_30, al_31, al_32, al_33, al_35, ↓reduceIte, Option.bind_some, cI_some, cL_some, cV_some, rz_0, rz_1, e17, e99]
    rw [if_pos (by decide)]
  | succ k ih =>
    intro A f r hk h n
    have hn := r.n7
    have l17 : (A 17).length = 9 := r.len rfl
    obtain ⟨x, a1, a2, a3, a4⟩ := c_fewest hf r w hd (f := f) (p := k) (by omega) (fun t z1 z2 => ⟨(h t (by omega) z2).1, (h t (by omega) z2).2.le⟩)
    have st := LF.step (rw_of σ (σ 7) (σ 0 2)) hn (f := f) (x := x) (p := k) (d := d) (by omega) (fun t z1 z2 => (h t (by omega) z2).2) (by
      rcases a2 with z | ⟨t, b1, b2, b3, b4, b5, b6, b7⟩
      · exact Or.inl z
      · refine Or.inr ⟨t, b1, b2, b3, b4, b5, ?_, b7⟩
        rcases (h t (by omega) b2).2 with c | c
        · omega
        · exact c.1) a3
    have l1 : k < (A 17).length := by omega
    have s17 := si_17 A I (nI x) l1 (show k < 2147483648 by omega)
    have r1 : RR σ (uA A 17 ((A 17).set k (nI x))) I := r.sc rfl (by rw [List.length_set])
    obtain ⟨xs, f', c1, c2, c3⟩ := ih (uA A 17 ((A 17).set k (nI x))) (updN f k x) r1 (by omega) (fun t z1 z2 => by
      rw [uA_s, rd_set _ _ l1]
      by_cases y : t = k
      · have e : updN f k x k = x := if_pos rfl
        rw [if_pos y, y, e]
        refine ⟨rfl, ?_⟩
        unfold LF0 LF
        rw [e]
        exact st
      · have e : updN f k x t = f t := if_neg y
        rw [if_neg y, e]
        have := h t (by omega) z2
        refine ⟨this.1, ?_⟩
        have h2 := this.2
        unfold LF0 LF at h2 ⊢
        rw [e]
        exact h2) n
    rw [uA_uA] at c3
    refine ⟨xs, f', c1, c2, ?_⟩
    rw [show n + (k + 1 + 1) = n + (k + 1) + 1 by omega, F_X6_find]
    simp only [n_sub1, n_neg (show k < 2147483648 by omega), io_1, gr_1_0, gr_1_1, gr_1_2, gr_1_3, gr_1_4, gr_1_5, gi_1_6, pf_1_6, gi_1_7, pf_1_7, io_2, gr_2_0, gr_2_1, gr_2_2, gr_2_3, gr_2_4, gr_2_5, gr_2_6, gr_2_7, gi_2_8, pf_2_8, gi_2_9, pf_2_9, gi_2_10, pf_2_10, gi_2_11, pf_2_11, gi_2_12, pf_2_12, gi_2_13, pf_2_13, gi_2_14, pf_2_14, io_11, gr_11_0, gr_11_1, gr_11_2, io_15, gr_15_0, gr_15_1, gi_15_2, pf_15_2, gi_15_3, pf_15_3, gi_15_4, pf_15_4, gi_15_5, pf_15_5, io_18, gr_18_0, gr_18_1, gi_18_2, pf_18_2, io_21, gr_21_0, gr_21_1, gr_21_2, gr_21_3, gi_21_4, pf_21_4, gi_21_5, pf_21_5, gi_21_6, pf_21_6, gi_21_7, pf_21_7, io_34, gr_34_0, gi_34_1, pf_34_1, al_3, al_4, al_5, al_6, al_7, al_8, al_9, al_10, al_12, al_13, al_14, al_16, al_17, al_19, al_20, al_22, al_23, al_24, al_26, al_27, al_28, al_29, al_30, al_31, al_32, al_33, al_35, ↓reduceIte, Option.bind_some, cI_some, cL_some, cV_some, rz_0, rz_1, if_false, a4, s17, n_m1]
    exact c3
theorem c_behind (hf : 1000 ≤ fu) (r : RR σ A I) (w : WI σ d I) (hd : d ≤ 9) {f : Nat → Nat} (h17 : ∀ t, t ≤ σ 0 0 + 1 → rd (A 17) t = nI (f t) ∧ LF0 σ d f t) {a l q : Nat} (hl : l ≤ 7) (ha : Mn0 σ d a (l + 1)) (hq : NX0 σ d l a q) :
    U_X6_firstBehind fu [.ref 15, .int (nI a)] (enc A I) = some (some (.int (nI q)), enc A I) := by
  have hn := r.n7
  have R := rw_of σ (σ 7) (σ 0 2)
  have l17 : (A 17).length = 9 := r.len rfl
  have haN := ha.lt R
  have hqN := hq.2.1
  have fa : f a = l + 1 := (LF.mn f (h17 a (by omega)).2 (by omega)).mpr ha
  have ea : aI (enc A I) 17 (nI a) = some (nI (l + 1)) := by rw [ai_17 A I (by omega) (by omega), (h17 a (by omega)).1, fa]
  have loop : ∀ m t n, t + m = q → m < n → a < t → F_X6_firstBehind fu n 15 (nI a) (nI t) (enc A I) = some (some (.int (nI q)), enc A I) := by
    intro m
    induction m with
    | zero =>
      intro t n ht hn2 hat
      obtain ⟨n, rfl⟩ : ∃ k, n = k + 1 := ⟨n - 1, by omega⟩
      have e : t = q := by omega
      subst e
      by_cases z : t = σ 0 0 + 1
      · simp only [F_X6_firstBehind, io_1, gr_1_0, gr_1_1, gr_1_2, gr_1_3, gr_1_4, gr_1_5, gi_1_6, pf_1_6, gi_1_7, pf_1_7, io_2, gr_2_0, gr_2_1, gr_2_2, gr_2_3, gr_2_4, gr_2_5, gr_2_6, gr_2_7, gi_2_8, pf_2_8, gi_2_9, pf_2_9, gi_2_10, pf_2_10, gi_2_11, pf_2_11, gi_2_12, pf_2_12, gi_2_13, pf_2_13, gi_2_14, pf_2_14, io_11, gr_11_0, gr_11_1, gr_11_2, io_15, gr_15_0, gr_15_1, gi_15_2, pf_15_2, gi_15_3, pf_15_3, gi_15_4, pf_15_4, gi_15_5, pf_15_5, io_18, gr_18_0, gr_18_1, gi_18_2, pf_18_2, io_21, gr_21_0, gr_21_1, gr_21_2, gr_21_3, gi_21_4, pf_21_4, gi_21_5, pf_21_5, gi_21_6, pf_21_6, gi_21_7, pf_21_7, io_34, gr_34_0, gi_34_1, pf_34_1, al_3, al_4, al_5, al_6, al_7, al_8, al_9, al_10, al_12, al_13, al_14, al_16, al_17, al_19, al_20, al_22, al_23, al_24, al_26, al_27, al_28, al_29, al_30, al_31, al_32, al_33, al_35, ↓reduceIte, Option.bind_some, cI_some, cL_some, cV_some, rz_0, rz_1, w.2.2.1, n_lt (show t < 2147483648 by omega) (show σ 0 0 + 1 < 2147483648 by omega)]
        rw [if_neg (by omega), z]
      · obtain ⟨v1, v2⟩ := h17 t (by omega)
        have ft : f t = l := (LF.mn f v2 (by omega)).mpr hq.2.2.2.1
        have et : aI (enc A I) 17 (nI t) = some (nI l) := by rw [ai_17 A I (by omega) (by omega), v1, ft]
        simp only [F_X6_firstBehind, io_1, gr_1_0, gr_1_1, gr_1_2, gr_1_3, gr_1_4, gr_1_5, gi_1_6, pf_1_6, gi_1_7, pf_1_7, io_2, gr_2_0, gr_2_1, gr_2_2, gr_2_3, gr_2_4, gr_2_5, gr_2_6, gr_2_7, gi_2_8, pf_2_8, gi_2_9, pf_2_9, gi_2_10, pf_2_10, gi_2_11, pf_2_11, gi_2_12, pf_2_12, gi_2_13, pf_2_13, gi_2_14, pf_2_14, io_11, gr_11_0, gr_11_1, gr_11_2, io_15, gr_15_0, gr_15_1, gi_15_2, pf_15_2, gi_15_3, pf_15_3, gi_15_4, pf_15_4, gi_15_5, pf_15_5, io_18, gr_18_0, gr_18_1, gi_18_2, pf_18_2, io_21, gr_21_0, gr_21_1, gr_21_2, gr_21_3, gi_21_4, pf_21_4, gi_21_5, pf_21_5, gi_21_6, pf_21_6, gi_21_7, pf_21_7, io_34, gr_34_0, gi_34_1, pf_34_1, al_3, al_4, al_5, al_6, al_7, al_8, al_9, al_10, al_12, al_13, al_14, al_16, al_17, al_19, al_20, al_22, al_23, al_24, al_26, al_27, al_28, al_29, al_30, al_31, al_32, al_33, al_35, ↓reduceIte, Option.bind_some, cI_some, cL_some, cV_some, rz_0, rz_1, w.2.2.1, n_lt (show t < 2147483648 by omega) (show σ 0 0 + 1 < 2147483648 by omega), c_strideW r w hd hat (show t ≤ σ 0 0 + 1 by omega), bI_0, et, ea, n_sub1]
        rw [if_pos (by omega), if_neg (fun y => y ⟨(ha.st R).1, (hq.2.2.2.1.st R).1, hq.2.2.1⟩)]
    | succ m ih =>
      intro t n ht hn2 hat
      obtain ⟨n, rfl⟩ : ∃ k, n = k + 1 := ⟨n - 1, by omega⟩
      obtain ⟨v1, v2⟩ := h17 t (by omega)
      have hle := v2.le
      have et : aI (enc A I) 17 (nI t) = some (nI (f t)) := by rw [ai_17 A I (by omega) (by omega), v1]
      simp only [F_X6_firstBehind, io_1, gr_1_0, gr_1_1, gr_1_2, gr_1_3, gr_1_4, gr_1_5, gi_1_6, pf_1_6, gi_1_7, pf_1_7, io_2, gr_2_0, gr_2_1, gr_2_2, gr_2_3, gr_2_4, gr_2_5, gr_2_6, gr_2_7, gi_2_8, pf_2_8, gi_2_9, pf_2_9, gi_2_10, pf_2_10, gi_2_11, pf_2_11, gi_2_12, pf_2_12, gi_2_13, pf_2_13, gi_2_14, pf_2_14, io_11, gr_11_0, gr_11_1, gr_11_2, io_15, gr_15_0, gr_15_1, gi_15_2, pf_15_2, gi_15_3, pf_15_3, gi_15_4, pf_15_4, gi_15_5, pf_15_5, io_18, gr_18_0, gr_18_1, gi_18_2, pf_18_2, io_21, gr_21_0, gr_21_1, gr_21_2, gr_21_3, gi_21_4, pf_21_4, gi_21_5, pf_21_5, gi_21_6, pf_21_6, gi_21_7, pf_21_7, io_34, gr_34_0, gi_34_1, pf_34_1, al_3, al_4, al_5, al_6, al_7, al_8, al_9, al_10, al_12, al_13, al_14, al_16, al_17, al_19, al_20, al_22, al_23, al_24, al_26, al_27, al_28, al_29, al_30, al_31, al_32, al_33, al_35, ↓reduceIte, Option.bind_some, cI_some, cL_some, cV_some, rz_0, rz_1, w.2.2.1, n_lt (show t < 2147483648 by omega) (show σ 0 0 + 1 < 2147483648 by omega), c_strideW r w hd hat (show t ≤ σ 0 0 + 1 by omega), bI_0, et, ea, n_sub1, n_eq (show f t < 2147483648 by omega) (show l < 2147483648 by omega), nI_1]
      rw [if_pos (by omega)]
      have nx := ih (t + 1) n (by omega) (by omega) (by omega)
      by_cases z : S0 σ a = true ∧ S0 σ t = true ∧ near (E0 σ) d a t
      · rw [if_neg (fun y => y z), if_neg (fun y => hq.2.2.2.2 t hat (by omega) ⟨z.2.2, (LF.mn f v2 (by omega)).mp y⟩)]
        exact nx
      · rw [if_pos z]
        exact nx
  simp only [u_X6_firstBehind, M_X6_firstBehind, io_1, gr_1_0, gr_1_1, gr_1_2, gr_1_3, gr_1_4, gr_1_5, gi_1_6, pf_1_6, gi_1_7, pf_1_7, io_2, gr_2_0, gr_2_1, gr_2_2, gr_2_3, gr_2_4, gr_2_5, gr_2_6, gr_2_7, gi_2_8, pf_2_8, gi_2_9, pf_2_9, gi_2_10, pf_2_10, gi_2_11, pf_2_11, gi_2_12, pf_2_12, gi_2_13, pf_2_13, gi_2_14, pf_2_14, io_11, gr_11_0, gr_11_1, gr_11_2, io_15, gr_15_0, gr_15_1, gi_15_2, pf_15_2, gi_15_3, pf_15_3, gi_15_4, pf_15_4, gi_15_5, pf_15_5, io_18, gr_18_0, gr_18_1, gi_18_2, pf_18_2, io_21, gr_21_0, gr_21_1, gr_21_2, gr_21_3, gi_21_4, pf_21_4, gi_21_5, pf_21_5, gi_21_6, pf_21_6, gi_21_7, pf_21_7, io_34, gr_34_0, gi_34_1, pf_34_1, al_3, al_4, al_5, al_6, al_7, al_8, al_9, al_10, al_12, al_13, al_14, al_16, al_17, al_19, al_20, al_22, al_23, al_24, al_26, al_27, al_28, al_29, al_30, al_31, al_32, al_33, al_35, ↓reduceIte, Option.bind_some, cI_some, cL_some, cV_some, rz_0, rz_1, nI_1]
  exact loop (q - (a + 1)) (a + 1) fu (by have := hq.1; omega) (by omega) (by omega)
theorem c_places (hf : 1000 ≤ fu) (w : WI σ d I) (hd : d ≤ 9) {f : Nat → Nat} {L : Nat} (hL : L ≤ 8) (fL : f 0 = L) : ∀ m k a n (A : Nat → List Int32), RR σ A I → (∀ t, t ≤ σ 0 0 + 1 → rd (A 17) t = nI (f t) ∧ LF0 σ d f t) → k + m = L → m < n → Pth0 σ d L k a → Mn0 σ d a (L - k) → (∀ j, j < k → ∃ b, Pth0 σ d L (j + 1) b ∧ rd (A 16) j = nI b - 1) →
    ∃ xs, xs.length = 8 ∧ (∀ j, j < L → ∃ b, Pth0 σ d L (j + 1) b ∧ rd xs j = nI b - 1) ∧ (F_X6_find fu n).2 15 (nI a) (nI k) (enc A I) = some (some (.int (nI L)), enc (uA A 16 xs) I) := by
  intro m
  induction m with
  | zero =>
    intro k a n A r h17 hk hn2 hp ha h16
    obtain ⟨n, rfl⟩ : ∃ k, n = k + 1 := ⟨n - 1, by omega⟩
    have l17 : (A 17).length = 9 := r.len rfl
    have l16 : (A 16).length = 8 := r.len rfl
    have e17 : aI (enc A I) 17 0 = some (nI L) := by rw [← fL, ← (h17 0 (by omega)).1]; exact ai_17 (j := 0) A I (by omega) (by omega)
    refine ⟨A 16, l16, fun j hj => h16 j (by omega), ?_⟩
    rw [uA_self, F_X6_find]
    simp only [io_1, gr_1_0, gr_1_1, gr_1_2, gr_1_3, gr_1_4, gr_1_5, gi_1_6, pf_1_6, gi_1_7, pf_1_7, io_2, gr_2_0, gr_2_1, gr_2_2, gr_2_3, gr_2_4, gr_2_5, gr_2_6, gr_2_7, gi_2_8, pf_2_8, gi_2_9, pf_2_9, gi_2_10, pf_2_10, gi_2_11, pf_2_11, gi_2_12, pf_2_12, gi_2_13, pf_2_13, gi_2_14, pf_2_14, io_11, gr_11_0, gr_11_1, gr_11_2, io_15, gr_15_0, gr_15_1, gi_15_2, pf_15_2, gi_15_3, pf_15_3, gi_15_4, pf_15_4, gi_15_5, pf_15_5, io_18, gr_18_0, gr_18_1, gi_18_2, pf_18_2, io_21, gr_21_0, gr_21_1, gr_21_2, gr_21_3, gi_21_4, pf_21_4, gi_21_5, pf_21_5, gi_21_6, pf_21_6, gi_21_7, pf_21_7, io_34, gr_34_0, gi_34_1, pf_34_1, al_3, al_4, al_5, al_6, al_7, al_8, al_9, al_10, al_12, al_13, al_14, al_16, al_17, al_19, al_20, al_22, al_23, al_24, al_26, al_27, al_28, al_29, al_30, al_31, al_32, al_33, al_35, ↓reduceIte, Option.bind_some, cI_some, cL_some, cV_some, rz_0, rz_1, e17, n_lt (show k < 2147483648 by omega) (show L < 2147483648 by omega)]
    rw [if_neg (by omega)]
  | succ m ih =>
    intro k a n A r h17 hk hn2 hp ha h16
    obtain ⟨n, rfl⟩ : ∃ k, n = k + 1 := ⟨n - 1, by omega⟩
    have R := rw_of σ (σ 7) (σ 0 2)
    have hn := r.n7
    have l17 : (A 17).length = 9 := r.len rfl
    have l16 : (A 16).length = 8 := r.len rfl
    have e17 : aI (enc A I) 17 0 = some (nI L) := by rw [← fL, ← (h17 0 (by omega)).1]; exact ai_17 (j := 0) A I (by omega) (by omega)
    have ha' : Mn0 σ d a (L - (k + 1) + 1) := by rw [show L - (k + 1) + 1 = L - k by omega]; exact ha
    obtain ⟨q, hq⟩ := NX.ex R ha'
    have cb := c_behind hf r w hd h17 (by omega) ha' hq
    have hqN := hq.2.1
    have l1 : k < (A 16).length := by omega
    have s16 := si_16 A I (nI q - 1) l1 (show k < 2147483648 by omega)
    have hp1 : Pth0 σ d L (k + 1) q := ⟨a, hp, hq⟩
    obtain ⟨xs, c1, c2, c3⟩ := ih (k + 1) q n (uA A 16 ((A 16).set k (nI q - 1))) (r.sc rfl (by rw [List.length_set])) (by rw [uA_n _ _ _ (by decide)]; exact h17) (by omega) (by omega) hp1 hq.2.2.2.1 (fun j hj => by
      rw [uA_s, rd_set _ _ l1]
      by_cases y : j = k
      · rw [if_pos y, y]; exact ⟨q, hp1, rfl⟩
      · rw [if_neg y]; exact h16 j (by omega))
    rw [uA_uA] at c3
    refine ⟨xs, c1, c2, ?_⟩
    rw [F_X6_find]
    simp only [io_1, gr_1_0, gr_1_1, gr_1_2, gr_1_3, gr_1_4, gr_1_5, gi_1_6, pf_1_6, gi_1_7, pf_1_7, io_2, gr_2_0, gr_2_1, gr_2_2, gr_2_3, gr_2_4, gr_2_5, gr_2_6, gr_2_7, gi_2_8, pf_2_8, gi_2_9, pf_2_9, gi_2_10, pf_2_10, gi_2_11, pf_2_11, gi_2_12, pf_2_12, gi_2_13, pf_2_13, gi_2_14, pf_2_14, io_11, gr_11_0, gr_11_1, gr_11_2, io_15, gr_15_0, gr_15_1, gi_15_2, pf_15_2, gi_15_3, pf_15_3, gi_15_4, pf_15_4, gi_15_5, pf_15_5, io_18, gr_18_0, gr_18_1, gi_18_2, pf_18_2, io_21, gr_21_0, gr_21_1, gr_21_2, gr_21_3, gi_21_4, pf_21_4, gi_21_5, pf_21_5, gi_21_6, pf_21_6, gi_21_7, pf_21_7, io_34, gr_34_0, gi_34_1, pf_34_1, al_3, al_4, al_5, al_6, al_7, al_8, al_9, al_10, al_12, al_13, al_14, al_16, al_17, al_19, al_20, al_22, al_23, al_24, al_26, al_27, al_28, al_29, al_30, al_31, al_32, al_33, al_35, ↓reduceIte, Option.bind_some, cI_some, cL_some, cV_some, rz_0, rz_1, e17, n_lt (show k < 2147483648 by omega) (show L < 2147483648 by omega), cb, s16, nI_1]
    rw [if_pos (by omega)]
    exact c3
/-- the class's way -/
theorem c_find (hf : 1000 ≤ fu) (r : RR σ A I) (hd : d ≤ 9) : ∃ A1 I1, Fr A I A1 I1 ∧
    (((∀ L, ¬ Wk (σ 0 0) (S0 σ) (E0 σ) d (σ 0 0 + 1) L 0) ∧ U_X6_find fu [.ref 15, .ref 2, .int (nI d)] (enc A I) = some (some (.int (-9)), enc A1 I1)) ∨
     ∃ L, L ≤ 8 ∧ Mn0 σ d 0 L ∧ (∀ j, j < L → ∃ b, Pth0 σ d L (j + 1) b ∧ rd (A1 16) j = nI b - 1) ∧ U_X6_find fu [.ref 15, .ref 2, .int (nI d)] (enc A I) = some (some (.int (nI L)), enc A1 I1)) := by
  have hn := r.n7
  have l17 : (A 17).length = 9 := r.len rfl
  have r1 : RR σ A (uI (uI I 15 5 (nI d)) 15 4 (nI (σ 0 0 + 1))) := ((Fr.int (o := 15) (j := 4) (Fr.int (o := 15) (j := 5) (Fr.rf A I) rfl) rfl)).R r
  have dr := c_dry (fu := fu) hf r1 (show σ 0 2 ≤ 9 from r.1.2.2.2.1)
  have eS := stops_eq r
  have r2 : RR σ A (uI (uI (uI I 15 5 (nI d)) 15 4 (nI (σ 0 0 + 1))) 15 2 (nI (bits (S0 σ) (σ 0 0 + 2)))) := ((Fr.int (o := 15) (j := 2) (Fr.rf A _) rfl)).R r1
  have ok := c_ofKind (fu := fu) hf r2 (show 2 ≤ 2 by omega)
  rw [show nI 2 = (2 : Int32) from rfl] at ok
  obtain ⟨J, hJ⟩ : ∃ J, J = uI (uI (uI (uI I 15 5 (nI d)) 15 4 (nI (σ 0 0 + 1))) 15 2 (nI (bits (S0 σ) (σ 0 0 + 2)))) 15 3 (nI (bits (kndB σ 2) (σ 0 0)) <<< ((1 : Int32) &&& 31)) := ⟨_, rfl⟩
  have hFJ : Fr A I A J := by rw [hJ]; exact Fr.int (o := 15) (j := 3) (Fr.int (o := 15) (j := 2) (Fr.int (o := 15) (j := 4) (Fr.int (o := 15) (j := 5) (Fr.rf A I) rfl) rfl) rfl) rfl
  have w : WI σ d J := by rw [hJ]; exact ⟨rfl, rfl, rfl, rfl⟩
  have l1 : σ 0 0 + 1 < (A 17).length := by omega
  have s17 := si_17 A J (0 : Int32) l1 (show σ 0 0 + 1 < 2147483648 by omega)
  have hF1 : Fr A I (uA A 17 ((A 17).set (σ 0 0 + 1) 0)) J := hFJ.arr rfl (by rw [List.length_set])
  obtain ⟨N, hN⟩ : ∃ N, fu = N + (σ 0 0 + 1 + 1) := ⟨fu - (σ 0 0 + 2), by omega⟩
  obtain ⟨xs, f, b1, b2, b3⟩ := c_left hf w hd (σ 0 0 + 1) (uA A 17 ((A 17).set (σ 0 0 + 1) 0)) (fun _ => 0) (hF1.R r) (Nat.le_refl _) (fun t z1 z2 => by
    have e : t = σ 0 0 + 1 := by omega
    rw [e, uA_s, rd_set _ _ l1, if_pos rfl]
    exact ⟨rfl, Or.inr ⟨Nat.zero_le _, Mn.end0⟩⟩) N
  rw [← hN, uA_uA] at b3
  have hF2 : Fr A I (uA A 17 xs) J := hFJ.arr rfl (by rw [b1, l17])
  have pre : U_X6_find fu [.ref 15, .ref 2, .int (nI d)] (enc A I) = (F_X6_find fu fu).1 15 (nI (σ 0 0 + 1) - 1) (enc (uA A 17 ((A 17).set (σ 0 0 + 1) 0)) J) := by
    have q1 : ∀ x, uI I 15 5 x 2 8 = nI (σ 0 0) := fun x => r.i2_8
    have q2 : ∀ x y, uI (uI I 15 5 x) 15 4 y 2 11 = nI (σ 0 2) := fun x y => r.i2_11
    have q3 : ∀ x y, uI (uI I 15 5 x) 15 4 y 15 4 = y := fun x y => rfl
    have q4 : ∀ x y, uI (uI (uI (uI I 15 5 (nI d)) 15 4 (nI (σ 0 0 + 1))) 15 2 x) 15 3 y 15 4 = nI (σ 0 0 + 1) := fun x y => rfl
    have q5 : J 15 4 = nI (σ 0 0 + 1) := w.2.2.1
    simp -implicitDefEqProofs only [u_X6_find, M_X6_find, io_1, gr_1_0, gr_1_1, gr_1_2, gr_1_3, gr_1_4, gr_1_5, gi_1_6, pf_1_6, gi_1_7, pf_1_7, io_2, gr_2_0, gr_2_1, gr_2_2, gr_2_3, gr_2_4, gr_2_5, gr_2_6, gr_2_7, gi_2_8, pf_2_8, gi_2_9, pf_2_9, gi_2_10, pf_2_10, gi_2_11, pf_2_11, gi_2_12, pf_2_12, gi_2_13, pf_2_13, gi_2_14, pf_2_14, io_11, gr_11_0, gr_11_1, gr_11_2, io_15, gr_15_0, gr_15_1, gi_15_2, pf_15_2, gi_15_3, pf_15_3, gi_15_4, pf_15_4, gi_15_5, pf_15_5, io_18, gr_18_0, gr_18_1, gi_18_2, pf_18_2, io_21, gr_21_0, gr_21_1, gr_21_2, gr_21_3, gi_21_4, pf_21_4, gi_21_5, pf_21_5, gi_21_6, pf_21_6, gi_21_7, pf_21_7, io_34, gr_34_0, gi_34_1, pf_34_1, al_3, al_4, al_5, al_6, al_7, al_8, al_9, al_10, al_12, al_13, al_14, al_16, al_17, al_19, al_20, al_22, al_23, al_24, al_26, al_27, al_28, al_29, al_30, al_31, al_32, al_33, al_35, ↓reduceIte, Option.bind_some, cI_some, cL_some, cV_some, rz_0, rz_1, q1, q2, q3, nI_1, dr, eS, ok, q4, ← hJ, q5, s17]
  obtain ⟨v1, v2⟩ := b2 0 (by omega)
  rcases v2 with ⟨y1, y2⟩ | ⟨y1, y2⟩
  · rw [if_neg (by omega)] at b3
    exact ⟨_, J, hF2, Or.inl ⟨y2, pre.trans b3⟩⟩
  · rw [if_pos (by omega)] at b3
    obtain ⟨ys, c1, c2, c3⟩ := c_places hf w hd y1 rfl (f 0) 0 0 N (uA A 17 xs) (hF2.R r) (by rw [uA_s]; exact b2) (by omega) (by omega) rfl (by rw [Nat.sub_zero]; exact y2) (fun j hj => by omega)
    refine ⟨_, J, hF2.arr (k := 16) (xs := ys) rfl (by rw [c1, uA_n _ _ _ (by decide)]; exact (r.len (k := 16) rfl).symm), Or.inr ⟨f 0, y1, y2, ?_, pre.trans (b3.trans c3)⟩⟩
    rw [uA_s]
    exact c2
end WC2
end
section
/-! ===== what the class answers, call by call ===== -/
section K1
variable {σ : SG} {A : Nat → List Int32} {I : Nat → Nat → Int32} {fu : Nat}
theorem k10 : ¬ (1 : Int32) = 0 := by decide
theorem k_stride (r : RR σ A I) {j : Nat} (hj : j < σ 0 4) : U_X7_stride fu [.ref 1, .int (nI j)] (enc A I) = some (some (.int (nI (σ 10 j))), enc A I) := by
  have hk := r.k6
  simp only [u_X7_stride, M_X7_stride, c_isWalker, io_1, gr_1_0, gr_1_1, gr_1_2, gr_1_3, gr_1_4, gr_1_5, gi_1_6, pf_1_6, gi_1_7, pf_1_7, io_2, gr_2_0, gr_2_1, gr_2_2, gr_2_3, gr_2_4, gr_2_5, gr_2_6, gr_2_7, gi_2_8, pf_2_8, gi_2_9, pf_2_9, gi_2_10, pf_2_10, gi_2_11, pf_2_11, gi_2_12, pf_2_12, gi_2_13, pf_2_13, gi_2_14, pf_2_14, io_11, gr_11_0, gr_11_1, gr_11_2, io_15, gr_15_0, gr_15_1, gi_15_2, pf_15_2, gi_15_3, pf_15_3, gi_15_4, pf_15_4, gi_15_5, pf_15_5, io_18, gr_18_0, gr_18_1, gi_18_2, pf_18_2, io_21, gr_21_0, gr_21_1, gr_21_2, gr_21_3, gi_21_4, pf_21_4, gi_21_5, pf_21_5, gi_21_6, pf_21_6, gi_21_7, pf_21_7, io_34, gr_34_0, gi_34_1, pf_34_1, al_3, al_4, al_5, al_6, al_7, al_8, al_9, al_10, al_12, al_13, al_14, al_16, al_17, al_19, al_20, al_22, al_23, al_24, al_26, al_27, al_28, al_29, al_30, al_31, al_32, al_33, al_35, ↓reduceIte, Option.bind_some, cI_some, cL_some, cV_some, rz_0, rz_1, r.i2_14, bI_t (n_win hj (by omega)), r.a10 hj, if_neg k10]
theorem k_strideN (r : RR σ A I) {x : Int32} (h : ¬ (0 ≤ x ∧ x < nI (σ 0 4))) : U_X7_stride fu [.ref 1, .int x] (enc A I) = some (some (.int (-1)), enc A I) := by
  simp only [u_X7_stride, M_X7_stride, c_isWalker, io_1, gr_1_0, gr_1_1, gr_1_2, gr_1_3, gr_1_4, gr_1_5, gi_1_6, pf_1_6, gi_1_7, pf_1_7, io_2, gr_2_0, gr_2_1, gr_2_2, gr_2_3, gr_2_4, gr_2_5, gr_2_6, gr_2_7, gi_2_8, pf_2_8, gi_2_9, pf_2_9, gi_2_10, pf_2_10, gi_2_11, pf_2_11, gi_2_12, pf_2_12, gi_2_13, pf_2_13, gi_2_14, pf_2_14, io_11, gr_11_0, gr_11_1, gr_11_2, io_15, gr_15_0, gr_15_1, gi_15_2, pf_15_2, gi_15_3, pf_15_3, gi_15_4, pf_15_4, gi_15_5, pf_15_5, io_18, gr_18_0, gr_18_1, gi_18_2, pf_18_2, io_21, gr_21_0, gr_21_1, gr_21_2, gr_21_3, gi_21_4, pf_21_4, gi_21_5, pf_21_5, gi_21_6, pf_21_6, gi_21_7, pf_21_7, io_34, gr_34_0, gi_34_1, pf_34_1, al_3, al_4, al_5, al_6, al_7, al_8, al_9, al_10, al_12, al_13, al_14, al_16, al_17, al_19, al_20, al_22, al_23, al_24, al_26, al_27, al_28, al_29, al_30, al_31, al_32, al_33, al_35, ↓reduceIte, Option.bind_some, cI_some, cL_some, cV_some, rz_0, rz_1, r.i2_14, bI_f h]
theorem k_ofStone5 (hf : 1000 ≤ fu) (r : RR σ A I) {s : Nat} (hs : s < σ 0 3) : U_X7_ofStone fu [.ref 1, .int (nI s), .int 5] (enc A I) = some (some (.int (pl (σ 8 s))), enc A I) := by
  have hk := r.m6
  have hb := bits_lt (fun s => σ 8 s == 100) (σ 0 3)
  have hb2 : 2 ^ σ 0 3 ≤ 64 := Nat.pow_le_pow_right (by omega) hk
  simp only [u_X7_ofStone, M_X7_ofStone, c_isStone, io_1, gr_1_0, gr_1_1, gr_1_2, gr_1_3, gr_1_4, gr_1_5, gi_1_6, pf_1_6, gi_1_7, pf_1_7, io_2, gr_2_0, gr_2_1, gr_2_2, gr_2_3, gr_2_4, gr_2_5, gr_2_6, gr_2_7, gi_2_8, pf_2_8, gi_2_9, pf_2_9, gi_2_10, pf_2_10, gi_2_11, pf_2_11, gi_2_12, pf_2_12, gi_2_13, pf_2_13, gi_2_14, pf_2_14, io_11, gr_11_0, gr_11_1, gr_11_2, io_15, gr_15_0, gr_15_1, gi_15_2, pf_15_2, gi_15_3, pf_15_3, gi_15_4, pf_15_4, gi_15_5, pf_15_5, io_18, gr_18_0, gr_18_1, gi_18_2, pf_18_2, io_21, gr_21_0, gr_21_1, gr_21_2, gr_21_3, gi_21_4, pf_21_4, gi_21_5, pf_21_5, gi_21_6, pf_21_6, gi_21_7, pf_21_7, io_34, gr_34_0, gi_34_1, pf_34_1, al_3, al_4, al_5, al_6, al_7, al_8, al_9, al_10, al_12, al_13, al_14, al_16, al_17, al_19, al_20, al_22, al_23, al_24, al_26, al_27, al_28, al_29, al_30, al_31, al_32, al_33, al_35, ↓reduceIte, Option.bind_some, cI_some, cL_some, cV_some, rz_0, rz_1, r.i2_12, bI_t (n_win hs (by omega)), if_neg k10, r.a6 hs, r.a7 hs, r.a8 hs, r.a9 hs, c_holdOf r hs, r.i2_13, c_hasn _ (show bits (fun s => σ 8 s == 100) (σ 0 3) < 2147483648 by omega) (show s < 31 by omega), c_cellOf hf r hs, bits_test, hs, decide_true, Bool.true_and]
  rw [if_neg (by decide), if_neg (by decide), if_neg (by decide), if_neg (by decide), if_neg (by decide)]
  by_cases h : σ 8 s = 100
  · simp [h, bI, pl]
  · simp [h, bI]
theorem k_ofCell2 (r : RR σ A I) {c : Nat} (hc : c < σ 0 0) : U_X7_ofCell fu [.ref 1, .int (nI c), .int 2] (enc A I) = some (some (.int (ro (σ 7 c))), enc A I) := by
  have hn := r.n7
  simp only [u_X7_ofCell, M_X7_ofCell, c_isCell, io_1, gr_1_0, gr_1_1, gr_1_2, gr_1_3, gr_1_4, gr_1_5, gi_1_6, pf_1_6, gi_1_7, pf_1_7, io_2, gr_2_0, gr_2_1, gr_2_2, gr_2_3, gr_2_4, gr_2_5, gr_2_6, gr_2_7, gi_2_8, pf_2_8, gi_2_9, pf_2_9, gi_2_10, pf_2_10, gi_2_11, pf_2_11, gi_2_12, pf_2_12, gi_2_13, pf_2_13, gi_2_14, pf_2_14, io_11, gr_11_0, gr_11_1, gr_11_2, io_15, gr_15_0, gr_15_1, gi_15_2, pf_15_2, gi_15_3, pf_15_3, gi_15_4, pf_15_4, gi_15_5, pf_15_5, io_18, gr_18_0, gr_18_1, gi_18_2, pf_18_2, io_21, gr_21_0, gr_21_1, gr_21_2, gr_21_3, gi_21_4, pf_21_4, gi_21_5, pf_21_5, gi_21_6, pf_21_6, gi_21_7, pf_21_7, io_34, gr_34_0, gi_34_1, pf_34_1, al_3, al_4, al_5, al_6, al_7, al_8, al_9, al_10, al_12, al_13, al_14, al_16, al_17, al_19, al_20, al_22, al_23, al_24, al_26, al_27, al_28, al_29, al_30, al_31, al_32, al_33, al_35, ↓reduceIte, Option.bind_some, cI_some, cL_some, cV_some, rz_0, rz_1, r.i2_8, bI_t (n_win hc (by omega)), if_neg k10, r.a5 hc]
  rw [if_neg (by decide), if_neg (by decide)]
theorem k_ofCell4 (r : RR σ A I) {c : Nat} (hc : c < σ 0 0) : U_X7_ofCell fu [.ref 1, .int (nI c), .int 4] (enc A I) = some (some (.int (if σ 7 c = 0 then -99 else topI σ (σ 7 c - 1) c (nI (σ 0 2)))), enc A I) := by
  have hn := r.n7
  have h6 := r.row_lt hc
  simp only [u_X7_ofCell, M_X7_ofCell, c_isCell, io_1, gr_1_0, gr_1_1, gr_1_2, gr_1_3, gr_1_4, gr_1_5, gi_1_6, pf_1_6, gi_1_7, pf_1_7, io_2, gr_2_0, gr_2_1, gr_2_2, gr_2_3, gr_2_4, gr_2_5, gr_2_6, gr_2_7, gi_2_8, pf_2_8, gi_2_9, pf_2_9, gi_2_10, pf_2_10, gi_2_11, pf_2_11, gi_2_12, pf_2_12, gi_2_13, pf_2_13, gi_2_14, pf_2_14, io_11, gr_11_0, gr_11_1, gr_11_2, io_15, gr_15_0, gr_15_1, gi_15_2, pf_15_2, gi_15_3, pf_15_3, gi_15_4, pf_15_4, gi_15_5, pf_15_5, io_18, gr_18_0, gr_18_1, gi_18_2, pf_18_2, io_21, gr_21_0, gr_21_1, gr_21_2, gr_21_3, gi_21_4, pf_21_4, gi_21_5, pf_21_5, gi_21_6, pf_21_6, gi_21_7, pf_21_7, io_34, gr_34_0, gi_34_1, pf_34_1, al_3, al_4, al_5, al_6, al_7, al_8, al_9, al_10, al_12, al_13, al_14, al_16, al_17, al_19, al_20, al_22, al_23, al_24, al_26, al_27, al_28, al_29, al_30, al_31, al_32, al_33, al_35, ↓reduceIte, Option.bind_some, cI_some, cL_some, cV_some, rz_0, rz_1, r.i2_8, bI_t (n_win hc (by omega)), if_neg k10, r.a5 hc, r.i2_11, ro_9 (show σ 7 c < 2147483648 by omega)]
  rw [if_neg (by decide), if_neg (by decide), if_neg (by decide), if_neg (by decide)]
  cases hk : σ 7 c with
  | zero => rfl
  | succ s =>
    have hs := (r.row hc hk).1
    simp only [ro_s, c_topOf r hs hc, io_1, gr_1_0, gr_1_1, gr_1_2, gr_1_3, gr_1_4, gr_1_5, gi_1_6, pf_1_6, gi_1_7, pf_1_7, io_2, gr_2_0, gr_2_1, gr_2_2, gr_2_3, gr_2_4, gr_2_5, gr_2_6, gr_2_7, gi_2_8, pf_2_8, gi_2_9, pf_2_9, gi_2_10, pf_2_10, gi_2_11, pf_2_11, gi_2_12, pf_2_12, gi_2_13, pf_2_13, gi_2_14, pf_2_14, io_11, gr_11_0, gr_11_1, gr_11_2, io_15, gr_15_0, gr_15_1, gi_15_2, pf_15_2, gi_15_3, pf_15_3, gi_15_4, pf_15_4, gi_15_5, pf_15_5, io_18, gr_18_0, gr_18_1, gi_18_2, pf_18_2, io_21, gr_21_0, gr_21_1, gr_21_2, gr_21_3, gi_21_4, pf_21_4, gi_21_5, pf_21_5, gi_21_6, pf_21_6, gi_21_7, pf_21_7, io_34, gr_34_0, gi_34_1, pf_34_1, al_3, al_4, al_5, al_6, al_7, al_8, al_9, al_10, al_12, al_13, al_14, al_16, al_17, al_19, al_20, al_22, al_23, al_24, al_26, al_27, al_28, al_29, al_30, al_31, al_32, al_33, al_35, ↓reduceIte, Option.bind_some, cI_some, cL_some, cV_some, rz_0, rz_1, Nat.add_one_ne_zero, if_false, Nat.add_sub_cancel]
theorem k_water (r : RR σ A I) (h0 : σ 0 0 ≠ 0) {j : Nat} (hj : j ≤ 9) : U_X7_water fu [.ref 1, .int (nI j)] (enc A I) = some (some (.int (nI (σ 0 2))), enc A (uI I 2 11 (nI j))) ∧ RR (uN σ 0 2 j) A (uI I 2 11 (nI j)) := by
  have hn := r.n7
  have hin : (0 : Int32) ≤ nI j ∧ nI j ≤ 9 := n_rin (Nat.zero_le j) hj (by decide)
  have hp : (0 : Int32) < nI (σ 0 0) := by rw [nI_0lt (by omega)]; omega
  refine ⟨?_, ?_⟩
  · simp only [u_X7_water, M_X7_water, c_within, c_isThere, io_1, gr_1_0, gr_1_1, gr_1_2, gr_1_3, gr_1_4, gr_1_5, gi_1_6, pf_1_6, gi_1_7, pf_1_7, io_2, gr_2_0, gr_2_1, gr_2_2, gr_2_3, gr_2_4, gr_2_5, gr_2_6, gr_2_7, gi_2_8, pf_2_8, gi_2_9, pf_2_9, gi_2_10, pf_2_10, gi_2_11, pf_2_11, gi_2_12, pf_2_12, gi_2_13, pf_2_13, gi_2_14, pf_2_14, io_11, gr_11_0, gr_11_1, gr_11_2, io_15, gr_15_0, gr_15_1, gi_15_2, pf_15_2, gi_15_3, pf_15_3, gi_15_4, pf_15_4, gi_15_5, pf_15_5, io_18, gr_18_0, gr_18_1, gi_18_2, pf_18_2, io_21, gr_21_0, gr_21_1, gr_21_2, gr_21_3, gi_21_4, pf_21_4, gi_21_5, pf_21_5, gi_21_6, pf_21_6, gi_21_7, pf_21_7, io_34, gr_34_0, gi_34_1, pf_34_1, al_3, al_4, al_5, al_6, al_7, al_8, al_9, al_10, al_12, al_13, al_14, al_16, al_17, al_19, al_20, al_22, al_23, al_24, al_26, al_27, al_28, al_29, al_30, al_31, al_32, al_33, al_35, ↓reduceIte, Option.bind_some, cI_some, cL_some, cV_some, rz_0, rz_1, bI_t hin, if_neg k10, r.i2_8, bI_t hp, r.i2_11]
  · obtain ⟨⟨w1, w2, w3, w4, w5⟩, r2, ⟨⟨c1, c2, c3, c4, c5⟩, c6⟩, r5⟩ := r
    exact ⟨⟨w1, w2, w3, hj, w5⟩, r2, ⟨⟨c1, c2, c3, rfl, c5⟩, c6⟩, r5⟩
theorem k_waterN {x : Int32} (h : ¬ ((0 : Int32) ≤ x ∧ x ≤ 9)) : U_X7_water fu [.ref 1, .int x] (enc A I) = some (some (.int (-2)), enc A I) := by
  simp only [u_X7_water, M_X7_water, c_within, io_1, gr_1_0, gr_1_1, gr_1_2, gr_1_3, gr_1_4, gr_1_5, gi_1_6, pf_1_6, gi_1_7, pf_1_7, io_2, gr_2_0, gr_2_1, gr_2_2, gr_2_3, gr_2_4, gr_2_5, gr_2_6, gr_2_7, gi_2_8, pf_2_8, gi_2_9, pf_2_9, gi_2_10, pf_2_10, gi_2_11, pf_2_11, gi_2_12, pf_2_12, gi_2_13, pf_2_13, gi_2_14, pf_2_14, io_11, gr_11_0, gr_11_1, gr_11_2, io_15, gr_15_0, gr_15_1, gi_15_2, pf_15_2, gi_15_3, pf_15_3, gi_15_4, pf_15_4, gi_15_5, pf_15_5, io_18, gr_18_0, gr_18_1, gi_18_2, pf_18_2, io_21, gr_21_0, gr_21_1, gr_21_2, gr_21_3, gi_21_4, pf_21_4, gi_21_5, pf_21_5, gi_21_6, pf_21_6, gi_21_7, pf_21_7, io_34, gr_34_0, gi_34_1, pf_34_1, al_3, al_4, al_5, al_6, al_7, al_8, al_9, al_10, al_12, al_13, al_14, al_16, al_17, al_19, al_20, al_22, al_23, al_24, al_26, al_27, al_28, al_29, al_30, al_31, al_32, al_33, al_35, ↓reduceIte, Option.bind_some, cI_some, cL_some, cV_some, rz_0, rz_1, bI_f h]
theorem k_walker (r : RR σ A I) (h0 : σ 0 0 ≠ 0) {j : Nat} (hj1 : 1 ≤ j) (hj : j ≤ 9) (hk6 : σ 0 4 < 6) :
    U_X7_walker fu [.ref 1, .int (nI j)] (enc A I) = some (some (.int (nI (σ 0 4))), enc (uA A 10 ((A 10).set (σ 0 4) (nI j))) (uI I 2 14 (nI (σ 0 4 + 1)))) ∧ RR (uN (uN σ 0 4 (σ 0 4 + 1)) 10 (σ 0 4) j) (uA A 10 ((A 10).set (σ 0 4) (nI j))) (uI I 2 14 (nI (σ 0 4 + 1))) := by
  have hn := r.n7
  have hin : (1 : Int32) ≤ nI j ∧ nI j ≤ 9 := n_rin hj1 hj (by decide)
  have hp : (0 : Int32) < nI (σ 0 0) := by rw [nI_0lt (by omega)]; omega
  have hlt : nI (σ 0 4) < 6 := nI_lt hk6 (by decide)
  have l10 : σ 0 4 < (A 10).length := by rw [r.len rfl]; exact hk6
  refine ⟨?_, ?_⟩
  · have e : sI (enc A I) 10 (nI (σ 0 4)) (nI j) = some (enc (uA A 10 ((A 10).set (σ 0 4) (nI j))) I) := si_10 A I _ l10 (by omega)
    simp only [u_X7_walker, M_X7_walker, c_within, c_isThere, u_X0_addWalker, M_X0_addWalker, io_1, gr_1_0, gr_1_1, gr_1_2, gr_1_3, gr_1_4, gr_1_5, gi_1_6, pf_1_6, gi_1_7, pf_1_7, io_2, gr_2_0, gr_2_1, gr_2_2, gr_2_3, gr_2_4, gr_2_5, gr_2_6, gr_2_7, gi_2_8, pf_2_8, gi_2_9, pf_2_9, gi_2_10, pf_2_10, gi_2_11, pf_2_11, gi_2_12, pf_2_12, gi_2_13, pf_2_13, gi_2_14, pf_2_14, io_11, gr_11_0, gr_11_1, gr_11_2, io_15, gr_15_0, gr_15_1, gi_15_2, pf_15_2, gi_15_3, pf_15_3, gi_15_4, pf_15_4, gi_15_5, pf_15_5, io_18, gr_18_0, gr_18_1, gi_18_2, pf_18_2, io_21, gr_21_0, gr_21_1, gr_21_2, gr_21_3, gi_21_4, pf_21_4, gi_21_5, pf_21_5, gi_21_6, pf_21_6, gi_21_7, pf_21_7, io_34, gr_34_0, gi_34_1, pf_34_1, al_3, al_4, al_5, al_6, al_7, al_8, al_9, al_10, al_12, al_13, al_14, al_16, al_17, al_19, al_20, al_22, al_23, al_24, al_26, al_27, al_28, al_29, al_30, al_31, al_32, al_33, al_35, ↓reduceIte, Option.bind_some, cI_some, cL_some, cV_some, rz_0, rz_1, bI_t hin, if_neg k10, r.i2_8, bI_t hp, r.i2_14, if_pos hlt, e, nI_1, uI_s, nI_pred]
  · obtain ⟨⟨w1, w2, w3, w4, w5, w6, w7, w8, w9, w10, w11⟩, r2, ⟨⟨c1, c2, c3, c4, c5, c6, c7⟩, c8, c9, c10⟩, r5⟩ := r
    have hu : ∀ i, uN (uN σ 0 4 (σ 0 4 + 1)) 10 (σ 0 4) j 10 i = if i = σ 0 4 then j else σ 10 i := fun i => by simp [uN]
    have hlt1 : ∀ i, i < σ 0 4 + 1 → ¬ i = σ 0 4 → i < σ 0 4 := fun i h1 h2 => by omega
    refine ⟨⟨w1, w2, w3, w4, w5, hk6, fun q => absurd q (show ¬ σ 0 0 = 0 by omega), w8, w9, fun i hi => ?_, w11⟩, r2.set (by simp), ⟨⟨c1, c2, c3, c4, c5, c6, rfl⟩, c8, c9, fun i hi => ?_⟩, r5⟩
    · rw [hu]; split
      · exact ⟨hj1, hj⟩
      · next hne => exact w10 i (hlt1 i hi hne)
    · show rd ((A 10).set (σ 0 4) (nI j)) i = nI _
      rw [hu, rd_set _ _ l10]; split
      · rfl
      · next hne => exact c10 i (hlt1 i hi hne)
theorem k_walkerN {x : Int32} (h : ¬ ((1 : Int32) ≤ x ∧ x ≤ 9)) : U_X7_walker fu [.ref 1, .int x] (enc A I) = some (some (.int (-2)), enc A I) := by
  simp only [u_X7_walker, M_X7_walker, c_within, io_1, gr_1_0, gr_1_1, gr_1_2, gr_1_3, gr_1_4, gr_1_5, gi_1_6, pf_1_6, gi_1_7, pf_1_7, io_2, gr_2_0, gr_2_1, gr_2_2, gr_2_3, gr_2_4, gr_2_5, gr_2_6, gr_2_7, gi_2_8, pf_2_8, gi_2_9, pf_2_9, gi_2_10, pf_2_10, gi_2_11, pf_2_11, gi_2_12, pf_2_12, gi_2_13, pf_2_13, gi_2_14, pf_2_14, io_11, gr_11_0, gr_11_1, gr_11_2, io_15, gr_15_0, gr_15_1, gi_15_2, pf_15_2, gi_15_3, pf_15_3, gi_15_4, pf_15_4, gi_15_5, pf_15_5, io_18, gr_18_0, gr_18_1, gi_18_2, pf_18_2, io_21, gr_21_0, gr_21_1, gr_21_2, gr_21_3, gi_21_4, pf_21_4, gi_21_5, pf_21_5, gi_21_6, pf_21_6, gi_21_7, pf_21_7, io_34, gr_34_0, gi_34_1, pf_34_1, al_3, al_4, al_5, al_6, al_7, al_8, al_9, al_10, al_12, al_13, al_14, al_16, al_17, al_19, al_20, al_22, al_23, al_24, al_26, al_27, al_28, al_29, al_30, al_31, al_32, al_33, al_35, ↓reduceIte, Option.bind_some, cI_some, cL_some, cV_some, rz_0, rz_1, bI_f h]
theorem k_stone (r : RR σ A I) (h0 : σ 0 0 ≠ 0) {a b c d : Nat} (ha : a ≤ 2) (hb1 : 1 ≤ b) (hb : b ≤ 20) (hc1 : 1 ≤ c) (hc : c ≤ 9) (hd : d ≤ 9) (hk6 : σ 0 3 < 6) :
    ∃ A1, U_X7_stone fu [.ref 1, .int (nI a), .int (nI b), .int (nI c), .int (nI d)] (enc A I) = some (some (.int (nI (σ 0 3))), enc A1 (uI I 2 12 (nI (σ 0 3 + 1)))) ∧ RR (addS σ a b c d) A1 (uI I 2 12 (nI (σ 0 3 + 1))) ∧ ∀ k, k ≠ 6 → k ≠ 7 → k ≠ 8 → k ≠ 9 → A1 k = A k := by
  have hn := r.n7
  have hi1 : (0 : Int32) ≤ nI a ∧ nI a ≤ 2 := n_rin (Nat.zero_le a) ha (by decide)
  have hi2 : (1 : Int32) ≤ nI b ∧ nI b ≤ 20 := n_rin hb1 hb (by decide)
  have hi3 : (1 : Int32) ≤ nI c ∧ nI c ≤ 9 := n_rin hc1 hc (by decide)
  have hi4 : (0 : Int32) ≤ nI d ∧ nI d ≤ 9 := n_rin (Nat.zero_le d) hd (by decide)
  have hp : (0 : Int32) < nI (σ 0 0) := by rw [nI_0lt (by omega)]; omega
  have hlt : nI (σ 0 3) < 6 := nI_lt hk6 (by decide)
  have L : ∀ k, isArr k = true → lenT k = 6 → σ 0 3 < (A k).length := fun k h1 h2 => by rw [r.len h1, h2]; exact hk6
  have hM : σ 0 3 < 2147483648 := by omega
  obtain ⟨A1, hA1⟩ : ∃ B, B = uA (uA (uA (uA A 6 ((A 6).set (σ 0 3) (nI a))) 7 ((A 7).set (σ 0 3) (nI b))) 8 ((A 8).set (σ 0 3) (nI c))) 9 ((A 9).set (σ 0 3) (nI d)) := ⟨_, rfl⟩
  refine ⟨A1, ?_, ?_, fun k h6 h7 h8 h9 => by rw [hA1, uA_n _ _ _ h9, uA_n _ _ _ h8, uA_n _ _ _ h7, uA_n _ _ _ h6]⟩
  · have e6 := si_6 A I (nI a) (L 6 rfl rfl) hM
    have e7' : sI (enc (uA A 6 ((A 6).set (σ 0 3) (nI a))) I) 7 (nI (σ 0 3)) (nI b) = some (enc (uA (uA A 6 ((A 6).set (σ 0 3) (nI a))) 7 ((A 7).set (σ 0 3) (nI b))) I) := si_7 (uA A 6 ((A 6).set (σ 0 3) (nI a))) I (nI b) (L 7 rfl rfl) hM
    have e8' : sI (enc (uA (uA A 6 ((A 6).set (σ 0 3) (nI a))) 7 ((A 7).set (σ 0 3) (nI b))) I) 8 (nI (σ 0 3)) (nI c) = some (enc (uA (uA (uA A 6 ((A 6).set (σ 0 3) (nI a))) 7 ((A 7).set (σ 0 3) (nI b))) 8 ((A 8).set (σ 0 3) (nI c))) I) := si_8 (uA (uA A 6 ((A 6).set (σ 0 3) (nI a))) 7 ((A 7).set (σ 0 3) (nI b))) I (nI c) (L 8 rfl rfl) hM
    have e9' : sI (enc (uA (uA (uA A 6 ((A 6).set (σ 0 3) (nI a))) 7 ((A 7).set (σ 0 3) (nI b))) 8 ((A 8).set (σ 0 3) (nI c))) I) 9 (nI (σ 0 3)) (nI d) = some (enc A1 I) := by
      rw [hA1]
      exact si_9 (uA (uA (uA A 6 ((A 6).set (σ 0 3) (nI a))) 7 ((A 7).set (σ 0 3) (nI b))) 8 ((A 8).set (σ 0 3) (nI c))) I (nI d) (L 9 rfl rfl) hM
    simp only [u_X7_stone, M_X7_stone, c_within, c_isThere, u_X0_addStone, M_X0_addStone, io_1, gr_1_0, gr_1_1, gr_1_2, gr_1_3, gr_1_4, gr_1_5, gi_1_6, pf_1_6, gi_1_7, pf_1_7, io_2, gr_2_0, gr_2_1, gr_2_2, gr_2_3, gr_2_4, gr_2_5, gr_2_6, gr_2_7, gi_2_8, pf_2_8, gi_2_9, pf_2_9, gi_2_10, pf_2_10, gi_2_11, pf_2_11, gi_2_12, pf_2_12, gi_2_13, pf_2_13, gi_2_14, pf_2_14, io_11, gr_11_0, gr_11_1, gr_11_2, io_15, gr_15_0, gr_15_1, gi_15_2, pf_15_2, gi_15_3, pf_15_3, gi_15_4, pf_15_4, gi_15_5, pf_15_5, io_18, gr_18_0, gr_18_1, gi_18_2, pf_18_2, io_21, gr_21_0, gr_21_1, gr_21_2, gr_21_3, gi_21_4, pf_21_4, gi_21_5, pf_21_5, gi_21_6, pf_21_6, gi_21_7, pf_21_7, io_34, gr_34_0, gi_34_1, pf_34_1, al_3, al_4, al_5, al_6, al_7, al_8, al_9, al_10, al_12, al_13, al_14, al_16, al_17, al_19, al_20, al_22, al_23, al_24, al_26, al_27, al_28, al_29, al_30, al_31, al_32, al_33, al_35, ↓reduceIte, Option.bind_some, cI_some, cL_some, cV_some, rz_0, rz_1, bI_t hi1, bI_t hi2, bI_t hi3, bI_t hi4, if_neg k10, r.i2_8, bI_t hp, r.i2_12, if_pos hlt, e6, e7', e8', e9', nI_1, uI_s, nI_pred]
  · have hl6 := L 6 rfl rfl
    have hl7 := L 7 rfl rfl
    have hl8 := L 8 rfl rfl
    have hl9 := L 9 rfl rfl
    obtain ⟨⟨w1, w2, w3, w4, w5, w6, w7, w8, w9, w10, w11, w12⟩, r2, ⟨⟨c1, c2, c3, c4, c5, c6, c7⟩, c8, c9, c10⟩, r5⟩ := r
    have hlt1 : ∀ i, i < σ 0 3 + 1 → ¬ i = σ 0 3 → i < σ 0 3 := fun i h1 h2 => by omega
    have hu3 : ∀ i, addS σ a b c d 3 i = if i = σ 0 3 then a else σ 3 i := fun i => by simp [addS, uN]
    have hu4 : ∀ i, addS σ a b c d 4 i = if i = σ 0 3 then b else σ 4 i := fun i => by simp [addS, uN]
    have hu5 : ∀ i, addS σ a b c d 5 i = if i = σ 0 3 then c else σ 5 i := fun i => by simp [addS, uN]
    have hu6 : ∀ i, addS σ a b c d 6 i = if i = σ 0 3 then d else σ 6 i := fun i => by simp [addS, uN]
    have hu8 : ∀ i, addS σ a b c d 8 i = if i = σ 0 3 then 0 else σ 8 i := fun i => by simp [addS, uN]
    have hg : bits (fun s => addS σ a b c d 8 s == 100) (σ 0 3 + 1) = bits (fun s => σ 8 s == 100) (σ 0 3) := by
      rw [bits_S _ _ (by show (addS σ a b c d 8 (σ 0 3) == 100) = false; rw [hu8, if_pos rfl]; rfl)]
      exact bits_congr _ fun i hi => by rw [hu8, if_neg (by omega)]
    have hLEN : LEN A1 := by
      rw [hA1]
      refine LEN.set (LEN.set (LEN.set (LEN.set r2 ?_) ?_) ?_) ?_
      all_goals (first | exact List.length_set | (show (List.set _ _ _).length = _; rw [List.length_set]; rfl))
    refine ⟨⟨w1, w2, w3, w4, hk6, w6, fun q => absurd q (show ¬ σ 0 0 = 0 by omega), w8, fun i hi => ?_, w10, fun i hi s hs => ?_, fun i hi => ?_⟩, hLEN, ⟨⟨c1, c2, c3, c4, rfl, c6.trans (congrArg nI hg.symm), c7⟩, ?_, fun i hi => ?_, ?_⟩, ?_⟩
    · rw [hu3, hu4, hu5, hu6]
      split
      · exact ⟨ha, hb1, hb, hc1, hc, hd⟩
      · next hne => exact w9 i (hlt1 i hi hne)
    · have h1 := w11 i hi s hs
      refine ⟨Nat.lt_succ_of_lt h1.1, ?_⟩
      rw [hu8, if_neg (by have := h1.1; omega)]
      exact h1.2
    · rw [hu8]
      split
      · exact Or.inl rfl
      · next hne => exact w12 i (hlt1 i hi hne)
    · rw [hA1]; exact c8
    · rw [hA1]
      show rd ((A 6).set (σ 0 3) (nI a)) i = _ ∧ rd ((A 7).set (σ 0 3) (nI b)) i = _ ∧ rd ((A 8).set (σ 0 3) (nI c)) i = _ ∧ rd ((A 9).set (σ 0 3) (nI d)) i = _
      rw [hu3, hu4, hu5, hu6, rd_set _ _ hl6, rd_set _ _ hl7, rd_set _ _ hl8, rd_set _ _ hl9]
      by_cases q : i = σ 0 3
      · simp [q]
      · simp only [if_neg q]; exact c9 i (hlt1 i hi q)
    · rw [hA1]; exact c10
    · rw [hA1]; exact r5
theorem RR.setC (r : RR σ A I) {s k : Nat} (hs : s < σ 0 3) (hg : σ 8 s ≠ 100) (hk : k ≤ σ 0 0) (hk2 : ∀ c, k = c + 1 → σ 7 c = 0) {B : Nat → List Int32}
    (h1 : ∀ j, j ≠ 5 → B j = A j) (l5 : (B 5).length = 7) (h5 : ∀ i, i < σ 0 0 → rd (B 5) i = ro (setS σ s k 7 i)) : RR (setS σ s k) B I := by
  have hn := r.n7
  have hset : ∀ i, setS σ s k 7 i = if i + 1 = k then s + 1 else if σ 7 i = s + 1 then 0 else σ 7 i := fun i => by simp [setS]
  have hset8 : ∀ i, setS σ s k 8 i = if i = s then k else σ 8 i := fun i => by simp [setS]
  obtain ⟨⟨w1, w2, w3, w4, w5, w6, w7, w8, w9, w10, w11, w12⟩, r2, ⟨⟨c1, c2, c3, c4, c5, c6, c7⟩, c8, c9, c10⟩, r5⟩ := r
  have hgone : bits (fun i => setS σ s k 8 i == 100) (σ 0 3) = bits (fun i => σ 8 i == 100) (σ 0 3) := bits_congr _ fun i hi => by
    rw [hset8]
    by_cases q : i = s
    · rw [if_pos q, q]
      have e1 : (k == 100) = false := by simp; omega
      have e2 : (σ 8 s == 100) = false := by simp [hg]
      rw [e1, e2]
    · rw [if_neg q]
  refine ⟨⟨w1, w2, w3, w4, w5, w6, w7, w8, w9, w10, fun c hc t ht => ?_, fun t ht => ?_⟩, fun j hj => ?_, ⟨⟨c1, c2, c3, c4, c5, c6.trans (congrArg nI hgone.symm), c7⟩, fun c hc => ?_, fun t ht => ?_, fun t ht => ?_⟩, ?_⟩
  · rw [hset] at ht
    rw [hset8]
    by_cases q : c + 1 = k
    · rw [if_pos q] at ht
      have : t = s := by omega
      subst this
      exact ⟨hs, by rw [if_pos rfl]; exact q.symm⟩
    · rw [if_neg q] at ht
      by_cases q2 : σ 7 c = s + 1
      · rw [if_pos q2] at ht; omega
      · rw [if_neg q2] at ht
        have h := w11 c hc t ht
        exact ⟨h.1, by rw [if_neg (fun z => q2 (by rw [ht, z]))]; exact h.2⟩
  · rw [hset8]
    by_cases q : t = s
    · rw [if_pos q]
      cases k with
      | zero => exact Or.inl rfl
      | succ c => exact Or.inr (Or.inr ⟨c, hk, rfl, by rw [hset, if_pos rfl, q]⟩)
    · rw [if_neg q]
      rcases w12 t ht with h | h | ⟨c, a1, a2, a3⟩
      · exact Or.inl h
      · exact Or.inr (Or.inl h)
      · refine Or.inr (Or.inr ⟨c, a1, a2, ?_⟩)
        rw [hset, if_neg (fun z => by have := hk2 c z.symm; omega), if_neg (by omega)]
        exact a3
  · by_cases q5 : j = 5
    · subst q5; exact l5
    · rw [h1 j q5]; exact r2 j hj
  · rw [h1 3 (by decide), h1 4 (by decide)]
    exact ⟨(c8 c hc).1, (c8 c hc).2.1, h5 c hc⟩
  · rw [h1 6 (by decide), h1 7 (by decide), h1 8 (by decide), h1 9 (by decide)]
    exact c9 t ht
  · rw [h1 10 (by decide)]
    exact c10 t ht
  · unfold RS at *
    rw [h1 12 (by decide), h1 13 (by decide)]
    exact r5
/-- a stone set: k is 0 (taken up), or its cell and 1 -/
theorem k_set (hf : 1000 ≤ fu) (r : RR σ A I) {s k : Nat} (hs : s < σ 0 3) (hg : σ 8 s ≠ 100) (hk : k ≤ σ 0 0) :
    ((∀ c, k = c + 1 → σ 7 c = 0) → ∃ A1, U_X7_set fu [.ref 1, .int (nI s), .int (ro k)] (enc A I) = some (some (.int 1), enc A1 I) ∧ RR (setS σ s k) A1 I ∧ ∀ j, j ≠ 5 → A1 j = A j) ∧
    ((¬ ∀ c, k = c + 1 → σ 7 c = 0) → U_X7_set fu [.ref 1, .int (nI s), .int (ro k)] (enc A I) = some (some (.int (-3)), enc A I)) := by
  have hn := r.n7
  have hm := r.m6
  obtain ⟨n, rfl⟩ : ∃ k, fu = k + 1000 := ⟨fu - 1000, by omega⟩
  have hb := bits_lt (fun s => σ 8 s == 100) (σ 0 3)
  have hb2 : 2 ^ σ 0 3 ≤ 64 := Nat.pow_le_pow_right (by omega) hm
  have hgb : bI ((bits (fun s => σ 8 s == 100) (σ 0 3)).testBit s = true) = bI (σ 8 s = 100) := by
    rw [bits_test]
    by_cases q : σ 8 s = 100 <;> simp [hs, q, bI]
  have head : ∀ o, (F_X7_set (n + 1000) (n + 1000)).1 1 (nI s) (ro k) (enc A I) = o → U_X7_set (n + 1000) [.ref 1, .int (nI s), .int (ro k)] (enc A I) = o := by
    intro o h
    cases k with
    | zero =>
      simp only [u_X7_set, M_X7_set, c_isStone, io_1, gr_1_0, gr_1_1, gr_1_2, gr_1_3, gr_1_4, gr_1_5, gi_1_6, pf_1_6, gi_1_7, pf_1_7, io_2, gr_2_0, gr_2_1, gr_2_2, gr_2_3, gr_2_4, gr_2_5, gr_2_6, gr_2_7, gi_2_8, pf_2_8, gi_2_9, pf_2_9, gi_2_10, pf_2_10, gi_2_11, pf_2_11, gi_2_12, pf_2_12, gi_2_13, pf_2_13, gi_2_14, pf_2_14, io_11, gr_11_0, gr_11_1, gr_11_2, io_15, gr_15_0, gr_15_1, gi_15_2, pf_15_2, gi_15_3, pf_15_3, gi_15_4, pf_15_4, gi_15_5, pf_15_5, io_18, gr_18_0, gr_18_1, gi_18_2, pf_18_2, io_21, gr_21_0, gr_21_1, gr_21_2, gr_21_3, gi_21_4, pf_21_4, gi_21_5, pf_21_5, gi_21_6, pf_21_6, gi_21_7, pf_21_7, io_34, gr_34_0, gi_34_1, pf_34_1, al_3, al_4, al_5, al_6, al_7, al_8, al_9, al_10, al_12, al_13, al_14, al_16, al_17, al_19, al_20, al_22, al_23, al_24, al_26, al_27, al_28, al_29, al_30, al_31, al_32, al_33, al_35, ↓reduceIte, Option.bind_some, cI_some, cL_some, cV_some, rz_0, rz_1, r.i2_12, bI_t (n_win hs (show σ 0 3 < 2147483648 by omega)), if_neg k10, if_pos (show ro 0 = -9 from rfl)]
      exact h
    | succ c =>
      have hin : 0 ≤ nI c ∧ nI c < nI (σ 0 0) := n_win (by omega) (by omega)
      have hy9 : ¬ nI c = -9 := by rw [n_m9 (by omega)]; exact id
      have h : (F_X7_set (n + 1000) (n + 1000)).1 1 (nI s) (nI c) (enc A I) = o := h
      simp only [ro_s, u_X7_set, M_X7_set, c_isStone, c_isCell, io_1, gr_1_0, gr_1_1, gr_1_2, gr_1_3, gr_1_4, gr_1_5, gi_1_6, pf_1_6, gi_1_7, pf_1_7, io_2, gr_2_0, gr_2_1, gr_2_2, gr_2_3, gr_2_4, gr_2_5, gr_2_6, gr_2_7, gi_2_8, pf_2_8, gi_2_9, pf_2_9, gi_2_10, pf_2_10, gi_2_11, pf_2_11, gi_2_12, pf_2_12, gi_2_13, pf_2_13, gi_2_14, pf_2_14, io_11, gr_11_0, gr_11_1, gr_11_2, io_15, gr_15_0, gr_15_1, gi_15_2, pf_15_2, gi_15_3, pf_15_3, gi_15_4, pf_15_4, gi_15_5, pf_15_5, io_18, gr_18_0, gr_18_1, gi_18_2, pf_18_2, io_21, gr_21_0, gr_21_1, gr_21_2, gr_21_3, gi_21_4, pf_21_4, gi_21_5, pf_21_5, gi_21_6, pf_21_6, gi_21_7, pf_21_7, io_34, gr_34_0, gi_34_1, pf_34_1, al_3, al_4, al_5, al_6, al_7, al_8, al_9, al_10, al_12, al_13, al_14, al_16, al_17, al_19, al_20, al_22, al_23, al_24, al_26, al_27, al_28, al_29, al_30, al_31, al_32, al_33, al_35, ↓reduceIte, Option.bind_some, cI_some, cL_some, cV_some, rz_0, rz_1, r.i2_12, r.i2_8, bI_t hin, bI_t (n_win hs (show σ 0 3 < 2147483648 by omega)), if_neg k10, if_neg hy9]
      exact h
  refine ⟨fun hfree => ?_, fun hno => ?_⟩
  · obtain ⟨A1, a1, a2, a3, a4⟩ := c_set2 (fu := n + 1000) (by omega) r hs hg hk hfree rfl (n + 998)
    refine ⟨A1, head _ ?_, r.setC hs hg hk hfree a2 a3 a4, a2⟩
    show (F_X7_set (n + 1000) (n + 999 + 1)).1 1 (nI s) (ro k) (enc A I) = _
    rw [F_X7_set]
    simp only [io_1, gr_1_0, gr_1_1, gr_1_2, gr_1_3, gr_1_4, gr_1_5, gi_1_6, pf_1_6, gi_1_7, pf_1_7, io_2, gr_2_0, gr_2_1, gr_2_2, gr_2_3, gr_2_4, gr_2_5, gr_2_6, gr_2_7, gi_2_8, pf_2_8, gi_2_9, pf_2_9, gi_2_10, pf_2_10, gi_2_11, pf_2_11, gi_2_12, pf_2_12, gi_2_13, pf_2_13, gi_2_14, pf_2_14, io_11, gr_11_0, gr_11_1, gr_11_2, io_15, gr_15_0, gr_15_1, gi_15_2, pf_15_2, gi_15_3, pf_15_3, gi_15_4, pf_15_4, gi_15_5, pf_15_5, io_18, gr_18_0, gr_18_1, gi_18_2, pf_18_2, io_21, gr_21_0, gr_21_1, gr_21_2, gr_21_3, gi_21_4, pf_21_4, gi_21_5, pf_21_5, gi_21_6, pf_21_6, gi_21_7, pf_21_7, io_34, gr_34_0, gi_34_1, pf_34_1, al_3, al_4, al_5, al_6, al_7, al_8, al_9, al_10, al_12, al_13, al_14, al_16, al_17, al_19, al_20, al_22, al_23, al_24, al_26, al_27, al_28, al_29, al_30, al_31, al_32, al_33, al_35, ↓reduceIte, Option.bind_some, cI_some, cL_some, cV_some, rz_0, rz_1, r.i2_13, c_hasn _ (show bits (fun s => σ 8 s == 100) (σ 0 3) < 2147483648 by omega) (show s < 31 by omega), hgb, bI_f hg]
    cases k with
    | zero => rw [if_pos (show ro 0 = -9 from rfl)]; exact a1
    | succ c =>
      have hc : c < σ 0 0 := by omega
      rw [if_neg (by rw [ro_s, n_m9 (by omega)]; exact id), ro_s, r.a5 hc, hfree c rfl]
      rw [ro_s] at a1
      exact a1
  · obtain ⟨c, hkc, hc7⟩ : ∃ c, k = c + 1 ∧ σ 7 c ≠ 0 := by
      cases k with
      | zero => exact absurd (fun c h => by omega) hno
      | succ c => exact ⟨c, rfl, fun q => hno fun b hb => by rw [show b = c by omega]; exact q⟩
    have hc : c < σ 0 0 := by omega
    subst hkc
    have h6 := r.row_lt hc
    have hro : ¬ ro (σ 7 c) = -9 := by rw [ro_9 (by omega)]; exact hc7
    have hy9 : ¬ nI c = -9 := by rw [n_m9 (by omega)]; exact id
    refine head _ ?_
    show (F_X7_set (n + 1000) (n + 999 + 1)).1 1 (nI s) (nI c) (enc A I) = _
    rw [F_X7_set]
    simp only [io_1, gr_1_0, gr_1_1, gr_1_2, gr_1_3, gr_1_4, gr_1_5, gi_1_6, pf_1_6, gi_1_7, pf_1_7, io_2, gr_2_0, gr_2_1, gr_2_2, gr_2_3, gr_2_4, gr_2_5, gr_2_6, gr_2_7, gi_2_8, pf_2_8, gi_2_9, pf_2_9, gi_2_10, pf_2_10, gi_2_11, pf_2_11, gi_2_12, pf_2_12, gi_2_13, pf_2_13, gi_2_14, pf_2_14, io_11, gr_11_0, gr_11_1, gr_11_2, io_15, gr_15_0, gr_15_1, gi_15_2, pf_15_2, gi_15_3, pf_15_3, gi_15_4, pf_15_4, gi_15_5, pf_15_5, io_18, gr_18_0, gr_18_1, gi_18_2, pf_18_2, io_21, gr_21_0, gr_21_1, gr_21_2, gr_21_3, gi_21_4, pf_21_4, gi_21_5, pf_21_5, gi_21_6, pf_21_6, gi_21_7, pf_21_7, io_34, gr_34_0, gi_34_1, pf_34_1, al_3, al_4, al_5, al_6, al_7, al_8, al_9, al_10, al_12, al_13, al_14, al_16, al_17, al_19, al_20, al_22, al_23, al_24, al_26, al_27, al_28, al_29, al_30, al_31, al_32, al_33, al_35, ↓reduceIte, Option.bind_some, cI_some, cL_some, cV_some, rz_0, rz_1, r.i2_13, c_hasn _ (show bits (fun s => σ 8 s == 100) (σ 0 3) < 2147483648 by omega) (show s < 31 by omega), hgb, bI_f hg, if_neg hy9, r.a5 hc, if_neg hro]
theorem k_setS (r : RR σ A I) {x : Int32} (h : ¬ (0 ≤ x ∧ x < nI (σ 0 3))) (y : Int32) : U_X7_set fu [.ref 1, .int x, .int y] (enc A I) = some (some (.int (-1)), enc A I) := by
  simp only [u_X7_set, M_X7_set, c_isStone, io_1, gr_1_0, gr_1_1, gr_1_2, gr_1_3, gr_1_4, gr_1_5, gi_1_6, pf_1_6, gi_1_7, pf_1_7, io_2, gr_2_0, gr_2_1, gr_2_2, gr_2_3, gr_2_4, gr_2_5, gr_2_6, gr_2_7, gi_2_8, pf_2_8, gi_2_9, pf_2_9, gi_2_10, pf_2_10, gi_2_11, pf_2_11, gi_2_12, pf_2_12, gi_2_13, pf_2_13, gi_2_14, pf_2_14, io_11, gr_11_0, gr_11_1, gr_11_2, io_15, gr_15_0, gr_15_1, gi_15_2, pf_15_2, gi_15_3, pf_15_3, gi_15_4, pf_15_4, gi_15_5, pf_15_5, io_18, gr_18_0, gr_18_1, gi_18_2, pf_18_2, io_21, gr_21_0, gr_21_1, gr_21_2, gr_21_3, gi_21_4, pf_21_4, gi_21_5, pf_21_5, gi_21_6, pf_21_6, gi_21_7, pf_21_7, io_34, gr_34_0, gi_34_1, pf_34_1, al_3, al_4, al_5, al_6, al_7, al_8, al_9, al_10, al_12, al_13, al_14, al_16, al_17, al_19, al_20, al_22, al_23, al_24, al_26, al_27, al_28, al_29, al_30, al_31, al_32, al_33, al_35, ↓reduceIte, Option.bind_some, cI_some, cL_some, cV_some, rz_0, rz_1, r.i2_12, bI_f h]
theorem k_setC (r : RR σ A I) {s : Nat} (hs : s < σ 0 3) {y : Int32} (hy9 : ¬ y = -9) (h : ¬ (0 ≤ y ∧ y < nI (σ 0 0))) : U_X7_set fu [.ref 1, .int (nI s), .int y] (enc A I) = some (some (.int (-1)), enc A I) := by
  have hm := r.m6
  simp only [u_X7_set, M_X7_set, c_isStone, c_isCell, io_1, gr_1_0, gr_1_1, gr_1_2, gr_1_3, gr_1_4, gr_1_5, gi_1_6, pf_1_6, gi_1_7, pf_1_7, io_2, gr_2_0, gr_2_1, gr_2_2, gr_2_3, gr_2_4, gr_2_5, gr_2_6, gr_2_7, gi_2_8, pf_2_8, gi_2_9, pf_2_9, gi_2_10, pf_2_10, gi_2_11, pf_2_11, gi_2_12, pf_2_12, gi_2_13, pf_2_13, gi_2_14, pf_2_14, io_11, gr_11_0, gr_11_1, gr_11_2, io_15, gr_15_0, gr_15_1, gi_15_2, pf_15_2, gi_15_3, pf_15_3, gi_15_4, pf_15_4, gi_15_5, pf_15_5, io_18, gr_18_0, gr_18_1, gi_18_2, pf_18_2, io_21, gr_21_0, gr_21_1, gr_21_2, gr_21_3, gi_21_4, pf_21_4, gi_21_5, pf_21_5, gi_21_6, pf_21_6, gi_21_7, pf_21_7, io_34, gr_34_0, gi_34_1, pf_34_1, al_3, al_4, al_5, al_6, al_7, al_8, al_9, al_10, al_12, al_13, al_14, al_16, al_17, al_19, al_20, al_22, al_23, al_24, al_26, al_27, al_28, al_29, al_30, al_31, al_32, al_33, al_35, ↓reduceIte, Option.bind_some, cI_some, cL_some, cV_some, rz_0, rz_1, r.i2_12, r.i2_8, bI_f h, bI_t (n_win hs (show σ 0 3 < 2147483648 by omega)), if_neg k10, if_neg hy9]
end K1
section K2
variable {σ : SG} {A : Nat → List Int32} {I : Nat → Nat → Int32} {fu : Nat}
theorem k_can (hf : 1000 ≤ fu) (r : RR σ A I) {x g : Nat} (hx : x < σ 0 4) (hg : g ≤ 1) : U_X7_can fu [.ref 1, .int (nI x), .int (nI g)] (enc A I) = some (some (.int (bI (X σ (σ 7) (σ 0 2) (σ 10 x - g)))), enc A I) := by
  have hk := r.k6
  have hw := r.wal hx
  have h2 := r.1.2.2.2.1
  have hwin := bI_t (n_win hx (show σ 0 4 < 2147483648 by omega))
  simp only [u_X7_can, M_X7_can, c_isWalker, io_1, gr_1_0, gr_1_1, gr_1_2, gr_1_3, gr_1_4, gr_1_5, gi_1_6, pf_1_6, gi_1_7, pf_1_7, io_2, gr_2_0, gr_2_1, gr_2_2, gr_2_3, gr_2_4, gr_2_5, gr_2_6, gr_2_7, gi_2_8, pf_2_8, gi_2_9, pf_2_9, gi_2_10, pf_2_10, gi_2_11, pf_2_11, gi_2_12, pf_2_12, gi_2_13, pf_2_13, gi_2_14, pf_2_14, io_11, gr_11_0, gr_11_1, gr_11_2, io_15, gr_15_0, gr_15_1, gi_15_2, pf_15_2, gi_15_3, pf_15_3, gi_15_4, pf_15_4, gi_15_5, pf_15_5, io_18, gr_18_0, gr_18_1, gi_18_2, pf_18_2, io_21, gr_21_0, gr_21_1, gr_21_2, gr_21_3, gi_21_4, pf_21_4, gi_21_5, pf_21_5, gi_21_6, pf_21_6, gi_21_7, pf_21_7, io_34, gr_34_0, gi_34_1, pf_34_1, al_3, al_4, al_5, al_6, al_7, al_8, al_9, al_10, al_12, al_13, al_14, al_16, al_17, al_19, al_20, al_22, al_23, al_24, al_26, al_27, al_28, al_29, al_30, al_31, al_32, al_33, al_35, ↓reduceIte, Option.bind_some, cI_some, cL_some, cV_some, rz_0, rz_1, r.i2_14, hwin, if_neg k10, c_filled (show 1000 ≤ fu by omega) r, r.i2_11, c_reachOf r hx hg, c_cross (show 1000 ≤ fu by omega) r h2 (show σ 10 x - g ≤ 9 by omega), bI_0]
  by_cases q : X σ (σ 7) (σ 0 2) (σ 10 x - g)
  · rw [if_neg (fun y => y q), bI_t q]
  · rw [if_pos q, bI_f q]
theorem k_canN (r : RR σ A I) {x : Int32} (h : ¬ (0 ≤ x ∧ x < nI (σ 0 4))) (g : Int32) : U_X7_can fu [.ref 1, .int x, .int g] (enc A I) = some (some (.int (-1)), enc A I) := by
  simp only [u_X7_can, M_X7_can, c_isWalker, io_1, gr_1_0, gr_1_1, gr_1_2, gr_1_3, gr_1_4, gr_1_5, gi_1_6, pf_1_6, gi_1_7, pf_1_7, io_2, gr_2_0, gr_2_1, gr_2_2, gr_2_3, gr_2_4, gr_2_5, gr_2_6, gr_2_7, gi_2_8, pf_2_8, gi_2_9, pf_2_9, gi_2_10, pf_2_10, gi_2_11, pf_2_11, gi_2_12, pf_2_12, gi_2_13, pf_2_13, gi_2_14, pf_2_14, io_11, gr_11_0, gr_11_1, gr_11_2, io_15, gr_15_0, gr_15_1, gi_15_2, pf_15_2, gi_15_3, pf_15_3, gi_15_4, pf_15_4, gi_15_5, pf_15_5, io_18, gr_18_0, gr_18_1, gi_18_2, pf_18_2, io_21, gr_21_0, gr_21_1, gr_21_2, gr_21_3, gi_21_4, pf_21_4, gi_21_5, pf_21_5, gi_21_6, pf_21_6, gi_21_7, pf_21_7, io_34, gr_34_0, gi_34_1, pf_34_1, al_3, al_4, al_5, al_6, al_7, al_8, al_9, al_10, al_12, al_13, al_14, al_16, al_17, al_19, al_20, al_22, al_23, al_24, al_26, al_27, al_28, al_29, al_30, al_31, al_32, al_33, al_35, ↓reduceIte, Option.bind_some, cI_some, cL_some, cV_some, rz_0, rz_1, r.i2_14, bI_f h]
theorem k_highest (hf : 1000 ≤ fu) (r : RR σ A I) {x g : Nat} (hx : x < σ 0 4) (hg : g ≤ 1) : U_X7_highest fu [.ref 1, .int (nI x), .int (nI g)] (enc A I) = some (some (.int (topv (fun v => decide (X σ (σ 7) v (σ 10 x - g))) 10)), enc A I) := by
  have hk := r.k6
  have hwin := bI_t (n_win hx (show σ 0 4 < 2147483648 by omega))
  simp only [u_X7_highest, M_X7_highest, c_isWalker, io_1, gr_1_0, gr_1_1, gr_1_2, gr_1_3, gr_1_4, gr_1_5, gi_1_6, pf_1_6, gi_1_7, pf_1_7, io_2, gr_2_0, gr_2_1, gr_2_2, gr_2_3, gr_2_4, gr_2_5, gr_2_6, gr_2_7, gi_2_8, pf_2_8, gi_2_9, pf_2_9, gi_2_10, pf_2_10, gi_2_11, pf_2_11, gi_2_12, pf_2_12, gi_2_13, pf_2_13, gi_2_14, pf_2_14, io_11, gr_11_0, gr_11_1, gr_11_2, io_15, gr_15_0, gr_15_1, gi_15_2, pf_15_2, gi_15_3, pf_15_3, gi_15_4, pf_15_4, gi_15_5, pf_15_5, io_18, gr_18_0, gr_18_1, gi_18_2, pf_18_2, io_21, gr_21_0, gr_21_1, gr_21_2, gr_21_3, gi_21_4, pf_21_4, gi_21_5, pf_21_5, gi_21_6, pf_21_6, gi_21_7, pf_21_7, io_34, gr_34_0, gi_34_1, pf_34_1, al_3, al_4, al_5, al_6, al_7, al_8, al_9, al_10, al_12, al_13, al_14, al_16, al_17, al_19, al_20, al_22, al_23, al_24, al_26, al_27, al_28, al_29, al_30, al_31, al_32, al_33, al_35, ↓reduceIte, Option.bind_some, cI_some, cL_some, cV_some, rz_0, rz_1, r.i2_14, hwin, if_neg k10]
  exact c_highest (by omega) r hx hg 10 fu (by omega) (by omega)
theorem k_highestN (r : RR σ A I) {x : Int32} (h : ¬ (0 ≤ x ∧ x < nI (σ 0 4))) (g : Int32) : U_X7_highest fu [.ref 1, .int x, .int g] (enc A I) = some (some (.int (-1)), enc A I) := by
  simp only [u_X7_highest, M_X7_highest, c_isWalker, io_1, gr_1_0, gr_1_1, gr_1_2, gr_1_3, gr_1_4, gr_1_5, gi_1_6, pf_1_6, gi_1_7, pf_1_7, io_2, gr_2_0, gr_2_1, gr_2_2, gr_2_3, gr_2_4, gr_2_5, gr_2_6, gr_2_7, gi_2_8, pf_2_8, gi_2_9, pf_2_9, gi_2_10, pf_2_10, gi_2_11, pf_2_11, gi_2_12, pf_2_12, gi_2_13, pf_2_13, gi_2_14, pf_2_14, io_11, gr_11_0, gr_11_1, gr_11_2, io_15, gr_15_0, gr_15_1, gi_15_2, pf_15_2, gi_15_3, pf_15_3, gi_15_4, pf_15_4, gi_15_5, pf_15_5, io_18, gr_18_0, gr_18_1, gi_18_2, pf_18_2, io_21, gr_21_0, gr_21_1, gr_21_2, gr_21_3, gi_21_4, pf_21_4, gi_21_5, pf_21_5, gi_21_6, pf_21_6, gi_21_7, pf_21_7, io_34, gr_34_0, gi_34_1, pf_34_1, al_3, al_4, al_5, al_6, al_7, al_8, al_9, al_10, al_12, al_13, al_14, al_16, al_17, al_19, al_20, al_22, al_23, al_24, al_26, al_27, al_28, al_29, al_30, al_31, al_32, al_33, al_35, ↓reduceIte, Option.bind_some, cI_some, cL_some, cV_some, rz_0, rz_1, r.i2_14, bI_f h]
theorem k_pass (hf : 1000 ≤ fu) (r : RR σ A I) {x y : Nat} (hx : x < σ 0 4) (hy : y < σ 0 4) : U_X7_pass fu [.ref 1, .int (nI x), .int (nI y)] (enc A I) = some (some (.int (if X σ (σ 7) (σ 0 2) (min (σ 10 x) (σ 10 y)) then nI (bits (dryB σ (σ 0 2)) (σ 0 0) &&& bits (kndB σ 1) (σ 0 0)) else 0)), enc A I) := by
  have hk := r.k6
  have hwin := bI_t (n_win hx (show σ 0 4 < 2147483648 by omega))
  have hwin2 := bI_t (n_win hy (show σ 0 4 < 2147483648 by omega))
  have hw := r.wal hx
  have hw2 := r.wal hy
  have h2 := r.1.2.2.2.1
  have hmin : oMin [.int (nI (σ 10 x)), .int (nI (σ 10 y))] (enc A I) = some (some (.int (nI (min (σ 10 x) (σ 10 y)))), enc A I) := by
    simp only [oMin, n_lt (show σ 10 y < 2147483648 by omega) (show σ 10 x < 2147483648 by omega)]
    by_cases q : σ 10 y < σ 10 x
    · rw [if_pos q, Nat.min_eq_right (by omega)]
    · rw [if_neg q, Nat.min_eq_left (by omega)]
  have rx := c_reachOf (fu := fu) r hx (g := 0) (by omega)
  have ry := c_reachOf (fu := fu) r hy (g := 0) (by omega)
  rw [Nat.sub_zero] at rx ry
  have ok := c_ofKind (fu := fu) (by omega) r (t := 1) (by omega)
  rw [show nI 1 = (1 : Int32) from rfl] at ok
  rw [show nI 0 = (0 : Int32) from rfl] at rx ry
  simp only [u_X7_pass, M_X7_pass, c_isWalker, io_1, gr_1_0, gr_1_1, gr_1_2, gr_1_3, gr_1_4, gr_1_5, gi_1_6, pf_1_6, gi_1_7, pf_1_7, io_2, gr_2_0, gr_2_1, gr_2_2, gr_2_3, gr_2_4, gr_2_5, gr_2_6, gr_2_7, gi_2_8, pf_2_8, gi_2_9, pf_2_9, gi_2_10, pf_2_10, gi_2_11, pf_2_11, gi_2_12, pf_2_12, gi_2_13, pf_2_13, gi_2_14, pf_2_14, io_11, gr_11_0, gr_11_1, gr_11_2, io_15, gr_15_0, gr_15_1, gi_15_2, pf_15_2, gi_15_3, pf_15_3, gi_15_4, pf_15_4, gi_15_5, pf_15_5, io_18, gr_18_0, gr_18_1, gi_18_2, pf_18_2, io_21, gr_21_0, gr_21_1, gr_21_2, gr_21_3, gi_21_4, pf_21_4, gi_21_5, pf_21_5, gi_21_6, pf_21_6, gi_21_7, pf_21_7, io_34, gr_34_0, gi_34_1, pf_34_1, al_3, al_4, al_5, al_6, al_7, al_8, al_9, al_10, al_12, al_13, al_14, al_16, al_17, al_19, al_20, al_22, al_23, al_24, al_26, al_27, al_28, al_29, al_30, al_31, al_32, al_33, al_35, ↓reduceIte, Option.bind_some, cI_some, cL_some, cV_some, rz_0, rz_1, r.i2_14, hwin, hwin2, if_neg k10, rx, ry, hmin, c_filled (show 1000 ≤ fu by omega) r, r.i2_11, c_cross (show 1000 ≤ fu by omega) r h2 (show min (σ 10 x) (σ 10 y) ≤ 9 by omega), bI_0, c_dry (show 1000 ≤ fu by omega) r h2, ok, n_and]
  by_cases q : X σ (σ 7) (σ 0 2) (min (σ 10 x) (σ 10 y))
  · rw [if_neg (fun y => y q), if_pos q]
  · rw [if_pos q, if_neg q]
theorem k_passN (r : RR σ A I) {x : Nat} (hx : x < σ 0 4) {y : Int32} (h : ¬ (0 ≤ y ∧ y < nI (σ 0 4))) : U_X7_pass fu [.ref 1, .int (nI x), .int y] (enc A I) = some (some (.int (-1)), enc A I) := by
  have hk := r.k6
  have hwin := bI_t (n_win hx (show σ 0 4 < 2147483648 by omega))
  simp only [u_X7_pass, M_X7_pass, c_isWalker, io_1, gr_1_0, gr_1_1, gr_1_2, gr_1_3, gr_1_4, gr_1_5, gi_1_6, pf_1_6, gi_1_7, pf_1_7, io_2, gr_2_0, gr_2_1, gr_2_2, gr_2_3, gr_2_4, gr_2_5, gr_2_6, gr_2_7, gi_2_8, pf_2_8, gi_2_9, pf_2_9, gi_2_10, pf_2_10, gi_2_11, pf_2_11, gi_2_12, pf_2_12, gi_2_13, pf_2_13, gi_2_14, pf_2_14, io_11, gr_11_0, gr_11_1, gr_11_2, io_15, gr_15_0, gr_15_1, gi_15_2, pf_15_2, gi_15_3, pf_15_3, gi_15_4, pf_15_4, gi_15_5, pf_15_5, io_18, gr_18_0, gr_18_1, gi_18_2, pf_18_2, io_21, gr_21_0, gr_21_1, gr_21_2, gr_21_3, gi_21_4, pf_21_4, gi_21_5, pf_21_5, gi_21_6, pf_21_6, gi_21_7, pf_21_7, io_34, gr_34_0, gi_34_1, pf_34_1, al_3, al_4, al_5, al_6, al_7, al_8, al_9, al_10, al_12, al_13, al_14, al_16, al_17, al_19, al_20, al_22, al_23, al_24, al_26, al_27, al_28, al_29, al_30, al_31, al_32, al_33, al_35, ↓reduceIte, Option.bind_some, cI_some, cL_some, cV_some, rz_0, rz_1, r.i2_14, hwin, if_neg k10, bI_f h]
end K2
end
section
section K3
variable {σ : SG} {A : Nat → List Int32} {I : Nat → Nat → Int32} {fu : Nat}
theorem k_many3 (hf : 1000 ≤ fu) (r : RR σ A I) : U_X7_many fu [.ref 1, .int 3] (enc A I) = some (some (.int (nI (cnt (fun c => σ 7 c != 0) (σ 0 0)))), enc A I) := by
  have hn := r.n7
  simp only [u_X7_many, M_X7_many, io_1, gr_1_0, gr_1_1, gr_1_2, gr_1_3, gr_1_4, gr_1_5, gi_1_6, pf_1_6, gi_1_7, pf_1_7, io_2, gr_2_0, gr_2_1, gr_2_2, gr_2_3, gr_2_4, gr_2_5, gr_2_6, gr_2_7, gi_2_8, pf_2_8, gi_2_9, pf_2_9, gi_2_10, pf_2_10, gi_2_11, pf_2_11, gi_2_12, pf_2_12, gi_2_13, pf_2_13, gi_2_14, pf_2_14, io_11, gr_11_0, gr_11_1, gr_11_2, io_15, gr_15_0, gr_15_1, gi_15_2, pf_15_2, gi_15_3, pf_15_3, gi_15_4, pf_15_4, gi_15_5, pf_15_5, io_18, gr_18_0, gr_18_1, gi_18_2, pf_18_2, io_21, gr_21_0, gr_21_1, gr_21_2, gr_21_3, gi_21_4, pf_21_4, gi_21_5, pf_21_5, gi_21_6, pf_21_6, gi_21_7, pf_21_7, io_34, gr_34_0, gi_34_1, pf_34_1, al_3, al_4, al_5, al_6, al_7, al_8, al_9, al_10, al_12, al_13, al_14, al_16, al_17, al_19, al_20, al_22, al_23, al_24, al_26, al_27, al_28, al_29, al_30, al_31, al_32, al_33, al_35, ↓reduceIte, Option.bind_some, cI_some, cL_some, cV_some, rz_0, rz_1, if_neg (show ¬ (3 : Int32) = 0 by decide), if_neg (show ¬ (3 : Int32) = 1 by decide), if_neg (show ¬ (3 : Int32) = 2 by decide), c_filled hf r, c_bitCount fu _ (bits_ge (p := fun c => σ 7 c != 0) hn), pc_bits _ hn]
theorem k_many6 (r : RR σ A I) : U_X7_many fu [.ref 1, .int 6] (enc A I) = some (some (.int (nI (σ 0 2))), enc A I) := by
  simp only [u_X7_many, M_X7_many, io_1, gr_1_0, gr_1_1, gr_1_2, gr_1_3, gr_1_4, gr_1_5, gi_1_6, pf_1_6, gi_1_7, pf_1_7, io_2, gr_2_0, gr_2_1, gr_2_2, gr_2_3, gr_2_4, gr_2_5, gr_2_6, gr_2_7, gi_2_8, pf_2_8, gi_2_9, pf_2_9, gi_2_10, pf_2_10, gi_2_11, pf_2_11, gi_2_12, pf_2_12, gi_2_13, pf_2_13, gi_2_14, pf_2_14, io_11, gr_11_0, gr_11_1, gr_11_2, io_15, gr_15_0, gr_15_1, gi_15_2, pf_15_2, gi_15_3, pf_15_3, gi_15_4, pf_15_4, gi_15_5, pf_15_5, io_18, gr_18_0, gr_18_1, gi_18_2, pf_18_2, io_21, gr_21_0, gr_21_1, gr_21_2, gr_21_3, gi_21_4, pf_21_4, gi_21_5, pf_21_5, gi_21_6, pf_21_6, gi_21_7, pf_21_7, io_34, gr_34_0, gi_34_1, pf_34_1, al_3, al_4, al_5, al_6, al_7, al_8, al_9, al_10, al_12, al_13, al_14, al_16, al_17, al_19, al_20, al_22, al_23, al_24, al_26, al_27, al_28, al_29, al_30, al_31, al_32, al_33, al_35, ↓reduceIte, Option.bind_some, cI_some, cL_some, cV_some, rz_0, rz_1, if_neg (show ¬ (6 : Int32) = 0 by decide), if_neg (show ¬ (6 : Int32) = 1 by decide), if_neg (show ¬ (6 : Int32) = 2 by decide), if_neg (show ¬ (6 : Int32) = 3 by decide), if_neg (show ¬ (6 : Int32) = 4 by decide), if_neg (show ¬ (6 : Int32) = 5 by decide), r.i2_11]
theorem k_wayN (r : RR σ A I) {x : Int32} (h : ¬ (0 ≤ x ∧ x < nI (σ 0 4))) (q : Int32) : U_X7_way fu [.ref 1, .int x, .int q] (enc A I) = some (some (.int (-1)), enc A I) := by
  simp only [u_X7_way, M_X7_way, c_isWalker, io_1, gr_1_0, gr_1_1, gr_1_2, gr_1_3, gr_1_4, gr_1_5, gi_1_6, pf_1_6, gi_1_7, pf_1_7, io_2, gr_2_0, gr_2_1, gr_2_2, gr_2_3, gr_2_4, gr_2_5, gr_2_6, gr_2_7, gi_2_8, pf_2_8, gi_2_9, pf_2_9, gi_2_10, pf_2_10, gi_2_11, pf_2_11, gi_2_12, pf_2_12, gi_2_13, pf_2_13, gi_2_14, pf_2_14, io_11, gr_11_0, gr_11_1, gr_11_2, io_15, gr_15_0, gr_15_1, gi_15_2, pf_15_2, gi_15_3, pf_15_3, gi_15_4, pf_15_4, gi_15_5, pf_15_5, io_18, gr_18_0, gr_18_1, gi_18_2, pf_18_2, io_21, gr_21_0, gr_21_1, gr_21_2, gr_21_3, gi_21_4, pf_21_4, gi_21_5, pf_21_5, gi_21_6, pf_21_6, gi_21_7, pf_21_7, io_34, gr_34_0, gi_34_1, pf_34_1, al_3, al_4, al_5, al_6, al_7, al_8, al_9, al_10, al_12, al_13, al_14, al_16, al_17, al_19, al_20, al_22, al_23, al_24, al_26, al_27, al_28, al_29, al_30, al_31, al_32, al_33, al_35, ↓reduceIte, Option.bind_some, cI_some, cL_some, cV_some, rz_0, rz_1, r.i2_14, bI_f h]
theorem k_wayM (r : RR σ A I) {x : Nat} (hx : x < σ 0 4) {q : Int32} (hq : q < -1) : U_X7_way fu [.ref 1, .int (nI x), .int q] (enc A I) = some (some (.int (-1)), enc A I) := by
  have hk := r.k6
  have hw := bI_t (n_win hx (show σ 0 4 < 2147483648 by omega))
  simp only [u_X7_way, M_X7_way, c_isWalker, io_1, gr_1_0, gr_1_1, gr_1_2, gr_1_3, gr_1_4, gr_1_5, gi_1_6, pf_1_6, gi_1_7, pf_1_7, io_2, gr_2_0, gr_2_1, gr_2_2, gr_2_3, gr_2_4, gr_2_5, gr_2_6, gr_2_7, gi_2_8, pf_2_8, gi_2_9, pf_2_9, gi_2_10, pf_2_10, gi_2_11, pf_2_11, gi_2_12, pf_2_12, gi_2_13, pf_2_13, gi_2_14, pf_2_14, io_11, gr_11_0, gr_11_1, gr_11_2, io_15, gr_15_0, gr_15_1, gi_15_2, pf_15_2, gi_15_3, pf_15_3, gi_15_4, pf_15_4, gi_15_5, pf_15_5, io_18, gr_18_0, gr_18_1, gi_18_2, pf_18_2, io_21, gr_21_0, gr_21_1, gr_21_2, gr_21_3, gi_21_4, pf_21_4, gi_21_5, pf_21_5, gi_21_6, pf_21_6, gi_21_7, pf_21_7, io_34, gr_34_0, gi_34_1, pf_34_1, al_3, al_4, al_5, al_6, al_7, al_8, al_9, al_10, al_12, al_13, al_14, al_16, al_17, al_19, al_20, al_22, al_23, al_24, al_26, al_27, al_28, al_29, al_30, al_31, al_32, al_33, al_35, ↓reduceIte, Option.bind_some, cI_some, cL_some, cV_some, rz_0, rz_1, r.i2_14, hw, if_neg k10, if_pos hq]
/-- in how few strides -/
theorem k_way1 (hf : 1000 ≤ fu) (r : RR σ A I) {x : Nat} (hx : x < σ 0 4) : ∃ A1 I1 v, Fr A I A1 I1 ∧ U_X7_way fu [.ref 1, .int (nI x), .int (-1)] (enc A I) = some (some (.int v), enc A1 I1) ∧
    (((∀ L, ¬ Wk (σ 0 0) (S0 σ) (E0 σ) (σ 10 x) (σ 0 0 + 1) L 0) ∧ v = -9) ∨ ∃ L, L ≤ 8 ∧ Mn0 σ (σ 10 x) 0 L ∧ v = nI L) := by
  have hk := r.k6
  have hw := bI_t (n_win hx (show σ 0 4 < 2147483648 by omega))
  have hd := r.wal hx
  have rx := c_reachOf (fu := fu) r hx (g := 0) (by omega)
  rw [Nat.sub_zero, show nI 0 = (0 : Int32) from rfl] at rx
  have hq1 : ¬ (-1 : Int32) < -1 := by decide
  obtain ⟨A1, I1, c1, cres⟩ := c_find (fu := fu) (by omega) r hd.2
  rcases cres with ⟨no, c2⟩ | ⟨L, hL, hM, h16, c2⟩
  · refine ⟨A1, I1, -9, c1, ?_, Or.inl ⟨no, rfl⟩⟩
    simp -implicitDefEqProofs only [u_X7_way, M_X7_way, c_isWalker, io_1, gr_1_0, gr_1_1, gr_1_2, gr_1_3, gr_1_4, gr_1_5, gi_1_6, pf_1_6, gi_1_7, pf_1_7, io_2, gr_2_0, gr_2_1, gr_2_2, gr_2_3, gr_2_4, gr_2_5, gr_2_6, gr_2_7, gi_2_8, pf_2_8, gi_2_9, pf_2_9, gi_2_10, pf_2_10, gi_2_11, pf_2_11, gi_2_12, pf_2_12, gi_2_13, pf_2_13, gi_2_14, pf_2_14, io_11, gr_11_0, gr_11_1, gr_11_2, io_15, gr_15_0, gr_15_1, gi_15_2, pf_15_2, gi_15_3, pf_15_3, gi_15_4, pf_15_4, gi_15_5, pf_15_5, io_18, gr_18_0, gr_18_1, gi_18_2, pf_18_2, io_21, gr_21_0, gr_21_1, gr_21_2, gr_21_3, gi_21_4, pf_21_4, gi_21_5, pf_21_5, gi_21_6, pf_21_6, gi_21_7, pf_21_7, io_34, gr_34_0, gi_34_1, pf_34_1, al_3, al_4, al_5, al_6, al_7, al_8, al_9, al_10, al_12, al_13, al_14, al_16, al_17, al_19, al_20, al_22, al_23, al_24, al_26, al_27, al_28, al_29, al_30, al_31, al_32, al_33, al_35, ↓reduceIte, Option.bind_some, cI_some, cL_some, cV_some, rz_0, rz_1, r.i2_14, hw, if_neg k10, if_neg hq1, rx, c2]
  · refine ⟨A1, I1, nI L, c1, ?_, Or.inr ⟨L, hL, hM, rfl⟩⟩
    simp -implicitDefEqProofs only [u_X7_way, M_X7_way, c_isWalker, io_1, gr_1_0, gr_1_1, gr_1_2, gr_1_3, gr_1_4, gr_1_5, gi_1_6, pf_1_6, gi_1_7, pf_1_7, io_2, gr_2_0, gr_2_1, gr_2_2, gr_2_3, gr_2_4, gr_2_5, gr_2_6, gr_2_7, gi_2_8, pf_2_8, gi_2_9, pf_2_9, gi_2_10, pf_2_10, gi_2_11, pf_2_11, gi_2_12, pf_2_12, gi_2_13, pf_2_13, gi_2_14, pf_2_14, io_11, gr_11_0, gr_11_1, gr_11_2, io_15, gr_15_0, gr_15_1, gi_15_2, pf_15_2, gi_15_3, pf_15_3, gi_15_4, pf_15_4, gi_15_5, pf_15_5, io_18, gr_18_0, gr_18_1, gi_18_2, pf_18_2, io_21, gr_21_0, gr_21_1, gr_21_2, gr_21_3, gi_21_4, pf_21_4, gi_21_5, pf_21_5, gi_21_6, pf_21_6, gi_21_7, pf_21_7, io_34, gr_34_0, gi_34_1, pf_34_1, al_3, al_4, al_5, al_6, al_7, al_8, al_9, al_10, al_12, al_13, al_14, al_16, al_17, al_19, al_20, al_22, al_23, al_24, al_26, al_27, al_28, al_29, al_30, al_31, al_32, al_33, al_35, ↓reduceIte, Option.bind_some, cI_some, cL_some, cV_some, rz_0, rz_1, r.i2_14, hw, if_neg k10, if_neg hq1, rx, c2]
/-- the places, one by one -/
theorem k_wayq (hf : 1000 ≤ fu) (r : RR σ A I) {x qn : Nat} (hx : x < σ 0 4) (hqn : qn < 1000) : ∃ A1 I1 v, Fr A I A1 I1 ∧ U_X7_way fu [.ref 1, .int (nI x), .int (nI qn)] (enc A I) = some (some (.int v), enc A1 I1) ∧
    (((∀ L, ¬ Wk (σ 0 0) (S0 σ) (E0 σ) (σ 10 x) (σ 0 0 + 1) L 0) ∧ v = -9) ∨ ∃ L, L ≤ 8 ∧ Mn0 σ (σ 10 x) 0 L ∧ ((qn < L ∧ ∃ b, Pth0 σ (σ 10 x) L (qn + 1) b ∧ v = nI b - 1) ∨ (L ≤ qn ∧ v = -9))) := by
  have hk := r.k6
  have hw := bI_t (n_win hx (show σ 0 4 < 2147483648 by omega))
  have hd := r.wal hx
  have rx := c_reachOf (fu := fu) r hx (g := 0) (by omega)
  rw [Nat.sub_zero, show nI 0 = (0 : Int32) from rfl] at rx
  have hq1 : ¬ nI qn < -1 := fun y => nI_pos (show qn < 2147483648 by omega) (Int32.lt_trans y (show (-1 : Int32) < 0 by decide))
  have z : ¬ nI qn = -1 := fun y => nI_pos (show qn < 2147483648 by omega) (by rw [y]; decide)
  obtain ⟨A1, I1, c1, cres⟩ := c_find (fu := fu) (by omega) r hd.2
  have r1 := c1.R r
  rcases cres with ⟨no, c2⟩ | ⟨L, hL, hM, h16, c2⟩
  · refine ⟨A1, I1, -9, c1, ?_, Or.inl ⟨no, rfl⟩⟩
    simp -implicitDefEqProofs only [u_X7_way, M_X7_way, c_isWalker, io_1, gr_1_0, gr_1_1, gr_1_2, gr_1_3, gr_1_4, gr_1_5, gi_1_6, pf_1_6, gi_1_7, pf_1_7, io_2, gr_2_0, gr_2_1, gr_2_2, gr_2_3, gr_2_4, gr_2_5, gr_2_6, gr_2_7, gi_2_8, pf_2_8, gi_2_9, pf_2_9, gi_2_10, pf_2_10, gi_2_11, pf_2_11, gi_2_12, pf_2_12, gi_2_13, pf_2_13, gi_2_14, pf_2_14, io_11, gr_11_0, gr_11_1, gr_11_2, io_15, gr_15_0, gr_15_1, gi_15_2, pf_15_2, gi_15_3, pf_15_3, gi_15_4, pf_15_4, gi_15_5, pf_15_5, io_18, gr_18_0, gr_18_1, gi_18_2, pf_18_2, io_21, gr_21_0, gr_21_1, gr_21_2, gr_21_3, gi_21_4, pf_21_4, gi_21_5, pf_21_5, gi_21_6, pf_21_6, gi_21_7, pf_21_7, io_34, gr_34_0, gi_34_1, pf_34_1, al_3, al_4, al_5, al_6, al_7, al_8, al_9, al_10, al_12, al_13, al_14, al_16, al_17, al_19, al_20, al_22, al_23, al_24, al_26, al_27, al_28, al_29, al_30, al_31, al_32, al_33, al_35, ↓reduceIte, Option.bind_some, cI_some, cL_some, cV_some, rz_0, rz_1, r.i2_14, hw, if_neg k10, if_neg hq1, rx, c2, if_neg z]
    rw [if_neg]
    intro y
    exact nI_pos (show qn < 2147483648 by omega) (Int32.lt_trans y (show (-9 : Int32) < 0 by decide))
  · have eL : (nI qn < nI L) = (qn < L) := n_lt (by omega) (by omega)
    by_cases y : qn < L
    · obtain ⟨b, hb1, hb2⟩ := h16 qn y
      have l16 : (A1 16).length = 8 := r1.len rfl
      have al : aL (enc A1 I1) 16 = some (nI 8) := by rw [al_16, l16]; rfl
      have ea : aI (enc A1 I1) 16 (nI qn) = some (nI b - 1) := by rw [ai_16 A1 I1 (by omega) (by omega), hb2]
      refine ⟨A1, I1, nI b - 1, c1, ?_, Or.inr ⟨L, hL, hM, Or.inl ⟨y, b, hb1, rfl⟩⟩⟩
      simp -implicitDefEqProofs only [u_X7_way, M_X7_way, c_isWalker, io_1, gr_1_0, gr_1_1, gr_1_2, gr_1_3, gr_1_4, gr_1_5, gi_1_6, pf_1_6, gi_1_7, pf_1_7, io_2, gr_2_0, gr_2_1, gr_2_2, gr_2_3, gr_2_4, gr_2_5, gr_2_6, gr_2_7, gi_2_8, pf_2_8, gi_2_9, pf_2_9, gi_2_10, pf_2_10, gi_2_11, pf_2_11, gi_2_12, pf_2_12, gi_2_13, pf_2_13, gi_2_14, pf_2_14, io_11, gr_11_0, gr_11_1, gr_11_2, io_15, gr_15_0, gr_15_1, gi_15_2, pf_15_2, gi_15_3, pf_15_3, gi_15_4, pf_15_4, gi_15_5, pf_15_5, io_18, gr_18_0, gr_18_1, gi_18_2, pf_18_2, io_21, gr_21_0, gr_21_1, gr_21_2, gr_21_3, gi_21_4, pf_21_4, gi_21_5, pf_21_5, gi_21_6, pf_21_6, gi_21_7, pf_21_7, io_34, gr_34_0, gi_34_1, pf_34_1, al_3, al_4, al_5, al_6, al_7, al_8, al_9, al_10, al_12, al_13, al_14, al_16, al_17, al_19, al_20, al_22, al_23, al_24, al_26, al_27, al_28, al_29, al_30, al_31, al_32, al_33, al_35, ↓reduceIte, Option.bind_some, cI_some, cL_some, cV_some, rz_0, rz_1, r.i2_14, hw, if_neg k10, if_neg hq1, rx, c2, if_neg z, eL, al, n_lt (show qn < 2147483648 by omega) (show 8 < 2147483648 by decide), ea]
      rw [if_pos y, if_pos (by omega)]
    · refine ⟨A1, I1, -9, c1, ?_, Or.inr ⟨L, hL, hM, Or.inr ⟨by omega, rfl⟩⟩⟩
      simp -implicitDefEqProofs only [u_X7_way, M_X7_way, c_isWalker, io_1, gr_1_0, gr_1_1, gr_1_2, gr_1_3, gr_1_4, gr_1_5, gi_1_6, pf_1_6, gi_1_7, pf_1_7, io_2, gr_2_0, gr_2_1, gr_2_2, gr_2_3, gr_2_4, gr_2_5, gr_2_6, gr_2_7, gi_2_8, pf_2_8, gi_2_9, pf_2_9, gi_2_10, pf_2_10, gi_2_11, pf_2_11, gi_2_12, pf_2_12, gi_2_13, pf_2_13, gi_2_14, pf_2_14, io_11, gr_11_0, gr_11_1, gr_11_2, io_15, gr_15_0, gr_15_1, gi_15_2, pf_15_2, gi_15_3, pf_15_3, gi_15_4, pf_15_4, gi_15_5, pf_15_5, io_18, gr_18_0, gr_18_1, gi_18_2, pf_18_2, io_21, gr_21_0, gr_21_1, gr_21_2, gr_21_3, gi_21_4, pf_21_4, gi_21_5, pf_21_5, gi_21_6, pf_21_6, gi_21_7, pf_21_7, io_34, gr_34_0, gi_34_1, pf_34_1, al_3, al_4, al_5, al_6, al_7, al_8, al_9, al_10, al_12, al_13, al_14, al_16, al_17, al_19, al_20, al_22, al_23, al_24, al_26, al_27, al_28, al_29, al_30, al_31, al_32, al_33, al_35, ↓reduceIte, Option.bind_some, cI_some, cL_some, cV_some, rz_0, rz_1, r.i2_14, hw, if_neg k10, if_neg hq1, rx, c2, if_neg z, eL]
      rw [if_neg y]
theorem allW_of {f : Nat → Int32} {lim : Int32} : ∀ m k, (∀ j, k ≤ j → j < k + m → 0 ≤ f j ∧ f j ≤ lim) → allW f lim k m = true := by
  intro m
  induction m with
  | zero => intro k _; rfl
  | succ m ih =>
    intro k h
    rw [allW, decide_eq_true (h k (by omega) (by omega)), ih (k + 1) (fun j a b => h j (by omega) (by omega))]
    rfl
theorem k_daysN (r : RR σ A I) {x : Int32} (h : ¬ (0 ≤ x ∧ x < nI (σ 0 4))) (s y i n : Int32) : U_X7_days fu [.ref 1, .int x, .int s, .int y, .int i, .int n] (enc A I) = some (some (.int (-1)), enc A (uI I 1 7 0)) := by
  have i14 : ∀ z, uI I 1 7 z 2 14 = nI (σ 0 4) := fun z => r.i2_14
  simp only [u_X7_days, M_X7_days, c_isWalker, io_1, gr_1_0, gr_1_1, gr_1_2, gr_1_3, gr_1_4, gr_1_5, gi_1_6, pf_1_6, gi_1_7, pf_1_7, io_2, gr_2_0, gr_2_1, gr_2_2, gr_2_3, gr_2_4, gr_2_5, gr_2_6, gr_2_7, gi_2_8, pf_2_8, gi_2_9, pf_2_9, gi_2_10, pf_2_10, gi_2_11, pf_2_11, gi_2_12, pf_2_12, gi_2_13, pf_2_13, gi_2_14, pf_2_14, io_11, gr_11_0, gr_11_1, gr_11_2, io_15, gr_15_0, gr_15_1, gi_15_2, pf_15_2, gi_15_3, pf_15_3, gi_15_4, pf_15_4, gi_15_5, pf_15_5, io_18, gr_18_0, gr_18_1, gi_18_2, pf_18_2, io_21, gr_21_0, gr_21_1, gr_21_2, gr_21_3, gi_21_4, pf_21_4, gi_21_5, pf_21_5, gi_21_6, pf_21_6, gi_21_7, pf_21_7, io_34, gr_34_0, gi_34_1, pf_34_1, al_3, al_4, al_5, al_6, al_7, al_8, al_9, al_10, al_12, al_13, al_14, al_16, al_17, al_19, al_20, al_22, al_23, al_24, al_26, al_27, al_28, al_29, al_30, al_31, al_32, al_33, al_35, ↓reduceIte, Option.bind_some, cI_some, cL_some, cV_some, rz_0, rz_1, i14, bI_f h]
theorem k_daysF (r : RR σ A I) {x q t : Nat} (hx : x < σ 0 4) (hq : q < 4) (ht2 : t ≤ 2) {o : Option (Nat × Nat)} (ho : SHo A q o) {i n z : Int32} (hv : fvI o (nI t) i n = z) (hz : ¬ z = 0) (hz2 : ¬ -10 - z = 0) : U_X7_days fu [.ref 1, .int (nI x), .int (nI q), .int (nI t), .int i, .int n] (enc A I) = some (some (.int (-10 - z)), enc A (uI I 1 7 z)) := by
  have hk := r.k6
  have i14 : ∀ z, uI I 1 7 z 2 14 = nI (σ 0 4) := fun z => r.i2_14
  have hw := bI_t (n_win hx (show σ 0 4 < 2147483648 by omega))
  have ref := c_refuse (fu := fu) (I := uI I 1 7 0) r.2.1 hq ht2 ho i n
  rw [hv, if_neg hz, uI_uI] at ref
  simp -implicitDefEqProofs only [u_X7_days, M_X7_days, c_isWalker, io_1, gr_1_0, gr_1_1, gr_1_2, gr_1_3, gr_1_4, gr_1_5, gi_1_6, pf_1_6, gi_1_7, pf_1_7, io_2, gr_2_0, gr_2_1, gr_2_2, gr_2_3, gr_2_4, gr_2_5, gr_2_6, gr_2_7, gi_2_8, pf_2_8, gi_2_9, pf_2_9, gi_2_10, pf_2_10, gi_2_11, pf_2_11, gi_2_12, pf_2_12, gi_2_13, pf_2_13, gi_2_14, pf_2_14, io_11, gr_11_0, gr_11_1, gr_11_2, io_15, gr_15_0, gr_15_1, gi_15_2, pf_15_2, gi_15_3, pf_15_3, gi_15_4, pf_15_4, gi_15_5, pf_15_5, io_18, gr_18_0, gr_18_1, gi_18_2, pf_18_2, io_21, gr_21_0, gr_21_1, gr_21_2, gr_21_3, gi_21_4, pf_21_4, gi_21_5, pf_21_5, gi_21_6, pf_21_6, gi_21_7, pf_21_7, io_34, gr_34_0, gi_34_1, pf_34_1, al_3, al_4, al_5, al_6, al_7, al_8, al_9, al_10, al_12, al_13, al_14, al_16, al_17, al_19, al_20, al_22, al_23, al_24, al_26, al_27, al_28, al_29, al_30, al_31, al_32, al_33, al_35, ↓reduceIte, Option.bind_some, cI_some, cL_some, cV_some, rz_0, rz_1, i14, hw, if_neg k10, ref]
  rw [if_neg hz2]
theorem k_days (hf : 1000 ≤ fu) (r : RR σ A I) {x q t i kk n0 : Nat} (hx : x < σ 0 4) (hq : q < 4) (ht2 : t ≤ 2) (ho : SHo A q (some (n0, t))) (hik : i + kk ≤ n0) {v : Nat → Nat} (hv : ∀ k, k < kk → rd (A 14) (60 * q + i + k) = nI (v k) ∧ v k ≤ 9) :
    U_X7_days fu [.ref 1, .int (nI x), .int (nI q), .int (nI t), .int (nI i), .int (nI kk)] (enc A I) = some (some (.int (nI (cnt (fun k => decide (X σ (σ 7) (v k) (σ 10 x))) kk))), enc A (uI I 1 7 0)) := by
  have hk := r.k6
  have i14 : ∀ z, uI I 1 7 z 2 14 = nI (σ 0 4) := fun z => r.i2_14
  have hw := bI_t (n_win hx (show σ 0 4 < 2147483648 by omega))
  have hn0 := ho.1
  have ref := c_refuse (fu := fu) (I := uI I 1 7 0) r.2.1 hq ht2 ho (nI i) (nI kk)
  rw [if_pos (fvI_in hn0 hik)] at ref
  have hb : 60 * q + i + kk ≤ 240 := by omega
  have aw := c_areW (fu := fu) (I := uI I 1 7 0) (by omega) r.2.1 hb 9
  rw [bI_t (allW_of kk 0 fun j _ hj => by
    obtain ⟨h1, h2⟩ := hv j (by omega)
    show 0 ≤ rd (A 14) (60 * q + i + j) ∧ rd (A 14) (60 * q + i + j) ≤ 9
    rw [h1]
    exact n_rin (b := 9) (Nat.zero_le _) h2 (by decide))] at aw
  have cl := c_daysL (fu := fu) (by omega) (r.f17 0) hx hb hv kk 0 fu (by omega) (by omega)
  simp -implicitDefEqProofs only [u_X7_days, M_X7_days, c_isWalker, io_1, gr_1_0, gr_1_1, gr_1_2, gr_1_3, gr_1_4, gr_1_5, gi_1_6, pf_1_6, gi_1_7, pf_1_7, io_2, gr_2_0, gr_2_1, gr_2_2, gr_2_3, gr_2_4, gr_2_5, gr_2_6, gr_2_7, gi_2_8, pf_2_8, gi_2_9, pf_2_9, gi_2_10, pf_2_10, gi_2_11, pf_2_11, gi_2_12, pf_2_12, gi_2_13, pf_2_13, gi_2_14, pf_2_14, io_11, gr_11_0, gr_11_1, gr_11_2, io_15, gr_15_0, gr_15_1, gi_15_2, pf_15_2, gi_15_3, pf_15_3, gi_15_4, pf_15_4, gi_15_5, pf_15_5, io_18, gr_18_0, gr_18_1, gi_18_2, pf_18_2, io_21, gr_21_0, gr_21_1, gr_21_2, gr_21_3, gi_21_4, pf_21_4, gi_21_5, pf_21_5, gi_21_6, pf_21_6, gi_21_7, pf_21_7, io_34, gr_34_0, gi_34_1, pf_34_1, al_3, al_4, al_5, al_6, al_7, al_8, al_9, al_10, al_12, al_13, al_14, al_16, al_17, al_19, al_20, al_22, al_23, al_24, al_26, al_27, al_28, al_29, al_30, al_31, al_32, al_33, al_35, ↓reduceIte, Option.bind_some, cI_some, cL_some, cV_some, rz_0, rz_1, i14, hw, if_neg k10, ref, aw]
  exact cl
theorem k_daysW (hf : 1000 ≤ fu) (r : RR σ A I) {x q t i kk n0 : Nat} (hx : x < σ 0 4) (hq : q < 4) (ht2 : t ≤ 2) (ho : SHo A q (some (n0, t))) (hik : i + kk ≤ n0) {j : Nat} (hj : j < kk) (hv : ¬ (0 ≤ rd (A 14) (60 * q + i + j) ∧ rd (A 14) (60 * q + i + j) ≤ 9)) :
    U_X7_days fu [.ref 1, .int (nI x), .int (nI q), .int (nI t), .int (nI i), .int (nI kk)] (enc A I) = some (some (.int (-2)), enc A (uI I 1 7 0)) := by
  have hk := r.k6
  have i14 : ∀ z, uI I 1 7 z 2 14 = nI (σ 0 4) := fun z => r.i2_14
  have hw := bI_t (n_win hx (show σ 0 4 < 2147483648 by omega))
  have hn0 := ho.1
  have ref := c_refuse (fu := fu) (I := uI I 1 7 0) r.2.1 hq ht2 ho (nI i) (nI kk)
  rw [if_pos (fvI_in hn0 hik)] at ref
  have hb : 60 * q + i + kk ≤ 240 := by omega
  have aw := c_areW (fu := fu) (I := uI I 1 7 0) (by omega) r.2.1 hb 9
  rw [bI_f (fun w => hv (allW_t _ _ w j (Nat.zero_le _) (by omega)))] at aw
  simp -implicitDefEqProofs only [u_X7_days, M_X7_days, c_isWalker, io_1, gr_1_0, gr_1_1, gr_1_2, gr_1_3, gr_1_4, gr_1_5, gi_1_6, pf_1_6, gi_1_7, pf_1_7, io_2, gr_2_0, gr_2_1, gr_2_2, gr_2_3, gr_2_4, gr_2_5, gr_2_6, gr_2_7, gi_2_8, pf_2_8, gi_2_9, pf_2_9, gi_2_10, pf_2_10, gi_2_11, pf_2_11, gi_2_12, pf_2_12, gi_2_13, pf_2_13, gi_2_14, pf_2_14, io_11, gr_11_0, gr_11_1, gr_11_2, io_15, gr_15_0, gr_15_1, gi_15_2, pf_15_2, gi_15_3, pf_15_3, gi_15_4, pf_15_4, gi_15_5, pf_15_5, io_18, gr_18_0, gr_18_1, gi_18_2, pf_18_2, io_21, gr_21_0, gr_21_1, gr_21_2, gr_21_3, gi_21_4, pf_21_4, gi_21_5, pf_21_5, gi_21_6, pf_21_6, gi_21_7, pf_21_7, io_34, gr_34_0, gi_34_1, pf_34_1, al_3, al_4, al_5, al_6, al_7, al_8, al_9, al_10, al_12, al_13, al_14, al_16, al_17, al_19, al_20, al_22, al_23, al_24, al_26, al_27, al_28, al_29, al_30, al_31, al_32, al_33, al_35, ↓reduceIte, Option.bind_some, cI_some, cL_some, cV_some, rz_0, rz_1, i14, hw, if_neg k10, ref, aw]
/-- a text whose digits end behind its m cells tells m of them -/
theorem mtl_of {v : Nat → Int32} {n m : Nat} (h3 : 3 ≤ m) (h7 : m ≤ 7) (hn : m + 1 < n) (hd : ∀ j, j < m → 48 ≤ v (1 + j) ∧ v (1 + j) ≤ 57) (he : ¬ (48 ≤ v (1 + m) ∧ v (1 + m) ≤ 57)) : mtl v n = m := by
  obtain ⟨a, b, c, e⟩ := tol_spec v n 7 0 (by omega) (fun j hj => by omega)
  have h : tol v n 7 0 = m := by
    generalize tol v n 7 0 = t at *
    by_cases y : t < m
    · rcases e with e | e
      · omega
      · exact absurd ⟨by omega, hd t y⟩ e
    · by_cases z : m < t
      · exact absurd (c m z).2 he
      · omega
  unfold mtl
  rw [h, if_neg (by omega)]
theorem k_brook (hf : 1000 ≤ fu) (r : RR σ A I) {q t i0 kk n0 m : Nat} (hq : q < 4) (ht2 : t ≤ 2) (ho : SHo A q (some (n0, t))) (hik : i0 + kk ≤ n0) {v : Nat → Int32} (hv14 : ∀ p, p < kk → rd (A 14) (60 * q + i0 + p) = v p) (hm3 : 3 ≤ m) (hm7 : m ≤ 7) (hk6 : kk = 2 * m + 6) (hmm : mtl v kk = m) (gd : ∀ p, p < 2 * m + 6 → gon m p (v p) = true) :
    ∃ A1 I1, U_X7_brook fu [.ref 1, .int (nI q), .int (nI t), .int (nI i0), .int (nI kk)] (enc A I) = some (some (.int (nI m)), enc A1 I1) ∧ RR (newS m (dig (v (2 * m + 5))) (fun c => dig (v (1 + c))) (fun c => dig (v (m + 3 + c)))) A1 I1 ∧ ∀ k, k ≠ 3 → k ≠ 4 → k ≠ 5 → A1 k = A k := by
  have hn0 := ho.1
  have ref := c_refuse (fu := fu) (I := uI I 1 7 0) r.2.1 hq ht2 ho (nI i0) (nI kk)
  rw [if_pos (fvI_in hn0 hik)] at ref
  have hb : 60 * q + i0 + kk ≤ 240 := by omega
  obtain ⟨p, hp, hp240, hc⟩ := c_first (fu := fu) (I := uI I 1 7 0) hf r.2.1 hb hv14
  rw [hmm] at hp hc
  have hpk : p = kk := hp.uniq ⟨fun k hk => ⟨hk, by omega, gd k (by omega)⟩, Or.inl rfl⟩
  rw [if_pos ⟨hpk, by omega⟩] at hc
  have dd : ∀ p', p' < 2 * m + 6 → p' ≠ 0 → p' ≠ m + 1 → p' ≠ m + 2 → p' ≠ 2 * m + 3 → p' ≠ 2 * m + 4 → v p' - 48 = nI (dig (v p')) ∧ dig (v p') ≤ 9 := fun p' h h0 h1 h2 h3 h4 => by
    have := gd p' h
    rw [gon_g h0 h1 h2 h3 h4, decide_eq_true_iff] at this
    exact dig_n this
  obtain ⟨xs, x1, x2, x3⟩ := c_makeAnew (fu := fu) (A := A) (I := uI I 1 7 0) hf r.2.1
  have hL1 : LEN (uA A 5 xs) := r.2.1.set (by rw [x1]; exact (r.len (k := 5) rfl).symm)
  have hv14' : ∀ p, p < kk → rd (uA A 5 xs 14) (60 * q + i0 + p) = v p := by rw [uA_n _ _ _ (by decide)]; exact hv14
  have ctl := c_told (fu := fu) (I := anw (uI I 1 7 0)) hf hL1 hb hv14'
  rw [hmm] at ctl
  obtain ⟨es, cs, d1, d2, d3, d4⟩ := c_readL (fu := fu) hb (m := m) hm7 (by omega) m 0 fu (uA A 5 xs 3) (uA A 5 xs 4) (uA A 5 xs) (anw (uI I 1 7 0)) hL1 hv14' (by omega) (by omega) (hL1 3 rfl) (hL1 4 rfl) (fun j hj => by omega)
  have e34 : uA (uA (uA A 5 xs) 3 (uA A 5 xs 3)) 4 (uA A 5 xs 4) = uA A 5 xs := by
    rw [uA_self]; exact uA_self _ 4
  rw [e34] at d1
  obtain ⟨A1, hA1⟩ : ∃ X, X = uA (uA (uA A 5 xs) 3 es) 4 cs := ⟨_, rfl⟩
  obtain ⟨I1, hI1⟩ : ∃ X, X = uI (uI (anw (uI I 1 7 0)) 2 9 (v (2 * m + 5) - 48)) 2 8 (nI m) := ⟨_, rfl⟩
  rw [← hA1, ← hI1] at d1
  have hLA : LEN A1 := by
    rw [hA1]
    exact (hL1.set (by rw [d2]; exact (hL1 3 rfl).symm)).set (by rw [d3, uA_n _ _ _ (by decide)]; exact (hL1 4 rfl).symm)
  have oA : ∀ k, k ≠ 3 → k ≠ 4 → k ≠ 5 → A1 k = A k := fun k a b c => by rw [hA1, uA_n _ _ _ b, uA_n _ _ _ a, uA_n _ _ _ c]
  have v3 : A1 3 = es := by rw [hA1, uA_n _ _ _ (by decide), uA_s]
  have v4 : A1 4 = cs := by rw [hA1, uA_s]
  have v5 : A1 5 = xs := by rw [hA1, uA_n _ _ _ (by decide), uA_n _ _ _ (by decide), uA_s]
  have hi8 : I1 2 8 = nI m := by rw [hI1]; exact uI_s _ _ _ _
  have dpc := dd (2 * m + 5) (by omega) (by omega) (by omega) (by omega) (by omega) (by omega)
  have ddp : ∀ c, c < m → v (1 + c) - 48 = nI (dig (v (1 + c))) ∧ dig (v (1 + c)) ≤ 9 := fun c hc => dd (1 + c) (by omega) (by omega) (by omega) (by omega) (by omega) (by omega)
  have dbd : ∀ c, c < m → v (m + 3 + c) - 48 = nI (dig (v (m + 3 + c))) ∧ dig (v (m + 3 + c)) ≤ 9 := fun c hc => dd (m + 3 + c) (by omega) (by omega) (by omega) (by omega) (by omega) (by omega)
  have hbz : ∀ (f : Nat → Bool) k, (∀ i, f i = false) → nI (bits f k) = 0 := fun f k hf => by rw [bits_z k (fun i _ => hf i)]; rfl
  refine ⟨A1, I1, ?_, ⟨newS_wf hm3 hm7 dpc.2 (fun c hc => ⟨(ddp c hc).2, (dbd c hc).2⟩), hLA, ⟨⟨?_, ?_, ?_, ?_, ?_, ?_, ?_⟩, fun c hc => ⟨?_, ?_, ?_⟩, fun s hs => absurd hs (Nat.not_lt_zero _), fun s hs => absurd hs (Nat.not_lt_zero _)⟩, ?_⟩, oA⟩
  · have rin : U_X5_readInto fu [.ref 2, .ref 11, .int (nI q), .int (nI i0), .int (nI kk)] (enc (uA A 5 xs) (anw (uI I 1 7 0))) = some (none, enc A1 I1) := by
      simp -implicitDefEqProofs only [u_X5_readInto, M_X5_readInto, ctl, io_1, gr_1_0, gr_1_1, gr_1_2, gr_1_3, gr_1_4, gr_1_5, gi_1_6, pf_1_6, gi_1_7, pf_1_7, io_2, gr_2_0, gr_2_1, gr_2_2, gr_2_3, gr_2_4, gr_2_5, gr_2_6, gr_2_7, gi_2_8, pf_2_8, gi_2_9, pf_2_9, gi_2_10, pf_2_10, gi_2_11, pf_2_11, gi_2_12, pf_2_12, gi_2_13, pf_2_13, gi_2_14, pf_2_14, io_11, gr_11_0, gr_11_1, gr_11_2, io_15, gr_15_0, gr_15_1, gi_15_2, pf_15_2, gi_15_3, pf_15_3, gi_15_4, pf_15_4, gi_15_5, pf_15_5, io_18, gr_18_0, gr_18_1, gi_18_2, pf_18_2, io_21, gr_21_0, gr_21_1, gr_21_2, gr_21_3, gi_21_4, pf_21_4, gi_21_5, pf_21_5, gi_21_6, pf_21_6, gi_21_7, pf_21_7, io_34, gr_34_0, gi_34_1, pf_34_1, al_3, al_4, al_5, al_6, al_7, al_8, al_9, al_10, al_12, al_13, al_14, al_16, al_17, al_19, al_20, al_22, al_23, al_24, al_26, al_27, al_28, al_29, al_30, al_31, al_32, al_33, al_35, ↓reduceIte, Option.bind_some, cI_some, cL_some, cV_some, rz_0, rz_1]
      exact d1
    simp -implicitDefEqProofs only [u_X7_brook, M_X7_brook, io_1, gr_1_0, gr_1_1, gr_1_2, gr_1_3, gr_1_4, gr_1_5, gi_1_6, pf_1_6, gi_1_7, pf_1_7, io_2, gr_2_0, gr_2_1, gr_2_2, gr_2_3, gr_2_4, gr_2_5, gr_2_6, gr_2_7, gi_2_8, pf_2_8, gi_2_9, pf_2_9, gi_2_10, pf_2_10, gi_2_11, pf_2_11, gi_2_12, pf_2_12, gi_2_13, pf_2_13, gi_2_14, pf_2_14, io_11, gr_11_0, gr_11_1, gr_11_2, io_15, gr_15_0, gr_15_1, gi_15_2, pf_15_2, gi_15_3, pf_15_3, gi_15_4, pf_15_4, gi_15_5, pf_15_5, io_18, gr_18_0, gr_18_1, gi_18_2, pf_18_2, io_21, gr_21_0, gr_21_1, gr_21_2, gr_21_3, gi_21_4, pf_21_4, gi_21_5, pf_21_5, gi_21_6, pf_21_6, gi_21_7, pf_21_7, io_34, gr_34_0, gi_34_1, pf_34_1, al_3, al_4, al_5, al_6, al_7, al_8, al_9, al_10, al_12, al_13, al_14, al_16, al_17, al_19, al_20, al_22, al_23, al_24, al_26, al_27, al_28, al_29, al_30, al_31, al_32, al_33, al_35, ↓reduceIte, Option.bind_some, cI_some, cL_some, cV_some, rz_0, rz_1, ref, hc, x3, rin, hi8]
    rw [if_pos (by decide)]
  · exact hi8
  · rw [hI1]; exact dpc.1
  · refine Eq.trans ?_ (hbz _ _ (fun _ => rfl)).symm
    rw [hI1]; rfl
  · rw [hI1]; rfl
  · rw [hI1]; rfl
  · refine Eq.trans ?_ (hbz _ _ (fun _ => rfl)).symm
    rw [hI1]; rfl
  · rw [hI1]; rfl
  · rw [v3, (d4 c hc).1]; exact (ddp c hc).1
  · rw [v4, (d4 c hc).2]; exact (dbd c hc).1
  · rw [v5]
    have hc' : c < m := hc
    exact x2 c (by omega)
  · unfold RS
    rw [oA 12 (by decide) (by decide) (by decide), oA 13 (by decide) (by decide) (by decide)]
    exact r.rs
end K3
end
section
/-! ===== who comes where in so many strides at most ===== -/
section CS
variable (N : Nat) (S : Nat → Bool) (e : Nat → Nat) (d a : Nat)
def nearB (p q : Nat) : Bool := decide (near e d p q)
def cs : Nat → Nat → Bool
  | 0, q => decide (q = a)
  | n + 1, q => cs n q || (List.range (N + 2)).any (fun p => cs n p && (S q && nearB e d p q))
variable {N S e d a}
theorem cs_up {n q : Nat} (h : cs N S e d a n q = true) : cs N S e d a (n + 1) q = true := by
  rw [cs, h]; rfl
theorem cs_up2 {q : Nat} : ∀ m n, cs N S e d a n q = true → cs N S e d a (n + m) q = true := by
  intro m
  induction m with
  | zero => intro n h; exact h
  | succ m ih => intro n h; exact cs_up (ih n h)
theorem cs_wk : ∀ n q, q ≤ N + 1 → (cs N S e d a n q = true → ∃ L, L ≤ n ∧ Wk N S e d a L q) := by
  intro n
  induction n with
  | zero =>
    intro q _ h
    unfold cs at h
    rw [decide_eq_true_iff] at h
    exact ⟨0, Nat.le_refl _, h⟩
  | succ n ih =>
    intro q hq h
    rw [cs, Bool.or_eq_true, List.any_eq_true] at h
    rcases h with h | ⟨p, hp, h⟩
    · obtain ⟨L, h1, h2⟩ := ih q hq h
      exact ⟨L, by omega, h2⟩
    · rw [List.mem_range] at hp
      rw [Bool.and_eq_true, Bool.and_eq_true] at h
      obtain ⟨h1, h2, h3⟩ := h
      unfold nearB at h3
      rw [decide_eq_true_iff] at h3
      obtain ⟨L, w1, w2⟩ := ih p (by omega) h1
      by_cases z : p = q
      · rw [← z]; exact ⟨L, by omega, w2⟩
      · exact ⟨L + 1, by omega, w2.s ⟨z, hq, h2, h3⟩⟩
theorem wk_cs (ha : a ≤ N + 1) : ∀ n q L, L ≤ n → Wk N S e d a L q → cs N S e d a n q = true := by
  intro n
  induction n with
  | zero =>
    intro q L hL w
    have : L = 0 := by omega
    subst this
    have w : q = a := w
    unfold cs
    exact decide_eq_true w
  | succ n ih =>
    intro q L hL w
    by_cases z : L ≤ n
    · exact cs_up (ih q L z w)
    · have e1 : L = n + 1 := by omega
      subst e1
      obtain ⟨p, w1, k⟩ := w
      have hp : p ≤ N + 1 := by
        cases n with
        | zero => have w1 : p = a := w1; omega
        | succ n => obtain ⟨_, _, g⟩ := w1; exact g.2.1
      have h1 := ih p n (Nat.le_refl _) w1
      rw [cs, Bool.or_eq_true, List.any_eq_true]
      refine Or.inr ⟨p, List.mem_range.mpr (by omega), ?_⟩
      unfold nearB
      rw [h1, k.2.2.1, decide_eq_true k.2.2.2]
      rfl
theorem cs_iff (ha : a ≤ N + 1) {n q : Nat} (hq : q ≤ N + 1) : cs N S e d a n q = true ↔ ∃ L, L ≤ n ∧ Wk N S e d a L q :=
  ⟨cs_wk n q hq, fun ⟨L, h1, h2⟩ => wk_cs ha n q L h1 h2⟩
theorem cnt_mono {p q : Nat → Bool} : ∀ n, (∀ i, i < n → p i = true → q i = true) → cnt p n ≤ cnt q n ∧ (cnt q n ≤ cnt p n → ∀ i, i < n → p i = q i) := by
  intro n
  induction n with
  | zero => intro _; exact ⟨Nat.le_refl _, fun _ i hi => by omega⟩
  | succ n ih =>
    intro h
    obtain ⟨h1, h2⟩ := ih (fun i hi => h i (by omega))
    rw [cnt, cnt]
    by_cases z : p n = true
    · rw [if_pos z, if_pos (h n (by omega) z)]
      refine ⟨by omega, fun hc i hi => ?_⟩
      by_cases y : i = n
      · rw [y, z, h n (by omega) z]
      · exact h2 (by omega) i (by omega)
    · rw [if_neg z]
      by_cases w : q n = true
      · rw [if_pos w]
        exact ⟨by omega, fun hc => by omega⟩
      · rw [if_neg w]
        refine ⟨by omega, fun hc i hi => ?_⟩
        by_cases y : i = n
        · rw [y, Bool.eq_false_iff.mpr z, Bool.eq_false_iff.mpr w]
        · exact h2 (by omega) i (by omega)
/-- at some step nothing new is reached, and then never more -/
theorem cs_next {n : Nat} (h : ∀ q, q < N + 2 → cs N S e d a n q = cs N S e d a (n + 1) q) {q : Nat} (hq : q < N + 2) : cs N S e d a (n + 1) q = cs N S e d a (n + 2) q := by
  rw [show cs N S e d a (n + 2) q = (cs N S e d a (n + 1) q || (List.range (N + 2)).any (fun p => cs N S e d a (n + 1) p && (S q && nearB e d p q))) from rfl]
  have e1 : (List.range (N + 2)).any (fun p => cs N S e d a (n + 1) p && (S q && nearB e d p q)) = (List.range (N + 2)).any (fun p => cs N S e d a n p && (S q && nearB e d p q)) := by
    rw [Bool.eq_iff_iff, List.any_eq_true, List.any_eq_true]
    constructor
    · rintro ⟨p, hp, h1⟩; exact ⟨p, hp, by rw [h p (List.mem_range.mp hp)]; exact h1⟩
    · rintro ⟨p, hp, h1⟩; exact ⟨p, hp, by rw [← h p (List.mem_range.mp hp)]; exact h1⟩
  rw [e1, show cs N S e d a (n + 1) q = (cs N S e d a n q || (List.range (N + 2)).any (fun p => cs N S e d a n p && (S q && nearB e d p q))) from rfl, Bool.or_assoc, Bool.or_self]
theorem cs_still {n : Nat} (h : ∀ q, q < N + 2 → cs N S e d a n q = cs N S e d a (n + 1) q) : ∀ m q, q < N + 2 → cs N S e d a (n + m) q = cs N S e d a n q := by
  have key : ∀ m, ∀ q, q < N + 2 → cs N S e d a (n + m) q = cs N S e d a (n + m + 1) q := by
    intro m
    induction m with
    | zero => exact h
    | succ m ih => intro q hq; exact cs_next ih hq
  intro m
  induction m with
  | zero => intro q _; rfl
  | succ m ih => intro q hq; rw [← ih q hq]; exact (key m q hq).symm
theorem cs_grow (ha : a ≤ N + 1) : ∀ n, (∃ m, m ≤ n ∧ ∀ q, q < N + 2 → cs N S e d a m q = cs N S e d a (m + 1) q) ∨ n + 1 ≤ cnt (cs N S e d a n) (N + 2) := by
  intro n
  induction n with
  | zero =>
    refine Or.inr ?_
    apply Nat.lt_of_not_le
    intro h
    have h0 := (cnt_mono (p := fun _ => false) (q := cs N S e d a 0) (N + 2) (fun i _ h => (by cases h))).2 (by omega) a (by omega)
    unfold cs at h0
    rw [decide_eq_true rfl] at h0
    cases h0
  | succ n ih =>
    rcases ih with ⟨m, h1, h2⟩ | h
    · exact Or.inl ⟨m, by omega, h2⟩
    · obtain ⟨h1, h2⟩ := cnt_mono (p := cs N S e d a n) (q := cs N S e d a (n + 1)) (N + 2) (fun i _ h => cs_up h)
      by_cases z : cnt (cs N S e d a (n + 1)) (N + 2) ≤ cnt (cs N S e d a n) (N + 2)
      · exact Or.inl ⟨n, by omega, h2 z⟩
      · exact Or.inr (by omega)
/-- in nine strides one has come wherever one comes -/
theorem cs_9 (hN : N ≤ 7) (ha : a ≤ N + 1) {q : Nat} (hq : q ≤ N + 1) : cs N S e d a 9 q = true ↔ ∃ L, Wk N S e d a L q := by
  refine ⟨fun h => (cs_wk 9 q hq h).imp fun L h => h.2, fun ⟨L, w⟩ => ?_⟩
  rcases cs_grow (S := S) (e := e) (d := d) ha 9 with ⟨m, h1, h2⟩ | h
  · have st := cs_still h2
    have h3 := wk_cs ha (m + L) q L (by omega) w
    rw [st L q (by omega)] at h3
    rw [show 9 = m + (9 - m) by omega, st (9 - m) q (by omega)]
    exact h3
  · have := cnt_le (cs N S e d a 9) (N + 2)
    omega
end CS
end
section
/-! ===== the law's own arrays: 36 b, 37 t, 38 strides, 39 laid; so many as (A 40).length says ===== -/
section LA
variable {A : Nat → List Int32} {I : Nat → Nat → Int32} {fu : Nat}
theorem at_36 (h : 1 ≤ (A 40).length) : (enc A I)[36]? = some (.inr (0, A 36)) := by
  show (tailN A (A 40).length)[0]? = _
  generalize (A 40).length = n at h
  match n, h with
  | 1, _ => rfl
  | 2, _ => rfl
  | 3, _ => rfl
  | n + 4, _ => rfl
theorem at_37 (h : 2 ≤ (A 40).length) : (enc A I)[37]? = some (.inr (0, A 37)) := by
  show (tailN A (A 40).length)[1]? = _
  generalize (A 40).length = n at h
  match n, h with
  | 2, _ => rfl
  | 3, _ => rfl
  | n + 4, _ => rfl
theorem at_38 (h : 3 ≤ (A 40).length) : (enc A I)[38]? = some (.inr (0, A 38)) := by
  show (tailN A (A 40).length)[2]? = _
  generalize (A 40).length = n at h
  match n, h with
  | 3, _ => rfl
  | n + 4, _ => rfl
theorem at_39 (h : 4 ≤ (A 40).length) : (enc A I)[39]? = some (.inr (0, A 39)) := by
  show (tailN A (A 40).length)[3]? = _
  generalize (A 40).length = n at h
  match n, h with
  | n + 4, _ => rfl
theorem enc_tl (A B : Nat → List Int32) (I : Nat → Nat → Int32) (T : XW) (h : ∀ k, k < 36 → B k = A k) (hT : tailN B (B 40).length = T) : enc B I = (enc A I).take 36 ++ T := by
  unfold enc
  rw [hT, h 0 (by decide), h 3 (by decide), h 4 (by decide), h 5 (by decide), h 6 (by decide), h 7 (by decide), h 8 (by decide), h 9 (by decide), h 10 (by decide), h 12 (by decide), h 13 (by decide), h 14 (by decide), h 16 (by decide), h 17 (by decide), h 19 (by decide), h 20 (by decide), h 22 (by decide), h 23 (by decide), h 24 (by decide), h 26 (by decide), h 27 (by decide), h 28 (by decide), h 29 (by decide), h 30 (by decide), h 31 (by decide), h 32 (by decide), h 33 (by decide), h 35 (by decide)]
  rfl
theorem enc_self (A : Nat → List Int32) (I : Nat → Nat → Int32) : enc A I = (enc A I).take 36 ++ tailN A (A 40).length := rfl
theorem set_tl {w T : XW} (hw : w.length = 36) (k : Nat) (c : XC) : (w ++ T).set (36 + k) c = w ++ T.set k c := by
  rw [List.set_append_right _ _ (by omega), hw, Nat.add_sub_cancel_left]
theorem take36 (A : Nat → List Int32) (I : Nat → Nat → Int32) : ((enc A I).take 36).length = 36 := rfl
theorem uA_lt (A : Nat → List Int32) {k : Nat} (xs : List Int32) (hk : 36 ≤ k) : ∀ j, j < 36 → uA A k xs j = A j := fun j hj => uA_n _ _ _ (by omega)
theorem set_36 (h : 1 ≤ (A 40).length) (xs : List Int32) : (enc A I).set 36 (.inr (0, xs)) = enc (uA A 36 xs) I := by
  rw [enc_tl A (uA A 36 xs) I _ (uA_lt A xs (by decide)) rfl]
  rw [show (enc A I).set 36 (.inr (0, xs)) = ((enc A I).take 36 ++ tailN A (A 40).length).set (36 + 0) (.inr (0, xs)) from rfl, set_tl (take36 A I)]
  congr 1
  rw [uA_n A 36 xs (show (40 : Nat) ≠ 36 by decide)]
  generalize (A 40).length = n at h
  match n, h with
  | 1, _ => rfl
  | 2, _ => rfl
  | 3, _ => rfl
  | n + 4, _ => rfl
theorem set_37 (h : 2 ≤ (A 40).length) (xs : List Int32) : (enc A I).set 37 (.inr (0, xs)) = enc (uA A 37 xs) I := by
  rw [enc_tl A (uA A 37 xs) I _ (uA_lt A xs (by decide)) rfl]
  rw [show (enc A I).set 37 (.inr (0, xs)) = ((enc A I).take 36 ++ tailN A (A 40).length).set (36 + 1) (.inr (0, xs)) from rfl, set_tl (take36 A I)]
  congr 1
  rw [uA_n A 37 xs (show (40 : Nat) ≠ 37 by decide)]
  generalize (A 40).length = n at h
  match n, h with
  | 2, _ => rfl
  | 3, _ => rfl
  | n + 4, _ => rfl
theorem set_38 (h : 3 ≤ (A 40).length) (xs : List Int32) : (enc A I).set 38 (.inr (0, xs)) = enc (uA A 38 xs) I := by
  rw [enc_tl A (uA A 38 xs) I _ (uA_lt A xs (by decide)) rfl]
  rw [show (enc A I).set 38 (.inr (0, xs)) = ((enc A I).take 36 ++ tailN A (A 40).length).set (36 + 2) (.inr (0, xs)) from rfl, set_tl (take36 A I)]
  congr 1
  rw [uA_n A 38 xs (show (40 : Nat) ≠ 38 by decide)]
  generalize (A 40).length = n at h
  match n, h with
  | 3, _ => rfl
  | n + 4, _ => rfl
theorem set_39 (h : 4 ≤ (A 40).length) (xs : List Int32) : (enc A I).set 39 (.inr (0, xs)) = enc (uA A 39 xs) I := by
  rw [enc_tl A (uA A 39 xs) I _ (uA_lt A xs (by decide)) rfl]
  rw [show (enc A I).set 39 (.inr (0, xs)) = ((enc A I).take 36 ++ tailN A (A 40).length).set (36 + 3) (.inr (0, xs)) from rfl, set_tl (take36 A I)]
  congr 1
  rw [uA_n A 39 xs (show (40 : Nat) ≠ 39 by decide)]
  generalize (A 40).length = n at h
  match n, h with
  | n + 4, _ => rfl
/-- an array more -/
theorem new_36 (h : A 40 = []) (xs : List Int32) : enc A I ++ [.inr (0, xs)] = enc (uA (uA A 36 xs) 40 [0]) I := by
  rw [enc_tl A (uA (uA A 36 xs) 40 [0]) I _ (fun j hj => by rw [uA_n _ _ _ (by omega), uA_n _ _ _ (by omega)]) rfl]
  rw [show enc A I ++ [.inr (0, xs)] = (enc A I).take 36 ++ tailN A (A 40).length ++ [.inr (0, xs)] from rfl, h, List.append_assoc]
  rfl
theorem new_37 {x : Int32} (h : A 40 = [x]) (xs : List Int32) : enc A I ++ [.inr (0, xs)] = enc (uA (uA A 37 xs) 40 [0, 0]) I := by
  rw [enc_tl A (uA (uA A 37 xs) 40 [0, 0]) I _ (fun j hj => by rw [uA_n _ _ _ (by omega), uA_n _ _ _ (by omega)]) rfl]
  rw [show enc A I ++ [.inr (0, xs)] = (enc A I).take 36 ++ tailN A (A 40).length ++ [.inr (0, xs)] from rfl, h, List.append_assoc]
  rfl
theorem new_38 {x y : Int32} (h : A 40 = [x, y]) (xs : List Int32) : enc A I ++ [.inr (0, xs)] = enc (uA (uA A 38 xs) 40 [0, 0, 0]) I := by
  rw [enc_tl A (uA (uA A 38 xs) 40 [0, 0, 0]) I _ (fun j hj => by rw [uA_n _ _ _ (by omega), uA_n _ _ _ (by omega)]) rfl]
  rw [show enc A I ++ [.inr (0, xs)] = (enc A I).take 36 ++ tailN A (A 40).length ++ [.inr (0, xs)] from rfl, h, List.append_assoc]
  rfl
theorem new_39 {x y z : Int32} (h : A 40 = [x, y, z]) (xs : List Int32) : enc A I ++ [.inr (0, xs)] = enc (uA (uA A 39 xs) 40 [0, 0, 0, 0]) I := by
  rw [enc_tl A (uA (uA A 39 xs) 40 [0, 0, 0, 0]) I _ (fun j hj => by rw [uA_n _ _ _ (by omega), uA_n _ _ _ (by omega)]) rfl]
  rw [show enc A I ++ [.inr (0, xs)] = (enc A I).take 36 ++ tailN A (A 40).length ++ [.inr (0, xs)] from rfl, h, List.append_assoc]
  rfl
theorem enc_len (A : Nat → List Int32) (I : Nat → Nat → Int32) : (enc A I).length = 36 + (tailN A (A 40).length).length := by
  rw [enc_self, List.length_append, take36]
theorem len_0 (h : A 40 = []) : (enc A I).length = 36 := by rw [enc_len, h]; rfl
theorem len_1 {x : Int32} (h : A 40 = [x]) : (enc A I).length = 37 := by rw [enc_len, h]; rfl
theorem len_2 {x y : Int32} (h : A 40 = [x, y]) : (enc A I).length = 38 := by rw [enc_len, h]; rfl
theorem len_3 {x y z : Int32} (h : A 40 = [x, y, z]) : (enc A I).length = 39 := by rw [enc_len, h]; rfl
theorem ai_36 (h : 1 ≤ (A 40).length) {j : Nat} (hj : j < (A 36).length) (hb : j < 2147483648) : aI (enc A I) 36 (nI j) = some (rd (A 36) j) := aI_enc (at_36 h) hj hb
theorem ai_37 (h : 2 ≤ (A 40).length) {j : Nat} (hj : j < (A 37).length) (hb : j < 2147483648) : aI (enc A I) 37 (nI j) = some (rd (A 37) j) := aI_enc (at_37 h) hj hb
theorem ai_38 (h : 3 ≤ (A 40).length) {j : Nat} (hj : j < (A 38).length) (hb : j < 2147483648) : aI (enc A I) 38 (nI j) = some (rd (A 38) j) := aI_enc (at_38 h) hj hb
theorem ai_39 (h : 4 ≤ (A 40).length) {j : Nat} (hj : j < (A 39).length) (hb : j < 2147483648) : aI (enc A I) 39 (nI j) = some (rd (A 39) j) := aI_enc (at_39 h) hj hb
theorem si_36 (h : 1 ≤ (A 40).length) {j : Nat} (x : Int32) (hj : j < (A 36).length) (hb : j < 2147483648) : sI (enc A I) 36 (nI j) x = some (enc (uA A 36 ((A 36).set j x)) I) := by
  rw [sI_enc (at_36 h) (by decide) hj hb, set_36 h]
theorem si_37 (h : 2 ≤ (A 40).length) {j : Nat} (x : Int32) (hj : j < (A 37).length) (hb : j < 2147483648) : sI (enc A I) 37 (nI j) x = some (enc (uA A 37 ((A 37).set j x)) I) := by
  rw [sI_enc (at_37 h) (by decide) hj hb, set_37 h]
theorem si_38 (h : 3 ≤ (A 40).length) {j : Nat} (x : Int32) (hj : j < (A 38).length) (hb : j < 2147483648) : sI (enc A I) 38 (nI j) x = some (enc (uA A 38 ((A 38).set j x)) I) := by
  rw [sI_enc (at_38 h) (by decide) hj hb, set_38 h]
theorem si_39 (h : 4 ≤ (A 40).length) {j : Nat} (x : Int32) (hj : j < (A 39).length) (hb : j < 2147483648) : sI (enc A I) 39 (nI j) x = some (enc (uA A 39 ((A 39).set j x)) I) := by
  rw [sI_enc (at_39 h) (by decide) hj hb, set_39 h]
/-- the state says nothing of the law's arrays -/
theorem RR.tl {σ : SG} (r : RR σ A I) {B : Nat → List Int32} (h : ∀ k, k < 36 → B k = A k) : RR σ B I := by
  obtain ⟨r1, r2, r3, r5⟩ := r
  refine ⟨r1, fun k hk => ?_, ?_, ?_⟩
  · have hk2 : k < 36 := by
      have hm := hk
      unfold isArr at hm
      have hm := List.elem_iff.mp hm
      simp only [List.mem_cons, List.not_mem_nil, or_false] at hm
      omega
    rw [h k hk2]; exact r2 k hk
  · unfold RC at *
    rw [h 3 (by decide), h 4 (by decide), h 5 (by decide), h 6 (by decide), h 7 (by decide), h 8 (by decide), h 9 (by decide), h 10 (by decide)]
    exact r3
  · unfold RS at *
    rw [h 12 (by decide), h 13 (by decide)]
    exact r5
/-! numbers out of the script -/
theorem and_max (v : Int32) : ∃ a, a < 2147483648 ∧ v &&& 2147483647 = nI a := by
  have h : ¬ (v &&& 2147483647) < 0 := by
    intro z
    rw [Int32.lt_iff_toInt_lt] at z
    have z : (v &&& 2147483647).toBitVec.toInt < 0 := z
    have hm : (v &&& 2147483647).toBitVec.msb = false := by
      rw [Int32.toBitVec_and, BitVec.msb_and]
      have : (2147483647 : Int32).toBitVec.msb = false := by decide
      rw [this, Bool.and_false]
    rw [BitVec.msb_eq_toInt] at hm
    exact absurd z (of_decide_eq_false hm)
  obtain ⟨a, h1, h2⟩ := nI_of h
  exact ⟨a, h1, h2⟩
theorem n_divL {a b : Nat} (ha : a < 2147483648) (hb : b < 2147483648) : nI a / nI b = nI (a / b) := (Int32.ofNat_div ha hb).symm
theorem n_mod {a b : Nat} (ha : a < 2147483648) (hb : b < 2147483648) : nI a - nI a / nI b * nI b = nI (a % b) := by
  rw [n_divL ha hb, pk_mul, pk_sub (Nat.div_mul_le_self a b)]
  congr 1
  have := Nat.div_add_mod a b
  rw [Nat.mul_comm] at this
  omega
theorem l_some (v : Int32) {n : Nat} (h1 : 1 ≤ n) (h2 : n < 2147483648) (w : XW) : ∃ j, j < n ∧ U_L_some fu [.int v, .int (nI n)] w = some (some (.int (nI j)), w) := by
  obtain ⟨a, ha, e⟩ := and_max v
  refine ⟨a % n, Nat.mod_lt _ (by omega), ?_⟩
  rw [u_L_some, M_L_some, if_neg (by rw [nI_pe0 h2]; omega), e, n_mod ha h2]
theorem l_cell (hl : (A 0).length < 2147483648) {k : Nat} (hk : k < 2147483648) : ∃ x, U_L_cell fu [.ref 0, .int (nI k)] (enc A I) = some (some (.int x), enc A I) := by
  have al : aL (enc A I) 0 = some (nI (A 0).length) := rfl
  rw [u_L_cell, M_L_cell, al, Option.bind_some]
  by_cases z : k < (A 0).length
  · have e : aI (enc A I) 0 (nI k) = some (rd (A 0) k) := by
      unfold aI
      rw [show (enc A I)[0]? = some (.inr (2, A 0)) from rfl]
      dsimp only
      rw [if_pos ⟨Or.inr rfl, nI_pos' hk⟩, nI_clamp hk, rd, List.getD_eq_getElem?_getD, List.getElem?_eq_getElem z]
      rfl
    rw [e]
    refine ⟨rd (A 0) k, ?_⟩
    rw [if_pos (nI_lt z hl)]
    rfl
  · refine ⟨747796405 * (nI k + 1), ?_⟩
    rw [if_neg (by rw [n_lt hk hl]; exact z)]
end LA
end
section
/-! ===== the law's own helpers over b, t, laid ===== -/
def lo (k : Nat) : Int32 := if k = 0 then -1 else nI (k - 1)
theorem lo_neg {k : Nat} (hk : k ≤ 100) : (lo k < 0) = (k = 0) := by
  unfold lo
  by_cases h : k = 0
  · rw [if_pos h]; exact propext ⟨fun _ => h, fun _ => by decide⟩
  · rw [if_neg h, n_neg (by omega)]; exact propext ⟨fun w => w.elim, fun w => h w⟩
theorem lo_s (s : Nat) : lo (s + 1) = nI s := rfl
section LH
variable {σ : SG} {A : Nat → List Int32} {I : Nat → Nat → Int32} {fu : Nat}
/-- what the law's arrays tell -/
def LB (σ : SG) (A : Nat → List Int32) : Prop :=
  WF σ ∧ (A 40).length = 4 ∧ (A 36).length = 16 ∧ (A 37).length = 24 ∧ (A 38).length = 3 ∧ (A 39).length = 7 ∧
  rd (A 36) 0 = nI (σ 0 0) ∧ (∀ c, c < σ 0 0 → rd (A 36) (2 + c) = nI (σ 1 c)) ∧ (∀ k, k < σ 0 3 → rd (A 37) k = nI (σ 3 k) ∧ rd (A 37) (6 + k) = nI (σ 4 k)) ∧
  (∀ x, x < 3 → rd (A 38) x = nI (σ 10 x)) ∧ ∀ c, c < σ 0 0 → rd (A 39) c = lo (σ 7 c)
theorem LB.b0 (h : LB σ A) : aI (enc A I) 36 0 = some (nI (σ 0 0)) := by
  obtain ⟨h0, h1, h2, h3, h4, h5, h6, -⟩ := h
  exact (ai_36 (j := 0) (by omega) (by omega) (by omega)).trans (by rw [h6])
theorem LB.b2 (h : LB σ A) {c : Nat} (hc : c < σ 0 0) : aI (enc A I) 36 (nI (2 + c)) = some (nI (σ 1 c)) := by
  obtain ⟨h0, h1, h2, h3, h4, h5, h6, h7, -⟩ := h
  have hn : σ 0 0 ≤ 7 := h0.2.1
  exact (ai_36 (by omega) (by omega) (by omega)).trans (by rw [h7 c hc])
theorem LB.t0 (h : LB σ A) {k : Nat} (hk : k < σ 0 3) : aI (enc A I) 37 (nI k) = some (nI (σ 3 k)) ∧ aI (enc A I) 37 (nI (6 + k)) = some (nI (σ 4 k)) := by
  obtain ⟨h0, h1, h2, h3, h4, h5, h6, h7, h8, -⟩ := h
  have hm : σ 0 3 ≤ 6 := h0.2.2.2.2.1
  exact ⟨(ai_37 (by omega) (by omega) (by omega)).trans (by rw [(h8 k hk).1]), (ai_37 (by omega) (by omega) (by omega)).trans (by rw [(h8 k hk).2])⟩
theorem LB.s0 (h : LB σ A) {x : Nat} (hx : x < 3) : aI (enc A I) 38 (nI x) = some (nI (σ 10 x)) := by
  obtain ⟨h0, h1, h2, h3, h4, h5, h6, h7, h8, h9, -⟩ := h
  exact (ai_38 (by omega) (by omega) (by omega)).trans (by rw [h9 x hx])
theorem LB.l0 (h : LB σ A) {c : Nat} (hc : c < σ 0 0) : aI (enc A I) 39 (nI c) = some (lo (σ 7 c)) := by
  obtain ⟨h0, h1, h2, h3, h4, h5, h6, h7, h8, h9, h10⟩ := h
  have hn : σ 0 0 ≤ 7 := h0.2.1
  exact (ai_39 (by omega) (by omega) (by omega)).trans (by rw [h10 c hc])
theorem LB.row (h : LB σ A) {c s : Nat} (hc : c < σ 0 0) (hs : σ 7 c = s + 1) : s < σ 0 3 := (h.1.2.2.2.2.2.2.2.2.2.2.1 c hc s hs).1
theorem LB.le (h : LB σ A) {c : Nat} (hc : c < σ 0 0) : σ 7 c ≤ 6 := by
  have hm : σ 0 3 ≤ 6 := h.1.2.2.2.2.1
  cases hk : σ 7 c with
  | zero => omega
  | succ s => have := h.row hc hk; omega
theorem lt_n (a b : Nat) : (1 : Int32) + nI a = nI (1 + a) ∧ (6 : Int32) + nI b = nI (6 + b) := ⟨by rw [show (1 : Int32) = nI 1 from rfl, nI_add], by rw [show (6 : Int32) = nI 6 from rfl, nI_add]⟩
theorem l_stands (h : LB σ A) {v p : Nat} (hv : v ≤ 9) (hp : p ≤ σ 0 0 + 1) : U_L_stands fu [.ref 36, .ref 37, .ref 39, .int (nI v), .int (nI p)] (enc A I) = some (some (.int (bI (Sd σ (σ 7) v p = true))), enc A I) := by
  have hn : σ 0 0 ≤ 7 := h.1.2.1
  rw [u_L_stands, M_L_stands]
  simp only [nI_pe0 (show p < 2147483648 by omega), h.b0, Option.bind_some, nI_1, n_eq (show p < 2147483648 by omega) (show σ 0 0 + 1 < 2147483648 by omega)]
  unfold Sd
  by_cases z : p = 0
  · rw [if_pos z, bI_t (decide_eq_true (Or.inl z))]; rfl
  · rw [if_neg z]
    by_cases y : p = σ 0 0 + 1
    · rw [if_pos y, bI_t (decide_eq_true (Or.inr (Or.inl y)))]; rfl
    · obtain ⟨c, rfl⟩ : ∃ c, p = c + 1 := ⟨p - 1, by omega⟩
      have hc : c < σ 0 0 := by omega
      rw [if_neg y]
      simp only [n_sub1, h.l0 hc, Option.bind_some, lo_neg (show σ 7 c ≤ 100 by have := h.le hc; omega), Nat.add_sub_cancel]
      by_cases w : σ 7 c = 0
      · rw [if_pos w, bI_f (by rw [decide_eq_true_iff]; omega)]; rfl
      · obtain ⟨s, hs⟩ : ∃ s, σ 7 c = s + 1 := ⟨σ 7 c - 1, by omega⟩
        have hsM := h.row hc hs
        have hst := h.1.2.2.2.2.2.2.2.2.1 s hsM
        have hcl := h.1.2.2.2.2.2.2.2.1 c hc
        rw [if_neg w]
        simp only [hs, lo_s, (lt_n 0 s).2, (h.t0 hsM).2, Option.bind_some, (lt_n (c + 1) 0).1, show 1 + (c + 1) = 2 + c by omega, h.b2 hc, nI_add, n_lt (show σ 1 c + v < 2147483648 by omega) (show σ 4 s < 2147483648 by omega), Nat.add_sub_cancel]
        by_cases q : σ 1 c + v < σ 4 s
        · rw [if_pos q, bI_t (decide_eq_true (Or.inr (Or.inr ⟨by omega, q⟩)))]; rfl
        · rw [if_neg q, bI_f (by rw [decide_eq_true_iff]; omega)]; rfl
/-- what a table takes off -/
theorem l_goes1 (h : LB σ A) {p q d : Nat} (hp : p ≤ σ 0 0 + 1) (x : Int32) (n : Nat) : (F_L_goes fu (n + 1)).1 36 37 39 (nI d) (nI p) (nI q) x (enc A I) = (F_L_goes fu n).2.1 36 37 39 (nI d) (nI q) (if ez σ (σ 7) p = 1 then x + (-1) else x) (enc A I) := by
  have hn : σ 0 0 ≤ 7 := h.1.2.1
  rw [F_L_goes]
  dsimp only
  simp only [nI_0lt (show p < 2147483648 by omega), h.b0, Option.bind_some, n_lt (show σ 0 0 < 2147483648 by omega) (show p < 2147483648 by omega)]
  unfold ez
  by_cases z : p = 0
  · rw [if_neg (by omega), if_pos (Or.inl z), if_neg (by decide)]
  · rw [if_pos (by omega)]
    by_cases y : p = σ 0 0 + 1
    · rw [if_pos (by omega), if_pos (Or.inr y), if_neg (by decide)]
    · obtain ⟨c, rfl⟩ : ∃ c, p = c + 1 := ⟨p - 1, by omega⟩
      have hc : c < σ 0 0 := by omega
      rw [if_neg (by omega), if_neg (show ¬ (c + 1 = 0 ∨ c + 1 = σ 0 0 + 1) by omega)]
      simp only [n_sub1, h.l0 hc, Option.bind_some, lo_neg (show σ 7 c ≤ 100 by have := h.le hc; omega), Nat.add_sub_cancel]
      by_cases w : σ 7 c = 0
      · rw [if_pos w, if_neg (show ¬ (σ 7 c ≠ 0 ∧ σ 3 (σ 7 c - 1) = 2) by omega), if_neg (by decide)]
      · obtain ⟨s, hs⟩ : ∃ s, σ 7 c = s + 1 := ⟨σ 7 c - 1, by omega⟩
        have hsM := h.row hc hs
        have hst := h.1.2.2.2.2.2.2.2.2.1 s hsM
        have e2 : (nI (σ 3 s) = 2) = (σ 3 s = 2) := n_eq (by omega) (by decide)
        rw [if_neg w]
        simp only [hs, lo_s, (h.t0 hsM).1, Option.bind_some, e2, Nat.add_sub_cancel]
        by_cases g : σ 3 s = 2
        · rw [if_pos g, if_pos (show s + 1 ≠ 0 ∧ σ 3 s = 2 from ⟨by omega, g⟩), if_pos rfl]
        · have e4 : (if s + 1 ≠ 0 ∧ σ 3 s = 2 then 1 else 0) = 0 := if_neg (fun z => g z.2)
          rw [if_neg g, e4, if_neg (by decide)]
theorem l_goes2 (h : LB σ A) {q d : Nat} (hq : q ≤ σ 0 0 + 1) (x : Int32) (n : Nat) : (F_L_goes fu (n + 1)).2.1 36 37 39 (nI d) (nI q) x (enc A I) = (F_L_goes fu n).2.2 (nI d) (if ez σ (σ 7) q = 1 then x + (-1) else x) (enc A I) := by
  have hn : σ 0 0 ≤ 7 := h.1.2.1
  rw [F_L_goes]
  dsimp only
  simp only [nI_0lt (show q < 2147483648 by omega), h.b0, Option.bind_some, n_lt (show σ 0 0 < 2147483648 by omega) (show q < 2147483648 by omega)]
  unfold ez
  by_cases z : q = 0
  · rw [if_neg (by omega), if_pos (Or.inl z), if_neg (by decide)]
  · rw [if_pos (by omega)]
    by_cases y : q = σ 0 0 + 1
    · rw [if_pos (by omega), if_pos (Or.inr y), if_neg (by decide)]
    · obtain ⟨c, rfl⟩ : ∃ c, q = c + 1 := ⟨q - 1, by omega⟩
      have hc : c < σ 0 0 := by omega
      rw [if_neg (by omega), if_neg (show ¬ (c + 1 = 0 ∨ c + 1 = σ 0 0 + 1) by omega)]
      simp only [n_sub1, h.l0 hc, Option.bind_some, lo_neg (show σ 7 c ≤ 100 by have := h.le hc; omega), Nat.add_sub_cancel]
      by_cases w : σ 7 c = 0
      · rw [if_pos w, if_neg (show ¬ (σ 7 c ≠ 0 ∧ σ 3 (σ 7 c - 1) = 2) by omega), if_neg (by decide)]
      · obtain ⟨s, hs⟩ : ∃ s, σ 7 c = s + 1 := ⟨σ 7 c - 1, by omega⟩
        have hsM := h.row hc hs
        have hst := h.1.2.2.2.2.2.2.2.2.1 s hsM
        have e2 : (nI (σ 3 s) = 2) = (σ 3 s = 2) := n_eq (by omega) (by decide)
        rw [if_neg w]
        simp only [hs, lo_s, (h.t0 hsM).1, Option.bind_some, e2, Nat.add_sub_cancel]
        by_cases g : σ 3 s = 2
        · rw [if_pos g, if_pos (show s + 1 ≠ 0 ∧ σ 3 s = 2 from ⟨by omega, g⟩), if_pos rfl]
        · have e4 : (if s + 1 ≠ 0 ∧ σ 3 s = 2 then 1 else 0) = 0 := if_neg (fun z => g z.2)
          rw [if_neg g, e4, if_neg (by decide)]
theorem go_num : ∀ k, k < 9 → ∀ e, e < 3 → ∀ d, d < 10 → (nI d < nI k + (if e = 0 then 0 else if e = 1 then -1 else -2) ↔ d + e < k) := by decide +kernel
theorem l_goes (hf : 1000 ≤ fu) (h : LB σ A) {p q d : Nat} (hd : d ≤ 9) (hp : p ≤ σ 0 0 + 1) (hq : q ≤ σ 0 0 + 1) : U_L_goes fu [.ref 36, .ref 37, .ref 39, .int (nI d), .int (nI p), .int (nI q)] (enc A I) = some (some (.int (bI (near (ez σ (σ 7)) d p q))), enc A I) := by
  have hn : σ 0 0 ≤ 7 := h.1.2.1
  have e1 := (rw_of σ (σ 7) 0).2.2.2.2
  have ep := e1 p
  have eq := e1 q
  obtain ⟨n, hfu⟩ : ∃ n, fu = n + 3 := ⟨fu - 3, by omega⟩
  have key : ∀ k, k < 9 → (k = q - p ∨ k = p - q) → (p < q → k = q - p) → (q < p → k = p - q) → (F_L_goes fu fu).1 36 37 39 (nI d) (nI p) (nI q) (nI k) (enc A I) = some (some (.int (bI (near (ez σ (σ 7)) d p q))), enc A I) := fun k hk _ h1 h2 => by
    rw [show F_L_goes fu fu = F_L_goes fu (n + 2 + 1) by rw [← hfu], l_goes1 h hp, l_goes2 h hq, F_L_goes]
    dsimp only
    have e3 : (if ez σ (σ 7) q = 1 then (if ez σ (σ 7) p = 1 then nI k + (-1) else nI k) + (-1) else (if ez σ (σ 7) p = 1 then nI k + (-1) else nI k)) = nI k + (if ez σ (σ 7) p + ez σ (σ 7) q = 0 then 0 else if ez σ (σ 7) p + ez σ (σ 7) q = 1 then -1 else -2) := by
      have a1 : ez σ (σ 7) p = 0 ∨ ez σ (σ 7) p = 1 := by omega
      have a2 : ez σ (σ 7) q = 0 ∨ ez σ (σ 7) q = 1 := by omega
      rcases a1 with a1 | a1 <;> rcases a2 with a2 | a2 <;> rw [a1, a2]
      · rw [if_neg (by decide), if_neg (by decide), if_pos (by decide), Int32.add_zero]
      · rw [if_pos rfl, if_neg (by decide), if_neg (by decide), if_pos (by decide)]
      · rw [if_neg (by decide), if_pos rfl, if_neg (by decide), if_pos (by decide)]
      · rw [if_pos rfl, if_pos rfl, if_neg (by decide), if_neg (by decide), Int32.add_assoc]; rfl
    rw [e3]
    have gn := go_num k hk (ez σ (σ 7) p + ez σ (σ 7) q) (by omega) d (by omega)
    by_cases z : d + (ez σ (σ 7) p + ez σ (σ 7) q) < k
    · rw [if_pos (gn.mpr z), bI_f (fun w => by
        rcases Nat.lt_or_ge p q with y | y
        · have := w.1 y; have := h1 y; omega
        · rcases Nat.lt_or_ge q p with y2 | y2
          · have := w.2 y2; have := h2 y2; omega
          · omega)]
      rfl
    · rw [if_neg (fun w => z (gn.mp w)), bI_t ⟨fun y => by have := h1 y; omega, fun y => by have := h2 y; omega⟩]
      rfl
  rw [u_L_goes, M_L_goes]
  simp only [n_lt (show p < 2147483648 by omega) (show q < 2147483648 by omega)]
  by_cases z : p < q
  · rw [if_pos z, pk_sub (show p ≤ q by omega)]
    exact key (q - p) (by omega) (Or.inl rfl) (fun _ => rfl) (fun w => by omega)
  · rw [if_neg z, pk_sub (show q ≤ p by omega)]
    exact key (p - q) (by omega) (Or.inr rfl) (fun w => by omega) (fun _ => rfl)
end LH
end
section
/-! ===== the law's come: bits of the places reached in so many strides at most ===== -/
theorem bits_orq {B : Nat → Bool} {n q : Nat} (hq : q < n) : bits B n ||| 2 ^ q = bits (fun j => B j || decide (j = q)) n := by
  refine bits_ext (n := n) (Nat.or_lt_two_pow (bits_lt B n) (Nat.pow_lt_pow_right (by omega) hq)) (bits_lt _ n) fun i hi => ?_
  rw [Nat.testBit_or, bits_test, bits_test, Nat.testBit_two_pow, decide_eq_true hi]
  by_cases z : i = q
  · rw [decide_eq_true z, decide_eq_true z.symm]; rfl
  · rw [decide_eq_false z, decide_eq_false (fun w => z w.symm)]; rfl
theorem bits_has {B : Nat → Bool} {n q : Nat} (hn : n ≤ 30) (hq : q < n) : ((nI (bits B n) >>> (nI q &&& 31)) &&& 1 = 1) = (B q = true) := by
  have h := bits_lt B n
  have h2 : 2 ^ n ≤ 2 ^ 30 := Nat.pow_le_pow_right (by omega) hn
  have h2 : 2 ^ n ≤ 1073741824 := h2
  rw [bit_n (show bits B n < 2147483648 by omega) (by omega), bits_test, decide_eq_true hq]
  cases B q
  · exact propext ⟨fun w => absurd w (by decide), fun w => absurd w (by decide)⟩
  · exact propext ⟨fun _ => rfl, fun _ => rfl⟩
section CO
variable {σ : SG} {A : Nat → List Int32} {I : Nat → Nat → Int32} {fu : Nat}
/-- what has been found midway a round: all that lie before p are looked at, of p itself so many -/
def mid (N : Nat) (S : Nat → Bool) (e : Nat → Nat) (d a n p q j : Nat) : Bool :=
  (cs N S e d a n j || (List.range p).any (fun t => cs N S e d a n t && (S j && nearB e d t j))) || (decide (j < q) && (cs N S e d a n p && (S j && nearB e d p j)))
section M0
variable {N : Nat} {S : Nat → Bool} {e : Nat → Nat} {d a n p : Nat}
theorem mid_next {j q : Nat} (h : j < q ∨ (cs N S e d a n p && (S j && nearB e d p j)) = false) : mid N S e d a n p q j = mid N S e d a n (p + 1) 0 j := by
  unfold mid
  rw [List.range_succ, List.any_append, decide_eq_false (Nat.not_lt_zero j), Bool.false_and, Bool.or_false]
  simp only [List.any_cons, List.any_nil, Bool.or_false]
  rcases h with h | h
  · rw [decide_eq_true h, Bool.true_and, Bool.or_assoc]
  · rw [h, Bool.and_false, Bool.or_false, Bool.or_false]
theorem mid_up {q j : Nat} : mid N S e d a n p (q + 1) j = (mid N S e d a n p q j || (decide (j = q) && (cs N S e d a n p && (S q && nearB e d p q)))) := by
  unfold mid
  generalize (cs N S e d a n j || (List.range p).any (fun t => cs N S e d a n t && (S j && nearB e d t j))) = u
  rw [Bool.or_assoc]
  congr 1
  by_cases z : j = q
  · subst z
    rw [decide_eq_true (Nat.lt_succ_self j), decide_eq_false (Nat.lt_irrefl j), decide_eq_true (rfl : j = j)]; rfl
  · rw [decide_eq_false z, Bool.false_and, Bool.or_false]
    congr 1
    exact decide_eq_decide.mpr (by omega)
theorem mid_0 {j : Nat} : mid N S e d a n 0 0 j = cs N S e d a n j := by
  unfold mid
  rw [decide_eq_false (Nat.not_lt_zero j), Bool.false_and, Bool.or_false]
  exact Bool.or_false _
theorem mid_N {j : Nat} : mid N S e d a n (N + 2) 0 j = cs N S e d a (n + 1) j := by
  unfold mid
  rw [decide_eq_false (Nat.not_lt_zero j), Bool.false_and, Bool.or_false]
  rfl
end M0
theorem nI_two (k : Nat) : nI k + 2 = nI (k + 2) := by rw [show (2 : Int32) = nI 2 from rfl, nI_add]
theorem come_q (hf : 1000 ≤ fu) (h : LB σ A) {v d a n p : Nat} (hv : v ≤ 9) (hd : d ≤ 9) (hp : p < σ 0 0 + 2) (a6 a8 : Int32) : ∀ m q k, q + m = σ 0 0 + 2 → m < k → ∃ k', k ≤ k' + m + 1 ∧
    (F_L_come fu k).2.2 36 37 39 (nI v) (nI d) a6 (nI (bits (cs (σ 0 0) (Sd σ (σ 7) v) (ez σ (σ 7)) d a n) (σ 0 0 + 2))) a8 (nI (bits (mid (σ 0 0) (Sd σ (σ 7) v) (ez σ (σ 7)) d a n p q) (σ 0 0 + 2))) (nI p) (nI q) (enc A I) =
    (F_L_come fu k').2.1 36 37 39 (nI v) (nI d) a6 (nI (bits (cs (σ 0 0) (Sd σ (σ 7) v) (ez σ (σ 7)) d a n) (σ 0 0 + 2))) a8 (nI (bits (mid (σ 0 0) (Sd σ (σ 7) v) (ez σ (σ 7)) d a n (p + 1) 0) (σ 0 0 + 2))) (nI (p + 1)) (enc A I) := by
  have hn : σ 0 0 ≤ 7 := h.1.2.1
  intro m
  induction m with
  | zero =>
    intro q k hq hk
    obtain ⟨k, rfl⟩ : ∃ j, k = j + 1 := ⟨k - 1, by omega⟩
    refine ⟨k, by omega, ?_⟩
    rw [F_L_come]
    dsimp only
    simp only [h.b0, Option.bind_some, nI_two, n_lt (show q < 2147483648 by omega) (show σ 0 0 + 2 < 2147483648 by omega), nI_1]
    rw [if_neg (by omega)]
    rw [bits_congr (σ 0 0 + 2) (fun i hi => mid_next (q := q) (Or.inl (by omega)))]
  | succ m ih =>
    intro q k hq hk
    obtain ⟨k, rfl⟩ : ∃ j, k = j + 1 := ⟨k - 1, by omega⟩
    rw [F_L_come]
    dsimp only
    simp only [h.b0, Option.bind_some, nI_two, n_lt (show q < 2147483648 by omega) (show σ 0 0 + 2 < 2147483648 by omega), nI_1, bits_has (show σ 0 0 + 2 ≤ 30 by omega) hp]
    rw [if_pos (show q < σ 0 0 + 2 by omega)]
    obtain ⟨k', k1, k2⟩ := ih (q + 1) k (by omega) (by omega)
    by_cases z : cs (σ 0 0) (Sd σ (σ 7) v) (ez σ (σ 7)) d a n p = true
    · rw [if_pos z]
      simp only [l_stands h hv (show q ≤ σ 0 0 + 1 by omega), cI_some, bI_0]
      by_cases s : Sd σ (σ 7) v q = true
      · rw [if_neg (fun w => w s)]
        simp only [l_goes hf h hd (show p ≤ σ 0 0 + 1 by omega) (show q ≤ σ 0 0 + 1 by omega), cI_some, bI_0]
        by_cases g : near (ez σ (σ 7)) d p q
        · rw [if_neg (fun w => w g), sh_1 (show q < 31 by omega), n_or, bits_orq (show q < σ 0 0 + 2 by omega)]
          refine ⟨k', by omega, ?_⟩
          rw [← k2]
          refine (congrArg (fun z => (F_L_come fu k).2.2 36 37 39 (nI v) (nI d) a6 (nI (bits (cs (σ 0 0) (Sd σ (σ 7) v) (ez σ (σ 7)) d a n) (σ 0 0 + 2))) a8 (nI z) (nI p) (nI (q + 1)) (enc A I)) (bits_congr (σ 0 0 + 2) fun i _ => ?_))
          have g' : nearB (ez σ (σ 7)) d p q = true := decide_eq_true g
          rw [mid_up, z, s, g']
          simp only [Bool.and_true]
        · rw [if_pos g]
          refine ⟨k', by omega, ?_⟩
          rw [← k2]
          refine (congrArg (fun z => (F_L_come fu k).2.2 36 37 39 (nI v) (nI d) a6 (nI (bits (cs (σ 0 0) (Sd σ (σ 7) v) (ez σ (σ 7)) d a n) (σ 0 0 + 2))) a8 (nI z) (nI p) (nI (q + 1)) (enc A I)) (bits_congr (σ 0 0 + 2) fun i _ => ?_))
          have g' : nearB (ez σ (σ 7)) d p q = false := decide_eq_false g
          rw [mid_up, g', Bool.and_false, Bool.and_false, Bool.and_false, Bool.or_false]
      · rw [if_pos s]
        refine ⟨k', by omega, ?_⟩
        rw [← k2]
        refine (congrArg (fun z => (F_L_come fu k).2.2 36 37 39 (nI v) (nI d) a6 (nI (bits (cs (σ 0 0) (Sd σ (σ 7) v) (ez σ (σ 7)) d a n) (σ 0 0 + 2))) a8 (nI z) (nI p) (nI (q + 1)) (enc A I)) (bits_congr (σ 0 0 + 2) fun i _ => ?_))
        rw [mid_up, Bool.eq_false_iff.mpr s, Bool.false_and, Bool.and_false, Bool.and_false, Bool.or_false]
    · rw [if_neg z]
      refine ⟨k, by omega, ?_⟩
      rw [bits_congr (σ 0 0 + 2) (fun i hi => mid_next (q := q) (Or.inr (by rw [Bool.eq_false_iff.mpr z, Bool.false_and])))]
theorem come_p (hf : 1000 ≤ fu) (h : LB σ A) {v d a n : Nat} (hv : v ≤ 9) (hd : d ≤ 9) (a6 a8 : Int32) : ∀ m p k, p + m = σ 0 0 + 2 → 11 * m < k → ∃ k', k ≤ k' + 11 * m + 1 ∧
    (F_L_come fu k).2.1 36 37 39 (nI v) (nI d) a6 (nI (bits (cs (σ 0 0) (Sd σ (σ 7) v) (ez σ (σ 7)) d a n) (σ 0 0 + 2))) a8 (nI (bits (mid (σ 0 0) (Sd σ (σ 7) v) (ez σ (σ 7)) d a n p 0) (σ 0 0 + 2))) (nI p) (enc A I) =
    (F_L_come fu k').1 36 37 39 (nI v) (nI d) a6 (nI (bits (cs (σ 0 0) (Sd σ (σ 7) v) (ez σ (σ 7)) d a (n + 1)) (σ 0 0 + 2))) (a8 + 1) (enc A I) := by
  have hn : σ 0 0 ≤ 7 := h.1.2.1
  intro m
  induction m with
  | zero =>
    intro p k hp hk
    obtain ⟨k, rfl⟩ : ∃ j, k = j + 1 := ⟨k - 1, by omega⟩
    refine ⟨k, by omega, ?_⟩
    rw [F_L_come]
    dsimp only
    simp only [h.b0, Option.bind_some, nI_two, n_lt (show p < 2147483648 by omega) (show σ 0 0 + 2 < 2147483648 by omega)]
    rw [if_neg (by omega), show p = σ 0 0 + 2 by omega]
    rw [bits_congr (σ 0 0 + 2) (fun i _ => mid_N (j := i))]
  | succ m ih =>
    intro p k hp hk
    obtain ⟨k, rfl⟩ : ∃ j, k = j + 1 := ⟨k - 1, by omega⟩
    rw [F_L_come]
    dsimp only
    simp only [h.b0, Option.bind_some, nI_two, n_lt (show p < 2147483648 by omega) (show σ 0 0 + 2 < 2147483648 by omega)]
    rw [if_pos (show p < σ 0 0 + 2 by omega)]
    obtain ⟨k1, x1, x2⟩ := come_q (I := I) hf h (a := a) (n := n) hv hd (show p < σ 0 0 + 2 by omega) a6 a8 (σ 0 0 + 2) 0 k (by omega) (by omega)
    obtain ⟨k2, y1, y2⟩ := ih (p + 1) k1 (by omega) (by omega)
    exact ⟨k2, by omega, x2.trans y2⟩
theorem come_n (hf : 1000 ≤ fu) (h : LB σ A) {v d a n : Nat} (hv : v ≤ 9) (hd : d ≤ 9) (hn9 : n ≤ 9) : ∀ m i k, i + m = n → 101 * m < k →
    (F_L_come fu k).1 36 37 39 (nI v) (nI d) (nI n) (nI (bits (cs (σ 0 0) (Sd σ (σ 7) v) (ez σ (σ 7)) d a i) (σ 0 0 + 2))) (nI i) (enc A I) =
    some (some (.int (nI (bits (cs (σ 0 0) (Sd σ (σ 7) v) (ez σ (σ 7)) d a n) (σ 0 0 + 2)))), enc A I) := by
  have hn : σ 0 0 ≤ 7 := h.1.2.1
  intro m
  induction m with
  | zero =>
    intro i k hi hk
    obtain ⟨k, rfl⟩ : ∃ j, k = j + 1 := ⟨k - 1, by omega⟩
    rw [F_L_come]
    dsimp only
    simp only [n_lt (show i < 2147483648 by omega) (show n < 2147483648 by omega)]
    rw [if_neg (by omega), show i = n by omega]
  | succ m ih =>
    intro i k hi hk
    obtain ⟨k, rfl⟩ : ∃ j, k = j + 1 := ⟨k - 1, by omega⟩
    rw [F_L_come]
    dsimp only
    simp only [n_lt (show i < 2147483648 by omega) (show n < 2147483648 by omega)]
    rw [if_pos (show i < n by omega)]
    obtain ⟨k1, x1, x2⟩ := come_p (I := I) hf h (a := a) (n := i) hv hd (nI n) (nI i) (σ 0 0 + 2) 0 k (by omega) (by omega)
    rw [bits_congr (σ 0 0 + 2) (fun j _ => mid_0 (j := j)), nI_1] at x2
    exact x2.trans (ih (i + 1) k1 (by omega) (by omega))
theorem l_come (hf : 1000 ≤ fu) (h : LB σ A) {v d a n : Nat} (hv : v ≤ 9) (hd : d ≤ 9) (ha : a ≤ σ 0 0 + 1) (hn9 : n ≤ 9) :
    U_L_come fu [.ref 36, .ref 37, .ref 39, .int (nI v), .int (nI d), .int (nI a), .int (nI n)] (enc A I) = some (some (.int (nI (bits (cs (σ 0 0) (Sd σ (σ 7) v) (ez σ (σ 7)) d a n) (σ 0 0 + 2)))), enc A I) := by
  have hn : σ 0 0 ≤ 7 := h.1.2.1
  have e : (1 : Int32) <<< (nI a &&& 31) = nI (bits (cs (σ 0 0) (Sd σ (σ 7) v) (ez σ (σ 7)) d a 0) (σ 0 0 + 2)) := by
    rw [sh_1 (show a < 31 by omega)]
    congr 1
    have := bits_orq (B := fun _ => false) (show a < σ 0 0 + 2 by omega)
    rw [bits_z (p := fun _ => false) _ (fun _ _ => rfl), Nat.zero_or] at this
    rw [this]
    exact bits_congr _ fun i _ => rfl
  rw [u_L_come, M_L_come, e]
  exact come_n hf h hv hd hn9 n 0 fu (by omega) (by omega)
/-- whether one has come so far -/
theorem come_bit (hN : σ 0 0 ≤ 7) {S : Nat → Bool} {e : Nat → Nat} {d a n q : Nat} (hq : q ≤ σ 0 0 + 1) : ((nI (bits (cs (σ 0 0) S e d a n) (σ 0 0 + 2)) >>> (nI q &&& 31)) &&& 1 = 1) = (cs (σ 0 0) S e d a n q = true) :=
  bits_has (by omega) (by omega)
theorem cs_X (hN : σ 0 0 ≤ 7) {v d : Nat} : cs (σ 0 0) (Sd σ (σ 7) v) (ez σ (σ 7)) d 0 9 (σ 0 0 + 1) = true ↔ X σ (σ 7) v d := by
  rw [cs_9 hN (by omega) (by omega), X_rea]
  exact Iff.rfl
theorem l_can (hf : 1000 ≤ fu) (h : LB σ A) {v d : Nat} (hv : v ≤ 9) (hd : d ≤ 9) :
    U_L_can fu [.ref 36, .ref 37, .ref 39, .int (nI v), .int (nI d)] (enc A I) = some (some (.int (bI (X σ (σ 7) v d))), enc A I) := by
  have hn : σ 0 0 ≤ 7 := h.1.2.1
  rw [u_L_can, M_L_can]
  have c := l_come (I := I) hf h (a := 0) (n := 9) hv hd (by omega) (by omega)
  rw [show nI 0 = (0 : Int32) from rfl, show nI 9 = (9 : Int32) from rfl] at c
  simp only [c, cI_some, h.b0, Option.bind_some, nI_1, come_bit hn (show σ 0 0 + 1 ≤ σ 0 0 + 1 by omega), cs_X hn]
  by_cases z : X σ (σ 7) v d
  · rw [if_pos z, bI_t z]; rfl
  · rw [if_neg z, bI_f z]; rfl
end CO
end
section
/-! ===== the law's brook: its text, and what b holds ===== -/
theorem cut_0 : ∀ n, n < 128 → cutI 0 (nI n) = nI n := by decide +kernel
theorem cut_1 : ∀ n, n < 128 → cutI 1 (nI n) = nI n := by decide +kernel
section PU
variable {σ : SG} {A : Nat → List Int32} {J : Nat → Nat → Int32} {fu : Nat}
/-- while the text is being written -/
def PF (σ : SG) (A : Nat → List Int32) (J : Nat → Nat → Int32) : Prop := RR σ A J ∧ SHo A 0 (some (30, 0)) ∧ A 40 = [0] ∧ (A 36).length = 16 ∧ uI J 1 7 0 = J ∧ (A 0).length < 2147483648
def FP (A B : Nat → List Int32) : Prop := ∀ k, k ≠ 14 → k ≠ 36 → B k = A k
theorem FP.rf (A : Nat → List Int32) : FP A A := fun _ _ _ => rfl
theorem FP.tr {A B C : Nat → List Int32} (h : FP A B) (g : FP B C) : FP A C := fun k a b => (g k a b).trans (h k a b)
theorem PF.fp {B : Nat → List Int32} (h : PF σ A J) (g : FP A B) (r : RR σ B J) (l : (B 36).length = 16) : PF σ B J := by
  obtain ⟨h1, h2, h3, h4, h5, h6⟩ := h
  refine ⟨r, ?_, (g 40 (by decide) (by decide)).trans h3, l, h5, by rw [g 0 (by decide) (by decide)]; exact h6⟩
  obtain ⟨a, b, c, d⟩ := h2
  exact ⟨a, b, by rw [g 13 (by decide) (by decide)]; exact c, by rw [g 12 (by decide) (by decide)]; exact d⟩
theorem PF.put (h : PF σ A J) {j : Nat} (hj : j < 30) {z : Nat} (hz : z < 128) :
    U_X7_put fu [.ref 1, .int 0, .int (nI j), .int (nI z)] (enc A J) = some (some (.int 1), enc (uA A 14 ((A 14).set j (nI z))) J) ∧ PF σ (uA A 14 ((A 14).set j (nI z))) J := by
  obtain ⟨h1, h2, h3, h4, h5, h6⟩ := h
  obtain ⟨e, r⟩ := k_put (fu := fu) h1 (show 0 < 4 by decide) h2 hj (nI z)
  rw [cut_0 z hz, show 60 * 0 + j = j by omega, h5] at e r
  refine ⟨e, PF.fp ⟨h1, h2, h3, h4, h5, h6⟩ (fun k a b => uA_n _ _ _ a) r ?_⟩
  rw [uA_n _ _ _ (by decide)]; exact h4
theorem PF.s36 (h : PF σ A J) {j : Nat} (hj : j < 16) (x : Int32) :
    sI (enc A J) 36 (nI j) x = some (enc (uA A 36 ((A 36).set j x)) J) ∧ PF σ (uA A 36 ((A 36).set j x)) J := by
  have g := h
  obtain ⟨h1, h2, h3, h4, h5, h6⟩ := h
  refine ⟨si_36 (by rw [h3]; decide) x (by rw [h4]; exact hj) (by omega), g.fp (fun k _ b => uA_n _ _ _ b) (h1.tl fun k hk => uA_n _ _ _ (by omega)) ?_⟩
  rw [uA_s, List.length_set]; exact h4
theorem PF.r36 (h : PF σ A J) {j : Nat} (hj : j < 16) : aI (enc A J) 36 (nI j) = some (rd (A 36) j) := ai_36 (by rw [h.2.2.1]; decide) (by rw [h.2.2.2.1]; exact hj) (by omega)
theorem PF.l14 (h : PF σ A J) : (A 14).length = 240 := h.1.len rfl
theorem PF.l36 (h : PF σ A J) : (A 36).length = 16 := h.2.2.2.1
/-- how far the depths are written -/
def TD (m : Nat) (A : Nat → List Int32) (c : Nat) : Prop :=
  rd (A 36) 0 = nI m ∧ (∃ e, e ≤ 9 ∧ rd (A 36) 1 = nI e) ∧ rd (A 14) 0 = nI 100 ∧ ∀ i, i < c → ∃ e, e ≤ 9 ∧ rd (A 14) (1 + i) = nI (48 + e) ∧ rd (A 36) (2 + i) = nI e
def TB (m : Nat) (A : Nat → List Int32) (c : Nat) : Prop :=
  TD m A m ∧ rd (A 14) (m + 1) = nI 59 ∧ rd (A 14) (m + 2) = nI 98 ∧ ∀ i, i < c → ∃ e, e ≤ 9 ∧ rd (A 14) (m + 3 + i) = nI (48 + e)
/-- a number of digits more -/
theorem PF.two (h : PF σ A J) {j q z : Nat} (hj : j < 30) (hq : q < 16) (hz : z ≤ 9) (n : Nat) (K : Int32 → XW → Option XO) :
    ∃ B, PF σ B J ∧ FP A B ∧ B 14 = (A 14).set j (nI (48 + z)) ∧ B 36 = (A 36).set q (nI z) ∧
    ((sI (enc A J) 36 (nI q) (nI z)).bind fun w19 => (aI w19 36 (nI q)).bind fun x20 => cI (U_X7_put fu [.ref 1, .int 0, .int (nI j), .int ((48 : Int32) + x20)] w19) K) = K 1 (enc B J) := by
  obtain ⟨s1, s2⟩ := h.s36 hq (nI z)
  have v : rd ((uA A 36 ((A 36).set q (nI z))) 36) q = nI z := by rw [uA_s, rd_set _ _ (by rw [h.l36]; exact hq), if_pos rfl]
  obtain ⟨p1, p2⟩ := s2.put (fu := fu) hj (show 48 + z < 128 by omega)
  refine ⟨_, p2, fun k a b => by rw [uA_n _ _ _ a, uA_n _ _ _ b], by rw [uA_s, uA_n _ _ _ (by decide)], by rw [uA_n _ _ _ (by decide), uA_s], ?_⟩
  rw [s1, Option.bind_some, s2.r36 hq, Option.bind_some, v, show (48 : Int32) + nI z = nI (48 + z) by rw [show (48 : Int32) = nI 48 from rfl, nI_add], p1, cI_some]
theorem put_d2 (h : PF σ A J) {m c b : Nat} (hm : m ≤ 7) (hc : c < m) (hb1 : 1 ≤ b) (hb : b ≤ 10) (t : TD m A c) (a5 s1 : Int32) (n : Nat) :
    ∃ B, PF σ B J ∧ FP A B ∧ TD m B (c + 1) ∧ (F_L_put fu (n + 1)).2.2.1 1 0 0 36 a5 (nI (1 + c)) (nI c) (nI b) s1 (nI (2 + c)) 36 (enc A J) = (F_L_put fu n).2.1 1 0 0 36 a5 (nI (1 + (c + 1))) (nI (c + 1)) (enc B J) := by
  obtain ⟨e, e1, e2⟩ := l_some (fu := fu) s1 hb1 (show b < 2147483648 by omega) (enc A J)
  obtain ⟨B, b1, b2, b3, b4, b5⟩ := h.two (fu := fu) (show 1 + c < 30 by omega) (show 2 + c < 16 by omega) (show e ≤ 9 by omega) n (fun x22 w21 => if x22 = (1 : Int32) then (F_L_put fu n).2.1 1 0 0 36 a5 (nI (1 + c) + 1) (nI c + 1) w21 else some (some (.int (-99 : Int32)), w21))
  refine ⟨B, b1, b2, ?_, ?_⟩
  · obtain ⟨t1, t2, t3, t4⟩ := t
    have r36 : ∀ i, i ≠ 2 + c → rd (B 36) i = rd (A 36) i := fun i hi => by rw [b4, rd_set _ _ (by rw [h.l36]; omega), if_neg hi]
    have r14 : ∀ i, i ≠ 1 + c → rd (B 14) i = rd (A 14) i := fun i hi => by rw [b3, rd_set _ _ (by rw [h.l14]; omega), if_neg hi]
    refine ⟨by rw [r36 0 (by omega)]; exact t1, by rw [r36 1 (by omega)]; exact t2, by rw [r14 0 (by omega)]; exact t3, fun i hi => ?_⟩
    by_cases z : i = c
    · refine ⟨e, by omega, ?_, ?_⟩
      · rw [z, b3, rd_set _ _ (by rw [h.l14]; omega), if_pos rfl]
      · rw [z, b4, rd_set _ _ (by rw [h.l36]; omega), if_pos rfl]
    · rw [r14 (1 + i) (by omega), r36 (2 + i) (by omega)]
      exact t4 i (by omega)
  · rw [F_L_put]
    dsimp only
    rw [e2, cI_some, show (2 : Int32) + nI c = nI (2 + c) by rw [show (2 : Int32) = nI 2 from rfl, nI_add]]
    refine b5.trans ?_
    rw [if_pos rfl, nI_1, nI_1]
    rfl
theorem put_d (hf : 1000 ≤ fu) {m : Nat} (hm3 : 3 ≤ m) (hm : m ≤ 7) (a5 : Int32) : ∀ k c n (A : Nat → List Int32), PF σ A J → TD m A c → c + k = m → 2 * k < n →
    ∃ B j, n ≤ j + (2 * k + 1) ∧ PF σ B J ∧ FP A B ∧ TB m B 0 ∧ (F_L_put fu n).2.1 1 0 0 36 a5 (nI (1 + c)) (nI c) (enc A J) = (F_L_put fu j).2.2.2.1 1 0 0 36 a5 (nI (m + 3)) 0 (enc B J) := by
  intro k
  induction k with
  | zero =>
    intro c n A h t hc hn
    obtain ⟨n, rfl⟩ : ∃ j, n = j + 1 := ⟨n - 1, by omega⟩
    obtain rfl : c = m := by omega
    obtain ⟨p1, p2⟩ := h.put (fu := fu) (show 1 + c < 30 by omega) (show 59 < 128 by omega)
    obtain ⟨q1, q2⟩ := p2.put (fu := fu) (show 1 + c + 1 < 30 by omega) (show 98 < 128 by omega)
    have r14 : ∀ i, rd ((uA (uA A 14 ((A 14).set (1 + c) (nI 59))) 14 ((uA A 14 ((A 14).set (1 + c) (nI 59)) 14).set (1 + c + 1) (nI 98))) 14) i = if i = 1 + c + 1 then nI 98 else if i = 1 + c then nI 59 else rd (A 14) i := fun i => by
      rw [uA_s, uA_s, rd_set _ _ (by rw [List.length_set, h.l14]; omega), rd_set _ _ (by rw [h.l14]; omega)]
    refine ⟨_, n, by omega, q2, fun k a b => by rw [uA_n _ _ _ a, uA_n _ _ _ a], ⟨⟨?_, ?_, ?_, ?_⟩, ?_, ?_, fun i hi => absurd hi (Nat.not_lt_zero _)⟩, ?_⟩
    · rw [uA_n _ _ _ (by decide), uA_n _ _ _ (by decide)]; exact t.1
    · rw [uA_n _ _ _ (by decide), uA_n _ _ _ (by decide)]; exact t.2.1
    · rw [r14, if_neg (by omega), if_neg (by omega)]; exact t.2.2.1
    · intro i hi
      rw [r14, if_neg (by omega), if_neg (by omega), uA_n _ _ _ (by decide), uA_n _ _ _ (by decide)]
      exact t.2.2.2 i hi
    · rw [r14, if_neg (by omega), if_pos (by omega)]
    · rw [r14, if_pos (by omega)]
    · rw [F_L_put]
      dsimp only
      have r0 := h.r36 (j := 0) (by omega)
      rw [t.1, show nI 0 = (0 : Int32) from rfl] at r0
      rw [r0, Option.bind_some, if_neg (by rw [n_lt (by omega) (by omega)]; omega)]
      have p1 : U_X7_put fu [.ref 1, .int 0, .int (nI (1 + c)), .int 59] (enc A J) = _ := p1
      have q1 : U_X7_put fu [.ref 1, .int 0, .int (nI (1 + c + 1)), .int 98] _ = _ := q1
      rw [p1, cI_some, if_pos rfl, nI_1, q1, cI_some, if_pos rfl, nI_1, show 1 + c + 1 + 1 = c + 3 by omega]
  | succ k ih =>
    intro c n A h t hc hn
    obtain ⟨n, rfl⟩ : ∃ j, n = j + 2 := ⟨n - 2, by omega⟩
    obtain ⟨x, hx⟩ := l_cell (fu := fu) (A := A) (I := J) h.2.2.2.2.2 (k := 1) (by omega)
    obtain ⟨y, hy, hy2⟩ := l_some (fu := fu) (a5 >>> ((9 : Int32) &&& 31)) (show 1 ≤ 2 by omega) (by omega) (enc A J)
    have key : ∀ b, 1 ≤ b → b ≤ 10 → ∀ s1, ∃ B j, n + 2 ≤ j + (2 * (k + 1) + 1) ∧ PF σ B J ∧ FP A B ∧ TB m B 0 ∧ (F_L_put fu (n + 1)).2.2.1 1 0 0 36 a5 (nI (1 + c)) (nI c) (nI b) s1 (nI (2 + c)) 36 (enc A J) = (F_L_put fu j).2.2.2.1 1 0 0 36 a5 (nI (m + 3)) 0 (enc B J) := fun b hb1 hb s1 => by
      obtain ⟨B, b1, b2, b3, b4⟩ := put_d2 (fu := fu) h hm (show c < m by omega) hb1 hb t a5 s1 n
      obtain ⟨C, j, c1, c2, c3, c4, c5⟩ := ih (c + 1) n B b1 b3 (by omega) (by omega)
      exact ⟨C, j, by omega, c2, b2.tr c3, c4, b4.trans c5⟩
    rw [F_L_put]
    dsimp only
    have r0 := h.r36 (j := 0) (by omega)
    rw [t.1, show nI 0 = (0 : Int32) from rfl] at r0
    have hx : U_L_cell fu [.ref 0, .int ((0 : Int32) + 1)] (enc A J) = some (some (.int x), enc A J) := hx
    have hy2 : U_L_some fu [.int (a5 >>> ((9 : Int32) &&& 31)), .int 2] (enc A J) = some (some (.int (nI y)), enc A J) := hy2
    have e2 : (2 : Int32) + nI c = nI (2 + c) := by rw [show (2 : Int32) = nI 2 from rfl, nI_add]
    rw [r0, Option.bind_some, if_pos (by rw [n_lt (by omega) (by omega)]; omega), hx, cI_some, hy2, cI_some, e2]
    by_cases z : nI y = 0
    · rw [if_pos z]; exact key 10 (by omega) (by omega) _
    · rw [if_neg z]; exact key 4 (by omega) (by omega) _
theorem put_b2 (h : PF σ A J) {m c b : Nat} (hm3 : 3 ≤ m) (hm : m ≤ 7) (hc : c < m) (hb1 : 1 ≤ b) (hb : b ≤ 10) (t : TB m A c) (a5 s1 : Int32) (n : Nat) :
    ∃ B, PF σ B J ∧ FP A B ∧ TB m B (c + 1) ∧ (F_L_put fu (n + 1)).2.2.2.2 1 0 0 36 a5 (nI (m + 3 + c)) (nI c) (nI b) s1 (nI (9 + c)) 36 (enc A J) = (F_L_put fu n).2.2.2.1 1 0 0 36 a5 (nI (m + 3 + (c + 1))) (nI (c + 1)) (enc B J) := by
  obtain ⟨e, e1, e2⟩ := l_some (fu := fu) s1 hb1 (show b < 2147483648 by omega) (enc A J)
  obtain ⟨B, b1, b2, b3, b4, b5⟩ := h.two (fu := fu) (show m + 3 + c < 30 by omega) (show 9 + c < 16 by omega) (show e ≤ 9 by omega) n (fun x22 w21 => if x22 = (1 : Int32) then (F_L_put fu n).2.2.2.1 1 0 0 36 a5 (nI (m + 3 + c) + 1) (nI c + 1) w21 else some (some (.int (-99 : Int32)), w21))
  refine ⟨B, b1, b2, ?_, ?_⟩
  · obtain ⟨⟨t1, t2, t3, t4⟩, t5, t6, t7⟩ := t
    have r36 : ∀ i, i ≠ 9 + c → rd (B 36) i = rd (A 36) i := fun i hi => by rw [b4, rd_set _ _ (by rw [h.l36]; omega), if_neg hi]
    have r14 : ∀ i, i ≠ m + 3 + c → rd (B 14) i = rd (A 14) i := fun i hi => by rw [b3, rd_set _ _ (by rw [h.l14]; omega), if_neg hi]
    refine ⟨⟨by rw [r36 0 (by omega)]; exact t1, by rw [r36 1 (by omega)]; exact t2, by rw [r14 0 (by omega)]; exact t3, fun i hi => ?_⟩, by rw [r14 _ (by omega)]; exact t5, by rw [r14 _ (by omega)]; exact t6, fun i hi => ?_⟩
    · rw [r14 (1 + i) (by omega), r36 (2 + i) (by omega)]
      exact t4 i hi
    · by_cases z : i = c
      · refine ⟨e, by omega, ?_⟩
        rw [z, b3, rd_set _ _ (by rw [h.l14]; omega), if_pos rfl]
      · rw [r14 (m + 3 + i) (by omega)]
        exact t7 i (by omega)
  · rw [F_L_put]
    dsimp only
    rw [e2, cI_some, show (9 : Int32) + nI c = nI (9 + c) by rw [show (9 : Int32) = nI 9 from rfl, nI_add]]
    refine b5.trans ?_
    rw [if_pos rfl, nI_1, nI_1]
    rfl
/-- the whole text -/
def TX (m : Nat) (A : Nat → List Int32) : Prop := TB m A m ∧ rd (A 14) (2 * m + 3) = nI 59 ∧ rd (A 14) (2 * m + 4) = nI 112 ∧ ∃ e, e ≤ 9 ∧ rd (A 14) (2 * m + 5) = nI (48 + e)
theorem put_b (hf : 1000 ≤ fu) {m : Nat} (hm3 : 3 ≤ m) (hm : m ≤ 7) (a5 : Int32) : ∀ k c n (A : Nat → List Int32), PF σ A J → TB m A c → c + k = m → 2 * k < n →
    ∃ B, PF σ B J ∧ FP A B ∧ TX m B ∧ (F_L_put fu n).2.2.2.1 1 0 0 36 a5 (nI (m + 3 + c)) (nI c) (enc A J) = some (some (.int (nI (2 * m + 6))), enc B J) := by
  intro k
  induction k with
  | zero =>
    intro c n A h t hc hn
    obtain ⟨n, rfl⟩ : ∃ j, n = j + 1 := ⟨n - 1, by omega⟩
    obtain rfl : c = m := by omega
    obtain ⟨⟨t1, ⟨pc, hpc, t2⟩, t3, t4⟩, t5, t6, t7⟩ := t
    obtain ⟨p1, p2⟩ := h.put (fu := fu) (show c + 3 + c < 30 by omega) (show 59 < 128 by omega)
    obtain ⟨q1, q2⟩ := p2.put (fu := fu) (show c + 3 + c + 1 < 30 by omega) (show 112 < 128 by omega)
    obtain ⟨u1, u2⟩ := q2.put (fu := fu) (show c + 3 + c + 1 + 1 < 30 by omega) (show 48 + pc < 128 by omega)
    generalize hB : uA (uA (uA A 14 ((A 14).set (c + 3 + c) (nI 59))) 14 ((uA A 14 ((A 14).set (c + 3 + c) (nI 59)) 14).set (c + 3 + c + 1) (nI 112))) 14 ((uA (uA A 14 ((A 14).set (c + 3 + c) (nI 59))) 14 ((uA A 14 ((A 14).set (c + 3 + c) (nI 59)) 14).set (c + 3 + c + 1) (nI 112)) 14).set (c + 3 + c + 1 + 1) (nI (48 + pc))) = B at *
    have r14 : ∀ i, rd (B 14) i = if i = c + 3 + c + 1 + 1 then nI (48 + pc) else if i = c + 3 + c + 1 then nI 112 else if i = c + 3 + c then nI 59 else rd (A 14) i := fun i => by
      rw [← hB, uA_s, uA_s, uA_s, rd_set _ _ (by rw [List.length_set, List.length_set, h.l14]; omega), rd_set _ _ (by rw [List.length_set, h.l14]; omega), rd_set _ _ (by rw [h.l14]; omega)]
    have o : ∀ k, k ≠ 14 → B k = A k := fun k a => by rw [← hB, uA_n _ _ _ a, uA_n _ _ _ a, uA_n _ _ _ a]
    have r14' : ∀ i, i < c + 3 + c → rd (B 14) i = rd (A 14) i := fun i hi => by rw [r14, if_neg (by omega), if_neg (by omega), if_neg (by omega)]
    refine ⟨B, u2, fun k a _ => o k a, ⟨⟨⟨?_, ⟨pc, hpc, ?_⟩, ?_, ?_⟩, ?_, ?_, fun i hi => ?_⟩, ?_, ?_, ⟨pc, hpc, ?_⟩⟩, ?_⟩
    · rw [o 36 (by decide)]; exact t1
    · rw [o 36 (by decide)]; exact t2
    · rw [r14' 0 (by omega)]; exact t3
    · intro i hi
      rw [r14' _ (by omega), o 36 (by decide)]
      exact t4 i hi
    · rw [r14' _ (by omega)]; exact t5
    · rw [r14' _ (by omega)]; exact t6
    · rw [r14' _ (by omega)]; exact t7 i hi
    · rw [r14, if_neg (by omega), if_neg (by omega), if_pos (by omega)]
    · rw [r14, if_neg (by omega), if_pos (by omega)]
    · rw [r14, if_pos (by omega)]
    · rw [F_L_put]
      dsimp only
      have r0 := h.r36 (j := 0) (by omega)
      rw [t1, show nI 0 = (0 : Int32) from rfl] at r0
      rw [r0, Option.bind_some, if_neg (by rw [n_lt (by omega) (by omega)]; omega)]
      have p1 : U_X7_put fu [.ref 1, .int 0, .int (nI (c + 3 + c)), .int 59] (enc A J) = _ := p1
      have q1 : U_X7_put fu [.ref 1, .int 0, .int (nI (c + 3 + c + 1)), .int 112] _ = _ := q1
      have r1 := q2.r36 (j := 1) (by omega)
      rw [uA_n _ 14 _ (show (36 : Nat) ≠ 14 by decide), uA_n _ 14 _ (show (36 : Nat) ≠ 14 by decide), t2, show nI 1 = (1 : Int32) from rfl] at r1
      rw [p1, cI_some, if_pos rfl, nI_1, q1, cI_some, if_pos rfl, r1, Option.bind_some, nI_1, show (48 : Int32) + nI pc = nI (48 + pc) by rw [show (48 : Int32) = nI 48 from rfl, nI_add], u1, cI_some, if_pos rfl, nI_1, show c + 3 + c + 1 + 1 + 1 = 2 * c + 6 by omega]
  | succ k ih =>
    intro c n A h t hc hn
    obtain ⟨n, rfl⟩ : ∃ j, n = j + 2 := ⟨n - 2, by omega⟩
    obtain ⟨x, hx⟩ := l_cell (fu := fu) (A := A) (I := J) h.2.2.2.2.2 (k := 2) (by omega)
    obtain ⟨y, hy, hy2⟩ := l_some (fu := fu) (a5 >>> ((10 : Int32) &&& 31)) (show 1 ≤ 2 by omega) (by omega) (enc A J)
    have key : ∀ b, 1 ≤ b → b ≤ 10 → ∀ s1, ∃ B, PF σ B J ∧ FP A B ∧ TX m B ∧ (F_L_put fu (n + 1)).2.2.2.2 1 0 0 36 a5 (nI (m + 3 + c)) (nI c) (nI b) s1 (nI (9 + c)) 36 (enc A J) = some (some (.int (nI (2 * m + 6))), enc B J) := fun b hb1 hb s1 => by
      obtain ⟨B, b1, b2, b3, b4⟩ := put_b2 (fu := fu) h hm3 hm (show c < m by omega) hb1 hb t a5 s1 n
      obtain ⟨C, c2, c3, c4, c5⟩ := ih (c + 1) n B b1 b3 (by omega) (by omega)
      exact ⟨C, c2, b2.tr c3, c4, b4.trans c5⟩
    rw [F_L_put]
    dsimp only
    have r0 := h.r36 (j := 0) (by omega)
    rw [t.1.1, show nI 0 = (0 : Int32) from rfl] at r0
    have hx : U_L_cell fu [.ref 0, .int ((0 : Int32) + 2)] (enc A J) = some (some (.int x), enc A J) := hx
    have hy2 : U_L_some fu [.int (a5 >>> ((10 : Int32) &&& 31)), .int 2] (enc A J) = some (some (.int (nI y)), enc A J) := hy2
    have e2 : (9 : Int32) + nI c = nI (9 + c) := by rw [show (9 : Int32) = nI 9 from rfl, nI_add]
    rw [r0, Option.bind_some, if_pos (by rw [n_lt (by omega) (by omega)]; omega), hx, cI_some, hy2, cI_some, e2]
    by_cases z : nI y = 0
    · rw [if_pos z]; exact key 10 (by omega) (by omega) _
    · rw [if_neg z]; exact key 4 (by omega) (by omega) _
end PU
end
section
/-! ===== the law's brook, laid ===== -/
theorem dig_e {e : Nat} (h : e ≤ 9) : dig (nI (48 + e)) = e := by
  unfold dig
  rw [show (48 : Int32) = nI 48 from rfl, pk_sub (show 48 ≤ 48 + e by omega), nI_clamp (by omega)]
  omega
section BK
variable {σ : SG} {A : Nat → List Int32} {I : Nat → Nat → Int32} {fu : Nat}
theorem tx_gon {m : Nat} {A : Nat → List Int32} (hm3 : 3 ≤ m) (t : TX m A) : ∀ p, p < 2 * m + 6 → gon m p (rd (A 14) p) = true := by
  obtain ⟨⟨⟨t1, t2, t3, t4⟩, t5, t6, t7⟩, t8, t9, ⟨e, he, t10⟩⟩ := t
  have dg : ∀ e, e ≤ 9 → (48 : Int32) ≤ nI (48 + e) ∧ nI (48 + e) ≤ 57 := fun e he => n_rin (a := 48) (b := 57) (by omega) (by omega) (by decide)
  intro p hp
  by_cases h0 : p = 0
  · rw [h0, gon_0, t3]; rfl
  by_cases h1 : p = m + 1
  · rw [h1, gon_a, t5]; rfl
  by_cases h2 : p = m + 2
  · rw [h2, gon_b hm3, t6]; rfl
  by_cases h3 : p = 2 * m + 3
  · rw [h3, gon_c hm3, t8]; rfl
  by_cases h4 : p = 2 * m + 4
  · rw [h4, gon_d hm3, t9]; rfl
  rw [gon_g h0 h1 h2 h3 h4, decide_eq_true_iff]
  by_cases h5 : p ≤ m
  · obtain ⟨i, rfl⟩ : ∃ i, p = 1 + i := ⟨p - 1, by omega⟩
    obtain ⟨e, he, x, -⟩ := t4 i (by omega)
    rw [x]; exact dg e he
  · by_cases h6 : p < 2 * m + 3
    · obtain ⟨i, rfl⟩ : ∃ i, p = m + 3 + i := ⟨p - (m + 3), by omega⟩
      obtain ⟨e, he, x⟩ := t7 i (by omega)
      rw [x]; exact dg e he
    · rw [show p = 2 * m + 5 by omega, t10]; exact dg e he
theorem tx_mtl {m : Nat} {A : Nat → List Int32} (hm3 : 3 ≤ m) (hm : m ≤ 7) (t : TX m A) : mtl (fun p => rd (A 14) p) (2 * m + 6) = m := by
  refine mtl_of hm3 hm (by omega) (fun j hj => ?_) ?_
  · obtain ⟨e, he, x, -⟩ := t.1.1.2.2.2 j hj
    show (48 : Int32) ≤ rd (A 14) (1 + j) ∧ rd (A 14) (1 + j) ≤ 57
    rw [x]
    exact n_rin (a := 48) (b := 57) (by omega) (by omega) (by decide)
  · show ¬ ((48 : Int32) ≤ rd (A 14) (1 + m) ∧ rd (A 14) (1 + m) ≤ 57)
    rw [show 1 + m = m + 1 by omega, t.1.2.1]
    decide
theorem l_put (hf : 1000 ≤ fu) (r : RR σ A I) (h40 : A 40 = [0]) (h36 : (A 36).length = 16) (h0 : (A 0).length < 2147483648) :
    ∃ m B J, 3 ≤ m ∧ m ≤ 7 ∧ PF σ B J ∧ TX m B ∧ (∀ k, k ≠ 12 → k ≠ 13 → k ≠ 14 → k ≠ 36 → B k = A k) ∧ B 13 = (A 13).set 0 30 ∧ U_L_put fu [.ref 1, .ref 0, .int 0, .int 7, .ref 36] (enc A I) = some (some (.int (nI (2 * m + 6))), enc B J) := by
  obtain ⟨x, hx⟩ := l_cell (fu := fu) (A := A) (I := I) h0 (k := 0) (by omega)
  have hx : U_L_cell fu [.ref 0, .int 0] (enc A I) = some (some (.int x), enc A I) := hx
  obtain ⟨e, he, hs⟩ := l_some (fu := fu) x (show 1 ≤ 5 by omega) (by omega) (enc A I)
  have hs : U_L_some fu [.int x, .int ((7 : Int32) - 2)] (enc A I) = some (some (.int (nI e)), enc A I) := hs
  have m36 : 1 ≤ (A 40).length := by rw [h40]; decide
  have s1 : sI (enc A I) 36 0 ((3 : Int32) + nI e) = some (enc (uA A 36 ((A 36).set 0 (nI (3 + e)))) I) := by
    rw [show (3 : Int32) + nI e = nI (3 + e) by rw [show (3 : Int32) = nI 3 from rfl, nI_add]]
    exact si_36 (j := 0) m36 _ (by omega) (by omega)
  obtain ⟨A1, hA1⟩ : ∃ X, X = uA A 36 ((A 36).set 0 (nI (3 + e))) := ⟨_, rfl⟩
  rw [← hA1] at s1
  have o1 : ∀ k, k ≠ 36 → A1 k = A k := fun k hk => by rw [hA1, uA_n _ _ _ hk]
  have v1 : A1 36 = (A 36).set 0 (nI (3 + e)) := by rw [hA1, uA_s]
  have l1 : (A1 36).length = 16 := by rw [v1, List.length_set]; exact h36
  have r1 : RR σ A1 I := r.tl fun k hk => o1 k (by omega)
  obtain ⟨y, hy, hy2⟩ := l_some (fu := fu) (x >>> ((8 : Int32) &&& 31)) (show 1 ≤ 2 by omega) (by omega) (enc A1 I)
  have hy2 : U_L_some fu [.int (x >>> ((8 : Int32) &&& 31)), .int 2] (enc A1 I) = some (some (.int (nI y)), enc A1 I) := hy2
  have key : ∀ b, 1 ≤ b → b ≤ 10 → ∀ sx, ∃ m B J, 3 ≤ m ∧ m ≤ 7 ∧ PF σ B J ∧ TX m B ∧ (∀ k, k ≠ 12 → k ≠ 13 → k ≠ 14 → k ≠ 36 → B k = A k) ∧ B 13 = (A 13).set 0 30 ∧ (F_L_put fu fu).1 1 0 0 36 x (nI b) sx 1 36 (enc A1 I) = some (some (.int (nI (2 * m + 6))), enc B J) := fun b hb1 hb sx => by
    obtain ⟨q, hq, hq2⟩ := l_some (fu := fu) sx hb1 (show b < 2147483648 by omega) (enc A1 I)
    have s2 : sI (enc A1 I) 36 1 (nI q) = some (enc (uA A1 36 ((A1 36).set 1 (nI q))) I) := si_36 (j := 1) (by rw [o1 40 (by decide)]; exact m36) _ (by omega) (by omega)
    obtain ⟨A2, hA2⟩ : ∃ X, X = uA A1 36 ((A1 36).set 1 (nI q)) := ⟨_, rfl⟩
    rw [← hA2] at s2
    have o2 : ∀ k, k ≠ 36 → A2 k = A k := fun k hk => by rw [hA2, uA_n _ _ _ hk, o1 k hk]
    have v2 : A2 36 = (A1 36).set 1 (nI q) := by rw [hA2, uA_s]
    have r2 : RR σ A2 I := r.tl fun k hk => o2 k (by omega)
    obtain ⟨A3, e3, r3, c12, c13, oo, c14⟩ := k_sheet (fu := fu) hf r2 (q := 0) (t := 0) (n := 30) (by omega) (by omega) (by omega)
    have e3 : U_X7_sheet fu [.ref 1, .int 0, .int 0, .int 30] (enc A2 I) = some (some (.int 1), enc A3 (uI I 1 7 0)) := e3
    have l36 : (A3 36).length = 16 := by rw [oo 36 (by decide) (by decide) (by decide), v2, List.length_set]; exact l1
    have p3 : PF σ A3 (uI I 1 7 0) := by
      refine ⟨r3, ⟨by omega, by omega, ?_, ?_⟩, ?_, l36, uI_uI _ _ _ _ _, ?_⟩
      · rw [c13, rd_set _ _ (by rw [o2 13 (by decide), r.len rfl]; decide), if_pos rfl]
      · rw [c12, rd_set _ _ (by rw [o2 12 (by decide), r.len rfl]; decide), if_pos rfl]
      · rw [oo 40 (by decide) (by decide) (by decide), o2 40 (by decide)]; exact h40
      · rw [oo 0 (by decide) (by decide) (by decide), o2 0 (by decide)]; exact h0
    obtain ⟨e4, p4⟩ := p3.put (fu := fu) (j := 0) (z := 100) (by omega) (by omega)
    have e4 : U_X7_put fu [.ref 1, .int 0, .int 0, .int 100] (enc A3 (uI I 1 7 0)) = _ := e4
    have t4 : TD (3 + e) (uA A3 14 ((A3 14).set 0 (nI 100))) 0 := by
      have w36 : A3 36 = ((A 36).set 0 (nI (3 + e))).set 1 (nI q) := by rw [oo 36 (by decide) (by decide) (by decide), v2, v1]
      refine ⟨?_, ⟨q, by omega, ?_⟩, ?_, fun i hi => absurd hi (Nat.not_lt_zero _)⟩
      · rw [uA_n _ _ _ (by decide), w36, rd_set _ _ (by rw [List.length_set]; omega), if_neg (by decide), rd_set _ _ (by omega), if_pos rfl]
      · rw [uA_n _ _ _ (by decide), w36, rd_set _ _ (by rw [List.length_set]; omega), if_pos rfl]
      · rw [uA_s, rd_set _ _ (by rw [p3.l14]; omega), if_pos rfl]
    obtain ⟨n, hn⟩ : ∃ n, fu = n + 1 := ⟨fu - 1, by omega⟩
    obtain ⟨B, j, b1, b2, b3, b4, b5⟩ := put_d (fu := fu) hf (m := 3 + e) (by omega) (by omega) x (3 + e) 0 n _ p4 t4 (by omega) (by omega)
    obtain ⟨C, c1, c2, c3, c4⟩ := put_b (fu := fu) hf (m := 3 + e) (by omega) (by omega) x (3 + e) 0 j B b2 b4 (by omega) (by omega)
    have fo := FP.tr b3 c2
    have o4 : ∀ k, k ≠ 14 → uA A3 14 ((A3 14).set 0 (nI 100)) k = A3 k := fun k hk => uA_n _ _ _ hk
    refine ⟨3 + e, C, uI I 1 7 0, by omega, by omega, c1, c3, fun k k1 k2 k3 k4 => ?_, ?_, ?_⟩
    · rw [fo k k3 k4, o4 k k3, oo k k1 k2 k3, o2 k k4]
    · rw [fo 13 (by decide) (by decide), o4 13 (by decide), c13, o2 13 (by decide)]; rfl
    · have b5 : (F_L_put fu n).2.1 1 0 0 36 x 1 0 (enc (uA A3 14 ((A3 14).set 0 (nI 100))) (uI I 1 7 0)) = _ := b5
      have c4 : (F_L_put fu j).2.2.2.1 1 0 0 36 x (nI (3 + e + 3)) 0 (enc B (uI I 1 7 0)) = _ := c4
      rw [show F_L_put fu fu = F_L_put fu (n + 1) by rw [← hn], F_L_put]
      dsimp only
      rw [hq2, cI_some, s2, Option.bind_some, e3, cI_some, if_pos rfl, e4, cI_some, if_pos rfl, b5, c4]
  rw [u_L_put, M_L_put]
  rw [hx, cI_some, hs, cI_some, s1, Option.bind_some, hy2, cI_some]
  by_cases z : nI y = 0
  · rw [if_pos z]; exact key 10 (by omega) (by omega) _
  · rw [if_neg z]; exact key 3 (by omega) (by omega) _
/-- the text told, a new brook -/
theorem l_brook (hf : 1000 ≤ fu) {m : Nat} (hm3 : 3 ≤ m) (hm : m ≤ 7) (h : PF σ A I) (t : TX m A) :
    ∃ σ1 B J, U_X7_brook fu [.ref 1, .int 0, .int 0, .int 0, .int (nI (2 * m + 6))] (enc A I) = some (some (.int (nI m)), enc B J) ∧ RR σ1 B J ∧ (∀ k, k ≠ 3 → k ≠ 4 → k ≠ 5 → B k = A k) ∧ σ1 0 0 = m ∧ σ1 0 2 = 0 ∧ σ1 0 3 = 0 ∧ σ1 0 4 = 0 ∧ (∀ c, c < m → rd (B 36) (2 + c) = nI (σ1 1 c)) ∧ (∀ c, σ1 7 c = 0) ∧ rd (B 36) 0 = nI m := by
  obtain ⟨B, J, e, r, o⟩ := k_brook (fu := fu) hf h.1 (q := 0) (t := 0) (i0 := 0) (kk := 2 * m + 6) (n0 := 30) (by omega) (by omega) h.2.1 (by omega) (v := fun p => rd (A 14) p) (fun p _ => by rw [show 60 * 0 + 0 + p = p by omega]) hm3 hm rfl (tx_mtl hm3 hm t) (tx_gon hm3 t)
  refine ⟨_, B, J, e, r, o, rfl, rfl, rfl, rfl, fun c hc => ?_, fun c => rfl, ?_⟩
  · rw [o 36 (by decide) (by decide) (by decide)]
    obtain ⟨x, hx, x1, x2⟩ := t.1.1.2.2.2 c hc
    rw [x2]
    show nI x = nI (dig (rd (A 14) (1 + c)))
    rw [x1, dig_e hx]
  · rw [o 36 (by decide) (by decide) (by decide)]; exact t.1.1.1
end BK
end
section
/-! ===== the law's stones ===== -/
section SN
variable {σ : SG} {A : Nat → List Int32} {I : Nat → Nat → Int32} {fu : Nat}
/-- so many stones told -/
def SS (σ0 σ : SG) (A0 A : Nat → List Int32) (I : Nat → Nat → Int32) (k : Nat) : Prop :=
  RR σ A I ∧ σ 0 3 = k ∧ (A 37).length = 24 ∧ (∀ i, i < k → rd (A 37) i = nI (σ 3 i) ∧ rd (A 37) (6 + i) = nI (σ 4 i)) ∧ (∀ j, j ≠ 6 → j ≠ 7 → j ≠ 8 → j ≠ 9 → j ≠ 37 → A j = A0 j) ∧
  σ 0 0 = σ0 0 0 ∧ σ 0 2 = σ0 0 2 ∧ σ 0 4 = σ0 0 4 ∧ (∀ c, σ 1 c = σ0 1 c) ∧ (∀ c, σ 7 c = σ0 7 c) ∧ (∀ s, s < k → σ 8 s = 0)
theorem stones2 {σ0 : SG} {A0 : Nat → List Int32} (h0 : σ0 0 0 ≠ 0) (h40 : A0 40 = [0, 0]) {k a b : Nat} (hk : k < 6) (s : SS σ0 σ A0 A I k) (ha : a ≤ 2) (hb1 : 1 ≤ b) (hb : b ≤ 20)
    (a5 a7 s1 : Int32) (n : Nat) (hq : rd (A 37) k = nI a) :
    ∃ σ1 B J, SS σ0 σ1 A0 B J (k + 1) ∧ (F_L_stones fu (n + 1)).2 1 0 3 37 a5 (nI k) a7 (nI b) s1 1 (nI (6 + k)) 37 (enc A I) = (F_L_stones fu n).1 1 0 3 37 a5 (nI (k + 1)) (enc B J) := by
  obtain ⟨r, h3, l37, hr, ho, g1, g2, g3, g4, g5, g6⟩ := s
  have m40 : 2 ≤ (A 40).length := by rw [ho 40 (by decide) (by decide) (by decide) (by decide) (by decide), h40]; decide
  obtain ⟨e, he, e2⟩ := l_some (fu := fu) s1 hb1 (show b < 2147483648 by omega) (enc A I)
  have t1 : sI (enc A I) 37 (nI (6 + k)) ((1 : Int32) + nI e) = some (enc (uA A 37 ((A 37).set (6 + k) (nI (1 + e)))) I) := by
    rw [show (1 : Int32) + nI e = nI (1 + e) by rw [show (1 : Int32) = nI 1 from rfl, nI_add]]
    exact si_37 m40 _ (by omega) (by omega)
  obtain ⟨A1, hA1⟩ : ∃ X, X = uA A 37 ((A 37).set (6 + k) (nI (1 + e))) := ⟨_, rfl⟩
  rw [← hA1] at t1
  have o1 : ∀ j, j ≠ 37 → A1 j = A j := fun j hj => by rw [hA1, uA_n _ _ _ hj]
  have v1 : A1 37 = (A 37).set (6 + k) (nI (1 + e)) := by rw [hA1, uA_s]
  obtain ⟨w, hw, w2⟩ := l_some (fu := fu) (a7 >>> ((5 : Int32) &&& 31)) (show 1 ≤ 9 by omega) (by omega) (enc A1 I)
  have w2 : U_L_some fu [.int (a7 >>> ((5 : Int32) &&& 31)), .int 9] (enc A1 I) = some (some (.int (nI w)), enc A1 I) := w2
  have e12 : (12 : Int32) + nI k = nI (12 + k) := by rw [show (12 : Int32) = nI 12 from rfl, nI_add]
  have e18 : (18 : Int32) + nI k = nI (18 + k) := by rw [show (18 : Int32) = nI 18 from rfl, nI_add]
  have e6 : (6 : Int32) + nI k = nI (6 + k) := by rw [show (6 : Int32) = nI 6 from rfl, nI_add]
  have t2 : sI (enc A1 I) 37 (nI (12 + k)) ((1 : Int32) + nI w) = some (enc (uA A1 37 ((A1 37).set (12 + k) (nI (1 + w)))) I) := by
    rw [show (1 : Int32) + nI w = nI (1 + w) by rw [show (1 : Int32) = nI 1 from rfl, nI_add]]
    exact si_37 (by rw [o1 40 (by decide)]; exact m40) _ (by rw [v1, List.length_set]; omega) (by omega)
  obtain ⟨A2, hA2⟩ : ∃ X, X = uA A1 37 ((A1 37).set (12 + k) (nI (1 + w))) := ⟨_, rfl⟩
  rw [← hA2] at t2
  have o2 : ∀ j, j ≠ 37 → A2 j = A j := fun j hj => by rw [hA2, uA_n _ _ _ hj, o1 j hj]
  have v2 : A2 37 = (A1 37).set (12 + k) (nI (1 + w)) := by rw [hA2, uA_s]
  obtain ⟨d, hd, d2⟩ := l_some (fu := fu) (a7 >>> ((8 : Int32) &&& 31)) (show 1 ≤ 10 by omega) (by omega) (enc A2 I)
  have d2 : U_L_some fu [.int (a7 >>> ((8 : Int32) &&& 31)), .int 10] (enc A2 I) = some (some (.int (nI d)), enc A2 I) := d2
  have t3 : sI (enc A2 I) 37 (nI (18 + k)) (nI d) = some (enc (uA A2 37 ((A2 37).set (18 + k) (nI d))) I) :=
    si_37 (by rw [o2 40 (by decide)]; exact m40) _ (by rw [v2, List.length_set, v1, List.length_set]; omega) (by omega)
  obtain ⟨A3, hA3⟩ : ∃ X, X = uA A2 37 ((A2 37).set (18 + k) (nI d)) := ⟨_, rfl⟩
  rw [← hA3] at t3
  have o3 : ∀ j, j ≠ 37 → A3 j = A j := fun j hj => by rw [hA3, uA_n _ _ _ hj, o2 j hj]
  have rr : ∀ i, rd (A3 37) i = if i = 18 + k then nI d else if i = 12 + k then nI (1 + w) else if i = 6 + k then nI (1 + e) else rd (A 37) i := fun i => by
    rw [hA3, uA_s, rd_set _ _ (by rw [v2, List.length_set, v1, List.length_set]; omega), v2, rd_set _ _ (by rw [v1, List.length_set]; omega), v1, rd_set _ _ (by omega)]
  have l3 : (A3 37).length = 24 := by rw [hA3, uA_s, List.length_set, v2, List.length_set, v1, List.length_set]; exact l37
  have m3 : 2 ≤ (A3 40).length := by rw [o3 40 (by decide)]; exact m40
  have q1 : aI (enc A3 I) 37 (nI k) = some (nI a) := by rw [ai_37 m3 (by omega) (by omega), rr, if_neg (by omega), if_neg (by omega), if_neg (by omega), hq]
  have q2 : aI (enc A3 I) 37 (nI (6 + k)) = some (nI (1 + e)) := by rw [ai_37 m3 (by omega) (by omega), rr, if_neg (by omega), if_neg (by omega), if_pos (by omega)]
  have q3 : aI (enc A3 I) 37 (nI (12 + k)) = some (nI (1 + w)) := by rw [ai_37 m3 (by omega) (by omega), rr, if_neg (by omega), if_pos (by omega)]
  have q4 : aI (enc A3 I) 37 (nI (18 + k)) = some (nI d) := by rw [ai_37 m3 (by omega) (by omega), rr, if_pos (by omega)]
  have r3 : RR σ A3 I := r.tl fun j hj => o3 j (by omega)
  obtain ⟨A4, c1, c2, c3⟩ := k_stone (fu := fu) r3 (by rw [g1]; exact h0) ha (show 1 ≤ 1 + e by omega) (show 1 + e ≤ 20 by omega) (show 1 ≤ 1 + w by omega) (show 1 + w ≤ 9 by omega) (show d ≤ 9 by omega) (by omega)
  have hn3 : addS σ a (1 + e) (1 + w) d 0 3 = k + 1 := by
    show σ 0 3 + 1 = k + 1
    omega
  have e3 : ∀ i, addS σ a (1 + e) (1 + w) d 3 i = if i = k then a else σ 3 i := fun i => by
    rw [← h3]
    simp [addS, uN]
  have e4 : ∀ i, addS σ a (1 + e) (1 + w) d 4 i = if i = k then 1 + e else σ 4 i := fun i => by
    rw [← h3]
    simp [addS, uN]
  have e8 : ∀ i, addS σ a (1 + e) (1 + w) d 8 i = if i = k then 0 else σ 8 i := fun i => by
    rw [← h3]
    simp [addS, uN]
  have v4 : A4 37 = A3 37 := c3 37 (by decide) (by decide) (by decide) (by decide)
  refine ⟨_, A4, _, ⟨c2, hn3, by rw [v4]; exact l3, fun i hi => ?_, fun j j1 j2 j3 j4 j5 => ?_, ?_, ?_, ?_, fun c => ?_, fun c => ?_, fun s hs => ?_⟩, ?_⟩
  · have x1 := rr i
    have x2 := rr (6 + i)
    rw [if_neg (by omega), if_neg (by omega), if_neg (by omega)] at x1
    rw [if_neg (by omega), if_neg (by omega)] at x2
    rw [v4, x1, x2, e3, e4]
    by_cases z : i = k
    · rw [if_pos (show 6 + i = 6 + k by omega), if_pos z, if_pos z, z]
      exact ⟨hq, rfl⟩
    · rw [if_neg (show ¬ 6 + i = 6 + k by omega), if_neg z, if_neg z]
      exact hr i (by omega)
  · rw [c3 j j1 j2 j3 j4, o3 j j5, ho j j1 j2 j3 j4 j5]
  · rw [← g1]; simp [addS, uN]
  · rw [← g2]; simp [addS, uN]
  · rw [← g3]; simp [addS, uN]
  · rw [← g4 c]; simp [addS, uN]
  · rw [← g5 c]; simp [addS, uN]
  · rw [e8]
    by_cases z : s = k
    · rw [if_pos z]
    · rw [if_neg z]; exact g6 s (by omega)
  · rw [F_L_stones]
    dsimp only
    rw [e2, cI_some, t1, Option.bind_some, w2, cI_some, e12, t2, Option.bind_some, d2, cI_some, e18, t3, Option.bind_some, q1, Option.bind_some, e6, q2, Option.bind_some, q3, Option.bind_some, q4, Option.bind_some, c1, cI_some, h3, if_pos rfl, nI_1]
theorem stones1 {σ0 : SG} {A0 : Nat → List Int32} (h0 : σ0 0 0 ≠ 0) (h40 : A0 40 = [0, 0]) (hl : (A0 0).length < 2147483648) {many : Nat} (hm : many ≤ 6) : ∀ m k n (σ : SG) (A : Nat → List Int32) (I : Nat → Nat → Int32), SS σ0 σ A0 A I k → k + m = many → 2 * m < n →
    ∃ σ1 B J, SS σ0 σ1 A0 B J many ∧ (F_L_stones fu n).1 1 0 3 37 (nI many) (nI k) (enc A I) = some (some (.int (nI many)), enc B J) := by
  intro m
  induction m with
  | zero =>
    intro k n σ A I s hk hn
    obtain ⟨n, rfl⟩ : ∃ j, n = j + 1 := ⟨n - 1, by omega⟩
    obtain rfl : k = many := by omega
    refine ⟨σ, A, I, s, ?_⟩
    rw [F_L_stones]
    dsimp only
    rw [if_neg (by rw [n_lt (by omega) (by omega)]; omega)]
  | succ m ih =>
    intro k n σ A I s hk hn
    obtain ⟨n, rfl⟩ : ∃ j, n = j + 2 := ⟨n - 2, by omega⟩
    obtain ⟨r, h3, l37, hr, ho, g⟩ := s
    have m40 : 2 ≤ (A 40).length := by rw [ho 40 (by decide) (by decide) (by decide) (by decide) (by decide), h40]; decide
    have hl0 : (A 0).length < 2147483648 := by rw [ho 0 (by decide) (by decide) (by decide) (by decide) (by decide)]; exact hl
    have n3 : ¬ (3 : Int32) = 0 := by decide
    have ei : ((3 : Int32) + 1) + (nI k - nI k / 3 * 3) = nI (4 + k % 3) := by
      show nI 4 + (nI k - nI k / nI 3 * nI 3) = _
      rw [n_mod (by omega) (by omega), nI_add]
    obtain ⟨x, hx⟩ := l_cell (fu := fu) (A := A) (I := I) hl0 (k := 4 + k % 3) (by omega)
    obtain ⟨X, hX⟩ : ∃ X, X = x >>> (((nI k / (3 : Int32)) * (12 : Int32)) &&& 31) := ⟨_, rfl⟩
    obtain ⟨a, ha, a2⟩ := l_some (fu := fu) X (show 1 ≤ 3 by omega) (by omega) (enc A I)
    have a2 : U_L_some fu [.int X, .int 3] (enc A I) = some (some (.int (nI a)), enc A I) := a2
    have t1 : sI (enc A I) 37 (nI k) (nI a) = some (enc (uA A 37 ((A 37).set k (nI a))) I) := si_37 m40 _ (by omega) (by omega)
    obtain ⟨A1, hA1⟩ : ∃ X, X = uA A 37 ((A 37).set k (nI a)) := ⟨_, rfl⟩
    rw [← hA1] at t1
    have o1 : ∀ j, j ≠ 37 → A1 j = A j := fun j hj => by rw [hA1, uA_n _ _ _ hj]
    have v1 : A1 37 = (A 37).set k (nI a) := by rw [hA1, uA_s]
    obtain ⟨y, hy⟩ := l_cell (fu := fu) (A := A1) (I := I) (by rw [o1 0 (by decide)]; exact hl0) (k := 3) (by omega)
    have hy : U_L_cell fu [.ref 0, .int 3] (enc A1 I) = some (some (.int y), enc A1 I) := hy
    obtain ⟨b, hb, b2⟩ := l_some (fu := fu) (y >>> ((6 : Int32) &&& 31)) (show 1 ≤ 2 by omega) (by omega) (enc A1 I)
    have b2 : U_L_some fu [.int (y >>> ((6 : Int32) &&& 31)), .int 2] (enc A1 I) = some (some (.int (nI b)), enc A1 I) := b2
    have s1 : SS σ0 σ A0 A1 I k := by
      refine ⟨r.tl fun j hj => o1 j (by omega), h3, by rw [v1, List.length_set]; exact l37, fun i hi => ?_, fun j j1 j2 j3 j4 j5 => by rw [o1 j j5, ho j j1 j2 j3 j4 j5], g⟩
      rw [v1, rd_set _ _ (by omega), rd_set _ _ (by omega), if_neg (by omega), if_neg (by omega)]
      exact hr i hi
    have hq : rd (A1 37) k = nI a := by rw [v1, rd_set _ _ (by omega), if_pos rfl]
    have key : ∀ b, 1 ≤ b → b ≤ 20 → ∀ sx, ∃ σ1 B J, SS σ0 σ1 A0 B J many ∧ (F_L_stones fu (n + 1)).2 1 0 3 37 (nI many) (nI k) X (nI b) sx 1 (nI (6 + k)) 37 (enc A1 I) = some (some (.int (nI many)), enc B J) := fun b hb1 hb sx => by
      obtain ⟨σ1, B, J, c1, c2⟩ := stones2 (fu := fu) h0 h40 (show k < 6 by omega) s1 (show a ≤ 2 by omega) hb1 hb (nI many) X sx n hq
      obtain ⟨σ2, C, K, d1, d2⟩ := ih (k + 1) n σ1 B J c1 (by omega) (by omega)
      exact ⟨σ2, C, K, d1, c2.trans d2⟩
    have e6 : (6 : Int32) + nI k = nI (6 + k) := by rw [show (6 : Int32) = nI 6 from rfl, nI_add]
    rw [F_L_stones]
    dsimp only
    rw [if_pos (by rw [n_lt (by omega) (by omega)]; omega), if_neg n3, ei, hx, cI_some, if_neg n3, ← hX, a2, cI_some, t1, Option.bind_some, hy, cI_some, b2, cI_some, e6]
    by_cases z : nI b = 0
    · rw [if_pos z]; exact key 20 (by omega) (by omega) _
    · rw [if_neg z]; exact key 8 (by omega) (by omega) _
theorem l_stones (hf : 1000 ≤ fu) {σ0 : SG} (h0 : σ0 0 0 ≠ 0) (r : RR σ0 A I) (h3 : σ0 0 3 = 0) (h40 : A 40 = [0, 0]) (hl : (A 0).length < 2147483648) (l37 : (A 37).length = 24) :
    ∃ many σ1 B J, many ≤ 6 ∧ SS σ0 σ1 A B J many ∧ U_L_stones fu [.ref 1, .ref 0, .int 3, .int 6, .ref 37] (enc A I) = some (some (.int (nI many)), enc B J) := by
  obtain ⟨x, hx⟩ := l_cell (fu := fu) (A := A) (I := I) hl (k := 3) (by omega)
  have hx : U_L_cell fu [.ref 0, .int 3] (enc A I) = some (some (.int x), enc A I) := hx
  obtain ⟨a, ha, a2⟩ := l_some (fu := fu) x (show 1 ≤ 7 by omega) (by omega) (enc A I)
  have a2 : U_L_some fu [.int x, .int ((6 : Int32) + 1)] (enc A I) = some (some (.int (nI a)), enc A I) := a2
  obtain ⟨σ1, B, J, c1, c2⟩ := stones1 (fu := fu) h0 h40 hl (show a ≤ 6 by omega) a 0 fu σ0 A I ⟨r, h3, l37, fun i hi => absurd hi (Nat.not_lt_zero _), fun _ _ _ _ _ _ => rfl, rfl, rfl, rfl, fun _ => rfl, fun _ => rfl, fun i hi => absurd hi (Nat.not_lt_zero _)⟩ (by omega) (by omega)
  refine ⟨a, σ1, B, J, by omega, c1, ?_⟩
  rw [u_L_stones, M_L_stones, hx, cI_some, a2, cI_some]
  exact c2
end SN
end
