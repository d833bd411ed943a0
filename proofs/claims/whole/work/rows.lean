section
-- ===== PART A: goes FIRST, ahead of the names: the tables' words, and 'selects' of the private methods out of them =====
/-- a private method of a class that the tables say can be made, by its rows of tables_1 -/
def lw_okq (q : MethodName × Nat) : Prop := (q.1.cls ≠ "java/lang/invoke/MethodHandle" ∧ q.1.cls ≠ "java/lang/invoke/VarHandle") ∧ Cond.instantiable q.1.cls q.2 ∈ tables_1 ∧ Cond.privateMethod q.1 ∈ tables_1 ∧ Cond.instanceMethod q.1 ∈ tables_1
theorem lw_p0 : lw_okq (⟨"HardShop", "partAt", "(I)LHardShop$Part;"⟩, 6) := ⟨⟨by decide +kernel, by decide +kernel⟩, List.mem_of_getElem? (i := 10) (by decide +kernel), List.mem_of_getElem? (i := 202) (by decide +kernel), List.mem_of_getElem? (i := 203) (by decide +kernel)⟩
theorem lw_p1 : lw_okq (⟨"HardShop$Part", "moveWarmth", "(I)V"⟩, 10) := ⟨⟨by decide +kernel, by decide +kernel⟩, List.mem_of_getElem? (i := 127) (by decide +kernel), List.mem_of_getElem? (i := 210) (by decide +kernel), List.mem_of_getElem? (i := 211) (by decide +kernel)⟩
theorem lw_p2 : lw_okq (⟨"HardShop$Part", "flowFrom", "(I)I"⟩, 10) := ⟨⟨by decide +kernel, by decide +kernel⟩, List.mem_of_getElem? (i := 127) (by decide +kernel), List.mem_of_getElem? (i := 214) (by decide +kernel), List.mem_of_getElem? (i := 215) (by decide +kernel)⟩
theorem lw_p3 : lw_okq (⟨"HardShop$Shell", "becomeHot", "(I)V"⟩, 6) := ⟨⟨by decide +kernel, by decide +kernel⟩, List.mem_of_getElem? (i := 134) (by decide +kernel), List.mem_of_getElem? (i := 222) (by decide +kernel), List.mem_of_getElem? (i := 223) (by decide +kernel)⟩
theorem lw_p4 : lw_okq (⟨"HardShop$Shell", "becomeLamellar", "(I)V"⟩, 6) := ⟨⟨by decide +kernel, by decide +kernel⟩, List.mem_of_getElem? (i := 134) (by decide +kernel), List.mem_of_getElem? (i := 229) (by decide +kernel), List.mem_of_getElem? (i := 230) (by decide +kernel)⟩
theorem lw_p5 : lw_okq (⟨"HardShop$Shell", "becomeTough", "(I)V"⟩, 6) := ⟨⟨by decide +kernel, by decide +kernel⟩, List.mem_of_getElem? (i := 134) (by decide +kernel), List.mem_of_getElem? (i := 233) (by decide +kernel), List.mem_of_getElem? (i := 234) (by decide +kernel)⟩
theorem lw_p6 : lw_okq (⟨"HardShop$Shell", "becomeHard", "(I)V"⟩, 6) := ⟨⟨by decide +kernel, by decide +kernel⟩, List.mem_of_getElem? (i := 134) (by decide +kernel), List.mem_of_getElem? (i := 237) (by decide +kernel), List.mem_of_getElem? (i := 238) (by decide +kernel)⟩
theorem lw_p7 : lw_okq (⟨"HardShop$Shell", "draw", "()V"⟩, 6) := ⟨⟨by decide +kernel, by decide +kernel⟩, List.mem_of_getElem? (i := 134) (by decide +kernel), List.mem_of_getElem? (i := 241) (by decide +kernel), List.mem_of_getElem? (i := 242) (by decide +kernel)⟩
theorem lw_p8 : lw_okq (⟨"HardShop", "furnaceAt", "(I)LHardShop$Furnace;"⟩, 6) := ⟨⟨by decide +kernel, by decide +kernel⟩, List.mem_of_getElem? (i := 10) (by decide +kernel), List.mem_of_getElem? (i := 280) (by decide +kernel), List.mem_of_getElem? (i := 281) (by decide +kernel)⟩
theorem lw_p9 : lw_okq (⟨"HardShop$Furnace", "gasByLine", "()I"⟩, 13) := ⟨⟨by decide +kernel, by decide +kernel⟩, List.mem_of_getElem? (i := 48) (by decide +kernel), List.mem_of_getElem? (i := 363) (by decide +kernel), List.mem_of_getElem? (i := 364) (by decide +kernel)⟩
theorem lw_p10 : lw_okq (⟨"HardShop$Furnace", "gasNearer", "(II)I"⟩, 13) := ⟨⟨by decide +kernel, by decide +kernel⟩, List.mem_of_getElem? (i := 48) (by decide +kernel), List.mem_of_getElem? (i := 367) (by decide +kernel), List.mem_of_getElem? (i := 368) (by decide +kernel)⟩
theorem lw_p11 : lw_okq (⟨"HardShop$Furnace", "lineIsOver", "(LHardShop$Run;)Z"⟩, 13) := ⟨⟨by decide +kernel, by decide +kernel⟩, List.mem_of_getElem? (i := 48) (by decide +kernel), List.mem_of_getElem? (i := 376) (by decide +kernel), List.mem_of_getElem? (i := 377) (by decide +kernel)⟩
theorem lw_p12 : lw_okq (⟨"HardShop$Furnace", "countSoak", "(LHardShop$Run;)V"⟩, 13) := ⟨⟨by decide +kernel, by decide +kernel⟩, List.mem_of_getElem? (i := 48) (by decide +kernel), List.mem_of_getElem? (i := 380) (by decide +kernel), List.mem_of_getElem? (i := 381) (by decide +kernel)⟩
theorem lw_p13 : lw_okq (⟨"HardShop$Furnace", "goToNextLine", "()V"⟩, 13) := ⟨⟨by decide +kernel, by decide +kernel⟩, List.mem_of_getElem? (i := 48) (by decide +kernel), List.mem_of_getElem? (i := 386) (by decide +kernel), List.mem_of_getElem? (i := 387) (by decide +kernel)⟩
theorem lw_p14 : lw_okq (⟨"HardShop", "furnacesRunning", "()I"⟩, 6) := ⟨⟨by decide +kernel, by decide +kernel⟩, List.mem_of_getElem? (i := 10) (by decide +kernel), List.mem_of_getElem? (i := 398) (by decide +kernel), List.mem_of_getElem? (i := 399) (by decide +kernel)⟩
theorem lw_p15 : lw_okq (⟨"HardShop", "doubtRuns", "(II)I"⟩, 6) := ⟨⟨by decide +kernel, by decide +kernel⟩, List.mem_of_getElem? (i := 10) (by decide +kernel), List.mem_of_getElem? (i := 411) (by decide +kernel), List.mem_of_getElem? (i := 412) (by decide +kernel)⟩
def lw_privs_1 : List (MethodName × Nat) := [(⟨"HardShop", "partAt", "(I)LHardShop$Part;"⟩, 6), (⟨"HardShop$Part", "moveWarmth", "(I)V"⟩, 10), (⟨"HardShop$Part", "flowFrom", "(I)I"⟩, 10), (⟨"HardShop$Shell", "becomeHot", "(I)V"⟩, 6), (⟨"HardShop$Shell", "becomeLamellar", "(I)V"⟩, 6), (⟨"HardShop$Shell", "becomeTough", "(I)V"⟩, 6), (⟨"HardShop$Shell", "becomeHard", "(I)V"⟩, 6), (⟨"HardShop$Shell", "draw", "()V"⟩, 6), (⟨"HardShop", "furnaceAt", "(I)LHardShop$Furnace;"⟩, 6), (⟨"HardShop$Furnace", "gasByLine", "()I"⟩, 13), (⟨"HardShop$Furnace", "gasNearer", "(II)I"⟩, 13), (⟨"HardShop$Furnace", "lineIsOver", "(LHardShop$Run;)Z"⟩, 13), (⟨"HardShop$Furnace", "countSoak", "(LHardShop$Run;)V"⟩, 13), (⟨"HardShop$Furnace", "goToNextLine", "()V"⟩, 13), (⟨"HardShop", "furnacesRunning", "()I"⟩, 6), (⟨"HardShop", "doubtRuns", "(II)I"⟩, 6)]
theorem lw_r1 : ∀ q ∈ lw_privs_1, lw_okq q := List.forall_mem_cons.mpr ⟨lw_p0, List.forall_mem_cons.mpr ⟨lw_p1, List.forall_mem_cons.mpr ⟨lw_p2, List.forall_mem_cons.mpr ⟨lw_p3, List.forall_mem_cons.mpr ⟨lw_p4, List.forall_mem_cons.mpr ⟨lw_p5, List.forall_mem_cons.mpr ⟨lw_p6, List.forall_mem_cons.mpr ⟨lw_p7, List.forall_mem_cons.mpr ⟨lw_p8, List.forall_mem_cons.mpr ⟨lw_p9, List.forall_mem_cons.mpr ⟨lw_p10, List.forall_mem_cons.mpr ⟨lw_p11, List.forall_mem_cons.mpr ⟨lw_p12, List.forall_mem_cons.mpr ⟨lw_p13, List.forall_mem_cons.mpr ⟨lw_p14, List.forall_mem_cons.mpr ⟨lw_p15, fun _ h => absurd h List.not_mem_nil⟩⟩⟩⟩⟩⟩⟩⟩⟩⟩⟩⟩⟩⟩⟩⟩
theorem lw_p16 : lw_okq (⟨"HardShop$JobList", "plan", "()V"⟩, 5) := ⟨⟨by decide +kernel, by decide +kernel⟩, List.mem_of_getElem? (i := 24) (by decide +kernel), List.mem_of_getElem? (i := 455) (by decide +kernel), List.mem_of_getElem? (i := 456) (by decide +kernel)⟩
theorem lw_p17 : lw_okq (⟨"HardShop$JobList", "nextOf", "(I)I"⟩, 5) := ⟨⟨by decide +kernel, by decide +kernel⟩, List.mem_of_getElem? (i := 24) (by decide +kernel), List.mem_of_getElem? (i := 459) (by decide +kernel), List.mem_of_getElem? (i := 460) (by decide +kernel)⟩
theorem lw_p18 : lw_okq (⟨"HardShop$JobList", "latenessWith", "(II)I"⟩, 5) := ⟨⟨by decide +kernel, by decide +kernel⟩, List.mem_of_getElem? (i := 24) (by decide +kernel), List.mem_of_getElem? (i := 464) (by decide +kernel), List.mem_of_getElem? (i := 465) (by decide +kernel)⟩
theorem lw_p19 : lw_okq (⟨"HardShop", "runsInDoubt", "()I"⟩, 6) := ⟨⟨by decide +kernel, by decide +kernel⟩, List.mem_of_getElem? (i := 10) (by decide +kernel), List.mem_of_getElem? (i := 493) (by decide +kernel), List.mem_of_getElem? (i := 494) (by decide +kernel)⟩
theorem lw_p20 : lw_okq (⟨"HardShopModel", "isPart", "(I)Z"⟩, 39) := ⟨⟨by decide +kernel, by decide +kernel⟩, List.mem_of_getElem? (i := 535) (by decide +kernel), List.mem_of_getElem? (i := 533) (by decide +kernel), List.mem_of_getElem? (i := 534) (by decide +kernel)⟩
theorem lw_p21 : lw_okq (⟨"HardShopModel", "steps", "(II)V"⟩, 39) := ⟨⟨by decide +kernel, by decide +kernel⟩, List.mem_of_getElem? (i := 535) (by decide +kernel), List.mem_of_getElem? (i := 538) (by decide +kernel), List.mem_of_getElem? (i := 539) (by decide +kernel)⟩
theorem lw_p22 : lw_okq (⟨"HardShopModel", "change", "(II)V"⟩, 39) := ⟨⟨by decide +kernel, by decide +kernel⟩, List.mem_of_getElem? (i := 535) (by decide +kernel), List.mem_of_getElem? (i := 542) (by decide +kernel), List.mem_of_getElem? (i := 543) (by decide +kernel)⟩
theorem lw_p23 : lw_okq (⟨"HardShopModel", "turn", "(IIII)I"⟩, 39) := ⟨⟨by decide +kernel, by decide +kernel⟩, List.mem_of_getElem? (i := 535) (by decide +kernel), List.mem_of_getElem? (i := 546) (by decide +kernel), List.mem_of_getElem? (i := 547) (by decide +kernel)⟩
theorem lw_p24 : lw_okq (⟨"HardShopModel", "innermost", "(I)I"⟩, 39) := ⟨⟨by decide +kernel, by decide +kernel⟩, List.mem_of_getElem? (i := 535) (by decide +kernel), List.mem_of_getElem? (i := 550) (by decide +kernel), List.mem_of_getElem? (i := 551) (by decide +kernel)⟩
theorem lw_p25 : lw_okq (⟨"HardShopModel", "hardness", "(I)I"⟩, 39) := ⟨⟨by decide +kernel, by decide +kernel⟩, List.mem_of_getElem? (i := 535) (by decide +kernel), List.mem_of_getElem? (i := 559) (by decide +kernel), List.mem_of_getElem? (i := 560) (by decide +kernel)⟩
theorem lw_p26 : lw_okq (⟨"HardShopModel", "massOf", "(I)I"⟩, 39) := ⟨⟨by decide +kernel, by decide +kernel⟩, List.mem_of_getElem? (i := 535) (by decide +kernel), List.mem_of_getElem? (i := 714) (by decide +kernel), List.mem_of_getElem? (i := 715) (by decide +kernel)⟩
theorem lw_p27 : lw_okq (⟨"HardShopModel", "loadOf", "(I)I"⟩, 39) := ⟨⟨by decide +kernel, by decide +kernel⟩, List.mem_of_getElem? (i := 535) (by decide +kernel), List.mem_of_getElem? (i := 730) (by decide +kernel), List.mem_of_getElem? (i := 731) (by decide +kernel)⟩
theorem lw_p28 : lw_okq (⟨"HardShopModel", "ticks", "(I)V"⟩, 39) := ⟨⟨by decide +kernel, by decide +kernel⟩, List.mem_of_getElem? (i := 535) (by decide +kernel), List.mem_of_getElem? (i := 738) (by decide +kernel), List.mem_of_getElem? (i := 739) (by decide +kernel)⟩
theorem lw_p29 : lw_okq (⟨"HardShopModel", "liveAt", "(II)I"⟩, 39) := ⟨⟨by decide +kernel, by decide +kernel⟩, List.mem_of_getElem? (i := 535) (by decide +kernel), List.mem_of_getElem? (i := 742) (by decide +kernel), List.mem_of_getElem? (i := 743) (by decide +kernel)⟩
theorem lw_p30 : lw_okq (⟨"HardShopModel", "running", "()I"⟩, 39) := ⟨⟨by decide +kernel, by decide +kernel⟩, List.mem_of_getElem? (i := 535) (by decide +kernel), List.mem_of_getElem? (i := 746) (by decide +kernel), List.mem_of_getElem? (i := 747) (by decide +kernel)⟩
theorem lw_p31 : lw_okq (⟨"HardShopModel", "isWell", "(I)Z"⟩, 39) := ⟨⟨by decide +kernel, by decide +kernel⟩, List.mem_of_getElem? (i := 535) (by decide +kernel), List.mem_of_getElem? (i := 766) (by decide +kernel), List.mem_of_getElem? (i := 767) (by decide +kernel)⟩
def lw_privs_2 : List (MethodName × Nat) := [(⟨"HardShop$JobList", "plan", "()V"⟩, 5), (⟨"HardShop$JobList", "nextOf", "(I)I"⟩, 5), (⟨"HardShop$JobList", "latenessWith", "(II)I"⟩, 5), (⟨"HardShop", "runsInDoubt", "()I"⟩, 6), (⟨"HardShopModel", "isPart", "(I)Z"⟩, 39), (⟨"HardShopModel", "steps", "(II)V"⟩, 39), (⟨"HardShopModel", "change", "(II)V"⟩, 39), (⟨"HardShopModel", "turn", "(IIII)I"⟩, 39), (⟨"HardShopModel", "innermost", "(I)I"⟩, 39), (⟨"HardShopModel", "hardness", "(I)I"⟩, 39), (⟨"HardShopModel", "massOf", "(I)I"⟩, 39), (⟨"HardShopModel", "loadOf", "(I)I"⟩, 39), (⟨"HardShopModel", "ticks", "(I)V"⟩, 39), (⟨"HardShopModel", "liveAt", "(II)I"⟩, 39), (⟨"HardShopModel", "running", "()I"⟩, 39), (⟨"HardShopModel", "isWell", "(I)Z"⟩, 39)]
theorem lw_r2 : ∀ q ∈ lw_privs_2, lw_okq q := List.forall_mem_cons.mpr ⟨lw_p16, List.forall_mem_cons.mpr ⟨lw_p17, List.forall_mem_cons.mpr ⟨lw_p18, List.forall_mem_cons.mpr ⟨lw_p19, List.forall_mem_cons.mpr ⟨lw_p20, List.forall_mem_cons.mpr ⟨lw_p21, List.forall_mem_cons.mpr ⟨lw_p22, List.forall_mem_cons.mpr ⟨lw_p23, List.forall_mem_cons.mpr ⟨lw_p24, List.forall_mem_cons.mpr ⟨lw_p25, List.forall_mem_cons.mpr ⟨lw_p26, List.forall_mem_cons.mpr ⟨lw_p27, List.forall_mem_cons.mpr ⟨lw_p28, List.forall_mem_cons.mpr ⟨lw_p29, List.forall_mem_cons.mpr ⟨lw_p30, List.forall_mem_cons.mpr ⟨lw_p31, fun _ h => absurd h List.not_mem_nil⟩⟩⟩⟩⟩⟩⟩⟩⟩⟩⟩⟩⟩⟩⟩⟩
theorem lw_p32 : lw_okq (⟨"HardShopModel", "weigh", "()V"⟩, 39) := ⟨⟨by decide +kernel, by decide +kernel⟩, List.mem_of_getElem? (i := 535) (by decide +kernel), List.mem_of_getElem? (i := 786) (by decide +kernel), List.mem_of_getElem? (i := 787) (by decide +kernel)⟩
theorem lw_p33 : lw_okq (⟨"HardShopModel", "lateBy", "(II)I"⟩, 39) := ⟨⟨by decide +kernel, by decide +kernel⟩, List.mem_of_getElem? (i := 535) (by decide +kernel), List.mem_of_getElem? (i := 791) (by decide +kernel), List.mem_of_getElem? (i := 792) (by decide +kernel)⟩
def lw_privs_3 : List (MethodName × Nat) := [(⟨"HardShopModel", "weigh", "()V"⟩, 39), (⟨"HardShopModel", "lateBy", "(II)I"⟩, 39)]
theorem lw_r3 : ∀ q ∈ lw_privs_3, lw_okq q := List.forall_mem_cons.mpr ⟨lw_p32, List.forall_mem_cons.mpr ⟨lw_p33, fun _ h => absurd h List.not_mem_nil⟩⟩
def lw_privs : List (MethodName × Nat) := lw_privs_1 ++ (lw_privs_2 ++ (lw_privs_3))
def lw_tbl : List Cond := k2_sels lw_privs ++ tables_1
theorem lw_privs_ok : ∀ q ∈ lw_privs, lw_okq q := by
  show ∀ q ∈ lw_privs_1 ++ (lw_privs_2 ++ (lw_privs_3)), lw_okq q
  exact List.forall_mem_append.mpr ⟨lw_r1, List.forall_mem_append.mpr ⟨lw_r2, lw_r3⟩⟩
def RX0 : String := "HardShop$Furnace"
def TX0 : u_T := fun k => match k with
  | 0 => ("HardShop$Furnace", "places", "[LHardShop$Part;", true)
  | 1 => ("HardShop$Furnace", "lost", "[Z", true)
  | 2 => ("HardShop$Furnace", "drift", "[I", true)
  | 3 => ("HardShop$Furnace", "ops", "[I", true)
  | 4 => ("HardShop$Furnace", "goals", "[I", true)
  | 5 => ("HardShop$Furnace", "lengths", "[I", true)
  | 6 => ("HardShop$Furnace", "lineCount", "I", false)
  | 7 => ("HardShop$Furnace", "lineNow", "I", false)
  | 8 => ("HardShop$Furnace", "error", "I", false)
  | 9 => ("HardShop$Furnace", "firstUnsurveyed", "I", false)
  | 10 => ("HardShop$Furnace", "gas", "I", false)
  | 11 => ("HardShop$Furnace", "counted", "I", false)
  | _ => ("HardShop$Furnace", "current", "LHardShop$Run;", false)
def tyX0 : Nat → FieldType := fun k => match k with
  | 0 => .array (.object "HardShop$Part")
  | 1 => .array .boolean
  | 2 => .array .int
  | 3 => .array .int
  | 4 => .array .int
  | 5 => .array .int
  | 6 => .int
  | 7 => .int
  | 8 => .int
  | 9 => .int
  | 10 => .int
  | 11 => .int
  | _ => .object "HardShop$Run"
abbrev wsX00 : List Cond := u_ws RX0 TX0 13
theorem nmX0 : ∀ a, a < 13 → ∀ b, b < 13 → a ≠ b → (TX0 a).2.1 ≠ (TX0 b).2.1 := by decide +kernel
theorem tyX0_ok : ∀ k, k < 13 → parseFieldDescriptor (TX0 k).2.2.1 = some (tyX0 k) := by decide +kernel
abbrev cX0_init : ByteArray := prog_2_method_1_code
def yX0_init : MethodName := ⟨RX0, "<init>", "()V"⟩
abbrev cX0_isRunning : ByteArray := prog_2_method_2_code
def yX0_isRunning : MethodName := ⟨RX0, "isRunning", "()Z"⟩
abbrev cX0_addLine : ByteArray := prog_2_method_3_code
def yX0_addLine : MethodName := ⟨RX0, "addLine", "(III)I"⟩
abbrev cX0_massInside : ByteArray := prog_2_method_4_code
def yX0_massInside : MethodName := ⟨RX0, "massInside", "()I"⟩
abbrev cX0_partsInside : ByteArray := prog_2_method_5_code
def yX0_partsInside : MethodName := ⟨RX0, "partsInside", "()I"⟩
abbrev cX0_begin : ByteArray := prog_2_method_6_code
def yX0_begin : MethodName := ⟨RX0, "begin", "(LHardShop$Run;)V"⟩
abbrev cX0_end : ByteArray := prog_2_method_7_code
def yX0_end : MethodName := ⟨RX0, "end", "(Z)V"⟩
abbrev cX0_doTick : ByteArray := prog_2_method_8_code
def yX0_doTick : MethodName := ⟨RX0, "doTick", "()V"⟩
abbrev cX0_gasByLine : ByteArray := prog_2_method_9_code
def yX0_gasByLine : MethodName := ⟨RX0, "gasByLine", "()I"⟩
abbrev cX0_gasNearer : ByteArray := prog_2_method_10_code
def yX0_gasNearer : MethodName := ⟨RX0, "gasNearer", "(II)I"⟩
abbrev cX0_lineIsOver : ByteArray := prog_2_method_11_code
def yX0_lineIsOver : MethodName := ⟨RX0, "lineIsOver", "(LHardShop$Run;)Z"⟩
abbrev cX0_countSoak : ByteArray := prog_2_method_12_code
def yX0_countSoak : MethodName := ⟨RX0, "countSoak", "(LHardShop$Run;)V"⟩
abbrev cX0_goToNextLine : ByteArray := prog_2_method_13_code
def yX0_goToNextLine : MethodName := ⟨RX0, "goToNextLine", "()V"⟩
abbrev cX0_tell : ByteArray := prog_2_method_14_code
def yX0_tell : MethodName := ⟨RX0, "tell", "(I)I"⟩
abbrev cX0_digestFrom : ByteArray := prog_2_method_15_code
def yX0_digestFrom : MethodName := ⟨RX0, "digestFrom", "(J)J"⟩
def RX1 : String := "HardShop$JobList"
def TX1 : u_T := fun k => match k with
  | 0 => ("HardShop$JobList", "times", "[I", true)
  | 1 => ("HardShop$JobList", "dues", "[I", true)
  | 2 => ("HardShop$JobList", "leastBehind", "[I", true)
  | 3 => ("HardShop$JobList", "best", "[I", true)
  | _ => ("HardShop$JobList", "size", "I", false)
def tyX1 : Nat → FieldType := fun k => match k with
  | 0 => .array .int
  | 1 => .array .int
  | 2 => .array .int
  | 3 => .array .int
  | _ => .int
abbrev wsX10 : List Cond := u_ws RX1 TX1 5
theorem nmX1 : ∀ a, a < 5 → ∀ b, b < 5 → a ≠ b → (TX1 a).2.1 ≠ (TX1 b).2.1 := by decide +kernel
theorem tyX1_ok : ∀ k, k < 5 → parseFieldDescriptor (TX1 k).2.2.1 = some (tyX1 k) := by decide +kernel
abbrev cX1_init : ByteArray := prog_3_method_1_code
def yX1_init : MethodName := ⟨RX1, "<init>", "()V"⟩
abbrev cX1_add : ByteArray := prog_3_method_2_code
def yX1_add : MethodName := ⟨RX1, "add", "(II)I"⟩
abbrev cX1_removeAll : ByteArray := prog_3_method_3_code
def yX1_removeAll : MethodName := ⟨RX1, "removeAll", "()I"⟩
abbrev cX1_leastLateness : ByteArray := prog_3_method_4_code
def yX1_leastLateness : MethodName := ⟨RX1, "leastLateness", "()I"⟩
abbrev cX1_plan : ByteArray := prog_3_method_5_code
def yX1_plan : MethodName := ⟨RX1, "plan", "()V"⟩
abbrev cX1_nextOf : ByteArray := prog_3_method_6_code
def yX1_nextOf : MethodName := ⟨RX1, "nextOf", "(I)I"⟩
abbrev cX1_latenessWith : ByteArray := prog_3_method_7_code
def yX1_latenessWith : MethodName := ⟨RX1, "latenessWith", "(II)I"⟩
def RX2 : String := "HardShop$Part"
def TX2 : u_T := fun k => match k with
  | 0 => ("HardShop$Part", "number", "I", true)
  | 1 => ("HardShop$Part", "mass", "I", true)
  | 2 => ("HardShop$Part", "shells", "[LHardShop$Shell;", true)
  | 3 => ("HardShop$Part", "k", "I", true)
  | 4 => ("HardShop$Part", "s", "I", true)
  | 5 => ("HardShop$Part", "p", "I", true)
  | 6 => ("HardShop$Part", "b", "I", true)
  | 7 => ("HardShop$Part", "allTaken", "J", false)
  | 8 => ("HardShop$Part", "inFurnace", "Z", false)
  | _ => ("HardShop$Part", "latestRun", "LHardShop$Run;", false)
def tyX2 : Nat → FieldType := fun k => match k with
  | 0 => .int
  | 1 => .int
  | 2 => .array (.object "HardShop$Shell")
  | 3 => .int
  | 4 => .int
  | 5 => .int
  | 6 => .int
  | 7 => .long
  | 8 => .boolean
  | _ => .object "HardShop$Run"
abbrev wsX20 : List Cond := u_ws RX2 TX2 10
theorem nmX2 : ∀ a, a < 10 → ∀ b, b < 10 → a ≠ b → (TX2 a).2.1 ≠ (TX2 b).2.1 := by decide +kernel
theorem tyX2_ok : ∀ k, k < 10 → parseFieldDescriptor (TX2 k).2.2.1 = some (tyX2 k) := by decide +kernel
abbrev cX2_init : ByteArray := prog_4_method_1_code
def yX2_init : MethodName := ⟨RX2, "<init>", "(IIIIIII)V"⟩
abbrev cX2_stepBeside : ByteArray := prog_4_method_2_code
def yX2_stepBeside : MethodName := ⟨RX2, "stepBeside", "(I)V"⟩
abbrev cX2_moveWarmth : ByteArray := prog_4_method_3_code
def yX2_moveWarmth : MethodName := ⟨RX2, "moveWarmth", "(I)V"⟩
abbrev cX2_flowFrom : ByteArray := prog_4_method_4_code
def yX2_flowFrom : MethodName := ⟨RX2, "flowFrom", "(I)I"⟩
abbrev cX2_innermostWarmth : ByteArray := prog_4_method_5_code
def yX2_innermostWarmth : MethodName := ⟨RX2, "innermostWarmth", "()I"⟩
abbrev cX2_warmthAstray : ByteArray := prog_4_method_6_code
def yX2_warmthAstray : MethodName := ⟨RX2, "warmthAstray", "()J"⟩
abbrev cX2_digestFrom : ByteArray := prog_4_method_7_code
def yX2_digestFrom : MethodName := ⟨RX2, "digestFrom", "(J)J"⟩
def RX3 : String := "HardShop$Run"
def TX3 : u_T := fun k => match k with
  | 0 => ("HardShop$Run", "furnace", "I", true)
  | 1 => ("HardShop$Run", "inDoubt", "Z", false)
  | 2 => ("HardShop$Run", "tooFewProbes", "Z", false)
  | 3 => ("HardShop$Run", "ticks", "I", false)
  | 4 => ("HardShop$Run", "over", "Z", false)
  | _ => ("HardShop$Run", "wentToEnd", "Z", false)
def tyX3 : Nat → FieldType := fun k => match k with
  | 0 => .int
  | 1 => .boolean
  | 2 => .boolean
  | 3 => .int
  | 4 => .boolean
  | _ => .boolean
abbrev wsX30 : List Cond := u_ws RX3 TX3 6
theorem nmX3 : ∀ a, a < 6 → ∀ b, b < 6 → a ≠ b → (TX3 a).2.1 ≠ (TX3 b).2.1 := by decide +kernel
theorem tyX3_ok : ∀ k, k < 6 → parseFieldDescriptor (TX3 k).2.2.1 = some (tyX3 k) := by decide +kernel
abbrev cX3_init : ByteArray := prog_5_method_1_code
def yX3_init : MethodName := ⟨RX3, "<init>", "(I)V"⟩
abbrev cX3_end : ByteArray := prog_5_method_2_code
def yX3_end : MethodName := ⟨RX3, "end", "(Z)V"⟩
abbrev cX3_isWell : ByteArray := prog_5_method_3_code
def yX3_isWell : MethodName := ⟨RX3, "isWell", "()Z"⟩
abbrev cX3_tell : ByteArray := prog_5_method_4_code
def yX3_tell : MethodName := ⟨RX3, "tell", "(I)I"⟩
abbrev cX3_digestFrom : ByteArray := prog_5_method_5_code
def yX3_digestFrom : MethodName := ⟨RX3, "digestFrom", "(J)J"⟩
def RX4 : String := "HardShop$Shell"
def TX4 : u_T := fun k => match k with
  | 0 => ("HardShop$Shell", "warmth", "I", false)
  | 1 => ("HardShop$Shell", "hot", "I", false)
  | 2 => ("HardShop$Shell", "lamellar", "I", false)
  | 3 => ("HardShop$Shell", "tough", "I", false)
  | 4 => ("HardShop$Shell", "hard", "I", false)
  | _ => ("HardShop$Shell", "drawn", "I", false)
def tyX4 : Nat → FieldType := fun k => match k with
  | 0 => .int
  | 1 => .int
  | 2 => .int
  | 3 => .int
  | 4 => .int
  | _ => .int
abbrev wsX40 : List Cond := u_ws RX4 TX4 6
theorem nmX4 : ∀ a, a < 6 → ∀ b, b < 6 → a ≠ b → (TX4 a).2.1 ≠ (TX4 b).2.1 := by decide +kernel
theorem tyX4_ok : ∀ k, k < 6 → parseFieldDescriptor (TX4 k).2.2.1 = some (tyX4 k) := by decide +kernel
abbrev cX4_init : ByteArray := prog_6_method_1_code
def yX4_init : MethodName := ⟨RX4, "<init>", "()V"⟩
abbrev cX4_change : ByteArray := prog_6_method_2_code
def yX4_change : MethodName := ⟨RX4, "change", "(II)V"⟩
abbrev cX4_becomeHot : ByteArray := prog_6_method_3_code
def yX4_becomeHot : MethodName := ⟨RX4, "becomeHot", "(I)V"⟩
abbrev cX4_becomeLamellar : ByteArray := prog_6_method_4_code
def yX4_becomeLamellar : MethodName := ⟨RX4, "becomeLamellar", "(I)V"⟩
abbrev cX4_becomeTough : ByteArray := prog_6_method_5_code
def yX4_becomeTough : MethodName := ⟨RX4, "becomeTough", "(I)V"⟩
abbrev cX4_becomeHard : ByteArray := prog_6_method_6_code
def yX4_becomeHard : MethodName := ⟨RX4, "becomeHard", "(I)V"⟩
abbrev cX4_draw : ByteArray := prog_6_method_7_code
def yX4_draw : MethodName := ⟨RX4, "draw", "()V"⟩
abbrev cX4_hardness : ByteArray := prog_6_method_8_code
def yX4_hardness : MethodName := ⟨RX4, "hardness", "()I"⟩
abbrev cX4_tell : ByteArray := prog_6_method_9_code
def yX4_tell : MethodName := ⟨RX4, "tell", "(I)I"⟩
def RX5 : String := "HardShop"
def TX5 : u_T := fun k => match k with
  | 0 => ("HardShop", "parts", "[LHardShop$Part;", true)
  | 1 => ("HardShop", "furnaces", "[LHardShop$Furnace;", true)
  | 2 => ("HardShop", "runs", "[LHardShop$Run;", true)
  | 3 => ("HardShop", "jobs", "LHardShop$JobList;", true)
  | 4 => ("HardShop", "partCount", "I", false)
  | _ => ("HardShop", "runCount", "I", false)
def tyX5 : Nat → FieldType := fun k => match k with
  | 0 => .array (.object "HardShop$Part")
  | 1 => .array (.object "HardShop$Furnace")
  | 2 => .array (.object "HardShop$Run")
  | 3 => .object "HardShop$JobList"
  | 4 => .int
  | _ => .int
abbrev wsX50 : List Cond := u_ws RX5 TX5 6
theorem nmX5 : ∀ a, a < 6 → ∀ b, b < 6 → a ≠ b → (TX5 a).2.1 ≠ (TX5 b).2.1 := by decide +kernel
theorem tyX5_ok : ∀ k, k < 6 → parseFieldDescriptor (TX5 k).2.2.1 = some (tyX5 k) := by decide +kernel
abbrev cX5_init : ByteArray := prog_1_method_1_code
def yX5_init : MethodName := ⟨RX5, "<init>", "()V"⟩
abbrev cX5_part : ByteArray := prog_1_method_2_code
def yX5_part : MethodName := ⟨RX5, "part", "(IIIIII)I"⟩
abbrev cX5_step : ByteArray := prog_1_method_3_code
def yX5_step : MethodName := ⟨RX5, "step", "(III)I"⟩
abbrev cX5_shell : ByteArray := prog_1_method_4_code
def yX5_shell : MethodName := ⟨RX5, "shell", "(III)I"⟩
abbrev cX5_taken : ByteArray := prog_1_method_5_code
def yX5_taken : MethodName := ⟨RX5, "taken", "(I)J"⟩
abbrev cX5_kept : ByteArray := prog_1_method_6_code
def yX5_kept : MethodName := ⟨RX5, "kept", "(I)J"⟩
abbrev cX5_line : ByteArray := prog_1_method_7_code
def yX5_line : MethodName := ⟨RX5, "line", "(IIII)I"⟩
abbrev cX5_clear : ByteArray := prog_1_method_8_code
def yX5_clear : MethodName := ⟨RX5, "clear", "(I)I"⟩
abbrev cX5_load : ByteArray := prog_1_method_9_code
def yX5_load : MethodName := ⟨RX5, "load", "(III)I"⟩
abbrev cX5_unload : ByteArray := prog_1_method_10_code
def yX5_unload : MethodName := ⟨RX5, "unload", "(II)I"⟩
abbrev cX5_probe : ByteArray := prog_1_method_11_code
def yX5_probe : MethodName := ⟨RX5, "probe", "(IIZI)I"⟩
abbrev cX5_run : ByteArray := prog_1_method_12_code
def yX5_run : MethodName := ⟨RX5, "run", "(I)I"⟩
abbrev cX5_tick : ByteArray := prog_1_method_13_code
def yX5_tick : MethodName := ⟨RX5, "tick", "(I)I"⟩
abbrev cX5_stop : ByteArray := prog_1_method_14_code
def yX5_stop : MethodName := ⟨RX5, "stop", "(I)I"⟩
abbrev cX5_survey : ByteArray := prog_1_method_15_code
def yX5_survey : MethodName := ⟨RX5, "survey", "(II)I"⟩
abbrev cX5_about : ByteArray := prog_1_method_16_code
def yX5_about : MethodName := ⟨RX5, "about", "(II)I"⟩
abbrev cX5_runAt : ByteArray := prog_1_method_17_code
def yX5_runAt : MethodName := ⟨RX5, "runAt", "(II)I"⟩
abbrev cX5_paper : ByteArray := prog_1_method_18_code
def yX5_paper : MethodName := ⟨RX5, "paper", "(III)I"⟩
abbrev cX5_job : ByteArray := prog_1_method_19_code
def yX5_job : MethodName := ⟨RX5, "job", "(II)I"⟩
abbrev cX5_clearJobs : ByteArray := prog_1_method_20_code
def yX5_clearJobs : MethodName := ⟨RX5, "clearJobs", "()I"⟩
abbrev cX5_lateness : ByteArray := prog_1_method_21_code
def yX5_lateness : MethodName := ⟨RX5, "lateness", "()I"⟩
abbrev cX5_order : ByteArray := prog_1_method_22_code
def yX5_order : MethodName := ⟨RX5, "order", "(I)I"⟩
abbrev cX5_count : ByteArray := prog_1_method_23_code
def yX5_count : MethodName := ⟨RX5, "count", "(I)I"⟩
abbrev cX5_digest : ByteArray := prog_1_method_24_code
def yX5_digest : MethodName := ⟨RX5, "digest", "()J"⟩
abbrev cX5_within : ByteArray := prog_1_method_25_code
def yX5_within : MethodName := ⟨RX5, "within", "(III)Z"⟩
abbrev cX5_lineIsAsTold : ByteArray := prog_1_method_26_code
def yX5_lineIsAsTold : MethodName := ⟨RX5, "lineIsAsTold", "(III)Z"⟩
abbrev cX5_partAt : ByteArray := prog_1_method_27_code
def yX5_partAt : MethodName := ⟨RX5, "partAt", "(I)LHardShop$Part;"⟩
abbrev cX5_furnaceAt : ByteArray := prog_1_method_28_code
def yX5_furnaceAt : MethodName := ⟨RX5, "furnaceAt", "(I)LHardShop$Furnace;"⟩
abbrev cX5_furnacesRunning : ByteArray := prog_1_method_29_code
def yX5_furnacesRunning : MethodName := ⟨RX5, "furnacesRunning", "()I"⟩
abbrev cX5_doubtRuns : ByteArray := prog_1_method_30_code
def yX5_doubtRuns : MethodName := ⟨RX5, "doubtRuns", "(II)I"⟩
abbrev cX5_runsInDoubt : ByteArray := prog_1_method_31_code
def yX5_runsInDoubt : MethodName := ⟨RX5, "runsInDoubt", "()I"⟩
abbrev cX5_truth : ByteArray := prog_1_method_32_code
def yX5_truth : MethodName := ⟨RX5, "truth", "(Z)I"⟩
def RX6 : String := "HardShopModel"
def TX6 : u_T := fun k => match k with
  | 0 => ("HardShopModel", "parts", "I", false)
  | 1 => ("HardShopModel", "shells", "[I", true)
  | 2 => ("HardShopModel", "masses", "[I", true)
  | 3 => ("HardShopModel", "inner", "[I", true)
  | 4 => ("HardShopModel", "outer", "[I", true)
  | 5 => ("HardShopModel", "rateP", "[I", true)
  | 6 => ("HardShopModel", "rateB", "[I", true)
  | 7 => ("HardShopModel", "took", "[J", true)
  | 8 => ("HardShopModel", "where", "[I", true)
  | 9 => ("HardShopModel", "runOf", "[I", true)
  | 10 => ("HardShopModel", "warmth", "[I", true)
  | 11 => ("HardShopModel", "share", "[I", true)
  | 12 => ("HardShopModel", "drawn", "[I", true)
  | 13 => ("HardShopModel", "flow", "[I", true)
  | 14 => ("HardShopModel", "gas", "[I", true)
  | 15 => ("HardShopModel", "error", "[I", true)
  | 16 => ("HardShopModel", "lines", "[I", true)
  | 17 => ("HardShopModel", "ops", "[I", true)
  | 18 => ("HardShopModel", "lineA", "[I", true)
  | 19 => ("HardShopModel", "lineB", "[I", true)
  | 20 => ("HardShopModel", "place", "[I", true)
  | 21 => ("HardShopModel", "isLive", "[Z", true)
  | 22 => ("HardShopModel", "drift", "[I", true)
  | 23 => ("HardShopModel", "runs", "[Z", true)
  | 24 => ("HardShopModel", "atLine", "[I", true)
  | 25 => ("HardShopModel", "counted", "[I", true)
  | 26 => ("HardShopModel", "ownRun", "[I", true)
  | 27 => ("HardShopModel", "since", "[I", true)
  | 28 => ("HardShopModel", "runMany", "I", false)
  | 29 => ("HardShopModel", "runFurnace", "[I", true)
  | 30 => ("HardShopModel", "runOver", "[Z", true)
  | 31 => ("HardShopModel", "runEnded", "[Z", true)
  | 32 => ("HardShopModel", "runBlind", "[Z", true)
  | 33 => ("HardShopModel", "runDoubt", "[Z", true)
  | 34 => ("HardShopModel", "runTicks", "[I", true)
  | 35 => ("HardShopModel", "jobs", "I", false)
  | 36 => ("HardShopModel", "times", "[I", true)
  | 37 => ("HardShopModel", "dues", "[I", true)
  | _ => ("HardShopModel", "late", "[I", true)
def tyX6 : Nat → FieldType := fun k => match k with
  | 0 => .int
  | 1 => .array .int
  | 2 => .array .int
  | 3 => .array .int
  | 4 => .array .int
  | 5 => .array .int
  | 6 => .array .int
  | 7 => .array .long
  | 8 => .array .int
  | 9 => .array .int
  | 10 => .array .int
  | 11 => .array .int
  | 12 => .array .int
  | 13 => .array .int
  | 14 => .array .int
  | 15 => .array .int
  | 16 => .array .int
  | 17 => .array .int
  | 18 => .array .int
  | 19 => .array .int
  | 20 => .array .int
  | 21 => .array .boolean
  | 22 => .array .int
  | 23 => .array .boolean
  | 24 => .array .int
  | 25 => .array .int
  | 26 => .array .int
  | 27 => .array .int
  | 28 => .int
  | 29 => .array .int
  | 30 => .array .boolean
  | 31 => .array .boolean
  | 32 => .array .boolean
  | 33 => .array .boolean
  | 34 => .array .int
  | 35 => .int
  | 36 => .array .int
  | 37 => .array .int
  | _ => .array .int
abbrev wsX60 : List Cond := u_ws RX6 TX6 39
theorem nmX6 : ∀ a, a < 39 → ∀ b, b < 39 → a ≠ b → (TX6 a).2.1 ≠ (TX6 b).2.1 := by decide +kernel
theorem tyX6_ok : ∀ k, k < 39 → parseFieldDescriptor (TX6 k).2.2.1 = some (tyX6 k) := by decide +kernel
abbrev cX6_in : ByteArray := prog_8_method_2_code
def yX6_in : MethodName := ⟨RX6, "in", "(III)Z"⟩
abbrev cX6_part : ByteArray := prog_8_method_3_code
def yX6_part : MethodName := ⟨RX6, "part", "(IIIIII)I"⟩
abbrev cX6_isPart : ByteArray := prog_8_method_4_code
def yX6_isPart : MethodName := ⟨RX6, "isPart", "(I)Z"⟩
abbrev cX6_steps : ByteArray := prog_8_method_5_code
def yX6_steps : MethodName := ⟨RX6, "steps", "(II)V"⟩
abbrev cX6_turn : ByteArray := prog_8_method_6_code
def yX6_turn : MethodName := ⟨RX6, "turn", "(IIII)I"⟩
abbrev cX6_change : ByteArray := prog_8_method_7_code
def yX6_change : MethodName := ⟨RX6, "change", "(II)V"⟩
abbrev cX6_hardness : ByteArray := prog_8_method_8_code
def yX6_hardness : MethodName := ⟨RX6, "hardness", "(I)I"⟩
abbrev cX6_innermost : ByteArray := prog_8_method_9_code
def yX6_innermost : MethodName := ⟨RX6, "innermost", "(I)I"⟩
abbrev cX6_step : ByteArray := prog_8_method_10_code
def yX6_step : MethodName := ⟨RX6, "step", "(III)I"⟩
abbrev cX6_shell : ByteArray := prog_8_method_11_code
def yX6_shell : MethodName := ⟨RX6, "shell", "(III)I"⟩
abbrev cX6_taken : ByteArray := prog_8_method_12_code
def yX6_taken : MethodName := ⟨RX6, "taken", "(I)J"⟩
abbrev cX6_kept : ByteArray := prog_8_method_13_code
def yX6_kept : MethodName := ⟨RX6, "kept", "(I)J"⟩
abbrev cX6_init : ByteArray := prog_8_method_14_code
def yX6_init : MethodName := ⟨RX6, "<init>", "()V"⟩
abbrev cX6_isFurnace : ByteArray := prog_8_method_15_code
def yX6_isFurnace : MethodName := ⟨RX6, "isFurnace", "(I)Z"⟩
abbrev cX6_isPlace : ByteArray := prog_8_method_16_code
def yX6_isPlace : MethodName := ⟨RX6, "isPlace", "(I)Z"⟩
abbrev cX6_line : ByteArray := prog_8_method_17_code
def yX6_line : MethodName := ⟨RX6, "line", "(IIII)I"⟩
abbrev cX6_clear : ByteArray := prog_8_method_18_code
def yX6_clear : MethodName := ⟨RX6, "clear", "(I)I"⟩
abbrev cX6_massOf : ByteArray := prog_8_method_19_code
def yX6_massOf : MethodName := ⟨RX6, "massOf", "(I)I"⟩
abbrev cX6_loadOf : ByteArray := prog_8_method_20_code
def yX6_loadOf : MethodName := ⟨RX6, "loadOf", "(I)I"⟩
abbrev cX6_load : ByteArray := prog_8_method_21_code
def yX6_load : MethodName := ⟨RX6, "load", "(III)I"⟩
abbrev cX6_unload : ByteArray := prog_8_method_22_code
def yX6_unload : MethodName := ⟨RX6, "unload", "(II)I"⟩
abbrev cX6_probe : ByteArray := prog_8_method_23_code
def yX6_probe : MethodName := ⟨RX6, "probe", "(IIZI)I"⟩
abbrev cX6_run : ByteArray := prog_8_method_24_code
def yX6_run : MethodName := ⟨RX6, "run", "(I)I"⟩
abbrev cX6_liveAt : ByteArray := prog_8_method_25_code
def yX6_liveAt : MethodName := ⟨RX6, "liveAt", "(II)I"⟩
abbrev cX6_ticks : ByteArray := prog_8_method_26_code
def yX6_ticks : MethodName := ⟨RX6, "ticks", "(I)V"⟩
abbrev cX6_running : ByteArray := prog_8_method_27_code
def yX6_running : MethodName := ⟨RX6, "running", "()I"⟩
abbrev cX6_tick : ByteArray := prog_8_method_28_code
def yX6_tick : MethodName := ⟨RX6, "tick", "(I)I"⟩
abbrev cX6_stop : ByteArray := prog_8_method_29_code
def yX6_stop : MethodName := ⟨RX6, "stop", "(I)I"⟩
abbrev cX6_survey : ByteArray := prog_8_method_30_code
def yX6_survey : MethodName := ⟨RX6, "survey", "(II)I"⟩
abbrev cX6_about : ByteArray := prog_8_method_31_code
def yX6_about : MethodName := ⟨RX6, "about", "(II)I"⟩
abbrev cX6_isWell : ByteArray := prog_8_method_32_code
def yX6_isWell : MethodName := ⟨RX6, "isWell", "(I)Z"⟩
abbrev cX6_runAt : ByteArray := prog_8_method_33_code
def yX6_runAt : MethodName := ⟨RX6, "runAt", "(II)I"⟩
abbrev cX6_paper : ByteArray := prog_8_method_34_code
def yX6_paper : MethodName := ⟨RX6, "paper", "(III)I"⟩
abbrev cX6_job : ByteArray := prog_8_method_35_code
def yX6_job : MethodName := ⟨RX6, "job", "(II)I"⟩
abbrev cX6_clearJobs : ByteArray := prog_8_method_36_code
def yX6_clearJobs : MethodName := ⟨RX6, "clearJobs", "()I"⟩
abbrev cX6_lateBy : ByteArray := prog_8_method_37_code
def yX6_lateBy : MethodName := ⟨RX6, "lateBy", "(II)I"⟩
abbrev cX6_weigh : ByteArray := prog_8_method_38_code
def yX6_weigh : MethodName := ⟨RX6, "weigh", "()V"⟩
abbrev cX6_lateness : ByteArray := prog_8_method_39_code
def yX6_lateness : MethodName := ⟨RX6, "lateness", "()I"⟩
abbrev cX6_order : ByteArray := prog_8_method_40_code
def yX6_order : MethodName := ⟨RX6, "order", "(I)I"⟩
abbrev cX6_count : ByteArray := prog_8_method_41_code
def yX6_count : MethodName := ⟨RX6, "count", "(I)I"⟩
abbrev cX6_digest : ByteArray := prog_8_method_42_code
def yX6_digest : MethodName := ⟨RX6, "digest", "()J"⟩
def RJ9 : String := "java/lang/Math"
def TJ9 : u_T := fun k => match k with
  | _ => ("", "", "", false)
def tyJ9 : Nat → FieldType := fun k => match k with
  | _ => .int
abbrev wsJ90 : List Cond := u_ws RJ9 TJ9 0
theorem nmJ9 : ∀ a, a < 0 → ∀ b, b < 0 → a ≠ b → (TJ9 a).2.1 ≠ (TJ9 b).2.1 := by decide +kernel
theorem tyJ9_ok : ∀ k, k < 0 → parseFieldDescriptor (TJ9 k).2.2.1 = some (tyJ9 k) := by decide +kernel
abbrev cJ9_max_7cf53 : ByteArray := prog_9_method_65_code
def yJ9_max_7cf53 : MethodName := ⟨RJ9, "max", "(II)I"⟩
abbrev cJ9_min_7cf53 : ByteArray := prog_9_method_69_code
def yJ9_min_7cf53 : MethodName := ⟨RJ9, "min", "(II)I"⟩
def RL : String := "HardShopLaw"
abbrev cL_law : ByteArray := code
def yL_law : MethodName := ⟨RL, "law", "([I)Z"⟩
abbrev vwCl : List vw_C := [(RX0, TX0, 13), (RX1, TX1, 5), (RX2, TX2, 10), (RX3, TX3, 6), (RX4, TX4, 6), (RX5, TX5, 6), (RX6, TX6, 39)]
end
section
/-! values, memory, kinds -/
abbrev V_ : Type := Int32 ⊕ Int64 ⊕ Option (Nat × Nat)
abbrev hv_i (x : Int32) : V_ := .inl x
abbrev hv_l (x : Int64) : V_ := .inr (.inl x)
abbrev hv_r (r : Option (Nat × Nat)) : V_ := .inr (.inr r)
def hv_c (ad : Nat → Nat → Nat) (v : V_) : Value := match v with
  | .inl x => .int x
  | .inr (.inl x) => .long x
  | .inr (.inr none) => .null
  | .inr (.inr (some q)) => .ref (ad q.1 q.2)
def hv_cat (v : V_) : Nat := match v with
  | .inr (.inl _) => 2
  | _ => 1
theorem hv_cat_c (ad : Nat → Nat → Nat) (v : V_) : (hv_c ad v).category = hv_cat v := by
  rcases v with x | x | (_ | q) <;> rfl
abbrev MI_ : Type := Nat → Nat → Nat → Int32
abbrev ML_ : Type := Nat → Nat → Nat → Int64
abbrev MR_ : Type := Nat → Nat → Nat → Option (Nat × Nat)
abbrev SH_ : Type := Nat → Nat → Option Nat
abbrev Me_ : Type := MI_ × ML_ × MR_ × SH_
def u_3 {α : Type} (m : Nat → Nat → Nat → α) (k i f : Nat) (x : α) : Nat → Nat → Nat → α := fun k' i' f' => if k' = k ∧ i' = i ∧ f' = f then x else m k' i' f'
def u_2 {α : Type} (m : Nat → Nat → α) (k i : Nat) (x : α) : Nat → Nat → α := fun k' i' => if k' = k ∧ i' = i then x else m k' i'
/-- a new cell: all its fields -/
def u_n {α : Type} (m : Nat → Nat → Nat → α) (k i : Nat) (x : α) : Nat → Nat → Nat → α := fun k' i' f' => if k' = k ∧ i' = i then x else m k' i' f'
/-- a kind's class, or its array's kind of element -/
def kd_ (k : Nat) : Nat ⊕ Nat := match k with
  | 1 => .inl 5
  | 2 => .inl 1
  | 3 => .inl 0
  | 4 => .inl 2
  | 5 => .inl 3
  | 6 => .inl 4
  | 7 => .inl 6
  | 8 => .inr 3
  | 9 => .inr 4
  | 10 => .inr 5
  | 15 => .inr 3
  | 16 => .inr 2
  | 21 => .inr 6
  | 37 => .inr 1
  | 51 => .inr 2
  | 53 => .inr 2
  | 60 => .inr 2
  | 61 => .inr 2
  | 62 => .inr 2
  | 63 => .inr 2
  | _ => .inr 0
def et_ (a : Nat) : FieldType := match a with
  | 0 => .int
  | 1 => .long
  | 2 => .boolean
  | 3 => .object RX2
  | 4 => .object RX0
  | 5 => .object RX3
  | _ => .object RX4
def ft_ (c : Nat) : Nat → FieldType := match c with
  | 0 => tyX0
  | 1 => tyX1
  | 2 => tyX2
  | 3 => tyX3
  | 4 => tyX4
  | 5 => tyX5
  | _ => tyX6
/-- a field's or an element's type: 0 an int, 1 a long, 2 a reference -/
def sort_ (ty : FieldType) : Nat := match ty with
  | .long => 1
  | .object _ => 2
  | .array _ => 2
  | _ => 0
def hm_v (ad : Nat → Nat → Nat) (ty : FieldType) (M : Me_) (k i f : Nat) : Value := match sort_ ty with
  | 0 => .int (M.1 k i f)
  | 1 => .long (M.2.1 k i f)
  | _ => hv_c ad (hv_r (M.2.2.1 k i f))
abbrev Hd_ : Type := (Nat → ClassId) × (Nat → Nat → Nat) × (Nat → ClassId)
abbrev tys_ (D : Hd_) : List (ClassId × FieldType) := [(D.2.2 0, .int), (D.2.2 1, .long), (D.2.2 2, .boolean), (D.2.2 3, .object RX2), (D.2.2 4, .object RX0), (D.2.2 5, .object RX3), (D.2.2 6, .object RX4)]
def nf_ (c : Nat) : Nat := match vwCl[c]? with
  | some q => q.2.2
  | none => 0
/-- a live cell of the memory, as the heap holds it -/
def hm_at (D : Hd_) (ad : Nat → Nat → Nat) (M : Me_) (U : State) (H : Heap) (k i n : Nat) : Prop := if k = 0 then
    (∃ scr : Cell, H[ad k i]? = some scr ∧ U.isArrayOf scr .int ∧ scr.vm ≠ .unknown ∧ scr.slots.size = n ∧ ∀ j : Nat, j < n → scr.slots[j]? = some (.int (M.1 k i j)))
  else match kd_ k with
    | .inl c => t_OB (ad k i) (D.1 c) (nf_ c) (D.2.1 c) H (fun f => hm_v ad (ft_ c f) M k i f)
    | .inr a => H[ad k i]? = some (arrV (D.2.2 a) n (fun j => hm_v ad (et_ a) M k i j))
def hm_R (D : Hd_) (ad : Nat → Nat → Nat) (base : Nat) (M : Me_) (U : State) (H : Heap) : Prop :=
  (∀ k i n, M.2.2.2 k i = some n → hm_at D ad M U H k i n) ∧ (∀ k i k' i' n n', M.2.2.2 k i = some n → M.2.2.2 k' i' = some n' → ad k i = ad k' i' → k = k' ∧ i = i') ∧ (∀ k i n, M.2.2.2 k i = some n → k ≠ 0 → base ≤ ad k i) ∧ base ≤ H.size ∧ (∀ k i f n q, M.2.2.2 k i = some n → M.2.2.1 k i f = some q → ∃ n', M.2.2.2 q.1 q.2 = some n')
/-- the words that every method may use -/
def gtbl : List Cond := lw_tbl.filter goodWord
theorem in_g {w : Cond} (i : Nat) (h : lw_tbl[i]? = some w) (hg : goodWord w = true) : w ∈ gtbl := List.mem_filter.mpr ⟨List.mem_of_getElem? h, hg⟩
theorem in_t {w : Cond} (i : Nat) (h : tables_1[i]? = some w) (hg : goodWord w = true) : w ∈ gtbl := List.mem_filter.mpr ⟨List.mem_append_right _ (List.mem_of_getElem? h), hg⟩
theorem gtbl_good {y : MethodName} {cc : ByteArray} {nL : Nat} {ret : Option FieldType} (h : Cond.code y cc nL ret ∈ gtbl) : GoodIn gtbl (Cond.code y cc nL ret :: gtbl) := fun w hw => by
  have hm : w ∈ gtbl := by
    rcases List.mem_cons.mp hw with rfl | h2
    · exact h
    · exact h2
  exact ⟨hm, good_of_word (List.mem_filter.mp hm).2⟩
/-- what the class table says, and the words that go with the state -/
def hm_K (D : Hd_) (U : State) : Prop := va_K (D.1, D.2.1) vwCl (tys_ D) U ∧
  (va_Nw (.methodLinkNest RX5 29 yX1_init RX5) U ∧ va_Nw (.methodLinkNest RX5 34 yX0_init RX5) U ∧ va_Nw (.methodLinkNest RX2 36 yX4_init RX5) U ∧ va_Nw (.methodLinkNest RX4 49 yX5_within RX5) U ∧ va_Nw (.methodLinkNest RX0 115 yX5_truth RX5) U ∧ va_Nw (.methodLinkNest RX3 25 yX5_truth RX5) U) ∧
  (va_AO RX2 U ∧ va_AO RX0 U ∧ va_AO RX3 U ∧ va_AO RX4 U)
theorem hm_K.warm {D : Hd_} {s U : State} (hW : s.WarmedH U.vm) (h : hm_K D s) : hm_K D U := by
  obtain ⟨h1, ⟨a1, a2, a3, a4, a5, a6⟩, b1, b2, b3, b4⟩ := h
  exact ⟨va_K.moved hW.alike h1, ⟨a1.warmM hW, a2.warmM hW, a3.warmM hW, a4.warmM hW, a5.warmM hW, a6.warmM hW⟩, b1.moved hW.alike, b2.moved hW.alike, b3.moved hW.alike, b4.moved hW.alike⟩
theorem hm_at.moved {D : Hd_} {ad : Nat → Nat → Nat} {M : Me_} {u U : State} {H : Heap} {k i n : Nat} (hvm : u.vm.Alike U.vm) (h : hm_at D ad M u H k i n) : hm_at D ad M U H k i n := by
  unfold hm_at at h ⊢
  by_cases hk : k = 0
  · rw [if_pos hk] at h ⊢
    obtain ⟨scr, h1, h2, h3⟩ := h
    exact ⟨scr, h1, State.isArrayOf_alike hvm h2, h3⟩
  · rw [if_neg hk] at h ⊢
    exact h
theorem hm_R.moved {D : Hd_} {ad : Nat → Nat → Nat} {base : Nat} {M : Me_} {u U : State} {H : Heap} (hvm : u.vm.Alike U.vm) (h : hm_R D ad base M u H) : hm_R D ad base M U H := ⟨fun k i n hn => (h.1 k i n hn).moved hvm, h.2⟩
end
section
/-! locals -/
def hl_as (ad : Nat → Nat → Nat) : Nat → List (Option V_) → List (Nat × Value)
  | _, [] => []
  | k, none :: r => hl_as ad (k + 1) r
  | k, some v :: r => (k, hv_c ad v) :: hl_as ad (k + 1) r
theorem hl_mem {ad : Nat → Nat → Nat} {q : Nat × Value} : ∀ {ls : List (Option V_)} {k : Nat}, q ∈ hl_as ad k ls ↔ ∃ j v, ls[j]? = some (some v) ∧ q = (k + j, hv_c ad v)
  | [], k => by simp [hl_as]
  | none :: r, k => by
    rw [hl_as, hl_mem]
    constructor
    · rintro ⟨j, v, h1, h2⟩
      exact ⟨j + 1, v, by simpa using h1, by rw [h2]; congr 1; omega⟩
    · rintro ⟨j, v, h1, h2⟩
      cases j with
      | zero => simp at h1
      | succ j => exact ⟨j, v, by simpa using h1, by rw [h2]; congr 1; omega⟩
  | some w :: r, k => by
    rw [hl_as, List.mem_cons, hl_mem]
    constructor
    · rintro (h | ⟨j, v, h1, h2⟩)
      · exact ⟨0, w, rfl, h⟩
      · exact ⟨j + 1, v, by simpa using h1, by rw [h2]; congr 1; omega⟩
    · rintro ⟨j, v, h1, h2⟩
      cases j with
      | zero =>
        simp at h1
        subst h1
        exact Or.inl h2
      | succ j => exact Or.inr ⟨j, v, by simpa using h1, by rw [h2]; congr 1; omega⟩
theorem hl_at {ad : Nat → Nat → Nat} {arr : Array Slot} {nL : Nat} {ls : List (Option V_)} {j : Nat} {v : V_} (h : lv_has arr nL (hl_as ad 0 ls)) (hj : ls[j]? = some (some v)) : arr[j]? = some (.val (hv_c ad v)) := h.2.2 (j, hv_c ad v) (hl_mem.mpr ⟨j, v, hj, by simp⟩)
def hl_nl (ls : List (Option V_)) (i : Nat) : Bool := match i with
  | 0 => true
  | j + 1 => match ls[j]? with
    | some (some (.inr (.inl _))) => false
    | _ => true
theorem hl_nl_ok {ls : List (Option V_)} {j : Nat} {v : V_} (h : hl_nl ls (j + 1) = true) (hj : ls[j]? = some (some v)) : hv_cat v = 1 := by
  rcases v with x | x | x
  · rfl
  · simp [hl_nl, hj] at h
  · rfl
theorem hl_set1 {ad : Nat → Nat → Nat} {arr : Array Slot} {nL i : Nat} {ls : List (Option V_)} {v : V_} (hn : hl_nl ls i = true)
    (h : lv_has arr nL ((i, hv_c ad v) :: (hl_as ad 0 ls).filter (fun q => !(q.1 == i) && !(q.1 + 1 == i && q.2.category == 2)))) : lv_has arr nL (hl_as ad 0 (ls.set i (some v))) := by
  refine ⟨h.1, h.2.1, fun q hq => h.2.2 q ?_⟩
  obtain ⟨j, w, h1, rfl⟩ := hl_mem.mp hq
  by_cases hj : j = i
  · subst hj
    have hlt : j < ls.length := by
      have := (List.getElem?_eq_some_iff.mp h1).1
      simpa using this
    rw [List.getElem?_set_self hlt] at h1
    cases h1
    simp
  · rw [List.getElem?_set_ne (Ne.symm hj)] at h1
    refine List.mem_cons_of_mem _ (List.mem_filter.mpr ⟨hl_mem.mpr ⟨j, w, h1, rfl⟩, ?_⟩)
    by_cases h2 : j + 1 = i
    · subst h2
      have := hl_nl_ok hn h1
      simp [hv_cat_c, this]
    · simp [hj, h2]
theorem hl_set2 {ad : Nat → Nat → Nat} {arr : Array Slot} {nL i : Nat} {ls : List (Option V_)} {v : V_} (hn : hl_nl ls i = true)
    (h : lv_has arr nL ((i, hv_c ad v) :: (hl_as ad 0 ls).filter (fun q => !(q.1 == i) && (!(q.1 == i + 1) && !(q.1 + 1 == i && q.2.category == 2))))) : lv_has arr nL (hl_as ad 0 ((ls.set i (some v)).set (i + 1) none)) := by
  refine ⟨h.1, h.2.1, fun q hq => h.2.2 q ?_⟩
  obtain ⟨j, w, h1, rfl⟩ := hl_mem.mp hq
  have hj1 : j ≠ i + 1 := by
    intro e
    subst e
    rw [List.getElem?_set] at h1
    split at h1
    · split at h1 <;> simp at h1
    · omega
  rw [List.getElem?_set_ne (Ne.symm hj1)] at h1
  by_cases hj : j = i
  · subst hj
    have hlt : j < ls.length := by
      have := (List.getElem?_eq_some_iff.mp h1).1
      simpa using this
    rw [List.getElem?_set_self hlt] at h1
    cases h1
    simp
  · rw [List.getElem?_set_ne (Ne.symm hj)] at h1
    refine List.mem_cons_of_mem _ (List.mem_filter.mpr ⟨hl_mem.mpr ⟨j, w, h1, rfl⟩, ?_⟩)
    by_cases h2 : j + 1 = i
    · subst h2
      have := hl_nl_ok hn h1
      simp [hv_cat_c, this]
      omega
    · simp [hj, hj1, h2]
/-! the judgement: method's data = code, own class, name, locals, result's type, room (frames, locals, cells, slots) -/
abbrev Md_ : Type := ByteArray × String × String × Nat × Option FieldType × Nat × Nat × Nat × Nat
abbrev md_cc (d : Md_) : ByteArray := d.1
abbrev md_own (d : Md_) : String := d.2.1
abbrev md_nm (d : Md_) : String := d.2.2.1
abbrev md_nL (d : Md_) : Nat := d.2.2.2.1
abbrev md_ret (d : Md_) : Option FieldType := d.2.2.2.2.1
abbrev md_fr (d : Md_) : Nat := d.2.2.2.2.2.1
abbrev md_lo (d : Md_) : Nat := d.2.2.2.2.2.2.1
abbrev md_mc (d : Md_) : Nat := d.2.2.2.2.2.2.2.1
abbrev md_ms (d : Md_) : Nat := d.2.2.2.2.2.2.2.2
abbrev md_rm (d : Md_) : Room := { frames := md_fr d, cells := md_mc d, slots := md_ms d, locals := md_lo d }
/-- what stands fast inside a method -/
def hg_X (d : Md_) (p : Program) (R : Room) (s : State) (m : MethodId) (args : Array Value) (meth : Method) (c : Code) (D : Hd_) : Prop :=
  p.tables.exec = Jvm.exec ∧ c.code = md_cc d ∧ meth.sig.returnType = md_ret d ∧ c.maxLocals = md_nL d ∧ s.vm.findClass (md_own d) = some m.cls ∧ (∀ w ∈ gtbl, w.before args s = true) ∧ meth.locks = false ∧ meth.name = md_nm d ∧ md_fr d ≤ R.frames ∧ md_lo d ≤ R.locals ∧ md_mc d ≤ R.cells ∧ md_ms d ≤ R.slots ∧ hm_K D s
/-- a method's end: answer and memory; cells stay where they were -/
def hg_Q (D : Hd_) (base : Nat) (sh0 : SH_) (ad0 : Nat → Nat → Nat) (al : Bool) (Q : Option V_ → Me_ → Prop) : Array Value → State → Outcome → State → Prop := fun _ _ oc t =>
  ∃ (v : Option V_) (M' : Me_) (ad' : Nat → Nat → Nat), oc = .returned (v.map (hv_c ad')) ∧ Q v M' ∧ hm_R D ad' base M' t t.heap ∧ (∀ k i n, sh0 k i = some n → ad' k i = ad0 k i) ∧ (al = false → ad' = ad0)
/-- all that moves inside a method -/
def hg_Y (d : Md_) (al : Bool) (sh0 : SH_) (bc bs : Nat) (ls : List (Option V_)) (M : Me_) (s : State) (D : Hd_) (ad0 ad : Nat → Nat → Nat) (base : Nat) (H : Heap) (locs : List Loc) (cells slots : Nat) (arr : Array Slot) : Prop :=
  hm_R D ad base M s H ∧ (∀ q ∈ locs, base ≤ q.base) ∧ cells + bc ≤ md_mc d ∧ slots + bs ≤ md_ms d ∧ (∀ k i n, sh0 k i = some n → ad k i = ad0 k i) ∧ (al = false → ad = ad0) ∧ lv_has arr (md_nL d) (hl_as ad 0 ls)
def hg_G (d : Md_) (al : Bool) (sh0 : SH_) (Q : Option V_ → Me_ → Prop) (bc bs : Nat) (pc : Nat) (ls : List (Option V_)) (st : List V_) (M : Me_) : Prop :=
  ∀ (p : Program) (l : Launch) (e : Env) (R : Room) (s : State) (m : MethodId) (args : Array Value) (below : List Frame) (meth : Method) (c : Code) (D : Hd_) (ad0 ad : Nat → Nat → Nat) (base : Nat) (H : Heap) (locs : List Loc) (cells slots : Nat) (arr : Array Slot),
    hg_X d p R s m args meth c D → hg_Y d al sh0 bc bs ls M s D ad0 ad base H locs cells slots arr →
    W p l e R s m args below meth c H locs cells slots (MQ below (hg_Q D base sh0 ad0 al Q) args s (md_mc d) (md_ms d) (fun q => base ≤ q)) (F0 m pc arr (st.map (hv_c ad)))
section HG
variable {d : Md_} {al : Bool} {sh0 : SH_} {Q : Option V_ → Me_ → Prop} {bc bs : Nat} {pc n : Nat} {ls : List (Option V_)} {st st' : List V_} {M : Me_}
theorem hg_pure (h : ∀ (p : Program) (l : Launch) (e : Env) (R : Room) (s : State) (m : MethodId) (args : Array Value) (below : List Frame) (meth : Method) (c : Code) (D : Hd_) (ad : Nat → Nat → Nat) (base : Nat) (H : Heap) (locs : List Loc) (cells slots : Nat) (arr : Array Slot) (Qf : State → Prop),
      hg_X d p R s m args meth c D → hm_R D ad base M s H → lv_has arr (md_nL d) (hl_as ad 0 ls) → cells ≤ R.cells → slots ≤ R.slots → W p l e R s m args below meth c H locs cells slots Qf (F0 m n arr (st'.map (hv_c ad))) → W p l e R s m args below meth c H locs cells slots Qf (F0 m pc arr (st.map (hv_c ad))))
    (kk : hg_G d al sh0 Q bc bs n ls st' M) : hg_G d al sh0 Q bc bs pc ls st M := by
  intro p l e R s m args below meth c D ad0 ad base H locs cells slots arr X Y
  exact h p l e R s m args below meth c D ad base H locs cells slots arr _ X Y.1 Y.2.2.2.2.2.2 (by have := X.2.2.2.2.2.2.2.2.2.2.1; have := Y.2.2.1; omega) (by have := X.2.2.2.2.2.2.2.2.2.2.2.1; have := Y.2.2.2.1; omega) (kk p l e R s m args below meth c D ad0 ad base H locs cells slots arr X Y)
theorem hg_iconst {k : Int} {v : Int32} (hd : decode (md_cc d) pc = .ok (.iconst k, 1)) (hn : pc + 1 = n) (hv : Int32.ofInt k = v) (kk : hg_G d al sh0 Q bc bs n ls (hv_i v :: st) M) : hg_G d al sh0 Q bc bs pc ls (st) M := by
  subst hn
  exact hg_pure (fun _ _ _ _ _ _ _ _ _ _ _ _ _ _ _ _ _ _ _ X _ hq _ _ k => lv_iconst X.1 X.2.1 hd hv k) kk
theorem hg_bipush {k : Int} {v : Int32} (hd : decode (md_cc d) pc = .ok (.bipush k, 2)) (hn : pc + 2 = n) (hv : (Int8.ofInt k).toInt32 = v) (kk : hg_G d al sh0 Q bc bs n ls (hv_i v :: st) M) : hg_G d al sh0 Q bc bs pc ls (st) M := by
  subst hn
  exact hg_pure (fun _ _ _ _ _ _ _ _ _ _ _ _ _ _ _ _ _ _ _ X _ hq _ _ k => lv_bipush X.1 X.2.1 hd hv k) kk
theorem hg_sipush {k : Int} {v : Int32} (hd : decode (md_cc d) pc = .ok (.sipush k, 3)) (hn : pc + 3 = n) (hv : (Int16.ofInt k).toInt32 = v) (kk : hg_G d al sh0 Q bc bs n ls (hv_i v :: st) M) : hg_G d al sh0 Q bc bs pc ls (st) M := by
  subst hn
  exact hg_pure (fun _ _ _ _ _ _ _ _ _ _ _ _ _ _ _ _ _ _ _ X _ hq _ _ k => lv_sipush X.1 X.2.1 hd hv k) kk
theorem hg_lconst {k : Fin 2} {v : Int64} (hd : decode (md_cc d) pc = .ok (.lconst k, 1)) (hn : pc + 1 = n) (hv : Int64.ofNat (k : Nat) = v) (kk : hg_G d al sh0 Q bc bs n ls (hv_l v :: st) M) : hg_G d al sh0 Q bc bs pc ls (st) M := by
  subst hn
  exact hg_pure (fun _ _ _ _ _ _ _ _ _ _ _ _ _ _ _ _ _ _ _ X _ hq _ _ k => lv_lconst X.1 X.2.1 hd hv k) kk
theorem hg_ldc {k : Nat} {v : Int32} (hd : decode (md_cc d) pc = .ok (.ldc k, 2)) (hn : pc + 2 = n) (hw : Cond.constant (md_own d) k v ∈ gtbl) (kk : hg_G d al sh0 Q bc bs n ls (hv_i v :: st) M) : hg_G d al sh0 Q bc bs pc ls (st) M := by
  subst hn
  exact hg_pure (fun _ _ _ _ _ _ _ _ _ _ _ _ _ _ _ _ _ _ _ X _ hq _ _ k => lv_ldc X.1 X.2.1 X.2.2.2.2.1 (X.2.2.2.2.2.1 _ hw) hd k) kk
theorem hg_ldc2 {k : Nat} {v : Int64} (hd : decode (md_cc d) pc = .ok (.ldc2_w k, 3)) (hn : pc + 3 = n) (hw : Cond.constantLong (md_own d) k v ∈ gtbl) (kk : hg_G d al sh0 Q bc bs n ls (hv_l v :: st) M) : hg_G d al sh0 Q bc bs pc ls (st) M := by
  subst hn
  exact hg_pure (fun _ _ _ _ _ _ _ _ _ _ _ _ _ _ _ _ _ _ _ X _ hq _ _ k => lv_ldc2 X.1 X.2.1 X.2.2.2.2.1 (X.2.2.2.2.2.1 _ hw) hd k) kk
theorem hg_null  (hd : decode (md_cc d) pc = .ok (.aconst_null, 1)) (hn : pc + 1 = n)  (kk : hg_G d al sh0 Q bc bs n ls (hv_r none :: st) M) : hg_G d al sh0 Q bc bs pc ls (st) M := by
  subst hn
  exact hg_pure (fun _ _ _ _ _ _ _ _ _ _ _ _ _ _ _ _ _ _ _ X _ hq _ _ k => lv_null X.1 X.2.1 hd k) kk
theorem hg_iadd {x y : Int32} (hd : decode (md_cc d) pc = .ok (.iadd, 1)) (hn : pc + 1 = n)  (kk : hg_G d al sh0 Q bc bs n ls (hv_i (x + y) :: st) M) : hg_G d al sh0 Q bc bs pc ls (hv_i y :: hv_i x :: st) M := by
  subst hn
  exact hg_pure (fun _ _ _ _ _ _ _ _ _ _ _ _ _ _ _ _ _ _ _ X _ hq _ _ k => lv_iadd X.1 X.2.1 hd k) kk
theorem hg_isub {x y : Int32} (hd : decode (md_cc d) pc = .ok (.isub, 1)) (hn : pc + 1 = n)  (kk : hg_G d al sh0 Q bc bs n ls (hv_i (x - y) :: st) M) : hg_G d al sh0 Q bc bs pc ls (hv_i y :: hv_i x :: st) M := by
  subst hn
  exact hg_pure (fun _ _ _ _ _ _ _ _ _ _ _ _ _ _ _ _ _ _ _ X _ hq _ _ k => lv_isub X.1 X.2.1 hd k) kk
theorem hg_imul {x y : Int32} (hd : decode (md_cc d) pc = .ok (.imul, 1)) (hn : pc + 1 = n)  (kk : hg_G d al sh0 Q bc bs n ls (hv_i (x * y) :: st) M) : hg_G d al sh0 Q bc bs pc ls (hv_i y :: hv_i x :: st) M := by
  subst hn
  exact hg_pure (fun _ _ _ _ _ _ _ _ _ _ _ _ _ _ _ _ _ _ _ X _ hq _ _ k => lv_imul X.1 X.2.1 hd k) kk
theorem hg_iand {x y : Int32} (hd : decode (md_cc d) pc = .ok (.iand, 1)) (hn : pc + 1 = n)  (kk : hg_G d al sh0 Q bc bs n ls (hv_i (x &&& y) :: st) M) : hg_G d al sh0 Q bc bs pc ls (hv_i y :: hv_i x :: st) M := by
  subst hn
  exact hg_pure (fun _ _ _ _ _ _ _ _ _ _ _ _ _ _ _ _ _ _ _ X _ hq _ _ k => lv_iand X.1 X.2.1 hd k) kk
theorem hg_ior {x y : Int32} (hd : decode (md_cc d) pc = .ok (.ior, 1)) (hn : pc + 1 = n)  (kk : hg_G d al sh0 Q bc bs n ls (hv_i (x ||| y) :: st) M) : hg_G d al sh0 Q bc bs pc ls (hv_i y :: hv_i x :: st) M := by
  subst hn
  exact hg_pure (fun _ _ _ _ _ _ _ _ _ _ _ _ _ _ _ _ _ _ _ X _ hq _ _ k => lv_ior X.1 X.2.1 hd k) kk
theorem hg_ishl {x y : Int32} (hd : decode (md_cc d) pc = .ok (.ishl, 1)) (hn : pc + 1 = n)  (kk : hg_G d al sh0 Q bc bs n ls (hv_i (x <<< (y &&& 31)) :: st) M) : hg_G d al sh0 Q bc bs pc ls (hv_i y :: hv_i x :: st) M := by
  subst hn
  exact hg_pure (fun _ _ _ _ _ _ _ _ _ _ _ _ _ _ _ _ _ _ _ X _ hq _ _ k => lv_ishl X.1 X.2.1 hd k) kk
theorem hg_ishr {x y : Int32} (hd : decode (md_cc d) pc = .ok (.ishr, 1)) (hn : pc + 1 = n)  (kk : hg_G d al sh0 Q bc bs n ls (hv_i (x >>> (y &&& 31)) :: st) M) : hg_G d al sh0 Q bc bs pc ls (hv_i y :: hv_i x :: st) M := by
  subst hn
  exact hg_pure (fun _ _ _ _ _ _ _ _ _ _ _ _ _ _ _ _ _ _ _ X _ hq _ _ k => lv_ishr X.1 X.2.1 hd k) kk
theorem hg_idiv {x y : Int32} (hd : decode (md_cc d) pc = .ok (.idiv, 1)) (hn : pc + 1 = n) (hy : ¬ y = 0) (kk : hg_G d al sh0 Q bc bs n ls (hv_i (x / y) :: st) M) : hg_G d al sh0 Q bc bs pc ls (hv_i y :: hv_i x :: st) M := by
  subst hn
  exact hg_pure (fun _ _ _ _ _ _ _ _ _ _ _ _ _ _ _ _ _ _ _ X _ hq _ _ k => lv_idiv X.1 X.2.1 hd hy k) kk
theorem hg_ladd {x y : Int64} (hd : decode (md_cc d) pc = .ok (.ladd, 1)) (hn : pc + 1 = n)  (kk : hg_G d al sh0 Q bc bs n ls (hv_l (x + y) :: st) M) : hg_G d al sh0 Q bc bs pc ls (hv_l y :: hv_l x :: st) M := by
  subst hn
  exact hg_pure (fun _ _ _ _ _ _ _ _ _ _ _ _ _ _ _ _ _ _ _ X _ hq _ _ k => lv_ladd X.1 X.2.1 hd k) kk
theorem hg_lsub {x y : Int64} (hd : decode (md_cc d) pc = .ok (.lsub, 1)) (hn : pc + 1 = n)  (kk : hg_G d al sh0 Q bc bs n ls (hv_l (x - y) :: st) M) : hg_G d al sh0 Q bc bs pc ls (hv_l y :: hv_l x :: st) M := by
  subst hn
  exact hg_pure (fun _ _ _ _ _ _ _ _ _ _ _ _ _ _ _ _ _ _ _ X _ hq _ _ k => lv_lsub X.1 X.2.1 hd k) kk
theorem hg_lmul {x y : Int64} (hd : decode (md_cc d) pc = .ok (.lmul, 1)) (hn : pc + 1 = n)  (kk : hg_G d al sh0 Q bc bs n ls (hv_l (x * y) :: st) M) : hg_G d al sh0 Q bc bs pc ls (hv_l y :: hv_l x :: st) M := by
  subst hn
  exact hg_pure (fun _ _ _ _ _ _ _ _ _ _ _ _ _ _ _ _ _ _ _ X _ hq _ _ k => lv_lmul X.1 X.2.1 hd k) kk
theorem hg_lneg {x : Int64} (hd : decode (md_cc d) pc = .ok (.lneg, 1)) (hn : pc + 1 = n)  (kk : hg_G d al sh0 Q bc bs n ls (hv_l (-x) :: st) M) : hg_G d al sh0 Q bc bs pc ls (hv_l x :: st) M := by
  subst hn
  exact hg_pure (fun _ _ _ _ _ _ _ _ _ _ _ _ _ _ _ _ _ _ _ X _ hq _ _ k => lv_lneg X.1 X.2.1 hd k) kk
theorem hg_i2l {x : Int32} (hd : decode (md_cc d) pc = .ok (.i2l, 1)) (hn : pc + 1 = n)  (kk : hg_G d al sh0 Q bc bs n ls (hv_l x.toInt64 :: st) M) : hg_G d al sh0 Q bc bs pc ls (hv_i x :: st) M := by
  subst hn
  exact hg_pure (fun _ _ _ _ _ _ _ _ _ _ _ _ _ _ _ _ _ _ _ X _ hq _ _ k => lv_i2l X.1 X.2.1 hd rfl k) kk
theorem hg_lcmp {x y : Int64} (hd : decode (md_cc d) pc = .ok (.lcmp, 1)) (hn : pc + 1 = n)  (kk : hg_G d al sh0 Q bc bs n ls (hv_i (lg_cmp x y) :: st) M) : hg_G d al sh0 Q bc bs pc ls (hv_l y :: hv_l x :: st) M := by
  subst hn
  exact hg_pure (fun _ _ _ _ _ _ _ _ _ _ _ _ _ _ _ _ _ _ _ X _ hq _ _ k => W.lcmp X.1 X.2.1 hd k) kk
theorem hg_dup {v : V_} (hd : decode (md_cc d) pc = .ok (.dup, 1)) (hn : pc + 1 = n) (hv : hv_cat v = 1) (kk : hg_G d al sh0 Q bc bs n ls (v :: v :: st) M) : hg_G d al sh0 Q bc bs pc ls (v :: st) M := by
  subst hn
  exact hg_pure (fun _ _ _ _ _ _ _ _ _ _ _ _ _ _ _ _ _ _ _ X _ hq _ _ k => lv_dup X.1 X.2.1 hd ((hv_cat_c _ _).trans hv) k) kk
theorem hg_dup2 {v w : V_} (hd : decode (md_cc d) pc = .ok (.dup2, 1)) (hn : pc + 1 = n) (hv : hv_cat v = 1) (hw : hv_cat w = 1) (kk : hg_G d al sh0 Q bc bs n ls (v :: w :: v :: w :: st) M) : hg_G d al sh0 Q bc bs pc ls (v :: w :: st) M := by
  subst hn
  exact hg_pure (fun _ _ _ _ _ _ _ _ _ _ _ _ _ _ _ _ _ _ _ X _ hq _ _ k => lv_dup2_11 X.1 X.2.1 hd ((hv_cat_c _ _).trans hv) ((hv_cat_c _ _).trans hw) k) kk
theorem hg_dup_x1 {v w : V_} (hd : decode (md_cc d) pc = .ok (.dup_x1, 1)) (hn : pc + 1 = n) (hv : hv_cat v = 1) (hw : hv_cat w = 1) (kk : hg_G d al sh0 Q bc bs n ls (v :: w :: v :: st) M) : hg_G d al sh0 Q bc bs pc ls (v :: w :: st) M := by
  subst hn
  exact hg_pure (fun _ _ _ _ _ _ _ _ _ _ _ _ _ _ _ _ _ _ _ X _ hq _ _ k => lv_dup_x1 X.1 X.2.1 hd ((hv_cat_c _ _).trans hv) ((hv_cat_c _ _).trans hw) k) kk
theorem hg_iload_n {k : Fin 4} {x : Int32} (hd : decode (md_cc d) pc = .ok (.iload_n k, 1)) (hn : pc + 1 = n) (hl : ls[(k : Nat)]? = some (some (hv_i x))) (kk : hg_G d al sh0 Q bc bs n ls (hv_i x :: st) M) : hg_G d al sh0 Q bc bs pc ls (st) M := by
  subst hn
  exact hg_pure (fun _ _ _ _ _ _ _ _ _ _ _ _ _ _ _ _ _ _ _ X _ hq _ _ k => lv_iload_n X.1 X.2.1 hd rfl (hl_at hq hl) k) kk
theorem hg_iload {k : Nat} {x : Int32} (hd : decode (md_cc d) pc = .ok (.iload k, 2)) (hn : pc + 2 = n) (hl : ls[k]? = some (some (hv_i x))) (kk : hg_G d al sh0 Q bc bs n ls (hv_i x :: st) M) : hg_G d al sh0 Q bc bs pc ls (st) M := by
  subst hn
  exact hg_pure (fun _ _ _ _ _ _ _ _ _ _ _ _ _ _ _ _ _ _ _ X _ hq _ _ k => lv_iload X.1 X.2.1 hd (hl_at hq hl) k) kk
theorem hg_lload_n {k : Fin 4} {x : Int64} (hd : decode (md_cc d) pc = .ok (.lload_n k, 1)) (hn : pc + 1 = n) (hl : ls[(k : Nat)]? = some (some (hv_l x))) (kk : hg_G d al sh0 Q bc bs n ls (hv_l x :: st) M) : hg_G d al sh0 Q bc bs pc ls (st) M := by
  subst hn
  exact hg_pure (fun _ _ _ _ _ _ _ _ _ _ _ _ _ _ _ _ _ _ _ X _ hq _ _ k => lv_lload_n X.1 X.2.1 hd rfl (hl_at hq hl) k) kk
theorem hg_lload {k : Nat} {x : Int64} (hd : decode (md_cc d) pc = .ok (.lload k, 2)) (hn : pc + 2 = n) (hl : ls[k]? = some (some (hv_l x))) (kk : hg_G d al sh0 Q bc bs n ls (hv_l x :: st) M) : hg_G d al sh0 Q bc bs pc ls (st) M := by
  subst hn
  exact hg_pure (fun _ _ _ _ _ _ _ _ _ _ _ _ _ _ _ _ _ _ _ X _ hq _ _ k => lv_lload X.1 X.2.1 hd (hl_at hq hl) k) kk
theorem hg_aload_n {k : Fin 4} {r : Option (Nat × Nat)} (hd : decode (md_cc d) pc = .ok (.aload_n k, 1)) (hn : pc + 1 = n) (hl : ls[(k : Nat)]? = some (some (hv_r r))) (kk : hg_G d al sh0 Q bc bs n ls (hv_r r :: st) M) : hg_G d al sh0 Q bc bs pc ls st M := by
  subst hn
  cases r with
  | none => exact hg_pure (fun _ _ _ _ _ _ _ _ _ _ _ _ _ _ _ _ _ _ _ X _ hq _ _ k => lv_aload_nN X.1 X.2.1 hd rfl (hl_at hq hl) k) kk
  | some q => exact hg_pure (fun _ _ _ _ _ _ _ _ _ _ _ _ _ _ _ _ _ _ _ X _ hq _ _ k => lv_aload_n X.1 X.2.1 hd rfl (hl_at hq hl) k) kk
theorem hg_aload {k : Nat} {r : Option (Nat × Nat)} (hd : decode (md_cc d) pc = .ok (.aload k, 2)) (hn : pc + 2 = n) (hl : ls[k]? = some (some (hv_r r))) (kk : hg_G d al sh0 Q bc bs n ls (hv_r r :: st) M) : hg_G d al sh0 Q bc bs pc ls st M := by
  subst hn
  cases r with
  | none => exact hg_pure (fun _ _ _ _ _ _ _ _ _ _ _ _ _ _ _ _ _ _ _ X _ hq _ _ k => lv_aloadN X.1 X.2.1 hd (hl_at hq hl) k) kk
  | some q => exact hg_pure (fun _ _ _ _ _ _ _ _ _ _ _ _ _ _ _ _ _ _ _ X _ hq _ _ k => lv_aload X.1 X.2.1 hd (hl_at hq hl) k) kk
theorem hg_istore_n {k : Fin 4} {x : Int32} (hd : decode (md_cc d) pc = .ok (.istore_n k, 1)) (hn : pc + 1 = n) (hi : (k : Nat) < md_nL d) (hz : hl_nl ls (k : Nat) = true) {ls' : List (Option V_)} (he : ls.set (k : Nat) (some (hv_i x)) = ls') (kk : hg_G d al sh0 Q bc bs n ls' st M) : hg_G d al sh0 Q bc bs pc ls (hv_i x :: st) M := by
  subst hn he
  intro p l e R s m args below meth c D ad0 ad base H locs cells slots arr X Y
  exact lv_istore_n X.1 X.2.1 hd rfl Y.2.2.2.2.2.2 hi rfl (fun arr' h' => kk p l e R s m args below meth c D ad0 ad base H locs cells slots arr' X ⟨Y.1, Y.2.1, Y.2.2.1, Y.2.2.2.1, Y.2.2.2.2.1, Y.2.2.2.2.2.1, hl_set1 (v := hv_i x) hz h'⟩)
theorem hg_istore {k : Nat} {x : Int32} (hd : decode (md_cc d) pc = .ok (.istore k, 2)) (hn : pc + 2 = n) (hi : k < md_nL d) (hz : hl_nl ls k = true) {ls' : List (Option V_)} (he : ls.set k (some (hv_i x)) = ls') (kk : hg_G d al sh0 Q bc bs n ls' st M) : hg_G d al sh0 Q bc bs pc ls (hv_i x :: st) M := by
  subst hn he
  intro p l e R s m args below meth c D ad0 ad base H locs cells slots arr X Y
  exact lv_istore X.1 X.2.1 hd Y.2.2.2.2.2.2 hi rfl (fun arr' h' => kk p l e R s m args below meth c D ad0 ad base H locs cells slots arr' X ⟨Y.1, Y.2.1, Y.2.2.1, Y.2.2.2.1, Y.2.2.2.2.1, Y.2.2.2.2.2.1, hl_set1 (v := hv_i x) hz h'⟩)
theorem hg_lstore_n {k : Fin 4} {x : Int64} (hd : decode (md_cc d) pc = .ok (.lstore_n k, 1)) (hn : pc + 1 = n) (hi : (k : Nat) + 1 < md_nL d) (hz : hl_nl ls (k : Nat) = true) {ls' : List (Option V_)} (he : (ls.set (k : Nat) (some (hv_l x))).set ((k : Nat) + 1) none = ls') (kk : hg_G d al sh0 Q bc bs n ls' st M) : hg_G d al sh0 Q bc bs pc ls (hv_l x :: st) M := by
  subst hn he
  intro p l e R s m args below meth c D ad0 ad base H locs cells slots arr X Y
  exact lv_lstore_n X.1 X.2.1 hd rfl Y.2.2.2.2.2.2 hi rfl (fun arr' h' => kk p l e R s m args below meth c D ad0 ad base H locs cells slots arr' X ⟨Y.1, Y.2.1, Y.2.2.1, Y.2.2.2.1, Y.2.2.2.2.1, Y.2.2.2.2.2.1, hl_set2 (v := hv_l x) hz h'⟩)
theorem hg_astore_n {k : Fin 4} {r : Option (Nat × Nat)} (hd : decode (md_cc d) pc = .ok (.astore_n k, 1)) (hn : pc + 1 = n) (hi : (k : Nat) < md_nL d) (hz : hl_nl ls (k : Nat) = true) {ls' : List (Option V_)} (he : ls.set (k : Nat) (some (hv_r r)) = ls') (kk : hg_G d al sh0 Q bc bs n ls' st M) : hg_G d al sh0 Q bc bs pc ls (hv_r r :: st) M := by
  subst hn he
  intro p l e R s m args below meth c D ad0 ad base H locs cells slots arr X Y
  cases r with
  | none => exact lv_astore_nN X.1 X.2.1 hd rfl Y.2.2.2.2.2.2 hi rfl (fun arr' h' => kk p l e R s m args below meth c D ad0 ad base H locs cells slots arr' X ⟨Y.1, Y.2.1, Y.2.2.1, Y.2.2.2.1, Y.2.2.2.2.1, Y.2.2.2.2.2.1, hl_set1 (v := hv_r none) hz h'⟩)
  | some q => exact lv_astore_n X.1 X.2.1 hd rfl Y.2.2.2.2.2.2 hi rfl (fun arr' h' => kk p l e R s m args below meth c D ad0 ad base H locs cells slots arr' X ⟨Y.1, Y.2.1, Y.2.2.1, Y.2.2.2.1, Y.2.2.2.2.1, Y.2.2.2.2.2.1, hl_set1 (v := hv_r (some q)) hz h'⟩)
theorem hg_astore {k : Nat} {r : Option (Nat × Nat)} (hd : decode (md_cc d) pc = .ok (.astore k, 2)) (hn : pc + 2 = n) (hi : k < md_nL d) (hz : hl_nl ls k = true) {ls' : List (Option V_)} (he : ls.set k (some (hv_r r)) = ls') (kk : hg_G d al sh0 Q bc bs n ls' st M) : hg_G d al sh0 Q bc bs pc ls (hv_r r :: st) M := by
  subst hn he
  intro p l e R s m args below meth c D ad0 ad base H locs cells slots arr X Y
  cases r with
  | none => exact lv_astoreN X.1 X.2.1 hd Y.2.2.2.2.2.2 hi rfl (fun arr' h' => kk p l e R s m args below meth c D ad0 ad base H locs cells slots arr' X ⟨Y.1, Y.2.1, Y.2.2.1, Y.2.2.2.1, Y.2.2.2.2.1, Y.2.2.2.2.2.1, hl_set1 (v := hv_r none) hz h'⟩)
  | some q => exact lv_astore X.1 X.2.1 hd Y.2.2.2.2.2.2 hi rfl (fun arr' h' => kk p l e R s m args below meth c D ad0 ad base H locs cells slots arr' X ⟨Y.1, Y.2.1, Y.2.2.1, Y.2.2.2.1, Y.2.2.2.2.1, Y.2.2.2.2.2.1, hl_set1 (v := hv_r (some q)) hz h'⟩)
theorem hg_iinc {k : Nat} {z : Int} {x v : Int32} (hd : decode (md_cc d) pc = .ok (.iinc k z, 3)) (hn : pc + 3 = n) (hl : ls[k]? = some (some (hv_i x))) (hv : x + Int32.ofInt z = v) (hi : k < md_nL d) (hz : hl_nl ls k = true) {ls' : List (Option V_)} (he : ls.set k (some (hv_i v)) = ls') (kk : hg_G d al sh0 Q bc bs n ls' st M) : hg_G d al sh0 Q bc bs pc ls st M := by
  subst hn he
  intro p l e R s m args below meth c D ad0 ad base H locs cells slots arr X Y
  obtain ⟨j, hj⟩ := List.getElem?_of_mem (hl_mem (ad := ad) (k := 0).mpr ⟨k, hv_i x, hl, rfl⟩)
  rw [Nat.zero_add] at hj
  exact lv_iinc X.1 X.2.1 hd Y.2.2.2.2.2.2 hj hv hi rfl (fun arr' h' => kk p l e R s m args below meth c D ad0 ad base H locs cells slots arr' X ⟨Y.1, Y.2.1, Y.2.2.1, Y.2.2.2.1, Y.2.2.2.2.1, Y.2.2.2.2.2.1, hl_set1 (v := hv_i v) hz h'⟩)
theorem hg_icmp_lt {x y : Int32} {off : Int} {tgt : Nat} (hd : decode (md_cc d) pc = .ok (.if_icmp .lt off, 3)) (hn : pc + 3 = n) (ht : (pc : Int) + off = (tgt : Int)) (kt : x < y → hg_G d al sh0 Q bc bs tgt ls st M) (kf : ¬ x < y → hg_G d al sh0 Q bc bs n ls st M) : hg_G d al sh0 Q bc bs pc ls (hv_i y :: hv_i x :: st) M := by
  subst hn
  intro p l e R s m args below meth c D ad0 ad base H locs cells slots arr X Y
  exact lv_icmp_lt X.1 X.2.1 hd ht (fun h => kt h p l e R s m args below meth c D ad0 ad base H locs cells slots arr X Y) (fun h => kf h p l e R s m args below meth c D ad0 ad base H locs cells slots arr X Y)
theorem hg_if_lt {x : Int32} {off : Int} {tgt : Nat} (hd : decode (md_cc d) pc = .ok (.ifCond .lt off, 3)) (hn : pc + 3 = n) (ht : (pc : Int) + off = (tgt : Int)) (kt : x < 0 → hg_G d al sh0 Q bc bs tgt ls st M) (kf : ¬ x < 0 → hg_G d al sh0 Q bc bs n ls st M) : hg_G d al sh0 Q bc bs pc ls (hv_i x :: st) M := by
  subst hn
  intro p l e R s m args below meth c D ad0 ad base H locs cells slots arr X Y
  exact lv_if_lt X.1 X.2.1 hd ht (fun h => kt h p l e R s m args below meth c D ad0 ad base H locs cells slots arr X Y) (fun h => kf h p l e R s m args below meth c D ad0 ad base H locs cells slots arr X Y)
theorem hg_icmp_ge {x y : Int32} {off : Int} {tgt : Nat} (hd : decode (md_cc d) pc = .ok (.if_icmp .ge off, 3)) (hn : pc + 3 = n) (ht : (pc : Int) + off = (tgt : Int)) (kt : y ≤ x → hg_G d al sh0 Q bc bs tgt ls st M) (kf : ¬ y ≤ x → hg_G d al sh0 Q bc bs n ls st M) : hg_G d al sh0 Q bc bs pc ls (hv_i y :: hv_i x :: st) M := by
  subst hn
  intro p l e R s m args below meth c D ad0 ad base H locs cells slots arr X Y
  exact lv_icmp_ge X.1 X.2.1 hd ht (fun h => kt h p l e R s m args below meth c D ad0 ad base H locs cells slots arr X Y) (fun h => kf h p l e R s m args below meth c D ad0 ad base H locs cells slots arr X Y)
theorem hg_if_ge {x : Int32} {off : Int} {tgt : Nat} (hd : decode (md_cc d) pc = .ok (.ifCond .ge off, 3)) (hn : pc + 3 = n) (ht : (pc : Int) + off = (tgt : Int)) (kt : 0 ≤ x → hg_G d al sh0 Q bc bs tgt ls st M) (kf : ¬ 0 ≤ x → hg_G d al sh0 Q bc bs n ls st M) : hg_G d al sh0 Q bc bs pc ls (hv_i x :: st) M := by
  subst hn
  intro p l e R s m args below meth c D ad0 ad base H locs cells slots arr X Y
  exact lv_if_ge X.1 X.2.1 hd ht (fun h => kt h p l e R s m args below meth c D ad0 ad base H locs cells slots arr X Y) (fun h => kf h p l e R s m args below meth c D ad0 ad base H locs cells slots arr X Y)
theorem hg_icmp_eq {x y : Int32} {off : Int} {tgt : Nat} (hd : decode (md_cc d) pc = .ok (.if_icmp .eq off, 3)) (hn : pc + 3 = n) (ht : (pc : Int) + off = (tgt : Int)) (kt : x = y → hg_G d al sh0 Q bc bs tgt ls st M) (kf : ¬ x = y → hg_G d al sh0 Q bc bs n ls st M) : hg_G d al sh0 Q bc bs pc ls (hv_i y :: hv_i x :: st) M := by
  subst hn
  intro p l e R s m args below meth c D ad0 ad base H locs cells slots arr X Y
  exact lv_icmp_eq X.1 X.2.1 hd ht (fun h => kt h p l e R s m args below meth c D ad0 ad base H locs cells slots arr X Y) (fun h => kf h p l e R s m args below meth c D ad0 ad base H locs cells slots arr X Y)
theorem hg_if_eq {x : Int32} {off : Int} {tgt : Nat} (hd : decode (md_cc d) pc = .ok (.ifCond .eq off, 3)) (hn : pc + 3 = n) (ht : (pc : Int) + off = (tgt : Int)) (kt : x = 0 → hg_G d al sh0 Q bc bs tgt ls st M) (kf : ¬ x = 0 → hg_G d al sh0 Q bc bs n ls st M) : hg_G d al sh0 Q bc bs pc ls (hv_i x :: st) M := by
  subst hn
  intro p l e R s m args below meth c D ad0 ad base H locs cells slots arr X Y
  exact lv_if_eq X.1 X.2.1 hd ht (fun h => kt h p l e R s m args below meth c D ad0 ad base H locs cells slots arr X Y) (fun h => kf h p l e R s m args below meth c D ad0 ad base H locs cells slots arr X Y)
theorem hg_icmp_ne {x y : Int32} {off : Int} {tgt : Nat} (hd : decode (md_cc d) pc = .ok (.if_icmp .ne off, 3)) (hn : pc + 3 = n) (ht : (pc : Int) + off = (tgt : Int)) (kt : ¬ x = y → hg_G d al sh0 Q bc bs tgt ls st M) (kf : x = y → hg_G d al sh0 Q bc bs n ls st M) : hg_G d al sh0 Q bc bs pc ls (hv_i y :: hv_i x :: st) M := by
  subst hn
  intro p l e R s m args below meth c D ad0 ad base H locs cells slots arr X Y
  exact lv_icmp_ne X.1 X.2.1 hd ht (fun h => kt h p l e R s m args below meth c D ad0 ad base H locs cells slots arr X Y) (fun h => kf h p l e R s m args below meth c D ad0 ad base H locs cells slots arr X Y)
theorem hg_if_ne {x : Int32} {off : Int} {tgt : Nat} (hd : decode (md_cc d) pc = .ok (.ifCond .ne off, 3)) (hn : pc + 3 = n) (ht : (pc : Int) + off = (tgt : Int)) (kt : ¬ x = 0 → hg_G d al sh0 Q bc bs tgt ls st M) (kf : x = 0 → hg_G d al sh0 Q bc bs n ls st M) : hg_G d al sh0 Q bc bs pc ls (hv_i x :: st) M := by
  subst hn
  intro p l e R s m args below meth c D ad0 ad base H locs cells slots arr X Y
  exact lv_if_ne X.1 X.2.1 hd ht (fun h => kt h p l e R s m args below meth c D ad0 ad base H locs cells slots arr X Y) (fun h => kf h p l e R s m args below meth c D ad0 ad base H locs cells slots arr X Y)
theorem hg_icmp_gt {x y : Int32} {off : Int} {tgt : Nat} (hd : decode (md_cc d) pc = .ok (.if_icmp .gt off, 3)) (hn : pc + 3 = n) (ht : (pc : Int) + off = (tgt : Int)) (kt : y < x → hg_G d al sh0 Q bc bs tgt ls st M) (kf : ¬ y < x → hg_G d al sh0 Q bc bs n ls st M) : hg_G d al sh0 Q bc bs pc ls (hv_i y :: hv_i x :: st) M := by
  subst hn
  intro p l e R s m args below meth c D ad0 ad base H locs cells slots arr X Y
  exact lv_icmp_gt X.1 X.2.1 hd ht (fun h => kt h p l e R s m args below meth c D ad0 ad base H locs cells slots arr X Y) (fun h => kf h p l e R s m args below meth c D ad0 ad base H locs cells slots arr X Y)
theorem hg_if_gt {x : Int32} {off : Int} {tgt : Nat} (hd : decode (md_cc d) pc = .ok (.ifCond .gt off, 3)) (hn : pc + 3 = n) (ht : (pc : Int) + off = (tgt : Int)) (kt : 0 < x → hg_G d al sh0 Q bc bs tgt ls st M) (kf : ¬ 0 < x → hg_G d al sh0 Q bc bs n ls st M) : hg_G d al sh0 Q bc bs pc ls (hv_i x :: st) M := by
  subst hn
  intro p l e R s m args below meth c D ad0 ad base H locs cells slots arr X Y
  exact lv_if_gt X.1 X.2.1 hd ht (fun h => kt h p l e R s m args below meth c D ad0 ad base H locs cells slots arr X Y) (fun h => kf h p l e R s m args below meth c D ad0 ad base H locs cells slots arr X Y)
theorem hg_icmp_le {x y : Int32} {off : Int} {tgt : Nat} (hd : decode (md_cc d) pc = .ok (.if_icmp .le off, 3)) (hn : pc + 3 = n) (ht : (pc : Int) + off = (tgt : Int)) (kt : x ≤ y → hg_G d al sh0 Q bc bs tgt ls st M) (kf : ¬ x ≤ y → hg_G d al sh0 Q bc bs n ls st M) : hg_G d al sh0 Q bc bs pc ls (hv_i y :: hv_i x :: st) M := by
  subst hn
  intro p l e R s m args below meth c D ad0 ad base H locs cells slots arr X Y
  exact lv_icmp_le X.1 X.2.1 hd ht (fun h => kt h p l e R s m args below meth c D ad0 ad base H locs cells slots arr X Y) (fun h => kf h p l e R s m args below meth c D ad0 ad base H locs cells slots arr X Y)
theorem hg_if_le {x : Int32} {off : Int} {tgt : Nat} (hd : decode (md_cc d) pc = .ok (.ifCond .le off, 3)) (hn : pc + 3 = n) (ht : (pc : Int) + off = (tgt : Int)) (kt : x ≤ 0 → hg_G d al sh0 Q bc bs tgt ls st M) (kf : ¬ x ≤ 0 → hg_G d al sh0 Q bc bs n ls st M) : hg_G d al sh0 Q bc bs pc ls (hv_i x :: st) M := by
  subst hn
  intro p l e R s m args below meth c D ad0 ad base H locs cells slots arr X Y
  exact lv_if_le X.1 X.2.1 hd ht (fun h => kt h p l e R s m args below meth c D ad0 ad base H locs cells slots arr X Y) (fun h => kf h p l e R s m args below meth c D ad0 ad base H locs cells slots arr X Y)
theorem hg_goto {off : Int} {tgt : Nat} (hd : decode (md_cc d) pc = .ok (.goto off, 3)) (ht : (pc : Int) + off = (tgt : Int)) (kk : hg_G d al sh0 Q bc bs tgt ls st M) : hg_G d al sh0 Q bc bs pc ls st M :=
  hg_pure (fun _ _ _ _ _ _ _ _ _ _ _ _ _ _ _ _ _ _ _ X _ _ _ _ k => lv_goto X.1 X.2.1 hd ht k) kk
theorem hg_ifnull {r : Option (Nat × Nat)} {off : Int} {tgt : Nat} (hd : decode (md_cc d) pc = .ok (.ifnull off, 3)) (hn : pc + 3 = n) (ht : (pc : Int) + off = (tgt : Int)) (kt : r = none → hg_G d al sh0 Q bc bs tgt ls st M) (kf : ∀ q, r = some q → hg_G d al sh0 Q bc bs n ls st M) : hg_G d al sh0 Q bc bs pc ls (hv_r r :: st) M := by
  subst hn
  cases r with
  | none => exact hg_pure (fun _ _ _ _ _ _ _ _ _ _ _ _ _ _ _ _ _ _ _ X _ _ _ _ k => lv_ifnullN X.1 X.2.1 hd ht k) (kt rfl)
  | some q => exact hg_pure (fun _ _ _ _ _ _ _ _ _ _ _ _ _ _ _ _ _ _ _ X _ _ _ _ k => lv_ifnull X.1 X.2.1 hd k) (kf q rfl)
theorem hg_ifnonnull {r : Option (Nat × Nat)} {off : Int} {tgt : Nat} (hd : decode (md_cc d) pc = .ok (.ifnonnull off, 3)) (hn : pc + 3 = n) (ht : (pc : Int) + off = (tgt : Int)) (kt : ∀ q, r = some q → hg_G d al sh0 Q bc bs tgt ls st M) (kf : r = none → hg_G d al sh0 Q bc bs n ls st M) : hg_G d al sh0 Q bc bs pc ls (hv_r r :: st) M := by
  subst hn
  cases r with
  | none => exact hg_pure (fun _ _ _ _ _ _ _ _ _ _ _ _ _ _ _ _ _ _ _ X _ _ _ _ k => lv_ifnonnullN X.1 X.2.1 hd k) (kf rfl)
  | some q => exact hg_pure (fun _ _ _ _ _ _ _ _ _ _ _ _ _ _ _ _ _ _ _ X _ _ _ _ k => lv_ifnonnull X.1 X.2.1 hd ht k) (kt q rfl)
theorem hg_tableIn {dflt lo hi : Int} {offs : Array Int} {len : Nat} {x : Int32} {off : Int} {tgt : Nat} (hd : decode (md_cc d) pc = .ok (.tableswitch dflt lo hi offs, len)) (h1 : ¬ x.toInt < lo) (h2 : ¬ hi < x.toInt) (ho : offs[(x.toInt - lo).toNat]? = some off) (ht : (pc : Int) + off = (tgt : Int)) (kk : hg_G d al sh0 Q bc bs tgt ls st M) : hg_G d al sh0 Q bc bs pc ls (hv_i x :: st) M :=
  hg_pure (fun _ _ _ _ _ _ _ _ _ _ _ _ _ _ _ _ _ _ _ X _ _ _ _ k => lv_tableIn X.1 X.2.1 hd h1 h2 ho ht k) kk
theorem hg_tableOut {dflt lo hi : Int} {offs : Array Int} {len : Nat} {x : Int32} {tgt : Nat} (hd : decode (md_cc d) pc = .ok (.tableswitch dflt lo hi offs, len)) (h : x.toInt < lo ∨ hi < x.toInt) (ht : (pc : Int) + dflt = (tgt : Int)) (kk : hg_G d al sh0 Q bc bs tgt ls st M) : hg_G d al sh0 Q bc bs pc ls (hv_i x :: st) M :=
  hg_pure (fun _ _ _ _ _ _ _ _ _ _ _ _ _ _ _ _ _ _ _ X _ _ _ _ k => lv_tableOut X.1 X.2.1 hd h ht k) kk
end HG
end
section
/-! memory: fields, arrays -/
/-- a class's table -/
def hc_C (c : Nat) (C : String) (T : u_T) (N : Nat) : Prop := vwCl[c]? = some (C, T, N) ∧ (∀ w ∈ u_ws C T N, w ∈ gtbl) ∧ (∀ k, k < N → parseFieldDescriptor (T k).2.2.1 = some (ft_ c k)) ∧ (∀ a, a < N → ∀ b, b < N → a ≠ b → (T a).2.1 ≠ (T b).2.1) ∧ Cond.instantiable C N ∈ gtbl ∧ Cond.initialized C ∈ gtbl
/-- a field, as class 'own' spells it -/
def hf_L (own : String) (idx c f : Nat) (fin : Bool) : Prop := ∃ (C : String) (T : u_T) (N : Nat), hc_C c C T N ∧ f < N ∧ Cond.fieldLink own idx (T f).1 (T f).2.1 (T f).2.2.1 ∈ gtbl ∧ (T f).2.2.2 = fin ∧ (T f).1 = C
theorem nf_of {c : Nat} {q : vw_C} (h : vwCl[c]? = some q) : nf_ c = q.2.2 := by simp [nf_, h]
/-- M' is M but for one place -/
def hm_up (M M' : Me_) (k i f : Nat) : Prop := M'.2.2.2 = M.2.2.2 ∧ ∀ k' i' f', ¬ (k' = k ∧ i' = i ∧ f' = f) → M'.1 k' i' f' = M.1 k' i' f' ∧ M'.2.1 k' i' f' = M.2.1 k' i' f' ∧ M'.2.2.1 k' i' f' = M.2.2.1 k' i' f'
theorem hm_v_same {ad : Nat → Nat → Nat} {ty : FieldType} {M M' : Me_} {k i f : Nat} (h : M'.1 k i f = M.1 k i f ∧ M'.2.1 k i f = M.2.1 k i f ∧ M'.2.2.1 k i f = M.2.2.1 k i f) : hm_v ad ty M' k i f = hm_v ad ty M k i f := by
  unfold hm_v
  split
  · rw [h.1]
  · rw [h.2.1]
  · rw [h.2.2]
theorem t_OB.toV {o : Nat} {cC : ClassId} {N : Nat} {iS : Nat → Nat} {H : Heap} {V V' : Nat → Value} (h : t_OB o cC N iS H V) (hv : ∀ k, V k = V' k) : t_OB o cC N iS H V' := h.to (fun k _ => hv k)
theorem arrV_to {cA : ClassId} {n : Nat} {f g : Nat → Value} (h : ∀ j, f j = g j) : arrV cA n f = arrV cA n g := by rw [funext h]
/-- a cell whose own place of the heap, and whose own rows of the memory, are as they were -/
theorem hm_at.kept {D : Hd_} {ad : Nat → Nat → Nat} {M M' : Me_} {U : State} {H H' : Heap} {k i n : Nat} (h : hm_at D ad M U H k i n) (hq : H'[ad k i]? = H[ad k i]?) (hm : ∀ f, M'.1 k i f = M.1 k i f ∧ M'.2.1 k i f = M.2.1 k i f ∧ M'.2.2.1 k i f = M.2.2.1 k i f) : hm_at D ad M' U H' k i n := by
  unfold hm_at at h ⊢
  by_cases hk : k = 0
  · rw [if_pos hk] at h ⊢
    obtain ⟨scr, h1, h2, h3, h4, h5⟩ := h
    exact ⟨scr, by rw [hq]; exact h1, h2, h3, h4, fun j hj => by rw [h5 j hj, (hm j).1]⟩
  · rw [if_neg hk] at h ⊢
    split
    · rename_i c hc
      rw [hc] at h
      exact (h.kept hq).toV (fun f => (hm_v_same (hm f)).symm)
    · rename_i a hc
      rw [hc] at h
      rw [hq, h, arrV_to (fun f => (hm_v_same (hm f)).symm)]
theorem hm_R.put {D : Hd_} {ad : Nat → Nat → Nat} {base : Nat} {M M' : Me_} {U : State} {H H' : Heap} {k i f n0 : Nat} (h : hm_R D ad base M U H) (hup : hm_up M M' k i f) (hl : M.2.2.2 k i = some n0) (hz : H'.size = H.size) (hq : ∀ q : Nat, q ≠ ad k i → H'[q]? = H[q]?) (ha : hm_at D ad M' U H' k i n0) (hlv : M'.2.2.1 k i f = M.2.2.1 k i f ∨ ∀ q, M'.2.2.1 k i f = some q → ∃ n', M.2.2.2 q.1 q.2 = some n') : hm_R D ad base M' U H' := by
  obtain ⟨h1, h2, h3, h4, h5⟩ := h
  refine ⟨fun k' i' n hn => ?_, ?_, ?_, by rw [hz]; exact h4, fun k' i' f' n q hn hq' => ?_⟩
  · rw [hup.1] at hn
    by_cases e : k' = k ∧ i' = i
    · obtain ⟨rfl, rfl⟩ := e
      rw [hl] at hn
      cases hn
      exact ha
    · exact (h1 k' i' n hn).kept (hq _ (fun z => e (h2 k' i' k i n n0 hn hl z))) (fun f' => hup.2 k' i' f' (fun z => e ⟨z.1, z.2.1⟩))
  · rw [hup.1]; exact h2
  · rw [hup.1]; exact h3
  · rw [hup.1] at hn ⊢
    by_cases e : k' = k ∧ i' = i ∧ f' = f
    · obtain ⟨rfl, rfl, rfl⟩ := e
      rcases hlv with h | h
      · rw [h] at hq'
        exact h5 _ _ _ _ _ hn hq'
      · exact h q hq'
    · rw [(hup.2 k' i' f' e).2.2] at hq'
      exact h5 _ _ _ _ _ hn hq'
theorem hm_upI {mi : MI_} {ml : ML_} {mr : MR_} {sh : SH_} {k i f : Nat} {x : Int32} : hm_up (mi, ml, mr, sh) (u_3 mi k i f x, ml, mr, sh) k i f := ⟨rfl, fun k' i' f' h => ⟨by simp [u_3, h], rfl, rfl⟩⟩
theorem hm_upL {mi : MI_} {ml : ML_} {mr : MR_} {sh : SH_} {k i f : Nat} {x : Int64} : hm_up (mi, ml, mr, sh) (mi, u_3 ml k i f x, mr, sh) k i f := ⟨rfl, fun k' i' f' h => ⟨rfl, by simp [u_3, h], rfl⟩⟩
theorem hm_upR {mi : MI_} {ml : ML_} {mr : MR_} {sh : SH_} {k i f : Nat} {x : Option (Nat × Nat)} : hm_up (mi, ml, mr, sh) (mi, ml, u_3 mr k i f x, sh) k i f := ⟨rfl, fun k' i' f' h => ⟨rfl, rfl, by simp [u_3, h]⟩⟩
theorem kd_ne0 {k c : Nat} (h : kd_ k = .inl c) : k ≠ 0 := by
  intro e
  subst e
  cases h
theorem hm_obj {D : Hd_} {ad : Nat → Nat → Nat} {M : Me_} {U : State} {H : Heap} {k i n c : Nat} (h : hm_at D ad M U H k i n) (hk : kd_ k = .inl c) : t_OB (ad k i) (D.1 c) (nf_ c) (D.2.1 c) H (fun f => hm_v ad (ft_ c f) M k i f) := by
  unfold hm_at at h
  rw [if_neg (kd_ne0 hk), hk] at h
  exact h
theorem hm_arr {D : Hd_} {ad : Nat → Nat → Nat} {M : Me_} {U : State} {H : Heap} {k i n a : Nat} (h : hm_at D ad M U H k i n) (h0 : k ≠ 0) (hk : kd_ k = .inr a) : H[ad k i]? = some (arrV (D.2.2 a) n (fun j => hm_v ad (et_ a) M k i j)) := by
  unfold hm_at at h
  rw [if_neg h0, hk] at h
  exact h
section HM
variable {d : Md_} {al : Bool} {sh0 : SH_} {Q : Option V_ → Me_ → Prop} {bc bs : Nat} {pc n : Nat} {ls : List (Option V_)} {st : List V_} {M M' : Me_}
theorem hg_get {k i len c f idx : Nat} {fin : Bool} {v : V_} (hd : decode (md_cc d) pc = .ok (.getfield idx, 3)) (hn : pc + 3 = n) (hL : hf_L (md_own d) idx c f fin) (hk : kd_ k = .inl c) (hs : M.2.2.2 k i = some len) (hv : ∀ ad, hm_v ad (ft_ c f) M k i f = hv_c ad v) (kk : hg_G d al sh0 Q bc bs n ls (v :: st) M) : hg_G d al sh0 Q bc bs pc ls (hv_r (some (k, i)) :: st) M := by
  subst hn
  obtain ⟨C, T, N, ⟨hc, hin, hty, hnm, -, -⟩, hf, hlk, hfin, hdecl⟩ := hL
  refine hg_pure (fun p l e R s m args below meth cd D ad base H locs cells slots arr Qf X hR hq _ _ kk => ?_) kk
  obtain ⟨cell, q1, q2, q3, q4⟩ := hm_obj (hR.1 k i len hs) hk
  have hK : va_K (D.1, D.2.1) vwCl (tys_ D) s := X.2.2.2.2.2.2.2.2.2.2.2.2.1
  obtain ⟨hS, hfc, kC, hkC, hkind⟩ := hK.1 c _ hc
  obtain ⟨cf, kf, fi, fd, hi, hsl⟩ := hS f hf
  have hN : f < nf_ c := by rw [nf_of hc]; exact hf
  refine W.getf X.1 X.2.1 X.2.2.2.2.1 (X.2.2.2.2.2.1 _ hlk) hi (u_facts hfc hkC (u_lays X.2.2.2.2.2.1 hin hf) hi).1 q1 (by rw [q3]; exact fun h => by cases h) (v := hv_c ad v) ?_ rfl rfl hd kk
  rw [hsl]
  exact (q4 f hN).trans (congrArg some (hv ad))
theorem hg_putG {k i len c f idx : Nat} {v : V_} (hd : decode (md_cc d) pc = .ok (.putfield idx, 3)) (hn : pc + 3 = n) {fin : Bool} (hL : hf_L (md_own d) idx c f fin) (hfo : fin = true → md_nm d = "<init>" ∧ ∃ C T N, vwCl[c]? = some (C, T, N) ∧ C = md_own d) (hk : kd_ k = .inl c) (hs : M.2.2.2 k i = some len) (hup : hm_up M M' k i f) (hv : ∀ ad, hm_v ad (ft_ c f) M' k i f = hv_c ad v)
    (hna : ∀ ad, narrow (ft_ c f) (hv_c ad v) = hv_c ad v) (hfi : ∀ ad, fits (ft_ c f) (hv_c ad v) = true) (hlv : M'.2.2.1 k i f = M.2.2.1 k i f ∨ ∀ q, M'.2.2.1 k i f = some q → ∃ n', M.2.2.2 q.1 q.2 = some n') (kk : hg_G d al sh0 Q bc bs n ls st M') : hg_G d al sh0 Q bc bs pc ls (v :: hv_r (some (k, i)) :: st) M := by
  subst hn
  obtain ⟨C, T, N, ⟨hc, hin, hty, hnm, -, -⟩, hf, hlk, hfin, hdecl⟩ := hL
  intro p l e R s m args below meth cd D ad0 ad base H locs cells slots arr X Y
  have hR := Y.1
  obtain ⟨cell, q1, q2, q3, q4⟩ := hm_obj (hR.1 k i len hs) hk
  have hK : va_K (D.1, D.2.1) vwCl (tys_ D) s := X.2.2.2.2.2.2.2.2.2.2.2.2.1
  have hts := X.2.2.2.2.2.1
  have hap := va_apart (own := C) hts hin (ft_ c) hty hnm hK hc
  obtain ⟨hS, hfc, kC, hkC, hkind⟩ := hK.1 c _ hc
  obtain ⟨cf, kf, fi, fd, hi, hsl⟩ := hS f hf
  have eN : nf_ c = N := nf_of hc
  have hN : f < nf_ c := by rw [eN]; exact hf
  have hst := (u_facts hfc hkC (u_lays hts hin hf) hi).1
  have hlay := hts _ (hin _ (u_in_lay hf))
  unfold u_lay at hlay
  have fin2 : ∀ H' : Heap, H'[ad k i]? = some (cell.setSlot (D.2.1 c f) (hv_c ad v)) → H'.size = H.size → (∀ q, q ≠ ad k i → H'[q]? = H[q]?) → W p l e R s m args below meth cd H' (locs ++ [⟨ad k i, fd.slot⟩]) cells slots (MQ below (hg_Q D base sh0 ad0 al Q) args s (md_mc d) (md_ms d) (fun q => base ≤ q)) (F0 m (pc + 3) arr (st.map (hv_c ad))) := by
    intro H' e1 e2 e3
    refine kk p l e R s m args below meth cd D ad0 ad base H' (locs ++ [⟨ad k i, fd.slot⟩]) cells slots arr X ⟨hR.put hup hs e2 e3 ?_ hlv, fun q hq => ?_, Y.2.2⟩
    · unfold hm_at
      rw [if_neg (kd_ne0 hk), hk]
      refine t_OB.toV (V := updV (fun f => hm_v ad (ft_ c f) M k i f) f (hv_c ad v)) ⟨_, e1, q2, q3, fun j hj => t_set q4 (fun a b ha hb => hap a b (by rw [← eN]; exact ha) (by rw [← eN]; exact hb)) hN (hv_c ad v) j hj⟩ (fun j => ?_)
      by_cases hj : j = f
      · subst hj
        simp [updV, hv ad]
      · simp only [updV, if_neg hj]
        exact (hm_v_same (hup.2 k i j (fun z => hj z.2.2))).symm
    · rcases List.mem_append.mp hq with h1 | h1
      · exact Y.2.1 q h1
      · rw [List.mem_singleton.mp h1]
        exact hR.2.2.1 k i len hs (kd_ne0 hk)
  cases fin with
  | false =>
    rw [if_neg (by rw [hfin]; decide)] at hlay
    have h6 := u_store hfc hkC hkind hlay hi (hty f hf) (hna ad) (hfi ad)
    refine W.putK X.1 X.2.1 (f := fd) ⟨X.2.2.2.2.1, hts _ hlk, ⟨_, _, _, hi⟩, hst⟩ (by rw [q2]; exact h6) q1 q3 (by rw [hsl]; exact k2_hasslot (q4 f hN)) rfl rfl hd fun H' e1 e2 e3 => ?_
    rw [hsl] at e1
    exact fin2 H' e1 e2 e3
  | true =>
    rw [if_pos hfin] at hlay
    obtain ⟨hnmI, C', T', N', hc', hown'⟩ := hfo rfl
    have hCo : C = md_own d := by
      rw [hc] at hc'
      cases hc'
      exact hown'
    have hcf : m.cls = cf := by
      obtain ⟨_, _, c', _, _, _, -, -, hf', -, -, -, hown2, -⟩ := Cond.laysFinal_spec hlay
      have e1 : c' = cf := by have := hi.symm.trans hf'; simp at this; exact this.1.symm
      rw [hdecl, hCo] at hown2
      rw [← e1]; exact Option.some.inj (X.2.2.2.2.1.symm.trans hown2)
    have h6 := u_fits hfc hkC hkind (Or.inr hlay) hi (hty f hf) (hna ad) (hfi ad)
    refine W.putFinK X.1 X.2.1 X.2.2.2.2.1 (hts _ hlk) hi hst hcf (X.2.2.2.2.2.2.2.1.trans hnmI) (by rw [q2]; exact h6) q1 q3 (by rw [hsl]; exact k2_hasslot (q4 f hN)) rfl rfl hd fun H' e1 e2 e3 => ?_
    rw [hsl] at e1
    exact fin2 H' e1 e2 e3
variable {mi : MI_} {ml : ML_} {mr : MR_} {sh : SH_}
theorem hg_getI {k i len c f idx : Nat} {fin : Bool} (hd : decode (md_cc d) pc = .ok (.getfield idx, 3)) (hn : pc + 3 = n) (hL : hf_L (md_own d) idx c f fin) (hk : kd_ k = .inl c) (hty : sort_ (ft_ c f) = 0) (hs : sh k i = some len) (kk : hg_G d al sh0 Q bc bs n ls (hv_i (mi k i f) :: st) (mi, ml, mr, sh)) : hg_G d al sh0 Q bc bs pc ls (hv_r (some (k, i)) :: st) (mi, ml, mr, sh) :=
  hg_get hd hn hL hk hs (fun ad => by unfold hm_v; rw [hty]; rfl) kk
theorem hg_getL {k i len c f idx : Nat} {fin : Bool} (hd : decode (md_cc d) pc = .ok (.getfield idx, 3)) (hn : pc + 3 = n) (hL : hf_L (md_own d) idx c f fin) (hk : kd_ k = .inl c) (hty : sort_ (ft_ c f) = 1) (hs : sh k i = some len) (kk : hg_G d al sh0 Q bc bs n ls (hv_l (ml k i f) :: st) (mi, ml, mr, sh)) : hg_G d al sh0 Q bc bs pc ls (hv_r (some (k, i)) :: st) (mi, ml, mr, sh) :=
  hg_get hd hn hL hk hs (fun ad => by unfold hm_v; rw [hty]; rfl) kk
theorem hg_getR {k i len c f idx : Nat} {fin : Bool} {r : Option (Nat × Nat)} (hd : decode (md_cc d) pc = .ok (.getfield idx, 3)) (hn : pc + 3 = n) (hL : hf_L (md_own d) idx c f fin) (hk : kd_ k = .inl c) (hty : sort_ (ft_ c f) = 2) (hs : sh k i = some len) (hr : mr k i f = r) (kk : hg_G d al sh0 Q bc bs n ls (hv_r r :: st) (mi, ml, mr, sh)) : hg_G d al sh0 Q bc bs pc ls (hv_r (some (k, i)) :: st) (mi, ml, mr, sh) := by
  subst hr
  exact hg_get hd hn hL hk hs (fun ad => by unfold hm_v; rw [hty]; rfl) kk
theorem fits_int (x : Int32) : fits .int (.int x) = true := rfl
theorem nar_ty {ty : FieldType} (h : ty = .int) (x : Int32) : narrow ty (.int x) = .int x ∧ fits ty (.int x) = true := by subst h; exact ⟨rfl, rfl⟩
theorem nar_tl {ty : FieldType} (h : ty = .long) (x : Int64) : narrow ty (.long x) = .long x ∧ fits ty (.long x) = true := by subst h; exact ⟨rfl, rfl⟩
theorem nar_tz {ty : FieldType} (h : ty = .boolean) {x : Int32} (hx : x = 0 ∨ x = 1) : narrow ty (.int x) = .int x ∧ fits ty (.int x) = true := by subst h; rcases hx with rfl | rfl <;> exact ⟨by decide, by decide⟩
theorem nar_tr {ty : FieldType} (h : sort_ ty = 2) (ad : Nat → Nat → Nat) (r : Option (Nat × Nat)) : narrow ty (hv_c ad (hv_r r)) = hv_c ad (hv_r r) ∧ fits ty (hv_c ad (hv_r r)) = true := by
  cases ty <;> simp [sort_] at h <;> cases r <;> exact ⟨rfl, rfl⟩
theorem hg_putI {k i len c f idx : Nat} {x : Int32} (hd : decode (md_cc d) pc = .ok (.putfield idx, 3)) (hn : pc + 3 = n) (hL : hf_L (md_own d) idx c f false) (hk : kd_ k = .inl c) (hty : ft_ c f = .int) (hs : sh k i = some len) (kk : hg_G d al sh0 Q bc bs n ls st (u_3 mi k i f x, ml, mr, sh)) : hg_G d al sh0 Q bc bs pc ls (hv_i x :: hv_r (some (k, i)) :: st) (mi, ml, mr, sh) :=
  hg_putG hd hn hL (fun h => by cases h) hk hs hm_upI (fun ad => by unfold hm_v; rw [hty]; simp [sort_, u_3, hv_c]) (fun _ => (nar_ty hty x).1) (fun _ => (nar_ty hty x).2) (Or.inl rfl) kk
theorem hg_putIF {k i len c f idx : Nat} {x : Int32} {C : String} {T : u_T} {N : Nat} (hd : decode (md_cc d) pc = .ok (.putfield idx, 3)) (hn : pc + 3 = n) (hL : hf_L (md_own d) idx c f true) (hnm : md_nm d = "<init>") (hcl : vwCl[c]? = some (C, T, N)) (hC : C = md_own d) (hk : kd_ k = .inl c) (hty : ft_ c f = .int) (hs : sh k i = some len) (kk : hg_G d al sh0 Q bc bs n ls st (u_3 mi k i f x, ml, mr, sh)) : hg_G d al sh0 Q bc bs pc ls (hv_i x :: hv_r (some (k, i)) :: st) (mi, ml, mr, sh) :=
  hg_putG hd hn hL (fun _ => ⟨hnm, C, T, N, hcl, hC⟩) hk hs hm_upI (fun ad => by unfold hm_v; rw [hty]; simp [sort_, u_3, hv_c]) (fun _ => (nar_ty hty x).1) (fun _ => (nar_ty hty x).2) (Or.inl rfl) kk
theorem hg_putZ {k i len c f idx : Nat} {x : Int32} (hd : decode (md_cc d) pc = .ok (.putfield idx, 3)) (hn : pc + 3 = n) (hL : hf_L (md_own d) idx c f false) (hk : kd_ k = .inl c) (hty : ft_ c f = .boolean) (hx : x = 0 ∨ x = 1) (hs : sh k i = some len) (kk : hg_G d al sh0 Q bc bs n ls st (u_3 mi k i f x, ml, mr, sh)) : hg_G d al sh0 Q bc bs pc ls (hv_i x :: hv_r (some (k, i)) :: st) (mi, ml, mr, sh) :=
  hg_putG hd hn hL (fun h => by cases h) hk hs hm_upI (fun ad => by unfold hm_v; rw [hty]; simp [sort_, u_3, hv_c]) (fun _ => (nar_tz hty hx).1) (fun _ => (nar_tz hty hx).2) (Or.inl rfl) kk
theorem hg_putL {k i len c f idx : Nat} {x : Int64} (hd : decode (md_cc d) pc = .ok (.putfield idx, 3)) (hn : pc + 3 = n) (hL : hf_L (md_own d) idx c f false) (hk : kd_ k = .inl c) (hty : ft_ c f = .long) (hs : sh k i = some len) (kk : hg_G d al sh0 Q bc bs n ls st (mi, u_3 ml k i f x, mr, sh)) : hg_G d al sh0 Q bc bs pc ls (hv_l x :: hv_r (some (k, i)) :: st) (mi, ml, mr, sh) :=
  hg_putG hd hn hL (fun h => by cases h) hk hs hm_upL (fun ad => by unfold hm_v; rw [hty]; simp [sort_, u_3, hv_c]) (fun _ => (nar_tl hty x).1) (fun _ => (nar_tl hty x).2) (Or.inl rfl) kk
theorem hg_putR {k i len c f idx : Nat} {r : Option (Nat × Nat)} (hd : decode (md_cc d) pc = .ok (.putfield idx, 3)) (hn : pc + 3 = n) (hL : hf_L (md_own d) idx c f false) (hk : kd_ k = .inl c) (hty : sort_ (ft_ c f) = 2) (hs : sh k i = some len) (hr : ∀ q, r = some q → ∃ n', sh q.1 q.2 = some n') (kk : hg_G d al sh0 Q bc bs n ls st (mi, ml, u_3 mr k i f r, sh)) : hg_G d al sh0 Q bc bs pc ls (hv_r r :: hv_r (some (k, i)) :: st) (mi, ml, mr, sh) :=
  hg_putG hd hn hL (fun h => by cases h) hk hs hm_upR (fun ad => by unfold hm_v; rw [hty]; simp [u_3]) (fun _ => (nar_tr hty _ r).1) (fun _ => (nar_tr hty _ r).2) (Or.inr (fun q h => hr q (by simpa [u_3] using h))) kk
theorem hg_putRF {k i len c f idx : Nat} {r : Option (Nat × Nat)} {C : String} {T : u_T} {N : Nat} (hd : decode (md_cc d) pc = .ok (.putfield idx, 3)) (hn : pc + 3 = n) (hL : hf_L (md_own d) idx c f true) (hnm : md_nm d = "<init>") (hcl : vwCl[c]? = some (C, T, N)) (hC : C = md_own d) (hk : kd_ k = .inl c) (hty : sort_ (ft_ c f) = 2) (hs : sh k i = some len) (hr : ∀ q, r = some q → ∃ n', sh q.1 q.2 = some n') (kk : hg_G d al sh0 Q bc bs n ls st (mi, ml, u_3 mr k i f r, sh)) : hg_G d al sh0 Q bc bs pc ls (hv_r r :: hv_r (some (k, i)) :: st) (mi, ml, mr, sh) :=
  hg_putG hd hn hL (fun _ => ⟨hnm, C, T, N, hcl, hC⟩) hk hs hm_upR (fun ad => by unfold hm_v; rw [hty]; simp [u_3]) (fun _ => (nar_tr hty _ r).1) (fun _ => (nar_tr hty _ r).2) (Or.inr (fun q h => hr q (by simpa [u_3] using h))) kk
end HM
end
section
/-! arrays -/
theorem nI_vin {x : Int32} {j n : Nat} (hx : x = nI j) (hj : j < n) (hn : n < 2 ^ 31) : vp_in x n ∧ x.toNatClampNeg = j := by
  subst hx
  exact ⟨vp_in_nI hj hn, nI_clamp (by omega)⟩
section HA
variable {d : Md_} {al : Bool} {sh0 : SH_} {Q : Option V_ → Me_ → Prop} {bc bs : Nat} {pc n : Nat} {ls : List (Option V_)} {st : List V_} {M M' : Me_}
theorem tys_at (D : Hd_) : ∀ a, a < 7 → (tys_ D)[a]? = some (D.2.2 a, et_ a) := by
  intro a ha
  match a, ha with
  | 0, _ => rfl
  | 1, _ => rfl
  | 2, _ => rfl
  | 3, _ => rfl
  | 4, _ => rfl
  | 5, _ => rfl
  | 6, _ => rfl
  | a + 7, h => omega
theorem kd_arr {k a : Nat} (h : kd_ k = .inr a) : a < 7 := by
  unfold kd_ at h
  split at h <;> cases h <;> decide
theorem hg_aldG {ins : Instr} {k i len a j : Nat} {x : Int32} {v : V_} (hn : pc + 1 = n) (h0 : k ≠ 0) (hk : kd_ k = .inr a) (hs : M.2.2.2 k i = some len) (hx : x = nI j) (hj : j < len) (hlen : len < 2 ^ 31) (hv : ∀ ad, hm_v ad (et_ a) M k i j = hv_c ad v)
    (hstep : ∀ (p : Program) (l : Launch) (e : Env) (R : Room) (s : State) (m : MethodId) (args : Array Value) (below : List Frame) (meth : Method) (c : Code) (D : Hd_) (ad : Nat → Nat → Nat) (H : Heap) (locs : List Loc) (cells slots : Nat) (arr : Array Slot) (Qf : State → Prop) (cell : Cell), hg_X d p R s m args meth c D → H[ad k i]? = some cell → s.isArrayOf cell (et_ a) → cell.vm ≠ .unknown → ¬ (x < 0 ∨ cell.slots.size ≤ x.toNatClampNeg) → cell.slots[x.toNatClampNeg]? = some (hv_c ad v) →
      W p l e R s m args below meth c H locs cells slots Qf (F0 m (pc + 1) arr (hv_c ad v :: st.map (hv_c ad))) → W p l e R s m args below meth c H locs cells slots Qf (F0 m pc arr (.int x :: .ref (ad k i) :: st.map (hv_c ad))))
    (kk : hg_G d al sh0 Q bc bs n ls (v :: st) M) : hg_G d al sh0 Q bc bs pc ls (hv_i x :: hv_r (some (k, i)) :: st) M := by
  subst hn
  obtain ⟨hin, hcl⟩ := nI_vin hx hj hlen
  refine hg_pure (fun p l e R s m args below meth c D ad base H locs cells slots arr Qf X hR hq _ _ kk => ?_) kk
  have hc := hm_arr (hR.1 k i len hs) h0 hk
  have hK : va_K (D.1, D.2.1) vwCl (tys_ D) s := X.2.2.2.2.2.2.2.2.2.2.2.2.1
  refine hstep p l e R s m args below meth c D ad H locs cells slots arr Qf _ X hc ((hK.2 a _ (tys_at D a (kd_arr hk))).1 len _) (fun q => by cases q) (by rw [arrV_size]; exact hin) ?_ kk
  rw [hcl, arrV_read _ _ hj]
  exact congrArg some (hv ad)
variable {mi : MI_} {ml : ML_} {mr : MR_} {sh : SH_}
theorem hg_iaload (j : Nat) {k i len : Nat} {x : Int32} (hd : decode (md_cc d) pc = .ok (.iaload, 1)) (hn : pc + 1 = n) (h0 : k ≠ 0) (hk : kd_ k = .inr 0) (hs : sh k i = some len) (hx : x = nI j) (hj : j < len) (hlen : len < 2 ^ 31) (kk : hg_G d al sh0 Q bc bs n ls (hv_i (mi k i j) :: st) (mi, ml, mr, sh)) : hg_G d al sh0 Q bc bs pc ls (hv_i x :: hv_r (some (k, i)) :: st) (mi, ml, mr, sh) :=
  hg_aldG (ins := .iaload) (v := hv_i (mi k i j)) hn h0 hk hs hx hj hlen (fun _ => rfl) (fun _ _ _ _ _ _ _ _ _ _ _ _ _ _ _ _ _ _ _ X h1 h2 h3 h4 h5 k => W.iald X.1 X.2.1 h1 h2 h3 h4 h5 rfl rfl hd k) kk
theorem hg_baload (j : Nat) {k i len : Nat} {x : Int32} (hd : decode (md_cc d) pc = .ok (.baload, 1)) (hn : pc + 1 = n) (h0 : k ≠ 0) (hk : kd_ k = .inr 2) (hs : sh k i = some len) (hx : x = nI j) (hj : j < len) (hlen : len < 2 ^ 31) (kk : hg_G d al sh0 Q bc bs n ls (hv_i (mi k i j) :: st) (mi, ml, mr, sh)) : hg_G d al sh0 Q bc bs pc ls (hv_i x :: hv_r (some (k, i)) :: st) (mi, ml, mr, sh) :=
  hg_aldG (ins := .baload) (v := hv_i (mi k i j)) hn h0 hk hs hx hj hlen (fun _ => rfl) (fun _ _ _ _ _ _ _ _ _ _ _ _ _ _ _ _ _ _ _ X h1 h2 h3 h4 h5 k => W.zald X.1 X.2.1 h1 h2 h3 h4 h5 rfl rfl hd k) kk
theorem hg_laload (j : Nat) {k i len : Nat} {x : Int32} (hd : decode (md_cc d) pc = .ok (.laload, 1)) (hn : pc + 1 = n) (h0 : k ≠ 0) (hk : kd_ k = .inr 1) (hs : sh k i = some len) (hx : x = nI j) (hj : j < len) (hlen : len < 2 ^ 31) (kk : hg_G d al sh0 Q bc bs n ls (hv_l (ml k i j) :: st) (mi, ml, mr, sh)) : hg_G d al sh0 Q bc bs pc ls (hv_i x :: hv_r (some (k, i)) :: st) (mi, ml, mr, sh) :=
  hg_aldG (ins := .laload) (v := hv_l (ml k i j)) hn h0 hk hs hx hj hlen (fun _ => rfl) (fun _ _ _ _ _ _ _ _ _ _ _ _ _ _ _ _ _ _ _ X h1 h2 h3 h4 h5 k => W.lald X.1 X.2.1 h1 h2 h3 h4 h5 rfl rfl hd k) kk
theorem hg_aaload (j : Nat) {k i len a : Nat} {x : Int32} {r : Option (Nat × Nat)} (hd : decode (md_cc d) pc = .ok (.aaload, 1)) (hn : pc + 1 = n) (h0 : k ≠ 0) (hk : kd_ k = .inr a) (ha : sort_ (et_ a) = 2) (hs : sh k i = some len) (hx : x = nI j) (hj : j < len) (hlen : len < 2 ^ 31) (hr : mr k i j = r) (kk : hg_G d al sh0 Q bc bs n ls (hv_r r :: st) (mi, ml, mr, sh)) : hg_G d al sh0 Q bc bs pc ls (hv_i x :: hv_r (some (k, i)) :: st) (mi, ml, mr, sh) := by
  subst hr
  have hre : (et_ a).isReference = true := by
    revert ha
    cases et_ a <;> simp [sort_, FieldType.isReference]
  exact hg_aldG (ins := .aaload) (v := hv_r (mr k i j)) hn h0 hk hs hx hj hlen (fun _ => by unfold hm_v; rw [ha]; rfl) (fun _ _ _ _ _ _ _ _ _ _ _ _ _ _ _ _ _ _ _ X h1 h2 h3 h4 h5 k => W.aald X.1 X.2.1 h1 h2 hre h3 h4 h5 rfl rfl hd k) kk
/-- the script -/
theorem hg_script (j : Nat) {i len : Nat} {x : Int32} (hd : decode (md_cc d) pc = .ok (.iaload, 1)) (hn : pc + 1 = n) (hs : sh 0 i = some len) (hx : x = nI j) (hj : j < len) (hlen : len < 2 ^ 31) (kk : hg_G d al sh0 Q bc bs n ls (hv_i (mi 0 i j) :: st) (mi, ml, mr, sh)) : hg_G d al sh0 Q bc bs pc ls (hv_i x :: hv_r (some (0, i)) :: st) (mi, ml, mr, sh) := by
  subst hn
  obtain ⟨hin, hcl⟩ := nI_vin hx hj hlen
  refine hg_pure (fun p l e R s m args below meth c D ad base H locs cells slots arr Qf X hR hq _ _ kk => ?_) kk
  have h := hR.1 0 i len hs
  unfold hm_at at h
  rw [if_pos rfl] at h
  obtain ⟨scr, h1, h2, h3, h4, h5⟩ := h
  exact W.iald (v := .int (mi 0 i j)) X.1 X.2.1 h1 h2 h3 (by rw [h4]; exact hin) (by rw [hcl]; exact h5 j hj) rfl rfl hd kk
theorem hg_scriptlen {i len : Nat} (hd : decode (md_cc d) pc = .ok (.arraylength, 1)) (hn : pc + 1 = n) (hs : sh 0 i = some len) (kk : hg_G d al sh0 Q bc bs n ls (hv_i (nI len) :: st) (mi, ml, mr, sh)) : hg_G d al sh0 Q bc bs pc ls (hv_r (some (0, i)) :: st) (mi, ml, mr, sh) := by
  subst hn
  refine hg_pure (fun p l e R s m args below meth c D ad base H locs cells slots arr Qf X hR hq _ _ kk => ?_) kk
  have h := hR.1 0 i len hs
  unfold hm_at at h
  rw [if_pos rfl] at h
  obtain ⟨scr, h1, h2, h3, h4, h5⟩ := h
  exact W.alen X.1 X.2.1 h1 h2 (by rw [h4]; rfl) rfl rfl hd kk
theorem hg_alen {k i len a : Nat} (hd : decode (md_cc d) pc = .ok (.arraylength, 1)) (hn : pc + 1 = n) (h0 : k ≠ 0) (hk : kd_ k = .inr a) (hs : sh k i = some len) (kk : hg_G d al sh0 Q bc bs n ls (hv_i (nI len) :: st) (mi, ml, mr, sh)) : hg_G d al sh0 Q bc bs pc ls (hv_r (some (k, i)) :: st) (mi, ml, mr, sh) := by
  subst hn
  refine hg_pure (fun p l e R s m args below meth c D ad base H locs cells slots arr Qf X hR hq _ _ kk => ?_) kk
  have hc := hm_arr (hR.1 k i len hs) h0 hk
  have hK : va_K (D.1, D.2.1) vwCl (tys_ D) s := X.2.2.2.2.2.2.2.2.2.2.2.2.1
  exact W.alen X.1 X.2.1 hc ((hK.2 a _ (tys_at D a (kd_arr hk))).1 len _) (by rw [arrV_size]; rfl) rfl rfl hd kk
theorem hg_astG {k i len a j : Nat} {x : Int32} {v : V_} (hn : pc + 1 = n) (h0 : k ≠ 0) (hk : kd_ k = .inr a) (hs : M.2.2.2 k i = some len) (hx : x = nI j) (hj : j < len) (hlen : len < 2 ^ 31) (hup : hm_up M M' k i j) (hv : ∀ ad, hm_v ad (et_ a) M' k i j = hv_c ad v) (hlv : M'.2.2.1 k i j = M.2.2.1 k i j ∨ ∀ q, M'.2.2.1 k i j = some q → ∃ n', M.2.2.2 q.1 q.2 = some n')
    (hstep : ∀ (p : Program) (l : Launch) (e : Env) (R : Room) (s : State) (m : MethodId) (args : Array Value) (below : List Frame) (meth : Method) (c : Code) (D : Hd_) (ad : Nat → Nat → Nat) (base : Nat) (H : Heap) (locs : List Loc) (cells slots : Nat) (arr : Array Slot) (Qf : State → Prop) (cell : Cell), hg_X d p R s m args meth c D → hm_R D ad base M s H → H[ad k i]? = some cell → cell.cls = D.2.2 a → cell.vm = .none → s.isArrayOf cell (et_ a) → cell.vm ≠ .unknown → ¬ (x < 0 ∨ cell.slots.size ≤ x.toNatClampNeg) →
      (∀ H' : Heap, H'[ad k i]? = some (cell.setSlot x.toNatClampNeg (hv_c ad v)) → H'.size = H.size → (∀ q, q ≠ ad k i → H'[q]? = H[q]?) → W p l e R s m args below meth c H' (locs ++ [⟨ad k i, x.toNatClampNeg⟩]) cells slots Qf (F0 m (pc + 1) arr (st.map (hv_c ad)))) → W p l e R s m args below meth c H locs cells slots Qf (F0 m pc arr (hv_c ad v :: .int x :: .ref (ad k i) :: st.map (hv_c ad))))
    (kk : hg_G d al sh0 Q bc bs n ls st M') : hg_G d al sh0 Q bc bs pc ls (v :: hv_i x :: hv_r (some (k, i)) :: st) M := by
  subst hn
  obtain ⟨hin, hcl⟩ := nI_vin hx hj hlen
  intro p l e R s m args below meth c D ad0 ad base H locs cells slots arr X Y
  have hR := Y.1
  have hc := hm_arr (hR.1 k i len hs) h0 hk
  have hK : va_K (D.1, D.2.1) vwCl (tys_ D) s := X.2.2.2.2.2.2.2.2.2.2.2.2.1
  refine hstep p l e R s m args below meth c D ad base H locs cells slots arr _ _ X hR hc rfl rfl ((hK.2 a _ (tys_at D a (kd_arr hk))).1 len _) (fun q => by cases q) (by rw [arrV_size]; exact hin) fun H' e1 e2 e3 => ?_
  rw [hcl] at e1 ⊢
  refine kk p l e R s m args below meth c D ad0 ad base H' (locs ++ [⟨ad k i, j⟩]) cells slots arr X ⟨hR.put hup hs e2 e3 ?_ hlv, fun q hq => ?_, Y.2.2⟩
  · unfold hm_at
    rw [if_neg h0, hk]
    rw [e1, arrV_store]
    refine congrArg some (arrV_to (fun j' => ?_))
    by_cases hjj : j' = j
    · subst hjj
      simp only [updV, if_pos rfl]
      exact (hv ad).symm
    · simp only [updV, if_neg hjj]
      exact (hm_v_same (hup.2 k i j' (fun z => hjj z.2.2))).symm
  · rcases List.mem_append.mp hq with h1 | h1
    · exact Y.2.1 q h1
    · rw [List.mem_singleton.mp h1]
      exact hR.2.2.1 k i len hs h0
theorem hg_iastore (j : Nat) {k i len : Nat} {x y : Int32} (hd : decode (md_cc d) pc = .ok (.iastore, 1)) (hn : pc + 1 = n) (h0 : k ≠ 0) (hk : kd_ k = .inr 0) (hs : sh k i = some len) (hx : x = nI j) (hj : j < len) (hlen : len < 2 ^ 31) (kk : hg_G d al sh0 Q bc bs n ls st (u_3 mi k i j y, ml, mr, sh)) : hg_G d al sh0 Q bc bs pc ls (hv_i y :: hv_i x :: hv_r (some (k, i)) :: st) (mi, ml, mr, sh) :=
  hg_astG (M := (mi, ml, mr, sh)) (v := hv_i y) hn h0 hk hs hx hj hlen hm_upI (fun _ => by simp [hm_v, et_, sort_, u_3, hv_c]) (Or.inl rfl) (fun _ _ _ _ _ _ _ _ _ _ _ _ _ _ _ _ _ _ _ _ X _ h1 _ _ h2 h3 h4 k => W.iast X.1 X.2.1 h1 h2 h3 h4 rfl rfl hd k) kk
theorem hg_bastore (j : Nat) {k i len : Nat} {x y : Int32} (hd : decode (md_cc d) pc = .ok (.bastore, 1)) (hn : pc + 1 = n) (h0 : k ≠ 0) (hk : kd_ k = .inr 2) (hy : y = 0 ∨ y = 1) (hs : sh k i = some len) (hx : x = nI j) (hj : j < len) (hlen : len < 2 ^ 31) (kk : hg_G d al sh0 Q bc bs n ls st (u_3 mi k i j y, ml, mr, sh)) : hg_G d al sh0 Q bc bs pc ls (hv_i y :: hv_i x :: hv_r (some (k, i)) :: st) (mi, ml, mr, sh) :=
  hg_astG (M := (mi, ml, mr, sh)) (v := hv_i y) hn h0 hk hs hx hj hlen hm_upI (fun _ => by simp [hm_v, et_, sort_, u_3, hv_c]) (Or.inl rfl) (fun _ _ _ _ _ _ _ _ _ _ _ _ _ _ _ _ _ _ _ _ X _ h1 _ _ h2 h3 h4 k => W.zast X.1 X.2.1 h1 h2 h3 h4 rfl rfl hd (by rw [(nar_tz rfl hy).1]; exact k)) kk
theorem hg_lastore (j : Nat) {k i len : Nat} {x : Int32} {y : Int64} (hd : decode (md_cc d) pc = .ok (.lastore, 1)) (hn : pc + 1 = n) (h0 : k ≠ 0) (hk : kd_ k = .inr 1) (hs : sh k i = some len) (hx : x = nI j) (hj : j < len) (hlen : len < 2 ^ 31) (kk : hg_G d al sh0 Q bc bs n ls st (mi, u_3 ml k i j y, mr, sh)) : hg_G d al sh0 Q bc bs pc ls (hv_l y :: hv_i x :: hv_r (some (k, i)) :: st) (mi, ml, mr, sh) :=
  hg_astG (M := (mi, ml, mr, sh)) (v := hv_l y) hn h0 hk hs hx hj hlen hm_upL (fun _ => by simp [hm_v, et_, sort_, u_3, hv_c]) (Or.inl rfl) (fun _ _ _ _ _ _ _ _ _ _ _ _ _ _ _ _ _ _ _ _ X _ h1 _ _ h2 h3 h4 k => W.last X.1 X.2.1 h1 h2 h3 h4 rfl rfl hd k) kk
theorem hg_aastoreN (j : Nat) {k i len a : Nat} {C : String} {x : Int32} (hd : decode (md_cc d) pc = .ok (.aastore, 1)) (hn : pc + 1 = n) (h0 : k ≠ 0) (hk : kd_ k = .inr a) (ha : et_ a = .object C) (hs : sh k i = some len) (hx : x = nI j) (hj : j < len) (hlen : len < 2 ^ 31) (kk : hg_G d al sh0 Q bc bs n ls st (mi, ml, u_3 mr k i j none, sh)) : hg_G d al sh0 Q bc bs pc ls (hv_r none :: hv_i x :: hv_r (some (k, i)) :: st) (mi, ml, mr, sh) :=
  hg_astG (M := (mi, ml, mr, sh)) (v := hv_r none) hn h0 hk hs hx hj hlen hm_upR (fun _ => by simp [hm_v, ha, sort_, u_3]) (Or.inr (fun q h => by simp [u_3] at h)) (fun _ _ _ _ _ _ _ _ _ _ _ _ _ _ _ _ _ _ _ _ X _ h1 _ _ h2 h3 h4 k => va_WaastN X.1 X.2.1 h1 (by rw [← ha]; exact h2) h3 h4 rfl rfl hd k) kk
theorem hg_aastore (j : Nat) {k i len a c k' i' n' : Nat} {C : String} {T : u_T} {N : Nat} {x : Int32} (hd : decode (md_cc d) pc = .ok (.aastore, 1)) (hn : pc + 1 = n) (h0 : k ≠ 0) (hk : kd_ k = .inr a) (hC : hc_C c C T N) (ha : et_ a = .object C) (hs : sh k i = some len) (hx : x = nI j) (hj : j < len) (hlen : len < 2 ^ 31) (hk' : kd_ k' = .inl c) (hs' : sh k' i' = some n') (kk : hg_G d al sh0 Q bc bs n ls st (mi, ml, u_3 mr k i j (some (k', i')), sh)) : hg_G d al sh0 Q bc bs pc ls (hv_r (some (k', i')) :: hv_i x :: hv_r (some (k, i)) :: st) (mi, ml, mr, sh) := by
  refine hg_astG (M := (mi, ml, mr, sh)) (v := hv_r (some (k', i'))) hn h0 hk hs hx hj hlen hm_upR (fun _ => by simp [hm_v, ha, sort_, u_3]) (Or.inr (fun q h => by simp [u_3] at h; subst h; exact ⟨n', hs'⟩)) (fun p l e R s m args below meth cd D ad base H locs cells slots arr Qf cell X hR h1 hcl hvm h2 h3 h4 kk => ?_) kk
  have hK : va_K (D.1, D.2.1) vwCl (tys_ D) s := X.2.2.2.2.2.2.2.2.2.2.2.2.1
  obtain ⟨cellV, g1, g2, g3, -⟩ := hm_obj (hR.1 k' i' n' hs') hk'
  have hcls := (hK.1 c _ hC.1).2
  have hra := (hK.2 a _ (tys_at D a (kd_arr hk))).2
  rw [show ((D.2.2 a, et_ a) : ClassId × FieldType).2 = .object C from ha] at hra
  obtain ⟨kA, comp, k1, k2, k3, -⟩ := hra
  have hcomp : comp = D.1 c := Option.some.inj (k3.symm.trans hcls.1)
  subst hcomp
  have hcls2 := hcls
  obtain ⟨-, kC, hkC, -⟩ := hcls2
  exact W.aast X.1 X.2.1 h1 (fun q h => by rw [hvm] at h; cases h) h3 (by rw [hcl]; exact k1) k2 rfl hkC ⟨fun q => h4 (Or.inl q), Nat.not_le.mp fun q => h4 (Or.inr q)⟩ g1 (fun q h => by rw [g3] at h; cases h) (by rw [g2]; exact hkC) (by rw [g2]; exact va_assign hcls) rfl rfl hd kk
end HA
end
section
/-! ends, calls, beginnings -/
def hl_in : List V_ → List (Option V_)
  | [] => []
  | v :: r => if hv_cat v = 2 then some v :: none :: hl_in r else some v :: hl_in r
def hl_pad (n : Nat) (ls : List (Option V_)) : List (Option V_) := ls ++ List.replicate (n - ls.length) none
theorem hl_as_none {ad : Nat → Nat → Nat} : ∀ {n k : Nat}, hl_as ad k (List.replicate n none) = []
  | 0, _ => rfl
  | n + 1, k => by rw [List.replicate_succ, hl_as]; exact hl_as_none
theorem hl_as_in {ad : Nat → Nat → Nat} {n : Nat} : ∀ {as : List V_} {k : Nat}, hl_as ad k (hl_in as ++ List.replicate n none) = lv_args k (as.map (hv_c ad))
  | [], k => by simp [hl_in, lv_args, hl_as_none]
  | v :: r, k => by
    rw [hl_in, List.map_cons, lv_args, hv_cat_c]
    by_cases h : hv_cat v = 2
    · rw [if_pos h, if_pos h]
      show (k, hv_c ad v) :: hl_as ad (k + 1 + 1) (hl_in r ++ List.replicate n none) = _
      rw [hl_as_in]
    · rw [if_neg h, if_neg h]
      show (k, hv_c ad v) :: hl_as ad (k + 1) (hl_in r ++ List.replicate n none) = _
      rw [hl_as_in]
theorem hl_in_len {ad : Nat → Nat → Nat} : ∀ {as : List V_}, (lg_sl (as.map (hv_c ad))).length = (hl_in as).length
  | [] => rfl
  | v :: r => by
    have ih := @hl_in_len ad r
    unfold lg_sl at ih ⊢
    rw [List.map_cons, List.flatMap_cons, List.length_append, ih, hv_cat_c, hl_in]
    by_cases h : hv_cat v = 2
    · rw [if_pos h, if_pos h]; simp; omega
    · rw [if_neg h, if_neg h]; simp; omega
def hg_Ok (al : Bool) (y : MethodName) (d : Md_) (as : List V_) (M : Me_) (Q : Option V_ → Me_ → Prop) : Prop :=
  ∀ (l : Launch) (D : Hd_) (ad : Nat → Nat → Nat) (base : Nat), Met l y (Cond.code y (md_cc d) (md_nL d) (md_ret d) :: gtbl) (md_rm d) (va_Pc (as.map (hv_c ad)) (fun U => hm_K D U ∧ hm_R D ad base M U U.heap)) (hg_Q D base M.2.2.2 ad al Q) (md_mc d) (md_ms d) (fun q => base ≤ q)
theorem hg_intro {al : Bool} {y : MethodName} {d : Md_} {as : List V_} {M : Me_} {Q : Option V_ → Me_ → Prop} {ls : List (Option V_)} (hy : plainName y.cls = true) (hcls : y.cls = md_own d) (hnm : y.name = md_nm d) (hlen : (hl_in as).length ≤ md_nL d) (hls : hl_pad (md_nL d) (hl_in as) = ls)
    (kk : hg_G d al M.2.2.2 Q (md_mc d) (md_ms d) 0 ls [] M) : hg_Ok al y d as M Q := by
  subst hls
  intro l D ad base
  refine Met.ofW (cc := md_cc d) (maxL := md_nL d) (ret := md_ret d) hy rfl ?_
  intro p e s m args below meth c s₁ B hml hv
  obtain ⟨rfl, hK, hR⟩ := hv
  have hts0 := atoms_spec (ws := Cond.code y (md_cc d) (md_nL d) (md_ret d) :: gtbl) B.pre
  have hown : s.vm.findClass (md_own d) = some m.cls := by rw [← hcls]; exact findClass_of_methodNamed B.named
  have hin : meth.name = md_nm d := by rw [← hnm]; exact (name_of_methodNamed B.named B.method).1
  have hl := lv_entry (as.map (hv_c ad)) (n := md_nL d) (by rw [hl_in_len]; exact hlen)
  rw [lg_entry_eq]
  refine kk p l e _ s m _ below meth c D ad ad base s.heap [] 0 0 _ ⟨B.exec, B.bytes, B.returns, hml, hown, fun w hw => hts0 w (List.mem_cons_of_mem _ hw), B.notSynchronized, hin, Nat.le_refl _, Nat.le_refl _, Nat.le_refl _, Nat.le_refl _, hK⟩ ⟨hR, (fun q h => by cases h), by omega, by omega, fun _ _ _ _ => rfl, fun _ => rfl, ?_⟩
  unfold hl_pad
  rw [hl_as_in]
  exact hl
section HE
variable {d : Md_} {al : Bool} {sh0 : SH_} {Q : Option V_ → Me_ → Prop} {bc bs : Nat} {pc n : Nat} {ls : List (Option V_)} {st : List V_} {M : Me_}
theorem hg_ireturn {x : Int32} (hd : decode (md_cc d) pc = .ok (.ireturn, 1)) (hr : md_ret d = some .int) (h : Q (some (hv_i x)) M) : hg_G d al sh0 Q bc bs pc ls [hv_i x] M := by
  intro p l e R s m args below meth c D ad0 ad base H locs cells slots arr X Y
  refine W.widen (k := md_mc d) (n := md_ms d) (by have := Y.2.2.1; omega) (by have := Y.2.2.2.1; omega) ?_
  exact W.iret X.1 X.2.1 (X.2.2.1.trans hr) (fun t ht hW => ⟨some (hv_i x), M, ad, rfl, h, by rw [ht]; exact Y.1.moved hW.alike, Y.2.2.2.2.1, Y.2.2.2.2.2.1⟩) Y.2.1 hd X.2.2.2.2.2.2.1
theorem hg_zreturn {x : Int32} (hd : decode (md_cc d) pc = .ok (.ireturn, 1)) (hr : md_ret d = some .boolean) (hx : x = 0 ∨ x = 1) (h : Q (some (hv_i x)) M) : hg_G d al sh0 Q bc bs pc ls [hv_i x] M := by
  intro p l e R s m args below meth c D ad0 ad base H locs cells slots arr X Y
  refine W.widen (k := md_mc d) (n := md_ms d) (by have := Y.2.2.1; omega) (by have := Y.2.2.2.1; omega) ?_
  exact W.zret X.1 X.2.1 (X.2.2.1.trans hr) (nar_tz rfl hx).1 (fun t ht hW => ⟨some (hv_i x), M, ad, rfl, h, by rw [ht]; exact Y.1.moved hW.alike, Y.2.2.2.2.1, Y.2.2.2.2.2.1⟩) Y.2.1 hd X.2.2.2.2.2.2.1
theorem hg_lreturn {x : Int64} (hd : decode (md_cc d) pc = .ok (.lreturn, 1)) (hr : md_ret d = some .long) (h : Q (some (hv_l x)) M) : hg_G d al sh0 Q bc bs pc ls [hv_l x] M := by
  intro p l e R s m args below meth c D ad0 ad base H locs cells slots arr X Y
  refine W.widen (k := md_mc d) (n := md_ms d) (by have := Y.2.2.1; omega) (by have := Y.2.2.2.1; omega) ?_
  exact W.lret X.1 X.2.1 (X.2.2.1.trans hr) (fun t ht hW => ⟨some (hv_l x), M, ad, rfl, h, by rw [ht]; exact Y.1.moved hW.alike, Y.2.2.2.2.1, Y.2.2.2.2.2.1⟩) Y.2.1 hd X.2.2.2.2.2.2.1
theorem hg_areturn {r : Option (Nat × Nat)} {C : String} (hd : decode (md_cc d) pc = .ok (.areturn, 1)) (hr : md_ret d = some (.object C)) (h : Q (some (hv_r r)) M) : hg_G d al sh0 Q bc bs pc ls [hv_r r] M := by
  intro p l e R s m args below meth c D ad0 ad base H locs cells slots arr X Y
  refine W.widen (k := md_mc d) (n := md_ms d) (by have := Y.2.2.1; omega) (by have := Y.2.2.2.1; omega) ?_
  exact W.aret X.1 X.2.1 (X.2.2.1.trans hr) (Or.inl ⟨_, rfl⟩) (by cases r with | none => exact Or.inl rfl | some q => exact Or.inr ⟨_, rfl⟩) (fun t ht hW => ⟨some (hv_r r), M, ad, rfl, h, by rw [ht]; exact Y.1.moved hW.alike, Y.2.2.2.2.1, Y.2.2.2.2.2.1⟩) Y.2.1 hd X.2.2.2.2.2.2.1
theorem hg_return (hd : decode (md_cc d) pc = .ok (.return_, 1)) (hr : md_ret d = none) (h : Q none M) : hg_G d al sh0 Q bc bs pc ls [] M := by
  intro p l e R s m args below meth c D ad0 ad base H locs cells slots arr X Y
  refine W.widen (k := md_mc d) (n := md_ms d) (by have := Y.2.2.1; omega) (by have := Y.2.2.2.1; omega) ?_
  exact W.vret X.1 X.2.1 (X.2.2.1.trans hr) (fun t ht hW => ⟨none, M, ad, rfl, h, by rw [ht]; exact Y.1.moved hW.alike, Y.2.2.2.2.1, Y.2.2.2.2.2.1⟩) Y.2.1 hd X.2.2.2.2.2.2.1
/-- live references -/
def hv_lv (sh : SH_) (v : V_) : Prop := match v with
  | .inr (.inr (some q)) => ∃ n, sh q.1 q.2 = some n
  | _ => True
theorem hv_c_same {ad ad' : Nat → Nat → Nat} {sh : SH_} (h : ∀ k i n, sh k i = some n → ad' k i = ad k i) {v : V_} (hv : hv_lv sh v) : hv_c ad' v = hv_c ad v := by
  rcases v with x | x | (_ | q)
  · rfl
  · rfl
  · rfl
  · obtain ⟨n, hn⟩ := hv
    show Value.ref _ = Value.ref _
    rw [h _ _ _ hn]
theorem hl_as_same {ad ad' : Nat → Nat → Nat} {sh : SH_} (h : ∀ k i n, sh k i = some n → ad' k i = ad k i) : ∀ {ls : List (Option V_)} {k : Nat}, (∀ v, some v ∈ ls → hv_lv sh v) → hl_as ad' k ls = hl_as ad k ls
  | [], _, _ => rfl
  | none :: r, k, hv => by rw [hl_as, hl_as]; exact hl_as_same h (fun v hm => hv v (List.mem_cons_of_mem _ hm))
  | some w :: r, k, hv => by rw [hl_as, hl_as, hv_c_same h (hv w List.mem_cons_self), hl_as_same h (fun v hm => hv v (List.mem_cons_of_mem _ hm))]
theorem hv_cats (ad : Nat → Nat → Nat) (rest : List V_) : ((rest.map (hv_c ad)).map fun v => v.category).sum = (rest.map hv_cat).sum := by
  rw [List.map_map]
  exact congrArg List.sum (List.map_congr_left (fun v _ => hv_cat_c ad v))
theorem hm_K.call {D : Hd_} {U : State} {g : JFrame} {mk : MethodId} {a : Array Value} (h : hm_K D U) : hm_K D (U.calling g mk a) := hm_K.warm (U := U.calling g mk a) (State.WarmedH.refl U) h
theorem hg_blind {D : Hd_} {ad : Nat → Nat → Nat} {base : Nat} {M : Me_} {av : List Value} : FrameBlind (va_Pc av (fun U => hm_K D U ∧ hm_R D ad base M U U.heap)) := by
  intro a U g mk q
  obtain ⟨q0, q1, q2⟩ := q
  exact ⟨q0, q1.call, q2.moved (U := U.calling g mk a) (Vm.Alike.refl U.vm)⟩
/-- behind a call -/
theorem hg_after {dy : Md_} {al' : Bool} {rest : List V_} {Q' : Option V_ → Me_ → Prop} {as : Array Value} (hn : pc + 3 = n) (hal : al' = true → al = true ∧ (∀ v ∈ rest, hv_lv M.2.2.2 v) ∧ (∀ v, some v ∈ ls → hv_lv M.2.2.2 v) ∧ ∀ k i n, sh0 k i = some n → ∃ n', M.2.2.2 k i = some n')
    (hb : md_mc dy ≤ bc ∧ md_ms dy ≤ bs) (kk : ∀ v M', Q' v M' → hg_G d al sh0 Q (bc - md_mc dy) (bs - md_ms dy) n ls (v.toList ++ rest) M')
    {p : Program} {l : Launch} {e : Env} {R : Room} {s : State} {m : MethodId} {args : Array Value} {below : List Frame} {meth : Method} {c : Code} {D : Hd_} {ad0 ad : Nat → Nat → Nat} {base : Nat} {H : Heap} {locs : List Loc} {cells slots : Nat} {arr : Array Slot} {stk : List Value}
    (X : hg_X d p R s m args meth c D) (Y : hg_Y d al sh0 bc bs ls M s D ad0 ad base H locs cells slots arr)
    (hr : va_Run p l e R s m args below meth c H locs cells slots (md_mc dy) (md_ms dy) (F0 m pc arr stk) (rest.map (hv_c ad)) (hg_Q D base M.2.2.2 ad al' Q' as) (fun q => base ≤ q)) :
    W p l e R s m args below meth c H locs cells slots (MQ below (hg_Q D base sh0 ad0 al Q) args s (md_mc d) (md_ms d) (fun q => base ≤ q)) (F0 m pc arr stk) := by
  subst hn
  intro T hT X0
  obtain ⟨v, st₀, t, T', L, h0, X', hL, e1, e2, ⟨v', M', ad', hv, hq, hR', hext, hsame⟩, st⟩ := hr T hT X0
  cases hv
  have hR2 : hm_R D ad' base M' s T'.heap := by
    rw [e1]
    exact hR'.moved (by rw [← e2]; exact X'.warmed.alike.symm)
  have key : rest.map (hv_c ad') = rest.map (hv_c ad) ∧ hl_as ad' 0 ls = hl_as ad 0 ls ∧ (∀ k i n, sh0 k i = some n → ad' k i = ad0 k i) ∧ (al = false → ad' = ad0) := by
    cases hz : al' with
    | false =>
      have := hsame hz
      subst this
      exact ⟨rfl, rfl, Y.2.2.2.2.1, Y.2.2.2.2.2.1⟩
    | true =>
      obtain ⟨h1, h2, h3, h4⟩ := hal hz
      refine ⟨List.map_congr_left (fun w hw => hv_c_same hext (h2 w hw)), hl_as_same hext h3, fun k i n hn => ?_, fun h => by rw [h1] at h; cases h⟩
      obtain ⟨n', hn'⟩ := h4 k i n hn
      rw [hext k i n' hn']
      exact Y.2.2.2.2.1 k i n hn
  obtain ⟨k1, k2, k3, k4⟩ := key
  obtain ⟨t2, a1, b1⟩ := kk v' M' hq p l e R s m args below meth c D ad0 ad' base T'.heap (locs ++ L) (cells + md_mc dy) (slots + md_ms dy) arr X ⟨hR2, fun q hq => by
      rcases List.mem_append.mp hq with h | h
      · exact Y.2.1 q h
      · exact hL q h, by have := Y.2.2.1; omega, by have := Y.2.2.2.1; omega, k3, k4, by rw [k2]; exact Y.2.2.2.2.2.2⟩ T' rfl X'
  refine ⟨t2, st t2 ?_, b1⟩
  have e3 : (v'.toList ++ rest).map (hv_c ad') = (v'.map (hv_c ad')).toList ++ rest.map (hv_c ad) := by
    rw [List.map_append, k1]
    cases v' <;> rfl
  rw [e3] at a1
  exact a1
end HE
end
section
/-! the calls -/
section HC
variable {d : Md_} {al : Bool} {sh0 : SH_} {Q : Option V_ → Me_ → Prop} {bc bs : Nat} {pc n : Nat} {ls : List (Option V_)} {rest : List V_} {M : Me_}
/-- what every call of y needs of the tables -/
def hy_L (y : MethodName) (dy : Md_) (na : Nat) : Prop := Cond.code y (md_cc dy) (md_nL dy) (md_ret dy) ∈ gtbl ∧ Cond.initialized y.cls ∈ gtbl ∧ (y.cls ≠ "java/lang/invoke/MethodHandle" ∧ y.cls ≠ "java/lang/invoke/VarHandle" ∧ (parseMethodDescriptor y.desc).map (fun d => d.parameters.length) = some na)
/-- an instance method of the class number c -/
def hy_V (y : MethodName) (c : Nat) : Prop := ∃ (C : String) (T : u_T) (N : Nat), hc_C c C T N ∧ Cond.instanceMethod y ∈ gtbl ∧ Cond.selects C y y ∈ gtbl
abbrev hg_rm (d dy : Md_) : Prop := md_fr dy + 1 ≤ md_fr d ∧ 8 + (md_nL dy + 11) + md_lo dy ≤ md_lo d
abbrev hg_al (al al' : Bool) (sh0 : SH_) (M : Me_) (rest : List V_) (ls : List (Option V_)) : Prop := al' = true → al = true ∧ (∀ v ∈ rest, hv_lv M.2.2.2 v) ∧ (∀ v, some v ∈ ls → hv_lv M.2.2.2 v) ∧ ∀ k i n, sh0 k i = some n → ∃ n', M.2.2.2 k i = some n'
theorem hg_callB {own : String} {idx na : Nat} {y : MethodName} {dy : Md_} {R : Room} {s : State} {args : Array Value} (hts : ∀ w ∈ gtbl, w.before args s = true) (hL : hy_L y dy na) (hl : Cond.methodLink own idx y ∈ gtbl) (hR : md_fr dy + 1 ≤ R.frames ∧ 8 + (md_nL dy + 11) + md_lo dy ≤ R.locals) : CallB R s args own idx y (md_cc dy) (md_nL dy) (md_ret dy) (Cond.code y (md_cc dy) (md_nL dy) (md_ret dy) :: gtbl) (md_rm dy) (md_mc dy) (md_ms dy) na :=
  callB_of na hts (gtbl_good hL.1) rfl rfl rfl (hts _ hL.2.1) (hts _ hl) hL.2.2 hR
theorem hg_callV {y : MethodName} {dy : Md_} {al' : Bool} {as : List V_} {k i len c idx na : Nat} {Q' : Option V_ → Me_ → Prop} {stk : List V_} (hd : decode (md_cc d) pc = .ok (.invokevirtual idx, 3)) (hn : pc + 3 = n) (hl : Cond.methodLink (md_own d) idx y ∈ gtbl) (hL : hy_L y dy na) (hV : hy_V y c) (hk : kd_ k = .inl c) (hs : M.2.2.2 k i = some len) (hrm : hg_rm d dy) (hc8 : (rest.map hv_cat).sum ≤ 8) (hb : md_mc dy ≤ bc ∧ md_ms dy ≤ bs) (hal : hg_al al al' sh0 M rest ls) (hlen : as.length = na) (hstk : stk = as.reverse ++ hv_r (some (k, i)) :: rest)
    (hOk : hg_Ok al' y dy (hv_r (some (k, i)) :: as) M Q') (kk : ∀ v M', Q' v M' → hg_G d al sh0 Q (bc - md_mc dy) (bs - md_ms dy) n ls (v.toList ++ rest) M') : hg_G d al sh0 Q bc bs pc ls stk M := by
  subst hstk
  intro p l e R s m args below meth cd D ad0 ad base H locs cells slots arr X Y
  have hts := X.2.2.2.2.2.1
  obtain ⟨C, T, N, hC, hin, hsel⟩ := hV
  have hK : va_K (D.1, D.2.1) vwCl (tys_ D) s := X.2.2.2.2.2.2.2.2.2.2.2.2.1
  obtain ⟨cell, q1, q2, q3, -⟩ := hm_obj (Y.1.1 k i len hs) hk
  have hX9 := X.2.2.2.2.2.2.2.2
  refine hg_after (dy := dy) hn hal hb kk X Y (va_runV (As := as.map (hv_c ad)) (C := C) (b := ad k i) ⟨X.1, X.2.1, X.2.2.2.1, X.2.2.2.2.1, hts⟩ (hOk l D ad base) ⟨hg_callB hts hL hl ⟨Nat.le_trans hrm.1 hX9.1, Nat.le_trans hrm.2 hX9.2.1⟩, hts _ hin, hts _ hsel⟩ ⟨hg_blind, ⟨cell, q1, by rw [q3]; rfl, by rw [q2]; exact (hK.1 c _ hC.1).2.1⟩, fun U hU hW => ⟨rfl, hm_K.warm hW hX9.2.2.2.2, by rw [hU]; exact Y.1.moved hW.alike⟩⟩ rfl (by rw [List.length_map]; exact hlen) Y.2.2.2.2.2.2.1 ?_ ?_ hd ⟨by have := hX9.2.2.1; have := Y.2.2.1; omega, by have := hX9.2.2.2.1; have := Y.2.2.2.1; omega⟩)
  · show (as.reverse ++ hv_r (some (k, i)) :: rest).map (hv_c ad) = (as.map (hv_c ad)).reverse ++ Value.ref (ad k i) :: rest.map (hv_c ad)
    rw [List.map_append, List.map_reverse]
    rfl
  · exact lv_room (by rw [hv_cats]; exact hc8)
theorem hg_callS {y : MethodName} {dy : Md_} {al' : Bool} {as : List V_} {idx na : Nat} {Q' : Option V_ → Me_ → Prop} {stk : List V_} (hd : decode (md_cc d) pc = .ok (.invokestatic idx, 3)) (hn : pc + 3 = n) (hl : Cond.methodLink (md_own d) idx y ∈ gtbl) (hL : hy_L y dy na) (hV : Cond.static y ∈ gtbl) (hrm : hg_rm d dy) (hc8 : (rest.map hv_cat).sum ≤ 8) (hb : md_mc dy ≤ bc ∧ md_ms dy ≤ bs) (hal : hg_al al al' sh0 M rest ls) (hlen : as.length = na) (hstk : stk = as.reverse ++ rest)
    (hOk : hg_Ok al' y dy as M Q') (kk : ∀ v M', Q' v M' → hg_G d al sh0 Q (bc - md_mc dy) (bs - md_ms dy) n ls (v.toList ++ rest) M') : hg_G d al sh0 Q bc bs pc ls stk M := by
  subst hstk
  intro p l e R s m args below meth cd D ad0 ad base H locs cells slots arr X Y
  have hts := X.2.2.2.2.2.1
  have hX9 := X.2.2.2.2.2.2.2.2
  refine hg_after (dy := dy) hn hal hb kk X Y (va_runS (As := as.map (hv_c ad)) ⟨X.1, X.2.1, X.2.2.2.1, X.2.2.2.2.1, hts⟩ (hOk l D ad base) ⟨hg_callB hts hL hl ⟨Nat.le_trans hrm.1 hX9.1, Nat.le_trans hrm.2 hX9.2.1⟩, hts _ hV⟩ ⟨hg_blind, fun U hU hW => ⟨rfl, hm_K.warm hW hX9.2.2.2.2, by rw [hU]; exact Y.1.moved hW.alike⟩⟩ rfl (by rw [List.length_map]; exact hlen) Y.2.2.2.2.2.2.1 ?_ ?_ hd ⟨by have := hX9.2.2.1; have := Y.2.2.1; omega, by have := hX9.2.2.2.1; have := Y.2.2.2.1; omega⟩)
  · show (as.reverse ++ rest).map (hv_c ad) = (as.map (hv_c ad)).reverse ++ rest.map (hv_c ad)
    rw [List.map_append, List.map_reverse]
  · exact lv_room (by rw [hv_cats]; exact hc8)
theorem hg_callSN {y : MethodName} {dy : Md_} {al' : Bool} {as : List V_} {idx na : Nat} {Q' : Option V_ → Me_ → Prop} {stk : List V_} {host : String} (hd : decode (md_cc d) pc = .ok (.invokestatic idx, 3)) (hn : pc + 3 = n) (hl : ∀ D U, hm_K D U → va_Nw (.methodLinkNest (md_own d) idx y host) U) (hL : hy_L y dy na) (hV : Cond.static y ∈ gtbl) (hrm : hg_rm d dy) (hc8 : (rest.map hv_cat).sum ≤ 8) (hb : md_mc dy ≤ bc ∧ md_ms dy ≤ bs) (hal : hg_al al al' sh0 M rest ls) (hlen : as.length = na) (hstk : stk = as.reverse ++ rest)
    (hOk : hg_Ok al' y dy as M Q') (kk : ∀ v M', Q' v M' → hg_G d al sh0 Q (bc - md_mc dy) (bs - md_ms dy) n ls (v.toList ++ rest) M') : hg_G d al sh0 Q bc bs pc ls stk M := by
  subst hstk
  intro p l e R s m args below meth cd D ad0 ad base H locs cells slots arr X Y
  have hts := X.2.2.2.2.2.1
  have hX9 := X.2.2.2.2.2.2.2.2
  refine hg_after (dy := dy) hn hal hb kk X Y (va_runSN (As := as.map (hv_c ad)) ⟨X.1, X.2.1, X.2.2.2.1, X.2.2.2.2.1, hts⟩ (hOk l D ad base) ⟨va_cnB na hts (gtbl_good hL.1) rfl rfl rfl (hl D s hX9.2.2.2.2) (hts _ hL.2.1) hL.2.2 ⟨Nat.le_trans hrm.1 hX9.1, Nat.le_trans hrm.2 hX9.2.1⟩, hts _ hV, trivial⟩ ⟨hg_blind, fun U hU hW => ⟨rfl, hm_K.warm hW hX9.2.2.2.2, by rw [hU]; exact Y.1.moved hW.alike⟩⟩ rfl (by rw [List.length_map]; exact hlen) Y.2.2.2.2.2.2.1 ?_ ?_ hd ⟨by have := hX9.2.2.1; have := Y.2.2.1; omega, by have := hX9.2.2.2.1; have := Y.2.2.2.1; omega⟩)
  · show (as.reverse ++ rest).map (hv_c ad) = (as.map (hv_c ad)).reverse ++ rest.map (hv_c ad)
    rw [List.map_append, List.map_reverse]
  · exact lv_room (by rw [hv_cats]; exact hc8)
theorem hg_callI {y : MethodName} {dy : Md_} {al' : Bool} {as : List V_} {k i idx na : Nat} {Q' : Option V_ → Me_ → Prop} {stk : List V_} (hd : decode (md_cc d) pc = .ok (.invokespecial idx, 3)) (hn : pc + 3 = n) (hl : Cond.methodLink (md_own d) idx y ∈ gtbl) (hL : hy_L y dy na) (hy1 : y.name = "<init>") (hret : md_ret dy = none) (hV : Cond.instanceMethod y ∈ gtbl) (hrm : hg_rm d dy) (hc8 : (rest.map hv_cat).sum ≤ 8) (hb : md_mc dy ≤ bc ∧ md_ms dy ≤ bs) (hal : hg_al al al' sh0 M rest ls) (hlen : as.length = na) (hstk : stk = as.reverse ++ hv_r (some (k, i)) :: rest)
    (hOk : hg_Ok al' y dy (hv_r (some (k, i)) :: as) M Q') (kk : ∀ v M', Q' v M' → hg_G d al sh0 Q (bc - md_mc dy) (bs - md_ms dy) n ls (v.toList ++ rest) M') : hg_G d al sh0 Q bc bs pc ls stk M := by
  subst hstk
  intro p l e R s m args below meth cd D ad0 ad base H locs cells slots arr X Y
  have hts := X.2.2.2.2.2.1
  have hX9 := X.2.2.2.2.2.2.2.2
  have hCB := hg_callB (R := R) hts hL hl ⟨Nat.le_trans hrm.1 hX9.1, Nat.le_trans hrm.2 hX9.2.1⟩
  have hM := hOk l D ad base
  rw [hret] at hCB hM
  refine hg_after (dy := dy) hn hal hb kk X Y (va_runI (As := as.map (hv_c ad)) (b := ad k i) ⟨X.1, X.2.1, X.2.2.2.1, X.2.2.2.2.1, hts⟩ hM ⟨hCB, hy1, hts _ hV⟩ ⟨hg_blind, fun U hU hW => ⟨rfl, hm_K.warm hW hX9.2.2.2.2, by rw [hU]; exact Y.1.moved hW.alike⟩⟩ rfl (by rw [List.length_map]; exact hlen) Y.2.2.2.2.2.2.1 ?_ ?_ hd ⟨by have := hX9.2.2.1; have := Y.2.2.1; omega, by have := hX9.2.2.2.1; have := Y.2.2.2.1; omega⟩)
  · show (as.reverse ++ hv_r (some (k, i)) :: rest).map (hv_c ad) = (as.map (hv_c ad)).reverse ++ Value.ref (ad k i) :: rest.map (hv_c ad)
    rw [List.map_append, List.map_reverse]
    rfl
  · exact lv_room (by rw [hv_cats]; exact hc8)
theorem hg_callIN {y : MethodName} {dy : Md_} {al' : Bool} {as : List V_} {k i idx na : Nat} {Q' : Option V_ → Me_ → Prop} {stk : List V_} {host : String} (hd : decode (md_cc d) pc = .ok (.invokespecial idx, 3)) (hn : pc + 3 = n) (hl : ∀ D U, hm_K D U → va_Nw (.methodLinkNest (md_own d) idx y host) U) (hL : hy_L y dy na) (hy1 : y.name = "<init>") (hret : md_ret dy = none) (hV : Cond.instanceMethod y ∈ gtbl) (hrm : hg_rm d dy) (hc8 : (rest.map hv_cat).sum ≤ 8) (hb : md_mc dy ≤ bc ∧ md_ms dy ≤ bs) (hal : hg_al al al' sh0 M rest ls) (hlen : as.length = na) (hstk : stk = as.reverse ++ hv_r (some (k, i)) :: rest)
    (hOk : hg_Ok al' y dy (hv_r (some (k, i)) :: as) M Q') (kk : ∀ v M', Q' v M' → hg_G d al sh0 Q (bc - md_mc dy) (bs - md_ms dy) n ls (v.toList ++ rest) M') : hg_G d al sh0 Q bc bs pc ls stk M := by
  subst hstk
  intro p l e R s m args below meth cd D ad0 ad base H locs cells slots arr X Y
  have hts := X.2.2.2.2.2.1
  have hX9 := X.2.2.2.2.2.2.2.2
  have hCB := va_cnB (R := R) na hts (gtbl_good hL.1) rfl (rm := md_rm dy) rfl rfl (hl D s hX9.2.2.2.2) (hts _ hL.2.1) hL.2.2 ⟨Nat.le_trans hrm.1 hX9.1, Nat.le_trans hrm.2 hX9.2.1⟩
  have hM := hOk l D ad base
  rw [hret] at hCB hM
  refine hg_after (dy := dy) hn hal hb kk X Y (va_runIN (As := as.map (hv_c ad)) (b := ad k i) ⟨X.1, X.2.1, X.2.2.2.1, X.2.2.2.2.1, hts⟩ hM ⟨hCB, hy1, hts _ hV⟩ ⟨hg_blind, fun U hU hW => ⟨rfl, hm_K.warm hW hX9.2.2.2.2, by rw [hU]; exact Y.1.moved hW.alike⟩⟩ rfl (by rw [List.length_map]; exact hlen) Y.2.2.2.2.2.2.1 ?_ ?_ hd ⟨by have := hX9.2.2.1; have := Y.2.2.1; omega, by have := hX9.2.2.2.1; have := Y.2.2.2.1; omega⟩)
  · show (as.reverse ++ hv_r (some (k, i)) :: rest).map (hv_c ad) = (as.map (hv_c ad)).reverse ++ Value.ref (ad k i) :: rest.map (hv_c ad)
    rw [List.map_append, List.map_reverse]
    rfl
  · exact lv_room (by rw [hv_cats]; exact hc8)
variable {st : List V_}
theorem hg_objInit {k i idx : Nat} (hd : decode (md_cc d) pc = .ok (.invokespecial idx, 3)) (hn : pc + 3 = n) (hl : Cond.methodLink (md_own d) idx objectInit ∈ gtbl) (hi : Cond.instanceMethod objectInit ∈ gtbl) (hc : Cond.code objectInit ⟨#[0xb1]⟩ 1 none ∈ gtbl) (hf : 1 ≤ md_fr d) (hlo : (st.map hv_cat).sum + 12 ≤ md_lo d) (kk : hg_G d al sh0 Q bc bs n ls st M) : hg_G d al sh0 Q bc bs pc ls (hv_r (some (k, i)) :: st) M := by
  subst hn
  refine hg_pure (fun p l e R s m args below meth c D ad base H locs cells slots arr Qf X hR hq _ _ kk => ?_) kk
  have hts := X.2.2.2.2.2.1
  have hX9 := X.2.2.2.2.2.2.2.2
  refine W.objInit X.1 X.2.1 X.2.2.2.2.1 (hts _ hl) (hts _ hi) (hts _ hc) rfl (by rw [X.2.2.2.1]; exact hq.1) rfl hd (Nat.le_trans hf hX9.1) ?_ kk
  show 2 * 0 + _ + 12 ≤ _
  rw [hv_cats]
  have := hX9.2.1
  omega
theorem hg_min {x y : Int32} {idx : Nat} (hd : decode (md_cc d) pc = .ok (.invokestatic idx, 3)) (hn : pc + 3 = n) (hl : Cond.methodLink (md_own d) idx Lib.Math.min.name ∈ gtbl) (hs : Cond.static Lib.Math.min.name ∈ gtbl) (hi : Cond.initialized "java/lang/Math" ∈ gtbl) (hc : Cond.code Lib.Math.min.name Lib.Math.min.code 2 (some .int) ∈ gtbl) (hf : 1 ≤ md_fr d) (hlo : (st.map hv_cat).sum + 13 ≤ md_lo d) (kk : hg_G d al sh0 Q bc bs n ls (hv_i (if y < x then y else x) :: st) M) : hg_G d al sh0 Q bc bs pc ls (hv_i y :: hv_i x :: st) M := by
  subst hn
  refine hg_pure (fun p l e R s m args below meth c D ad base H locs cells slots arr Qf X hR hq hc1 hc2 kk => ?_) kk
  have hts := X.2.2.2.2.2.1
  have hX9 := X.2.2.2.2.2.2.2.2
  exact va_mmin X.1 X.2.1 (by rw [X.2.2.2.1]; exact hq.1.symm) X.2.2.2.2.1 (hts _ hl) (hts _ hs) (hts _ hi) (hts _ hc) (Nat.le_trans hf hX9.1) (by rw [hv_cats]; have := hX9.2.1; omega) hc1 hc2 hd kk
theorem hg_max {x y : Int32} {idx : Nat} (hd : decode (md_cc d) pc = .ok (.invokestatic idx, 3)) (hn : pc + 3 = n) (hl : Cond.methodLink (md_own d) idx Lib.Math.max.name ∈ gtbl) (hs : Cond.static Lib.Math.max.name ∈ gtbl) (hi : Cond.initialized "java/lang/Math" ∈ gtbl) (hc : Cond.code Lib.Math.max.name Lib.Math.max.code 2 (some .int) ∈ gtbl) (hf : 1 ≤ md_fr d) (hlo : (st.map hv_cat).sum + 13 ≤ md_lo d) (kk : hg_G d al sh0 Q bc bs n ls (hv_i (if x < y then y else x) :: st) M) : hg_G d al sh0 Q bc bs pc ls (hv_i y :: hv_i x :: st) M := by
  subst hn
  refine hg_pure (fun p l e R s m args below meth c D ad base H locs cells slots arr Qf X hR hq hc1 hc2 kk => ?_) kk
  have hts := X.2.2.2.2.2.1
  have hX9 := X.2.2.2.2.2.2.2.2
  exact va_mmax X.1 X.2.1 (by rw [X.2.2.2.1]; exact hq.1.symm) X.2.2.2.2.1 (hts _ hl) (hts _ hs) (hts _ hi) (hts _ hc) (Nat.le_trans hf hX9.1) (by rw [hv_cats]; have := hX9.2.1; omega) hc1 hc2 hd kk
end HC
end
section
/-! new cells -/
theorem hm_at.addr {D : Hd_} {ad : Nat → Nat → Nat} {M : Me_} {U : State} {H : Heap} {k i n : Nat} (h : hm_at D ad M U H k i n) : ad k i < H.size := by
  unfold hm_at at h
  by_cases hk : k = 0
  · rw [if_pos hk] at h
    obtain ⟨scr, h1, -⟩ := h
    exact (Array.getElem?_eq_some_iff.mp h1).1
  · rw [if_neg hk] at h
    split at h
    · obtain ⟨cell, h1, -⟩ := h
      exact (Array.getElem?_eq_some_iff.mp h1).1
    · exact (Array.getElem?_eq_some_iff.mp h).1
theorem hm_v_ad {ad ad' : Nat → Nat → Nat} {ty : FieldType} {M M' : Me_} {k i f : Nat} (h : M'.1 k i f = M.1 k i f ∧ M'.2.1 k i f = M.2.1 k i f ∧ M'.2.2.1 k i f = M.2.2.1 k i f) (hv : hv_c ad' (hv_r (M.2.2.1 k i f)) = hv_c ad (hv_r (M.2.2.1 k i f))) : hm_v ad' ty M' k i f = hm_v ad ty M k i f := by
  unfold hm_v
  split
  · rw [h.1]
  · rw [h.2.1]
  · rw [h.2.2]; exact hv
abbrev hm_new (mi : MI_) (ml : ML_) (mr : MR_) (sh : SH_) (k i n : Nat) : Me_ := (u_n mi k i 0, u_n ml k i 0, u_n mr k i none, u_2 sh k i (some n))
theorem hm_R.grow {D : Hd_} {ad : Nat → Nat → Nat} {base : Nat} {mi : MI_} {ml : ML_} {mr : MR_} {sh : SH_} {U : State} {H H' : Heap} {k i n0 : Nat} (h : hm_R D ad base (mi, ml, mr, sh) U H) (h0 : k ≠ 0) (hs : sh k i = none) (hz : H'.size = H.size + 1) (hq : ∀ q : Nat, q < H.size → H'[q]? = H[q]?) (ha : hm_at D (u_2 ad k i H.size) (hm_new mi ml mr sh k i n0) U H' k i n0) :
    hm_R D (u_2 ad k i H.size) base (hm_new mi ml mr sh k i n0) U H' ∧ ∀ k' i' n, sh k' i' = some n → u_2 ad k i H.size k' i' = ad k' i' := by
  obtain ⟨h1, h2, h3, h4, h5⟩ := h
  have hne : ∀ {k' i' n'}, sh k' i' = some n' → ¬ (k' = k ∧ i' = i) := by
    rintro k' i' n' hl ⟨rfl, rfl⟩
    rw [hs] at hl
    cases hl
  have had : ∀ {k' i' n'}, sh k' i' = some n' → u_2 ad k i H.size k' i' = ad k' i' := fun hl => by simp only [u_2, if_neg (hne hl)]
  have hlive : ∀ {k' i' n'}, u_2 sh k i (some n0) k' i' = some n' → (k' = k ∧ i' = i ∧ n' = n0) ∨ (sh k' i' = some n' ∧ ¬ (k' = k ∧ i' = i)) := by
    intro k' i' n' hl
    by_cases e : k' = k ∧ i' = i
    · simp only [u_2, if_pos e] at hl
      cases hl
      exact Or.inl ⟨e.1, e.2, rfl⟩
    · simp only [u_2, if_neg e] at hl
      exact Or.inr ⟨hl, e⟩
  refine ⟨⟨fun k' i' n hn => ?_, fun k1 i1 k2 i2 n1 n2 l1 l2 e => ?_, fun k' i' n hn hk' => ?_, by omega, fun k' i' f n q hn hr => ?_⟩, fun _ _ _ hl => had hl⟩
  · rcases hlive hn with ⟨rfl, rfl, rfl⟩ | ⟨hl, e⟩
    · exact ha
    · have hold := h1 k' i' n hl
      have hlt := hold.addr
      have hm : ∀ f, (hm_new mi ml mr sh k i n0).1 k' i' f = mi k' i' f ∧ (hm_new mi ml mr sh k i n0).2.1 k' i' f = ml k' i' f ∧ (hm_new mi ml mr sh k i n0).2.2.1 k' i' f = mr k' i' f := fun f => ⟨by simp only [u_n, if_neg e], by simp only [u_n, if_neg e], by simp only [u_n, if_neg e]⟩
      have hv : ∀ f, hv_c (u_2 ad k i H.size) (hv_r (mr k' i' f)) = hv_c ad (hv_r (mr k' i' f)) := by
        intro f
        cases hr : mr k' i' f with
        | none => rfl
        | some q =>
          obtain ⟨n', hn'⟩ := h5 k' i' f n q hl hr
          show Value.ref _ = Value.ref _
          rw [had hn']
      have ea := had hl
      unfold hm_at at hold ⊢
      by_cases hk : k' = 0
      · rw [if_pos hk] at hold ⊢
        obtain ⟨scr, g1, g2, g3, g4, g5⟩ := hold
        exact ⟨scr, by rw [ea, hq _ hlt]; exact g1, g2, g3, g4, fun j hj => by rw [g5 j hj, (hm j).1]⟩
      · rw [if_neg hk] at hold ⊢
        split
        · rename_i c hc
          rw [hc] at hold
          rw [ea]
          exact (t_OB.kept hold (hq _ hlt)).toV (fun f => (hm_v_ad (hm f) (hv f)).symm)
        · rename_i a hc
          rw [hc] at hold
          rw [ea, hq _ hlt, hold]
          exact congrArg some (arrV_to (fun f => (hm_v_ad (hm f) (hv f)).symm))
  · rcases hlive l1 with ⟨rfl, rfl, rfl⟩ | ⟨a1, e1⟩ <;> rcases hlive l2 with ⟨rfl, rfl, rfl⟩ | ⟨a2, e2⟩
    · exact ⟨rfl, rfl⟩
    · have := (h1 _ _ _ a2).addr
      rw [had a2] at e
      simp only [u_2, and_self, if_true] at e
      omega
    · have := (h1 _ _ _ a1).addr
      rw [had a1] at e
      simp only [u_2, and_self, if_true] at e
      omega
    · rw [had a1, had a2] at e
      exact h2 _ _ _ _ _ _ a1 a2 e
  · rcases hlive hn with ⟨rfl, rfl, rfl⟩ | ⟨hl, e⟩
    · simp only [u_2, and_self, if_true]
      exact h4
    · rw [had hl]
      exact h3 _ _ _ hl hk'
  · rcases hlive hn with ⟨rfl, rfl, rfl⟩ | ⟨hl, e⟩
    · simp [u_n] at hr
    · simp only [u_n, if_neg e] at hr
      obtain ⟨n', hn'⟩ := h5 k' i' f n q hl hr
      exact ⟨n', by simp only [u_2, if_neg (hne hn')]; exact hn'⟩
theorem def_sort {ty : FieldType} (h : ty ≠ .float ∧ ty ≠ .double) {ad : Nat → Nat → Nat} {mi : MI_} {ml : ML_} {mr : MR_} {sh : SH_} {k i n f : Nat} : defaultValue ty = hm_v ad ty (hm_new mi ml mr sh k i n) k i f := by
  cases ty <;> first | exact absurd rfl h.1 | exact absurd rfl h.2 | simp [hm_v, sort_, defaultValue, u_n, hv_c]
section HN
variable {d : Md_} {al : Bool} {sh0 : SH_} {Q : Option V_ → Me_ → Prop} {bc bs : Nat} {pc n : Nat} {ls : List (Option V_)} {st : List V_} {mi : MI_} {ml : ML_} {mr : MR_} {sh : SH_}
/-- what a maker of cells needs: the id is free, what it holds lives -/
abbrev hg_fr (al : Bool) (sh0 sh : SH_) (k i : Nat) (ls : List (Option V_)) (st : List V_) : Prop := al = true ∧ k ≠ 0 ∧ sh k i = none ∧ sh0 k i = none ∧ (∀ v ∈ st, hv_lv sh v) ∧ (∀ v, some v ∈ ls → hv_lv sh v)
theorem hg_grown {k i n0 : Nat} (hf : hg_fr al sh0 sh k i ls st) (hb : 1 ≤ bc ∧ n0 ≤ bs) (kk : hg_G d al sh0 Q (bc - 1) (bs - n0) n ls (hv_r (some (k, i)) :: st) (hm_new mi ml mr sh k i n0))
    {p : Program} {l : Launch} {e : Env} {R : Room} {s : State} {m : MethodId} {args : Array Value} {below : List Frame} {meth : Method} {c : Code} {D : Hd_} {ad0 ad : Nat → Nat → Nat} {base : Nat} {H H' : Heap} {locs : List Loc} {cells slots : Nat} {arr : Array Slot}
    (X : hg_X d p R s m args meth c D) (Y : hg_Y d al sh0 bc bs ls (mi, ml, mr, sh) s D ad0 ad base H locs cells slots arr) (hz : H'.size = H.size + 1) (hq : ∀ q : Nat, q < H.size → H'[q]? = H[q]?) (ha : hm_at D (u_2 ad k i H.size) (hm_new mi ml mr sh k i n0) s H' k i n0) :
    W p l e R s m args below meth c H' locs (cells + 1) (slots + n0) (MQ below (hg_Q D base sh0 ad0 al Q) args s (md_mc d) (md_ms d) (fun q => base ≤ q)) (F0 m n arr (.ref H.size :: st.map (hv_c ad))) := by
  obtain ⟨f1, f2, f3, f4, f5, f6⟩ := hf
  obtain ⟨hR, hsame⟩ := Y.1.grow f2 f3 hz hq ha
  have e1 : (hv_r (some (k, i)) :: st).map (hv_c (u_2 ad k i H.size)) = .ref H.size :: st.map (hv_c ad) := by
    rw [List.map_cons, List.map_congr_left (fun v hv => hv_c_same hsame (f5 v hv))]
    simp [hv_c, u_2]
  have h := kk p l e R s m args below meth c D ad0 (u_2 ad k i H.size) base H' locs (cells + 1) (slots + n0) arr X ⟨hR, Y.2.1, by have := Y.2.2.1; omega, by have := Y.2.2.2.1; omega, fun k' i' n hn => ?_, (fun h => by rw [f1] at h; cases h), by rw [hl_as_same hsame f6]; exact Y.2.2.2.2.2.2⟩
  · rw [e1] at h
    exact h
  · have : ¬ (k' = k ∧ i' = i) := by
      rintro ⟨rfl, rfl⟩
      rw [f4] at hn
      cases hn
    simp only [u_2, if_neg this]
    exact Y.2.2.2.2.1 k' i' n hn
theorem hg_new {k i c idx : Nat} {C : String} {T : u_T} {N : Nat} (hd : decode (md_cc d) pc = .ok (.new idx, 3)) (hn : pc + 3 = n) (hw : Cond.classLink (md_own d) idx C ∈ gtbl) (hC : hc_C c C T N) (hnf : ∀ f, f < N → ft_ c f ≠ .float ∧ ft_ c f ≠ .double) (hk : kd_ k = .inl c) (hf : hg_fr al sh0 sh k i ls st) (hb : 1 ≤ bc ∧ N ≤ bs)
    (kk : hg_G d al sh0 Q (bc - 1) (bs - N) n ls (hv_r (some (k, i)) :: st) (hm_new mi ml mr sh k i N)) : hg_G d al sh0 Q bc bs pc ls st (mi, ml, mr, sh) := by
  subst hn
  intro p l e R s m args below meth cd D ad0 ad base H locs cells slots arr X Y
  have hts := X.2.2.2.2.2.1
  have hX9 := X.2.2.2.2.2.2.2.2
  have hK : va_K (D.1, D.2.1) vwCl (tys_ D) s := X.2.2.2.2.2.2.2.2.2.2.2.2.1
  obtain ⟨hc, hin, hty, hnm, hins, hini⟩ := hC
  have hKn := hK.1 c _ hc
  refine W.newcK X.1 X.2.1 X.2.2.2.2.1 (hts _ hw) (hts _ hins) (hts _ hini) rfl hd (by have := hX9.2.2.1; have := Y.2.2.1; omega) (by have := hX9.2.2.2.1; have := Y.2.2.2.1; omega) hKn.2.1 rfl fun H1 kC hkC e1 z1 o1 => ?_
  refine hg_grown hf hb kk X Y z1 o1 ?_
  unfold hm_at
  rw [if_neg hf.2.1, hk]
  have hb2 := u_born (ft_ c) hts hin hKn hkC e1 hty
  have ea : u_2 ad k i H.size k i = H.size := by simp [u_2]
  rw [ea]
  show t_OB H.size (D.1 c) (nf_ c) (D.2.1 c) H1 _
  rw [nf_of hc]
  exact hb2.to (fun f hf2 => def_sort (hnf f hf2))
theorem hg_newarray {k i a : Nat} {at9 : ArrayType} {x : Int32} {N : Nat} (hd : decode (md_cc d) pc = .ok (.newarray at9, 2)) (hn : pc + 2 = n) (hw : Cond.arrayClass (newarray.typeOf at9) ∈ gtbl) (hty : newarray.typeOf at9 = et_ a) (ha3 : a < 3) (hx : x = nI N) (hN : N < 1000) (hk : kd_ k = .inr a) (hf : hg_fr al sh0 sh k i ls st) (hb : 1 ≤ bc ∧ N ≤ bs)
    (kk : hg_G d al sh0 Q (bc - 1) (bs - N) n ls (hv_r (some (k, i)) :: st) (hm_new mi ml mr sh k i N)) : hg_G d al sh0 Q bc bs pc ls (hv_i x :: st) (mi, ml, mr, sh) := by
  subst hn hx
  intro p l e R s m args below meth cd D ad0 ad base H locs cells slots arr X Y
  have hts := X.2.2.2.2.2.1
  have hX9 := X.2.2.2.2.2.2.2.2
  have hK : va_K (D.1, D.2.1) vwCl (tys_ D) s := X.2.2.2.2.2.2.2.2.2.2.2.2.1
  have hra := (hK.2 a _ (tys_at D a (by omega))).2
  refine va_newaK X.1 X.2.1 (hts _ hw) rfl hd rfl (nI_pos (by omega)) (nI_clamp (by omega)) (by
    have : componentBytes (newarray.typeOf at9) ≤ 8 := by cases at9 <;> decide
    have := Nat.mul_le_mul (Nat.le_of_lt hN) this
    omega) (by have := hX9.2.2.1; have := Y.2.2.1; omega) (by have := hX9.2.2.2.1; have := Y.2.2.2.1; omega) rfl fun H1 cA e1 z1 o1 hAr hNm => ?_
  have hcA : cA = D.2.2 a := by
    rw [hty] at hNm
    match a, ha3 with
    | 0, _ => exact Option.some.inj (hNm.symm.trans hra)
    | 1, _ => exact Option.some.inj (hNm.symm.trans hra)
    | 2, _ => exact Option.some.inj (hNm.symm.trans hra)
  refine hg_grown hf hb kk X Y z1 o1 ?_
  unfold hm_at
  rw [if_neg hf.2.1, hk]
  have ea : u_2 ad k i H.size k i = H.size := by simp [u_2]
  rw [ea]
  refine e1.trans (congrArg some ?_)
  rw [hcA]
  refine arrV_to (fun j => ?_)
  rw [hty]
  refine def_sort ?_
  match a, ha3 with
  | 0, _ => exact ⟨by decide, by decide⟩
  | 1, _ => exact ⟨by decide, by decide⟩
  | 2, _ => exact ⟨by decide, by decide⟩
theorem hg_anewarray {k i a idx : Nat} {C : String} {x : Int32} {N : Nat} (hd : decode (md_cc d) pc = .ok (.anewarray idx, 3)) (hn : pc + 3 = n) (hw : Cond.classLink (md_own d) idx C ∈ gtbl) (hAO : ∀ D U, hm_K D U → va_AO C U) (hty : et_ a = .object C) (hx : x = nI N) (hN : N < 1000) (hk : kd_ k = .inr a) (hf : hg_fr al sh0 sh k i ls st) (hb : 1 ≤ bc ∧ N ≤ bs)
    (kk : hg_G d al sh0 Q (bc - 1) (bs - N) n ls (hv_r (some (k, i)) :: st) (hm_new mi ml mr sh k i N)) : hg_G d al sh0 Q bc bs pc ls (hv_i x :: st) (mi, ml, mr, sh) := by
  subst hn hx
  intro p l e R s m args below meth cd D ad0 ad base H locs cells slots arr X Y
  have hts := X.2.2.2.2.2.1
  have hX9 := X.2.2.2.2.2.2.2.2
  have hK : va_K (D.1, D.2.1) vwCl (tys_ D) s := X.2.2.2.2.2.2.2.2.2.2.2.2.1
  have hra := (hK.2 a _ (tys_at D a (kd_arr hk))).2
  rw [show ((D.2.2 a, et_ a) : ClassId × FieldType).2 = .object C from hty] at hra
  obtain ⟨kA', comp', -, -, -, k4⟩ := hra
  have hcl : (nI N).toNatClampNeg = N := nI_clamp (by omega)
  refine W.anew X.1 X.2.1 X.2.2.2.2.1 (hts _ hw) (va_AO.use (hAO D s hX9.2.2.2.2)) rfl hd rfl (nI_pos (by omega)) (by rw [hcl]; omega) (by have := hX9.2.2.1; have := Y.2.2.1; omega) (by rw [hcl]; have := hX9.2.2.2.1; have := Y.2.2.2.1; omega) fun cA kA comp f1 f2 f3 f4 => ?_
  have hcA : cA = D.2.2 a := Option.some.inj (f1.symm.trans k4)
  rw [hcl]
  refine hg_grown hf hb kk X Y (by rw [Array.size_push]) (fun q hq => by rw [Array.getElem?_push, if_neg (Nat.ne_of_lt hq)]) ?_
  unfold hm_at
  rw [if_neg hf.2.1, hk]
  have ea : u_2 ad k i H.size k i = H.size := by simp [u_2]
  rw [ea, Array.getElem?_push_size, arrV_new]
  refine congrArg some ?_
  rw [hcA]
  refine arrV_to (fun j => ?_)
  rw [hty]
  simp [hm_v, sort_, u_n, hv_c]
end HN
end
section
/-! rows for numbers that are naturals -/
section HNat
variable {d : Md_} {al : Bool} {sh0 : SH_} {Q : Option V_ → Me_ → Prop} {bc bs : Nat} {pc n : Nat} {ls : List (Option V_)} {st : List V_} {M : Me_} {mi : MI_} {ml : ML_} {mr : MR_} {sh : SH_}
theorem hg_iaddN (a b : Nat) (hd : decode (md_cc d) pc = .ok (.iadd, 1)) (hn : pc + 1 = n) (kk : hg_G d al sh0 Q bc bs n ls (hv_i (nI (a + b)) :: st) M) : hg_G d al sh0 Q bc bs pc ls (hv_i (nI b) :: hv_i (nI a) :: st) M :=
  hg_iadd hd hn (by rw [nI_add]; exact kk)
theorem hg_isubN (a b : Nat) (hd : decode (md_cc d) pc = .ok (.isub, 1)) (hn : pc + 1 = n) (h : b ≤ a) (kk : hg_G d al sh0 Q bc bs n ls (hv_i (nI (a - b)) :: st) M) : hg_G d al sh0 Q bc bs pc ls (hv_i (nI b) :: hv_i (nI a) :: st) M :=
  hg_isub hd hn (by rw [pk_sub h]; exact kk)
theorem hg_imulN (a b : Nat) (hd : decode (md_cc d) pc = .ok (.imul, 1)) (hn : pc + 1 = n) (kk : hg_G d al sh0 Q bc bs n ls (hv_i (nI (a * b)) :: st) M) : hg_G d al sh0 Q bc bs pc ls (hv_i (nI b) :: hv_i (nI a) :: st) M :=
  hg_imul hd hn (by rw [pk_mul]; exact kk)
theorem hg_iincN (a z : Nat) {k : Nat} {z' : Int} (hd : decode (md_cc d) pc = .ok (.iinc k z', 3)) (hn : pc + 3 = n) (hl : ls[k]? = some (some (hv_i (nI a)))) (hz' : Int32.ofInt z' = nI z) (hi : k < md_nL d) (hz : hl_nl ls k = true) {ls' : List (Option V_)} (he : ls.set k (some (hv_i (nI (a + z)))) = ls') (kk : hg_G d al sh0 Q bc bs n ls' st M) : hg_G d al sh0 Q bc bs pc ls st M :=
  hg_iinc hd hn hl (by rw [hz', nI_add]) hi hz he kk
theorem hg_getN (a : Nat) {k i len c f idx : Nat} {fin : Bool} (hd : decode (md_cc d) pc = .ok (.getfield idx, 3)) (hn : pc + 3 = n) (hL : hf_L (md_own d) idx c f fin) (hk : kd_ k = .inl c) (hty : sort_ (ft_ c f) = 0) (hs : sh k i = some len) (hv : mi k i f = nI a) (kk : hg_G d al sh0 Q bc bs n ls (hv_i (nI a) :: st) (mi, ml, mr, sh)) : hg_G d al sh0 Q bc bs pc ls (hv_r (some (k, i)) :: st) (mi, ml, mr, sh) :=
  hg_getI hd hn hL hk hty hs (by rw [hv]; exact kk)
theorem hg_ialoadN (a : Nat) (j : Nat) {k i len : Nat} {x : Int32} (hd : decode (md_cc d) pc = .ok (.iaload, 1)) (hn : pc + 1 = n) (h0 : k ≠ 0) (hk : kd_ k = .inr 0) (hs : sh k i = some len) (hx : x = nI j) (hj : j < len) (hlen : len < 2 ^ 31) (hv : mi k i j = nI a) (kk : hg_G d al sh0 Q bc bs n ls (hv_i (nI a) :: st) (mi, ml, mr, sh)) : hg_G d al sh0 Q bc bs pc ls (hv_i x :: hv_r (some (k, i)) :: st) (mi, ml, mr, sh) :=
  hg_iaload j hd hn h0 hk hs hx hj hlen (by rw [hv]; exact kk)
theorem hg_icmp_ltN (a b : Nat) {off : Int} {tgt : Nat} (hd : decode (md_cc d) pc = .ok (.if_icmp .lt off, 3)) (hn : pc + 3 = n) (ht : (pc : Int) + off = (tgt : Int)) (ha : a < 2 ^ 31) (hb : b < 2 ^ 31) (kt : a < b → hg_G d al sh0 Q bc bs tgt ls st M) (kf : b ≤ a → hg_G d al sh0 Q bc bs n ls st M) : hg_G d al sh0 Q bc bs pc ls (hv_i (nI b) :: hv_i (nI a) :: st) M :=
  hg_icmp_lt hd hn ht (fun h => kt ((nI_ltI ha hb).mp h)) (fun h => kf (Nat.not_lt.mp (fun q => h ((nI_ltI ha hb).mpr q))))
theorem hg_icmp_geN (a b : Nat) {off : Int} {tgt : Nat} (hd : decode (md_cc d) pc = .ok (.if_icmp .ge off, 3)) (hn : pc + 3 = n) (ht : (pc : Int) + off = (tgt : Int)) (ha : a < 2 ^ 31) (hb : b < 2 ^ 31) (kt : b ≤ a → hg_G d al sh0 Q bc bs tgt ls st M) (kf : a < b → hg_G d al sh0 Q bc bs n ls st M) : hg_G d al sh0 Q bc bs pc ls (hv_i (nI b) :: hv_i (nI a) :: st) M :=
  hg_icmp_ge hd hn ht (fun h => kt ((nI_leI hb ha).mp h)) (fun h => kf (Nat.not_le.mp (fun q => h ((nI_leI hb ha).mpr q))))
theorem hg_icmp_gtN (a b : Nat) {off : Int} {tgt : Nat} (hd : decode (md_cc d) pc = .ok (.if_icmp .gt off, 3)) (hn : pc + 3 = n) (ht : (pc : Int) + off = (tgt : Int)) (ha : a < 2 ^ 31) (hb : b < 2 ^ 31) (kt : b < a → hg_G d al sh0 Q bc bs tgt ls st M) (kf : a ≤ b → hg_G d al sh0 Q bc bs n ls st M) : hg_G d al sh0 Q bc bs pc ls (hv_i (nI b) :: hv_i (nI a) :: st) M :=
  hg_icmp_gt hd hn ht (fun h => kt ((nI_ltI hb ha).mp h)) (fun h => kf (Nat.not_lt.mp (fun q => h ((nI_ltI hb ha).mpr q))))
theorem hg_icmp_leN (a b : Nat) {off : Int} {tgt : Nat} (hd : decode (md_cc d) pc = .ok (.if_icmp .le off, 3)) (hn : pc + 3 = n) (ht : (pc : Int) + off = (tgt : Int)) (ha : a < 2 ^ 31) (hb : b < 2 ^ 31) (kt : a ≤ b → hg_G d al sh0 Q bc bs tgt ls st M) (kf : b < a → hg_G d al sh0 Q bc bs n ls st M) : hg_G d al sh0 Q bc bs pc ls (hv_i (nI b) :: hv_i (nI a) :: st) M :=
  hg_icmp_le hd hn ht (fun h => kt ((nI_leI ha hb).mp h)) (fun h => kf (Nat.not_le.mp (fun q => h ((nI_leI ha hb).mpr q))))
theorem hg_icmp_eqN (a b : Nat) {off : Int} {tgt : Nat} (hd : decode (md_cc d) pc = .ok (.if_icmp .eq off, 3)) (hn : pc + 3 = n) (ht : (pc : Int) + off = (tgt : Int)) (ha : a < 2 ^ 31) (hb : b < 2 ^ 31) (kt : a = b → hg_G d al sh0 Q bc bs tgt ls st M) (kf : a ≠ b → hg_G d al sh0 Q bc bs n ls st M) : hg_G d al sh0 Q bc bs pc ls (hv_i (nI b) :: hv_i (nI a) :: st) M :=
  hg_icmp_eq hd hn ht (fun h => kt ((nI_eq ha hb).mp h)) (fun h => kf (fun q => h ((nI_eq ha hb).mpr q)))
theorem hg_icmp_neN (a b : Nat) {off : Int} {tgt : Nat} (hd : decode (md_cc d) pc = .ok (.if_icmp .ne off, 3)) (hn : pc + 3 = n) (ht : (pc : Int) + off = (tgt : Int)) (ha : a < 2 ^ 31) (hb : b < 2 ^ 31) (kt : a ≠ b → hg_G d al sh0 Q bc bs tgt ls st M) (kf : a = b → hg_G d al sh0 Q bc bs n ls st M) : hg_G d al sh0 Q bc bs pc ls (hv_i (nI b) :: hv_i (nI a) :: st) M :=
  hg_icmp_ne hd hn ht (fun h => kt (fun q => h ((nI_eq ha hb).mpr q))) (fun h => kf ((nI_eq ha hb).mp h))
/-- a part of a walk that ends where another begins -/
theorem hg_memo {M' : Me_} (h : M = M') (kk : hg_G d al sh0 Q bc bs pc ls st M') : hg_G d al sh0 Q bc bs pc ls st M := h ▸ kk
end HNat
end
section
/-! the tables' words, by their places -/
set_option maxRecDepth 100000 in
theorem in_X0 : ∀ w ∈ u_ws RX0 TX0 13, w ∈ gtbl := by
  intro w hw
  have h : u_ws RX0 TX0 13 = [73, 75, 77, 79, 81, 83, 85, 87, 89, 91, 93, 95, 97].filterMap (fun i => tables_1[i]?) := by rfl
  rw [h] at hw
  obtain ⟨i, -, hi⟩ := List.mem_filterMap.mp hw
  have hg : (u_ws RX0 TX0 13).all goodWord = true := by decide +kernel
  rw [h] at hg
  exact in_t i hi (List.all_eq_true.mp hg w hw)
set_option maxRecDepth 100000 in
theorem hc_0 : hc_C 0 RX0 TX0 13 := ⟨rfl, in_X0, tyX0_ok, nmX0, in_t 48 rfl rfl, in_t 3 rfl rfl⟩
set_option maxRecDepth 100000 in
theorem nfl_0 : ∀ f, f < 13 → ft_ 0 f ≠ .float ∧ ft_ 0 f ≠ .double := by decide +kernel
set_option maxRecDepth 100000 in
theorem in_X1 : ∀ w ∈ u_ws RX1 TX1 5, w ∈ gtbl := by
  intro w hw
  have h : u_ws RX1 TX1 5 = [36, 38, 40, 42, 44].filterMap (fun i => tables_1[i]?) := by rfl
  rw [h] at hw
  obtain ⟨i, -, hi⟩ := List.mem_filterMap.mp hw
  have hg : (u_ws RX1 TX1 5).all goodWord = true := by decide +kernel
  rw [h] at hg
  exact in_t i hi (List.all_eq_true.mp hg w hw)
set_option maxRecDepth 100000 in
theorem hc_1 : hc_C 1 RX1 TX1 5 := ⟨rfl, in_X1, tyX1_ok, nmX1, in_t 24 rfl rfl, in_t 2 rfl rfl⟩
set_option maxRecDepth 100000 in
theorem nfl_1 : ∀ f, f < 5 → ft_ 1 f ≠ .float ∧ ft_ 1 f ≠ .double := by decide +kernel
set_option maxRecDepth 100000 in
theorem in_X2 : ∀ w ∈ u_ws RX2 TX2 10, w ∈ gtbl := by
  intro w hw
  have h : u_ws RX2 TX2 10 = [176, 178, 180, 182, 184, 186, 188, 190, 192, 194].filterMap (fun i => tables_1[i]?) := by rfl
  rw [h] at hw
  obtain ⟨i, -, hi⟩ := List.mem_filterMap.mp hw
  have hg : (u_ws RX2 TX2 10).all goodWord = true := by decide +kernel
  rw [h] at hg
  exact in_t i hi (List.all_eq_true.mp hg w hw)
set_option maxRecDepth 100000 in
theorem hc_2 : hc_C 2 RX2 TX2 10 := ⟨rfl, in_X2, tyX2_ok, nmX2, in_t 127 rfl rfl, in_t 5 rfl rfl⟩
set_option maxRecDepth 100000 in
theorem nfl_2 : ∀ f, f < 10 → ft_ 2 f ≠ .float ∧ ft_ 2 f ≠ .double := by decide +kernel
set_option maxRecDepth 100000 in
theorem in_X3 : ∀ w ∈ u_ws RX3 TX3 6, w ∈ gtbl := by
  intro w hw
  have h : u_ws RX3 TX3 6 = [337, 339, 341, 343, 345, 347].filterMap (fun i => tables_1[i]?) := by rfl
  rw [h] at hw
  obtain ⟨i, -, hi⟩ := List.mem_filterMap.mp hw
  have hg : (u_ws RX3 TX3 6).all goodWord = true := by decide +kernel
  rw [h] at hg
  exact in_t i hi (List.all_eq_true.mp hg w hw)
set_option maxRecDepth 100000 in
theorem hc_3 : hc_C 3 RX3 TX3 6 := ⟨rfl, in_X3, tyX3_ok, nmX3, in_t 322 rfl rfl, in_t 8 rfl rfl⟩
set_option maxRecDepth 100000 in
theorem nfl_3 : ∀ f, f < 6 → ft_ 3 f ≠ .float ∧ ft_ 3 f ≠ .double := by decide +kernel
set_option maxRecDepth 100000 in
theorem in_X4 : ∀ w ∈ u_ws RX4 TX4 6, w ∈ gtbl := by
  intro w hw
  have h : u_ws RX4 TX4 6 = [147, 149, 151, 153, 155, 157].filterMap (fun i => tables_1[i]?) := by rfl
  rw [h] at hw
  obtain ⟨i, -, hi⟩ := List.mem_filterMap.mp hw
  have hg : (u_ws RX4 TX4 6).all goodWord = true := by decide +kernel
  rw [h] at hg
  exact in_t i hi (List.all_eq_true.mp hg w hw)
set_option maxRecDepth 100000 in
theorem hc_4 : hc_C 4 RX4 TX4 6 := ⟨rfl, in_X4, tyX4_ok, nmX4, in_t 134 rfl rfl, in_t 6 rfl rfl⟩
set_option maxRecDepth 100000 in
theorem nfl_4 : ∀ f, f < 6 → ft_ 4 f ≠ .float ∧ ft_ 4 f ≠ .double := by decide +kernel
set_option maxRecDepth 100000 in
theorem in_X5 : ∀ w ∈ u_ws RX5 TX5 6, w ∈ gtbl := by
  intro w hw
  have h : u_ws RX5 TX5 6 = [107, 109, 111, 113, 115, 117].filterMap (fun i => tables_1[i]?) := by rfl
  rw [h] at hw
  obtain ⟨i, -, hi⟩ := List.mem_filterMap.mp hw
  have hg : (u_ws RX5 TX5 6).all goodWord = true := by decide +kernel
  rw [h] at hg
  exact in_t i hi (List.all_eq_true.mp hg w hw)
set_option maxRecDepth 100000 in
theorem hc_5 : hc_C 5 RX5 TX5 6 := ⟨rfl, in_X5, tyX5_ok, nmX5, in_t 10 rfl rfl, in_t 1 rfl rfl⟩
set_option maxRecDepth 100000 in
theorem nfl_5 : ∀ f, f < 6 → ft_ 5 f ≠ .float ∧ ft_ 5 f ≠ .double := by decide +kernel
set_option maxRecDepth 100000 in
theorem in_X6 : ∀ w ∈ u_ws RX6 TX6 39, w ∈ gtbl := by
  intro w hw
  have h : u_ws RX6 TX6 39 = [615, 617, 619, 621, 623, 625, 627, 629, 631, 633, 635, 637, 639, 641, 643, 645, 647, 649, 651, 653, 655, 657, 659, 661, 663, 665, 667, 669, 671, 673, 675, 677, 679, 681, 683, 685, 687, 689, 691].filterMap (fun i => tables_1[i]?) := by rfl
  rw [h] at hw
  obtain ⟨i, -, hi⟩ := List.mem_filterMap.mp hw
  have hg : (u_ws RX6 TX6 39).all goodWord = true := by decide +kernel
  rw [h] at hg
  exact in_t i hi (List.all_eq_true.mp hg w hw)
set_option maxRecDepth 100000 in
theorem hc_6 : hc_C 6 RX6 TX6 39 := ⟨rfl, in_X6, tyX6_ok, nmX6, in_t 535 rfl rfl, in_t 4 rfl rfl⟩
set_option maxRecDepth 100000 in
theorem nfl_6 : ∀ f, f < 39 → ft_ 6 f ≠ .float ∧ ft_ 6 f ≠ .double := by decide +kernel
set_option maxRecDepth 100000 in
theorem fl_X1_9 : hf_L RX1 9 1 0 true := ⟨RX1, TX1, 5, hc_1, by decide, in_t 29 rfl rfl, rfl, rfl⟩
set_option maxRecDepth 100000 in
theorem fl_X1_15 : hf_L RX1 15 1 1 true := ⟨RX1, TX1, 5, hc_1, by decide, in_t 30 rfl rfl, rfl, rfl⟩
set_option maxRecDepth 100000 in
theorem fl_X1_18 : hf_L RX1 18 1 2 true := ⟨RX1, TX1, 5, hc_1, by decide, in_t 31 rfl rfl, rfl, rfl⟩
set_option maxRecDepth 100000 in
theorem fl_X1_21 : hf_L RX1 21 1 3 true := ⟨RX1, TX1, 5, hc_1, by decide, in_t 32 rfl rfl, rfl, rfl⟩
set_option maxRecDepth 100000 in
theorem fl_X5_186 : hf_L RX5 186 1 3 true := ⟨RX1, TX1, 5, hc_1, by decide, in_t 33 rfl rfl, rfl, rfl⟩
set_option maxRecDepth 100000 in
theorem fl_X1_24 : hf_L RX1 24 1 4 false := ⟨RX1, TX1, 5, hc_1, by decide, in_t 34 rfl rfl, rfl, rfl⟩
set_option maxRecDepth 100000 in
theorem fl_X5_183 : hf_L RX5 183 1 4 false := ⟨RX1, TX1, 5, hc_1, by decide, in_t 35 rfl rfl, rfl, rfl⟩
set_option maxRecDepth 100000 in
theorem fl_X0_11 : hf_L RX0 11 0 0 true := ⟨RX0, TX0, 13, hc_0, by decide, in_t 54 rfl rfl, rfl, rfl⟩
set_option maxRecDepth 100000 in
theorem fl_X5_101 : hf_L RX5 101 0 0 true := ⟨RX0, TX0, 13, hc_0, by decide, in_t 55 rfl rfl, rfl, rfl⟩
set_option maxRecDepth 100000 in
theorem fl_X0_17 : hf_L RX0 17 0 1 true := ⟨RX0, TX0, 13, hc_0, by decide, in_t 56 rfl rfl, rfl, rfl⟩
set_option maxRecDepth 100000 in
theorem fl_X5_113 : hf_L RX5 113 0 1 true := ⟨RX0, TX0, 13, hc_0, by decide, in_t 57 rfl rfl, rfl, rfl⟩
set_option maxRecDepth 100000 in
theorem fl_X0_21 : hf_L RX0 21 0 2 true := ⟨RX0, TX0, 13, hc_0, by decide, in_t 58 rfl rfl, rfl, rfl⟩
set_option maxRecDepth 100000 in
theorem fl_X5_117 : hf_L RX5 117 0 2 true := ⟨RX0, TX0, 13, hc_0, by decide, in_t 59 rfl rfl, rfl, rfl⟩
set_option maxRecDepth 100000 in
theorem fl_X0_25 : hf_L RX0 25 0 3 true := ⟨RX0, TX0, 13, hc_0, by decide, in_t 60 rfl rfl, rfl, rfl⟩
set_option maxRecDepth 100000 in
theorem fl_X0_28 : hf_L RX0 28 0 4 true := ⟨RX0, TX0, 13, hc_0, by decide, in_t 61 rfl rfl, rfl, rfl⟩
set_option maxRecDepth 100000 in
theorem fl_X0_31 : hf_L RX0 31 0 5 true := ⟨RX0, TX0, 13, hc_0, by decide, in_t 62 rfl rfl, rfl, rfl⟩
set_option maxRecDepth 100000 in
theorem fl_X0_42 : hf_L RX0 42 0 6 false := ⟨RX0, TX0, 13, hc_0, by decide, in_t 63 rfl rfl, rfl, rfl⟩
set_option maxRecDepth 100000 in
theorem fl_X5_98 : hf_L RX5 98 0 6 false := ⟨RX0, TX0, 13, hc_0, by decide, in_t 64 rfl rfl, rfl, rfl⟩
set_option maxRecDepth 100000 in
theorem fl_X0_48 : hf_L RX0 48 0 7 false := ⟨RX0, TX0, 13, hc_0, by decide, in_t 65 rfl rfl, rfl, rfl⟩
set_option maxRecDepth 100000 in
theorem fl_X5_139 : hf_L RX5 139 0 7 false := ⟨RX0, TX0, 13, hc_0, by decide, in_t 66 rfl rfl, rfl, rfl⟩
set_option maxRecDepth 100000 in
theorem fl_X0_70 : hf_L RX0 70 0 8 false := ⟨RX0, TX0, 13, hc_0, by decide, in_t 67 rfl rfl, rfl, rfl⟩
set_option maxRecDepth 100000 in
theorem fl_X5_146 : hf_L RX5 146 0 8 false := ⟨RX0, TX0, 13, hc_0, by decide, in_t 68 rfl rfl, rfl, rfl⟩
set_option maxRecDepth 100000 in
theorem fl_X5_149 : hf_L RX5 149 0 9 false := ⟨RX0, TX0, 13, hc_0, by decide, in_t 69 rfl rfl, rfl, rfl⟩
set_option maxRecDepth 100000 in
theorem fl_X0_34 : hf_L RX0 34 0 10 false := ⟨RX0, TX0, 13, hc_0, by decide, in_t 70 rfl rfl, rfl, rfl⟩
set_option maxRecDepth 100000 in
theorem fl_X0_60 : hf_L RX0 60 0 11 false := ⟨RX0, TX0, 13, hc_0, by decide, in_t 71 rfl rfl, rfl, rfl⟩
set_option maxRecDepth 100000 in
theorem fl_X0_38 : hf_L RX0 38 0 12 false := ⟨RX0, TX0, 13, hc_0, by decide, in_t 72 rfl rfl, rfl, rfl⟩
set_option maxRecDepth 100000 in
theorem fl_X5_11 : hf_L RX5 11 5 0 true := ⟨RX5, TX5, 6, hc_5, by decide, in_t 101 rfl rfl, rfl, rfl⟩
set_option maxRecDepth 100000 in
theorem fl_X5_17 : hf_L RX5 17 5 1 true := ⟨RX5, TX5, 6, hc_5, by decide, in_t 102 rfl rfl, rfl, rfl⟩
set_option maxRecDepth 100000 in
theorem fl_X5_23 : hf_L RX5 23 5 2 true := ⟨RX5, TX5, 6, hc_5, by decide, in_t 103 rfl rfl, rfl, rfl⟩
set_option maxRecDepth 100000 in
theorem fl_X5_30 : hf_L RX5 30 5 3 true := ⟨RX5, TX5, 6, hc_5, by decide, in_t 104 rfl rfl, rfl, rfl⟩
set_option maxRecDepth 100000 in
theorem fl_X5_39 : hf_L RX5 39 5 4 false := ⟨RX5, TX5, 6, hc_5, by decide, in_t 105 rfl rfl, rfl, rfl⟩
set_option maxRecDepth 100000 in
theorem fl_X5_124 : hf_L RX5 124 5 5 false := ⟨RX5, TX5, 6, hc_5, by decide, in_t 106 rfl rfl, rfl, rfl⟩
set_option maxRecDepth 100000 in
theorem fl_X4_9 : hf_L RX4 9 4 0 false := ⟨RX4, TX4, 6, hc_4, by decide, in_t 139 rfl rfl, rfl, rfl⟩
set_option maxRecDepth 100000 in
theorem fl_X2_45 : hf_L RX2 45 4 0 false := ⟨RX4, TX4, 6, hc_4, by decide, in_t 140 rfl rfl, rfl, rfl⟩
set_option maxRecDepth 100000 in
theorem fl_X5_171 : hf_L RX5 171 4 0 false := ⟨RX4, TX4, 6, hc_4, by decide, in_t 141 rfl rfl, rfl, rfl⟩
set_option maxRecDepth 100000 in
theorem fl_X4_22 : hf_L RX4 22 4 1 false := ⟨RX4, TX4, 6, hc_4, by decide, in_t 142 rfl rfl, rfl, rfl⟩
set_option maxRecDepth 100000 in
theorem fl_X4_15 : hf_L RX4 15 4 2 false := ⟨RX4, TX4, 6, hc_4, by decide, in_t 143 rfl rfl, rfl, rfl⟩
set_option maxRecDepth 100000 in
theorem fl_X4_46 : hf_L RX4 46 4 3 false := ⟨RX4, TX4, 6, hc_4, by decide, in_t 144 rfl rfl, rfl, rfl⟩
set_option maxRecDepth 100000 in
theorem fl_X4_37 : hf_L RX4 37 4 4 false := ⟨RX4, TX4, 6, hc_4, by decide, in_t 145 rfl rfl, rfl, rfl⟩
set_option maxRecDepth 100000 in
theorem fl_X4_53 : hf_L RX4 53 4 5 false := ⟨RX4, TX4, 6, hc_4, by decide, in_t 146 rfl rfl, rfl, rfl⟩
set_option maxRecDepth 100000 in
theorem fl_X2_9 : hf_L RX2 9 2 0 true := ⟨RX2, TX2, 10, hc_2, by decide, in_t 160 rfl rfl, rfl, rfl⟩
set_option maxRecDepth 100000 in
theorem fl_X5_110 : hf_L RX5 110 2 0 true := ⟨RX2, TX2, 10, hc_2, by decide, in_t 161 rfl rfl, rfl, rfl⟩
set_option maxRecDepth 100000 in
theorem fl_X2_15 : hf_L RX2 15 2 1 true := ⟨RX2, TX2, 10, hc_2, by decide, in_t 162 rfl rfl, rfl, rfl⟩
set_option maxRecDepth 100000 in
theorem fl_X0_45 : hf_L RX0 45 2 1 true := ⟨RX2, TX2, 10, hc_2, by decide, in_t 163 rfl rfl, rfl, rfl⟩
set_option maxRecDepth 100000 in
theorem fl_X5_107 : hf_L RX5 107 2 1 true := ⟨RX2, TX2, 10, hc_2, by decide, in_t 164 rfl rfl, rfl, rfl⟩
set_option maxRecDepth 100000 in
theorem fl_X2_32 : hf_L RX2 32 2 2 true := ⟨RX2, TX2, 10, hc_2, by decide, in_t 165 rfl rfl, rfl, rfl⟩
set_option maxRecDepth 100000 in
theorem fl_X5_62 : hf_L RX5 62 2 2 true := ⟨RX2, TX2, 10, hc_2, by decide, in_t 166 rfl rfl, rfl, rfl⟩
set_option maxRecDepth 100000 in
theorem fl_X2_18 : hf_L RX2 18 2 3 true := ⟨RX2, TX2, 10, hc_2, by decide, in_t 167 rfl rfl, rfl, rfl⟩
set_option maxRecDepth 100000 in
theorem fl_X2_21 : hf_L RX2 21 2 4 true := ⟨RX2, TX2, 10, hc_2, by decide, in_t 168 rfl rfl, rfl, rfl⟩
set_option maxRecDepth 100000 in
theorem fl_X2_24 : hf_L RX2 24 2 5 true := ⟨RX2, TX2, 10, hc_2, by decide, in_t 169 rfl rfl, rfl, rfl⟩
set_option maxRecDepth 100000 in
theorem fl_X2_27 : hf_L RX2 27 2 6 true := ⟨RX2, TX2, 10, hc_2, by decide, in_t 170 rfl rfl, rfl, rfl⟩
set_option maxRecDepth 100000 in
theorem fl_X2_48 : hf_L RX2 48 2 7 false := ⟨RX2, TX2, 10, hc_2, by decide, in_t 171 rfl rfl, rfl, rfl⟩
set_option maxRecDepth 100000 in
theorem fl_X5_75 : hf_L RX5 75 2 7 false := ⟨RX2, TX2, 10, hc_2, by decide, in_t 172 rfl rfl, rfl, rfl⟩
set_option maxRecDepth 100000 in
theorem fl_X5_50 : hf_L RX5 50 2 8 false := ⟨RX2, TX2, 10, hc_2, by decide, in_t 173 rfl rfl, rfl, rfl⟩
set_option maxRecDepth 100000 in
theorem fl_X0_51 : hf_L RX0 51 2 9 false := ⟨RX2, TX2, 10, hc_2, by decide, in_t 174 rfl rfl, rfl, rfl⟩
set_option maxRecDepth 100000 in
theorem fl_X5_158 : hf_L RX5 158 2 9 false := ⟨RX2, TX2, 10, hc_2, by decide, in_t 175 rfl rfl, rfl, rfl⟩
set_option maxRecDepth 100000 in
theorem fl_X3_9 : hf_L RX3 9 3 0 true := ⟨RX3, TX3, 6, hc_3, by decide, in_t 327 rfl rfl, rfl, rfl⟩
set_option maxRecDepth 100000 in
theorem fl_X5_205 : hf_L RX5 205 3 0 true := ⟨RX3, TX3, 6, hc_3, by decide, in_t 328 rfl rfl, rfl, rfl⟩
set_option maxRecDepth 100000 in
theorem fl_X3_33 : hf_L RX3 33 3 1 false := ⟨RX3, TX3, 6, hc_3, by decide, in_t 329 rfl rfl, rfl, rfl⟩
set_option maxRecDepth 100000 in
theorem fl_X5_162 : hf_L RX5 162 3 1 false := ⟨RX3, TX3, 6, hc_3, by decide, in_t 330 rfl rfl, rfl, rfl⟩
set_option maxRecDepth 100000 in
theorem fl_X3_22 : hf_L RX3 22 3 2 false := ⟨RX3, TX3, 6, hc_3, by decide, in_t 331 rfl rfl, rfl, rfl⟩
set_option maxRecDepth 100000 in
theorem fl_X0_106 : hf_L RX0 106 3 2 false := ⟨RX3, TX3, 6, hc_3, by decide, in_t 332 rfl rfl, rfl, rfl⟩
set_option maxRecDepth 100000 in
theorem fl_X3_36 : hf_L RX3 36 3 3 false := ⟨RX3, TX3, 6, hc_3, by decide, in_t 333 rfl rfl, rfl, rfl⟩
set_option maxRecDepth 100000 in
theorem fl_X0_63 : hf_L RX0 63 3 3 false := ⟨RX3, TX3, 6, hc_3, by decide, in_t 334 rfl rfl, rfl, rfl⟩
set_option maxRecDepth 100000 in
theorem fl_X3_15 : hf_L RX3 15 3 4 false := ⟨RX3, TX3, 6, hc_3, by decide, in_t 335 rfl rfl, rfl, rfl⟩
set_option maxRecDepth 100000 in
theorem fl_X3_19 : hf_L RX3 19 3 5 false := ⟨RX3, TX3, 6, hc_3, by decide, in_t 336 rfl rfl, rfl, rfl⟩
set_option maxRecDepth 100000 in
theorem fl_X6_7 : hf_L RX6 7 6 0 false := ⟨RX6, TX6, 39, hc_6, by decide, in_t 576 rfl rfl, rfl, rfl⟩
set_option maxRecDepth 100000 in
theorem fl_X6_11 : hf_L RX6 11 6 1 true := ⟨RX6, TX6, 39, hc_6, by decide, in_t 577 rfl rfl, rfl, rfl⟩
set_option maxRecDepth 100000 in
theorem fl_X6_15 : hf_L RX6 15 6 2 true := ⟨RX6, TX6, 39, hc_6, by decide, in_t 578 rfl rfl, rfl, rfl⟩
set_option maxRecDepth 100000 in
theorem fl_X6_18 : hf_L RX6 18 6 3 true := ⟨RX6, TX6, 39, hc_6, by decide, in_t 579 rfl rfl, rfl, rfl⟩
set_option maxRecDepth 100000 in
theorem fl_X6_21 : hf_L RX6 21 6 4 true := ⟨RX6, TX6, 39, hc_6, by decide, in_t 580 rfl rfl, rfl, rfl⟩
set_option maxRecDepth 100000 in
theorem fl_X6_24 : hf_L RX6 24 6 5 true := ⟨RX6, TX6, 39, hc_6, by decide, in_t 581 rfl rfl, rfl, rfl⟩
set_option maxRecDepth 100000 in
theorem fl_X6_27 : hf_L RX6 27 6 6 true := ⟨RX6, TX6, 39, hc_6, by decide, in_t 582 rfl rfl, rfl, rfl⟩
set_option maxRecDepth 100000 in
theorem fl_X6_30 : hf_L RX6 30 6 7 true := ⟨RX6, TX6, 39, hc_6, by decide, in_t 583 rfl rfl, rfl, rfl⟩
set_option maxRecDepth 100000 in
theorem fl_X6_34 : hf_L RX6 34 6 8 true := ⟨RX6, TX6, 39, hc_6, by decide, in_t 584 rfl rfl, rfl, rfl⟩
set_option maxRecDepth 100000 in
theorem fl_X6_37 : hf_L RX6 37 6 9 true := ⟨RX6, TX6, 39, hc_6, by decide, in_t 585 rfl rfl, rfl, rfl⟩
set_option maxRecDepth 100000 in
theorem fl_X6_40 : hf_L RX6 40 6 10 true := ⟨RX6, TX6, 39, hc_6, by decide, in_t 586 rfl rfl, rfl, rfl⟩
set_option maxRecDepth 100000 in
theorem fl_X6_46 : hf_L RX6 46 6 11 true := ⟨RX6, TX6, 39, hc_6, by decide, in_t 587 rfl rfl, rfl, rfl⟩
set_option maxRecDepth 100000 in
theorem fl_X6_43 : hf_L RX6 43 6 12 true := ⟨RX6, TX6, 39, hc_6, by decide, in_t 588 rfl rfl, rfl, rfl⟩
set_option maxRecDepth 100000 in
theorem fl_X6_49 : hf_L RX6 49 6 13 true := ⟨RX6, TX6, 39, hc_6, by decide, in_t 589 rfl rfl, rfl, rfl⟩
set_option maxRecDepth 100000 in
theorem fl_X6_83 : hf_L RX6 83 6 14 true := ⟨RX6, TX6, 39, hc_6, by decide, in_t 590 rfl rfl, rfl, rfl⟩
set_option maxRecDepth 100000 in
theorem fl_X6_86 : hf_L RX6 86 6 15 true := ⟨RX6, TX6, 39, hc_6, by decide, in_t 591 rfl rfl, rfl, rfl⟩
set_option maxRecDepth 100000 in
theorem fl_X6_89 : hf_L RX6 89 6 16 true := ⟨RX6, TX6, 39, hc_6, by decide, in_t 592 rfl rfl, rfl, rfl⟩
set_option maxRecDepth 100000 in
theorem fl_X6_92 : hf_L RX6 92 6 17 true := ⟨RX6, TX6, 39, hc_6, by decide, in_t 593 rfl rfl, rfl, rfl⟩
set_option maxRecDepth 100000 in
theorem fl_X6_95 : hf_L RX6 95 6 18 true := ⟨RX6, TX6, 39, hc_6, by decide, in_t 594 rfl rfl, rfl, rfl⟩
set_option maxRecDepth 100000 in
theorem fl_X6_98 : hf_L RX6 98 6 19 true := ⟨RX6, TX6, 39, hc_6, by decide, in_t 595 rfl rfl, rfl, rfl⟩
set_option maxRecDepth 100000 in
theorem fl_X6_101 : hf_L RX6 101 6 20 true := ⟨RX6, TX6, 39, hc_6, by decide, in_t 596 rfl rfl, rfl, rfl⟩
set_option maxRecDepth 100000 in
theorem fl_X6_104 : hf_L RX6 104 6 21 true := ⟨RX6, TX6, 39, hc_6, by decide, in_t 597 rfl rfl, rfl, rfl⟩
set_option maxRecDepth 100000 in
theorem fl_X6_108 : hf_L RX6 108 6 22 true := ⟨RX6, TX6, 39, hc_6, by decide, in_t 598 rfl rfl, rfl, rfl⟩
set_option maxRecDepth 100000 in
theorem fl_X6_111 : hf_L RX6 111 6 23 true := ⟨RX6, TX6, 39, hc_6, by decide, in_t 599 rfl rfl, rfl, rfl⟩
set_option maxRecDepth 100000 in
theorem fl_X6_114 : hf_L RX6 114 6 24 true := ⟨RX6, TX6, 39, hc_6, by decide, in_t 600 rfl rfl, rfl, rfl⟩
set_option maxRecDepth 100000 in
theorem fl_X6_117 : hf_L RX6 117 6 25 true := ⟨RX6, TX6, 39, hc_6, by decide, in_t 601 rfl rfl, rfl, rfl⟩
set_option maxRecDepth 100000 in
theorem fl_X6_120 : hf_L RX6 120 6 26 true := ⟨RX6, TX6, 39, hc_6, by decide, in_t 602 rfl rfl, rfl, rfl⟩
set_option maxRecDepth 100000 in
theorem fl_X6_123 : hf_L RX6 123 6 27 true := ⟨RX6, TX6, 39, hc_6, by decide, in_t 603 rfl rfl, rfl, rfl⟩
set_option maxRecDepth 100000 in
theorem fl_X6_165 : hf_L RX6 165 6 28 false := ⟨RX6, TX6, 39, hc_6, by decide, in_t 604 rfl rfl, rfl, rfl⟩
set_option maxRecDepth 100000 in
theorem fl_X6_126 : hf_L RX6 126 6 29 true := ⟨RX6, TX6, 39, hc_6, by decide, in_t 605 rfl rfl, rfl, rfl⟩
set_option maxRecDepth 100000 in
theorem fl_X6_129 : hf_L RX6 129 6 30 true := ⟨RX6, TX6, 39, hc_6, by decide, in_t 606 rfl rfl, rfl, rfl⟩
set_option maxRecDepth 100000 in
theorem fl_X6_132 : hf_L RX6 132 6 31 true := ⟨RX6, TX6, 39, hc_6, by decide, in_t 607 rfl rfl, rfl, rfl⟩
set_option maxRecDepth 100000 in
theorem fl_X6_135 : hf_L RX6 135 6 32 true := ⟨RX6, TX6, 39, hc_6, by decide, in_t 608 rfl rfl, rfl, rfl⟩
set_option maxRecDepth 100000 in
theorem fl_X6_138 : hf_L RX6 138 6 33 true := ⟨RX6, TX6, 39, hc_6, by decide, in_t 609 rfl rfl, rfl, rfl⟩
set_option maxRecDepth 100000 in
theorem fl_X6_141 : hf_L RX6 141 6 34 true := ⟨RX6, TX6, 39, hc_6, by decide, in_t 610 rfl rfl, rfl, rfl⟩
set_option maxRecDepth 100000 in
theorem fl_X6_183 : hf_L RX6 183 6 35 false := ⟨RX6, TX6, 39, hc_6, by decide, in_t 611 rfl rfl, rfl, rfl⟩
set_option maxRecDepth 100000 in
theorem fl_X6_144 : hf_L RX6 144 6 36 true := ⟨RX6, TX6, 39, hc_6, by decide, in_t 612 rfl rfl, rfl, rfl⟩
set_option maxRecDepth 100000 in
theorem fl_X6_147 : hf_L RX6 147 6 37 true := ⟨RX6, TX6, 39, hc_6, by decide, in_t 613 rfl rfl, rfl, rfl⟩
set_option maxRecDepth 100000 in
theorem fl_X6_150 : hf_L RX6 150 6 38 true := ⟨RX6, TX6, 39, hc_6, by decide, in_t 614 rfl rfl, rfl, rfl⟩
set_option maxRecDepth 100000 in
theorem ck_L_7 : Cond.classLink RL 7 RX5 ∈ gtbl := in_t 9 rfl rfl
set_option maxRecDepth 100000 in
theorem mk_L_9 : Cond.methodLink RL 9 yX5_init ∈ gtbl := in_t 11 rfl rfl
set_option maxRecDepth 100000 in
theorem mk_X5_1 : Cond.methodLink RX5 1 objectInit ∈ gtbl := in_t 14 rfl rfl
set_option maxRecDepth 100000 in
theorem ck_X5_9 : Cond.classLink RX5 9 RX2 ∈ gtbl := in_t 17 rfl rfl
set_option maxRecDepth 100000 in
theorem ck_X5_15 : Cond.classLink RX5 15 RX0 ∈ gtbl := in_t 19 rfl rfl
set_option maxRecDepth 100000 in
theorem ck_X5_21 : Cond.classLink RX5 21 RX3 ∈ gtbl := in_t 21 rfl rfl
set_option maxRecDepth 100000 in
theorem ck_X5_27 : Cond.classLink RX5 27 RX1 ∈ gtbl := in_t 23 rfl rfl
set_option maxRecDepth 100000 in
theorem mk_X1_3 : Cond.methodLink RX1 3 objectInit ∈ gtbl := in_t 28 rfl rfl
set_option maxRecDepth 100000 in
theorem ac_int : Cond.arrayClass .int ∈ gtbl := in_t 47 rfl rfl
set_option maxRecDepth 100000 in
theorem mk_X0_3 : Cond.methodLink RX0 3 objectInit ∈ gtbl := in_t 52 rfl rfl
set_option maxRecDepth 100000 in
theorem ck_X0_9 : Cond.classLink RX0 9 RX2 ∈ gtbl := in_t 53 rfl rfl
set_option maxRecDepth 100000 in
theorem ac_boolean : Cond.arrayClass .boolean ∈ gtbl := in_t 100 rfl rfl
set_option maxRecDepth 100000 in
theorem mk_L_13 : Cond.methodLink RL 13 yX5_part ∈ gtbl := in_t 120 rfl rfl
set_option maxRecDepth 100000 in
theorem mk_X5_35 : Cond.methodLink RX5 35 yX5_within ∈ gtbl := in_t 124 rfl rfl
set_option maxRecDepth 100000 in
theorem mk_X5_43 : Cond.methodLink RX5 43 yX2_init ∈ gtbl := in_t 128 rfl rfl
set_option maxRecDepth 100000 in
theorem mk_X2_3 : Cond.methodLink RX2 3 objectInit ∈ gtbl := in_t 131 rfl rfl
set_option maxRecDepth 100000 in
theorem ck_X2_30 : Cond.classLink RX2 30 RX4 ∈ gtbl := in_t 132 rfl rfl
set_option maxRecDepth 100000 in
theorem mk_X4_3 : Cond.methodLink RX4 3 objectInit ∈ gtbl := in_t 138 rfl rfl
set_option maxRecDepth 100000 in
theorem mk_L_18 : Cond.methodLink RL 18 yX5_step ∈ gtbl := in_t 197 rfl rfl
set_option maxRecDepth 100000 in
theorem mk_X5_46 : Cond.methodLink RX5 46 yX5_partAt ∈ gtbl := in_t 201 rfl rfl
set_option maxRecDepth 100000 in
theorem mk_X5_54 : Cond.methodLink RX5 54 yX2_stepBeside ∈ gtbl := in_t 205 rfl rfl
set_option maxRecDepth 100000 in
theorem mk_X2_37 : Cond.methodLink RX2 37 yX2_moveWarmth ∈ gtbl := in_t 209 rfl rfl
set_option maxRecDepth 100000 in
theorem mk_X2_52 : Cond.methodLink RX2 52 yX2_flowFrom ∈ gtbl := in_t 213 rfl rfl
set_option maxRecDepth 100000 in
theorem mk_X2_41 : Cond.methodLink RX2 41 yX4_change ∈ gtbl := in_t 217 rfl rfl
set_option maxRecDepth 100000 in
theorem mk_X4_18 : Cond.methodLink RX4 18 yX4_becomeHot ∈ gtbl := in_t 221 rfl rfl
set_option maxRecDepth 100000 in
theorem mk_X4_25 : Cond.methodLink RX4 25 Lib.Math.min.name ∈ gtbl := in_t 225 rfl rfl
set_option maxRecDepth 100000 in
theorem mk_X4_31 : Cond.methodLink RX4 31 yX4_becomeLamellar ∈ gtbl := in_t 228 rfl rfl
set_option maxRecDepth 100000 in
theorem mk_X4_34 : Cond.methodLink RX4 34 yX4_becomeTough ∈ gtbl := in_t 232 rfl rfl
set_option maxRecDepth 100000 in
theorem mk_X4_40 : Cond.methodLink RX4 40 yX4_becomeHard ∈ gtbl := in_t 236 rfl rfl
set_option maxRecDepth 100000 in
theorem mk_X4_43 : Cond.methodLink RX4 43 yX4_draw ∈ gtbl := in_t 240 rfl rfl
set_option maxRecDepth 100000 in
theorem mk_X5_58 : Cond.methodLink RX5 58 yX2_innermostWarmth ∈ gtbl := in_t 245 rfl rfl
set_option maxRecDepth 100000 in
theorem mk_L_23 : Cond.methodLink RL 23 yX5_shell ∈ gtbl := in_t 249 rfl rfl
set_option maxRecDepth 100000 in
theorem kc_X5_66 : Cond.constant RX5 66 (-100000) ∈ gtbl := in_t 253 rfl rfl
set_option maxRecDepth 100000 in
theorem mk_X5_67 : Cond.methodLink RX5 67 yX4_tell ∈ gtbl := in_t 254 rfl rfl
set_option maxRecDepth 100000 in
theorem mk_X4_56 : Cond.methodLink RX4 56 yX4_hardness ∈ gtbl := in_t 258 rfl rfl
set_option maxRecDepth 100000 in
theorem mk_L_27 : Cond.methodLink RL 27 yX5_taken ∈ gtbl := in_t 262 rfl rfl
set_option maxRecDepth 100000 in
theorem kc_X5_73 : Cond.constantLong RX5 73 (-9999999999) ∈ gtbl := in_t 266 rfl rfl
set_option maxRecDepth 100000 in
theorem mk_L_32 : Cond.methodLink RL 32 yX5_kept ∈ gtbl := in_t 267 rfl rfl
set_option maxRecDepth 100000 in
theorem mk_X5_79 : Cond.methodLink RX5 79 yX2_warmthAstray ∈ gtbl := in_t 271 rfl rfl
set_option maxRecDepth 100000 in
theorem mk_L_36 : Cond.methodLink RL 36 yX5_line ∈ gtbl := in_t 275 rfl rfl
set_option maxRecDepth 100000 in
theorem mk_X5_83 : Cond.methodLink RX5 83 yX5_furnaceAt ∈ gtbl := in_t 279 rfl rfl
set_option maxRecDepth 100000 in
theorem mk_X5_87 : Cond.methodLink RX5 87 yX5_lineIsAsTold ∈ gtbl := in_t 283 rfl rfl
set_option maxRecDepth 100000 in
theorem mk_X5_90 : Cond.methodLink RX5 90 yX0_isRunning ∈ gtbl := in_t 286 rfl rfl
set_option maxRecDepth 100000 in
theorem mk_X5_94 : Cond.methodLink RX5 94 yX0_addLine ∈ gtbl := in_t 290 rfl rfl
set_option maxRecDepth 100000 in
theorem mk_L_41 : Cond.methodLink RL 41 yX5_clear ∈ gtbl := in_t 294 rfl rfl
set_option maxRecDepth 100000 in
theorem mk_L_46 : Cond.methodLink RL 46 yX5_load ∈ gtbl := in_t 298 rfl rfl
set_option maxRecDepth 100000 in
theorem mk_X5_104 : Cond.methodLink RX5 104 yX0_massInside ∈ gtbl := in_t 302 rfl rfl
set_option maxRecDepth 100000 in
theorem mk_L_50 : Cond.methodLink RL 50 yX5_unload ∈ gtbl := in_t 306 rfl rfl
set_option maxRecDepth 100000 in
theorem mk_L_55 : Cond.methodLink RL 55 yX5_probe ∈ gtbl := in_t 310 rfl rfl
set_option maxRecDepth 100000 in
theorem mk_L_60 : Cond.methodLink RL 60 yX5_run ∈ gtbl := in_t 314 rfl rfl
set_option maxRecDepth 100000 in
theorem mk_X5_121 : Cond.methodLink RX5 121 yX0_partsInside ∈ gtbl := in_t 318 rfl rfl
set_option maxRecDepth 100000 in
theorem mk_X5_127 : Cond.methodLink RX5 127 yX3_init ∈ gtbl := in_t 323 rfl rfl
set_option maxRecDepth 100000 in
theorem mk_X3_3 : Cond.methodLink RX3 3 objectInit ∈ gtbl := in_t 326 rfl rfl
set_option maxRecDepth 100000 in
theorem mk_X5_129 : Cond.methodLink RX5 129 yX0_begin ∈ gtbl := in_t 350 rfl rfl
set_option maxRecDepth 100000 in
theorem mk_L_64 : Cond.methodLink RL 64 yX5_tick ∈ gtbl := in_t 354 rfl rfl
set_option maxRecDepth 100000 in
theorem mk_X5_133 : Cond.methodLink RX5 133 yX0_doTick ∈ gtbl := in_t 358 rfl rfl
set_option maxRecDepth 100000 in
theorem mk_X0_66 : Cond.methodLink RX0 66 yX0_gasByLine ∈ gtbl := in_t 362 rfl rfl
set_option maxRecDepth 100000 in
theorem mk_X0_84 : Cond.methodLink RX0 84 yX0_gasNearer ∈ gtbl := in_t 366 rfl rfl
set_option maxRecDepth 100000 in
theorem mk_X0_88 : Cond.methodLink RX0 88 Lib.Math.min.name ∈ gtbl := in_t 370 rfl rfl
set_option maxRecDepth 100000 in
theorem mk_X0_93 : Cond.methodLink RX0 93 Lib.Math.max.name ∈ gtbl := in_t 371 rfl rfl
set_option maxRecDepth 100000 in
theorem mk_X0_73 : Cond.methodLink RX0 73 yX2_stepBeside ∈ gtbl := in_t 374 rfl rfl
set_option maxRecDepth 100000 in
theorem mk_X0_77 : Cond.methodLink RX0 77 yX0_lineIsOver ∈ gtbl := in_t 375 rfl rfl
set_option maxRecDepth 100000 in
theorem mk_X0_96 : Cond.methodLink RX0 96 yX0_countSoak ∈ gtbl := in_t 379 rfl rfl
set_option maxRecDepth 100000 in
theorem mk_X0_100 : Cond.methodLink RX0 100 yX2_innermostWarmth ∈ gtbl := in_t 383 rfl rfl
set_option maxRecDepth 100000 in
theorem mk_X0_103 : Cond.methodLink RX0 103 yX0_partsInside ∈ gtbl := in_t 384 rfl rfl
set_option maxRecDepth 100000 in
theorem mk_X0_81 : Cond.methodLink RX0 81 yX0_goToNextLine ∈ gtbl := in_t 385 rfl rfl
set_option maxRecDepth 100000 in
theorem mk_X0_110 : Cond.methodLink RX0 110 yX0_end ∈ gtbl := in_t 389 rfl rfl
set_option maxRecDepth 100000 in
theorem mk_X0_54 : Cond.methodLink RX0 54 yX3_end ∈ gtbl := in_t 393 rfl rfl
set_option maxRecDepth 100000 in
theorem mk_X5_136 : Cond.methodLink RX5 136 yX5_furnacesRunning ∈ gtbl := in_t 397 rfl rfl
set_option maxRecDepth 100000 in
theorem mk_L_68 : Cond.methodLink RL 68 yX5_stop ∈ gtbl := in_t 401 rfl rfl
set_option maxRecDepth 100000 in
theorem mk_X5_142 : Cond.methodLink RX5 142 yX0_end ∈ gtbl := in_t 405 rfl rfl
set_option maxRecDepth 100000 in
theorem mk_L_72 : Cond.methodLink RL 72 yX5_survey ∈ gtbl := in_t 406 rfl rfl
set_option maxRecDepth 100000 in
theorem mk_X5_152 : Cond.methodLink RX5 152 yX5_doubtRuns ∈ gtbl := in_t 410 rfl rfl
set_option maxRecDepth 100000 in
theorem mk_L_76 : Cond.methodLink RL 76 yX5_about ∈ gtbl := in_t 414 rfl rfl
set_option maxRecDepth 100000 in
theorem mk_X5_156 : Cond.methodLink RX5 156 yX0_tell ∈ gtbl := in_t 418 rfl rfl
set_option maxRecDepth 100000 in
theorem mk_X0_111 : Cond.methodLink RX0 111 yX0_isRunning ∈ gtbl := in_t 422 rfl rfl
set_option maxRecDepth 100000 in
theorem mk_X0_119 : Cond.methodLink RX0 119 yX0_massInside ∈ gtbl := in_t 426 rfl rfl
set_option maxRecDepth 100000 in
theorem mk_L_80 : Cond.methodLink RL 80 yX5_runAt ∈ gtbl := in_t 427 rfl rfl
set_option maxRecDepth 100000 in
theorem mk_X5_157 : Cond.methodLink RX5 157 yX3_tell ∈ gtbl := in_t 431 rfl rfl
set_option maxRecDepth 100000 in
theorem mk_X3_29 : Cond.methodLink RX3 29 yX3_isWell ∈ gtbl := in_t 436 rfl rfl
set_option maxRecDepth 100000 in
theorem mk_L_84 : Cond.methodLink RL 84 yX5_paper ∈ gtbl := in_t 440 rfl rfl
set_option maxRecDepth 100000 in
theorem mk_X5_165 : Cond.methodLink RX5 165 yX3_isWell ∈ gtbl := in_t 444 rfl rfl
set_option maxRecDepth 100000 in
theorem mk_X5_168 : Cond.methodLink RX5 168 yX4_hardness ∈ gtbl := in_t 445 rfl rfl
set_option maxRecDepth 100000 in
theorem mk_L_88 : Cond.methodLink RL 88 yX5_job ∈ gtbl := in_t 446 rfl rfl
set_option maxRecDepth 100000 in
theorem mk_X5_174 : Cond.methodLink RX5 174 yX1_add ∈ gtbl := in_t 450 rfl rfl
set_option maxRecDepth 100000 in
theorem mk_X1_28 : Cond.methodLink RX1 28 yX1_plan ∈ gtbl := in_t 454 rfl rfl
set_option maxRecDepth 100000 in
theorem mk_X1_31 : Cond.methodLink RX1 31 yX1_nextOf ∈ gtbl := in_t 458 rfl rfl
set_option maxRecDepth 100000 in
theorem kc_X1_41 : Cond.constant RX1 41 (2147483647) ∈ gtbl := in_t 462 rfl rfl
set_option maxRecDepth 100000 in
theorem mk_X1_35 : Cond.methodLink RX1 35 yX1_latenessWith ∈ gtbl := in_t 463 rfl rfl
set_option maxRecDepth 100000 in
theorem mk_X1_42 : Cond.methodLink RX1 42 Lib.Math.max.name ∈ gtbl := in_t 467 rfl rfl
set_option maxRecDepth 100000 in
theorem mk_L_92 : Cond.methodLink RL 92 yX5_clearJobs ∈ gtbl := in_t 468 rfl rfl
set_option maxRecDepth 100000 in
theorem mk_X5_177 : Cond.methodLink RX5 177 yX1_removeAll ∈ gtbl := in_t 472 rfl rfl
set_option maxRecDepth 100000 in
theorem mk_L_97 : Cond.methodLink RL 97 yX5_lateness ∈ gtbl := in_t 476 rfl rfl
set_option maxRecDepth 100000 in
theorem mk_X5_180 : Cond.methodLink RX5 180 yX1_leastLateness ∈ gtbl := in_t 480 rfl rfl
set_option maxRecDepth 100000 in
theorem mk_L_101 : Cond.methodLink RL 101 yX5_order ∈ gtbl := in_t 484 rfl rfl
set_option maxRecDepth 100000 in
theorem mk_L_105 : Cond.methodLink RL 105 yX5_count ∈ gtbl := in_t 488 rfl rfl
set_option maxRecDepth 100000 in
theorem mk_X5_189 : Cond.methodLink RX5 189 yX5_runsInDoubt ∈ gtbl := in_t 492 rfl rfl
set_option maxRecDepth 100000 in
theorem mk_L_109 : Cond.methodLink RL 109 yX5_digest ∈ gtbl := in_t 496 rfl rfl
set_option maxRecDepth 100000 in
theorem kc_X5_192 : Cond.constantLong RX5 192 (139) ∈ gtbl := in_t 500 rfl rfl
set_option maxRecDepth 100000 in
theorem kc_X5_194 : Cond.constantLong RX5 194 (31) ∈ gtbl := in_t 501 rfl rfl
set_option maxRecDepth 100000 in
theorem mk_X5_196 : Cond.methodLink RX5 196 yX5_count ∈ gtbl := in_t 502 rfl rfl
set_option maxRecDepth 100000 in
theorem mk_X5_199 : Cond.methodLink RX5 199 yX2_digestFrom ∈ gtbl := in_t 503 rfl rfl
set_option maxRecDepth 100000 in
theorem kc_X2_56 : Cond.constantLong RX2 56 (31) ∈ gtbl := in_t 507 rfl rfl
set_option maxRecDepth 100000 in
theorem mk_X2_58 : Cond.methodLink RX2 58 yX4_tell ∈ gtbl := in_t 508 rfl rfl
set_option maxRecDepth 100000 in
theorem mk_X5_203 : Cond.methodLink RX5 203 yX0_digestFrom ∈ gtbl := in_t 509 rfl rfl
set_option maxRecDepth 100000 in
theorem kc_X0_122 : Cond.constantLong RX0 122 (31) ∈ gtbl := in_t 513 rfl rfl
set_option maxRecDepth 100000 in
theorem mk_X0_124 : Cond.methodLink RX0 124 yX0_tell ∈ gtbl := in_t 514 rfl rfl
set_option maxRecDepth 100000 in
theorem mk_X5_204 : Cond.methodLink RX5 204 yX3_digestFrom ∈ gtbl := in_t 515 rfl rfl
set_option maxRecDepth 100000 in
theorem kc_X3_39 : Cond.constantLong RX3 39 (31) ∈ gtbl := in_t 519 rfl rfl
set_option maxRecDepth 100000 in
theorem mk_X3_41 : Cond.methodLink RX3 41 yX3_tell ∈ gtbl := in_t 520 rfl rfl
set_option maxRecDepth 100000 in
theorem mk_L_17 : Cond.methodLink RL 17 yX6_part ∈ gtbl := in_t 521 rfl rfl
set_option maxRecDepth 100000 in
theorem mk_X6_1 : Cond.methodLink RX6 1 yX6_in ∈ gtbl := in_t 525 rfl rfl
set_option maxRecDepth 100000 in
theorem mk_L_22 : Cond.methodLink RL 22 yX6_step ∈ gtbl := in_t 528 rfl rfl
set_option maxRecDepth 100000 in
theorem mk_X6_60 : Cond.methodLink RX6 60 yX6_isPart ∈ gtbl := in_t 532 rfl rfl
set_option maxRecDepth 100000 in
theorem mk_X6_64 : Cond.methodLink RX6 64 yX6_steps ∈ gtbl := in_t 537 rfl rfl
set_option maxRecDepth 100000 in
theorem mk_X6_52 : Cond.methodLink RX6 52 yX6_change ∈ gtbl := in_t 541 rfl rfl
set_option maxRecDepth 100000 in
theorem mk_X6_56 : Cond.methodLink RX6 56 yX6_turn ∈ gtbl := in_t 545 rfl rfl
set_option maxRecDepth 100000 in
theorem mk_X6_67 : Cond.methodLink RX6 67 yX6_innermost ∈ gtbl := in_t 549 rfl rfl
set_option maxRecDepth 100000 in
theorem mk_L_26 : Cond.methodLink RL 26 yX6_shell ∈ gtbl := in_t 553 rfl rfl
set_option maxRecDepth 100000 in
theorem kc_X6_71 : Cond.constant RX6 71 (-100000) ∈ gtbl := in_t 557 rfl rfl
set_option maxRecDepth 100000 in
theorem mk_X6_72 : Cond.methodLink RX6 72 yX6_hardness ∈ gtbl := in_t 558 rfl rfl
set_option maxRecDepth 100000 in
theorem mk_L_31 : Cond.methodLink RL 31 yX6_taken ∈ gtbl := in_t 562 rfl rfl
set_option maxRecDepth 100000 in
theorem kc_X6_75 : Cond.constantLong RX6 75 (-9999999999) ∈ gtbl := in_t 566 rfl rfl
set_option maxRecDepth 100000 in
theorem mk_L_35 : Cond.methodLink RL 35 yX6_kept ∈ gtbl := in_t 567 rfl rfl
set_option maxRecDepth 100000 in
theorem ck_L_10 : Cond.classLink RL 10 RX6 ∈ gtbl := in_t 571 rfl rfl
set_option maxRecDepth 100000 in
theorem mk_L_12 : Cond.methodLink RL 12 yX6_init ∈ gtbl := in_t 572 rfl rfl
set_option maxRecDepth 100000 in
theorem mk_X6_77 : Cond.methodLink RX6 77 objectInit ∈ gtbl := in_t 575 rfl rfl
set_option maxRecDepth 100000 in
theorem ac_long : Cond.arrayClass .long ∈ gtbl := in_t 694 rfl rfl
set_option maxRecDepth 100000 in
theorem mk_L_40 : Cond.methodLink RL 40 yX6_line ∈ gtbl := in_t 695 rfl rfl
set_option maxRecDepth 100000 in
theorem mk_X6_153 : Cond.methodLink RX6 153 yX6_isFurnace ∈ gtbl := in_t 699 rfl rfl
set_option maxRecDepth 100000 in
theorem mk_L_45 : Cond.methodLink RL 45 yX6_clear ∈ gtbl := in_t 702 rfl rfl
set_option maxRecDepth 100000 in
theorem mk_L_49 : Cond.methodLink RL 49 yX6_load ∈ gtbl := in_t 706 rfl rfl
set_option maxRecDepth 100000 in
theorem mk_X6_156 : Cond.methodLink RX6 156 yX6_isPlace ∈ gtbl := in_t 710 rfl rfl
set_option maxRecDepth 100000 in
theorem mk_X6_159 : Cond.methodLink RX6 159 yX6_massOf ∈ gtbl := in_t 713 rfl rfl
set_option maxRecDepth 100000 in
theorem mk_L_54 : Cond.methodLink RL 54 yX6_unload ∈ gtbl := in_t 717 rfl rfl
set_option maxRecDepth 100000 in
theorem mk_L_59 : Cond.methodLink RL 59 yX6_probe ∈ gtbl := in_t 721 rfl rfl
set_option maxRecDepth 100000 in
theorem mk_L_63 : Cond.methodLink RL 63 yX6_run ∈ gtbl := in_t 725 rfl rfl
set_option maxRecDepth 100000 in
theorem mk_X6_162 : Cond.methodLink RX6 162 yX6_loadOf ∈ gtbl := in_t 729 rfl rfl
set_option maxRecDepth 100000 in
theorem mk_L_67 : Cond.methodLink RL 67 yX6_tick ∈ gtbl := in_t 733 rfl rfl
set_option maxRecDepth 100000 in
theorem mk_X6_172 : Cond.methodLink RX6 172 yX6_ticks ∈ gtbl := in_t 737 rfl rfl
set_option maxRecDepth 100000 in
theorem mk_X6_168 : Cond.methodLink RX6 168 yX6_liveAt ∈ gtbl := in_t 741 rfl rfl
set_option maxRecDepth 100000 in
theorem mk_X6_176 : Cond.methodLink RX6 176 yX6_running ∈ gtbl := in_t 745 rfl rfl
set_option maxRecDepth 100000 in
theorem mk_L_71 : Cond.methodLink RL 71 yX6_stop ∈ gtbl := in_t 749 rfl rfl
set_option maxRecDepth 100000 in
theorem mk_L_75 : Cond.methodLink RL 75 yX6_survey ∈ gtbl := in_t 753 rfl rfl
set_option maxRecDepth 100000 in
theorem mk_L_79 : Cond.methodLink RL 79 yX6_about ∈ gtbl := in_t 757 rfl rfl
set_option maxRecDepth 100000 in
theorem mk_L_83 : Cond.methodLink RL 83 yX6_runAt ∈ gtbl := in_t 761 rfl rfl
set_option maxRecDepth 100000 in
theorem mk_X6_180 : Cond.methodLink RX6 180 yX6_isWell ∈ gtbl := in_t 765 rfl rfl
set_option maxRecDepth 100000 in
theorem mk_L_87 : Cond.methodLink RL 87 yX6_paper ∈ gtbl := in_t 769 rfl rfl
set_option maxRecDepth 100000 in
theorem mk_L_91 : Cond.methodLink RL 91 yX6_job ∈ gtbl := in_t 773 rfl rfl
set_option maxRecDepth 100000 in
theorem mk_L_96 : Cond.methodLink RL 96 yX6_clearJobs ∈ gtbl := in_t 777 rfl rfl
set_option maxRecDepth 100000 in
theorem mk_L_100 : Cond.methodLink RL 100 yX6_lateness ∈ gtbl := in_t 781 rfl rfl
set_option maxRecDepth 100000 in
theorem mk_X6_190 : Cond.methodLink RX6 190 yX6_weigh ∈ gtbl := in_t 785 rfl rfl
set_option maxRecDepth 100000 in
theorem kc_X6_186 : Cond.constant RX6 186 (1000000) ∈ gtbl := in_t 789 rfl rfl
set_option maxRecDepth 100000 in
theorem mk_X6_187 : Cond.methodLink RX6 187 yX6_lateBy ∈ gtbl := in_t 790 rfl rfl
set_option maxRecDepth 100000 in
theorem mk_L_104 : Cond.methodLink RL 104 yX6_order ∈ gtbl := in_t 794 rfl rfl
set_option maxRecDepth 100000 in
theorem mk_L_108 : Cond.methodLink RL 108 yX6_count ∈ gtbl := in_t 798 rfl rfl
set_option maxRecDepth 100000 in
theorem mk_L_113 : Cond.methodLink RL 113 yX6_digest ∈ gtbl := in_t 802 rfl rfl
set_option maxRecDepth 100000 in
theorem kc_X6_193 : Cond.constantLong RX6 193 (139) ∈ gtbl := in_t 806 rfl rfl
set_option maxRecDepth 100000 in
theorem kc_X6_195 : Cond.constantLong RX6 195 (31) ∈ gtbl := in_t 807 rfl rfl
set_option maxRecDepth 100000 in
theorem mk_X6_197 : Cond.methodLink RX6 197 yX6_count ∈ gtbl := in_t 808 rfl rfl
set_option maxRecDepth 100000 in
theorem mk_X6_200 : Cond.methodLink RX6 200 yX6_shell ∈ gtbl := in_t 809 rfl rfl
set_option maxRecDepth 100000 in
theorem mk_X6_204 : Cond.methodLink RX6 204 yX6_about ∈ gtbl := in_t 810 rfl rfl
set_option maxRecDepth 100000 in
theorem mk_X6_207 : Cond.methodLink RX6 207 yX6_runAt ∈ gtbl := in_t 811 rfl rfl
set_option maxRecDepth 100000 in
theorem mk_X5_29 : ∀ D U, hm_K D U → va_Nw (.methodLinkNest RX5 29 yX1_init RX5) U := fun _ _ h => h.2.1.1
set_option maxRecDepth 100000 in
theorem mk_X5_34 : ∀ D U, hm_K D U → va_Nw (.methodLinkNest RX5 34 yX0_init RX5) U := fun _ _ h => h.2.1.2.1
set_option maxRecDepth 100000 in
theorem mk_X2_36 : ∀ D U, hm_K D U → va_Nw (.methodLinkNest RX2 36 yX4_init RX5) U := fun _ _ h => h.2.1.2.2.1
set_option maxRecDepth 100000 in
theorem mk_X4_49 : ∀ D U, hm_K D U → va_Nw (.methodLinkNest RX4 49 yX5_within RX5) U := fun _ _ h => h.2.1.2.2.2.1
set_option maxRecDepth 100000 in
theorem mk_X0_115 : ∀ D U, hm_K D U → va_Nw (.methodLinkNest RX0 115 yX5_truth RX5) U := fun _ _ h => h.2.1.2.2.2.2.1
set_option maxRecDepth 100000 in
theorem mk_X3_25 : ∀ D U, hm_K D U → va_Nw (.methodLinkNest RX3 25 yX5_truth RX5) U := fun _ _ h => h.2.1.2.2.2.2.2
set_option maxRecDepth 100000 in
theorem ao_RX2 : ∀ D U, hm_K D U → va_AO RX2 U := fun _ _ h => h.2.2.1
set_option maxRecDepth 100000 in
theorem ao_RX0 : ∀ D U, hm_K D U → va_AO RX0 U := fun _ _ h => h.2.2.2.1
set_option maxRecDepth 100000 in
theorem ao_RX3 : ∀ D U, hm_K D U → va_AO RX3 U := fun _ _ h => h.2.2.2.2.1
set_option maxRecDepth 100000 in
theorem ao_RX4 : ∀ D U, hm_K D U → va_AO RX4 U := fun _ _ h => h.2.2.2.2.2
set_option maxRecDepth 100000 in
theorem oi_i : Cond.instanceMethod objectInit ∈ gtbl := in_t 15 rfl rfl
set_option maxRecDepth 100000 in
theorem oi_c : Cond.code objectInit ⟨#[0xb1]⟩ 1 none ∈ gtbl := in_t 16 rfl rfl
set_option maxRecDepth 100000 in
theorem mmin_s : Cond.static Lib.Math.min.name ∈ gtbl := in_t 226 rfl rfl
set_option maxRecDepth 100000 in
theorem mmin_c : Cond.code Lib.Math.min.name Lib.Math.min.code 2 (some .int) ∈ gtbl := in_t 227 rfl rfl
set_option maxRecDepth 100000 in
theorem mmax_s : Cond.static Lib.Math.max.name ∈ gtbl := in_t 372 rfl rfl
set_option maxRecDepth 100000 in
theorem mmax_c : Cond.code Lib.Math.max.name Lib.Math.max.code 2 (some .int) ∈ gtbl := in_t 373 rfl rfl
set_option maxRecDepth 100000 in
theorem math_i : Cond.initialized "java/lang/Math" ∈ gtbl := in_t 7 rfl rfl
abbrev md_X5_init : Md_ := (cX5_init, RX5, "<init>", 2, none, 2, 40, 40, 1000)
set_option maxRecDepth 100000 in
theorem yl_X5_init : hy_L yX5_init md_X5_init 0 := ⟨in_t 13 rfl rfl, in_t 1 rfl rfl, by decide +kernel⟩
set_option maxRecDepth 100000 in
theorem yi_X5_init : Cond.instanceMethod yX5_init ∈ gtbl := in_t 12 rfl rfl
abbrev md_X1_init : Md_ := (cX1_init, RX1, "<init>", 1, none, 1, 20, 4, 149)
set_option maxRecDepth 100000 in
theorem yl_X1_init : hy_L yX1_init md_X1_init 0 := ⟨in_t 27 rfl rfl, in_t 2 rfl rfl, by decide +kernel⟩
set_option maxRecDepth 100000 in
theorem yi_X1_init : Cond.instanceMethod yX1_init ∈ gtbl := in_t 26 rfl rfl
abbrev md_X0_init : Md_ := (cX0_init, RX0, "<init>", 1, none, 1, 20, 6, 36)
set_option maxRecDepth 100000 in
theorem yl_X0_init : hy_L yX0_init md_X0_init 0 := ⟨in_t 51 rfl rfl, in_t 3 rfl rfl, by decide +kernel⟩
set_option maxRecDepth 100000 in
theorem yi_X0_init : Cond.instanceMethod yX0_init ∈ gtbl := in_t 50 rfl rfl
abbrev md_X5_part : Md_ := (cX5_part, RX5, "part", 7, (some .int), 3, 68, 8, 52)
set_option maxRecDepth 100000 in
theorem yl_X5_part : hy_L yX5_part md_X5_part 6 := ⟨in_t 123 rfl rfl, in_t 1 rfl rfl, by decide +kernel⟩
set_option maxRecDepth 100000 in
theorem yv_X5_part : hy_V yX5_part 5 := ⟨RX5, TX5, 6, hc_5, in_t 121 rfl rfl, in_t 122 rfl rfl⟩
abbrev md_X5_within : Md_ := (cX5_within, RX5, "within", 3, (some .boolean), 0, 0, 0, 0)
set_option maxRecDepth 100000 in
theorem yl_X5_within : hy_L yX5_within md_X5_within 3 := ⟨in_t 126 rfl rfl, in_t 1 rfl rfl, by decide +kernel⟩
set_option maxRecDepth 100000 in
theorem ys_X5_within : Cond.static yX5_within ∈ gtbl := in_t 125 rfl rfl
abbrev md_X2_init : Md_ := (cX2_init, RX2, "<init>", 9, none, 2, 40, 7, 42)
set_option maxRecDepth 100000 in
theorem yl_X2_init : hy_L yX2_init md_X2_init 7 := ⟨in_t 130 rfl rfl, in_t 5 rfl rfl, by decide +kernel⟩
set_option maxRecDepth 100000 in
theorem yi_X2_init : Cond.instanceMethod yX2_init ∈ gtbl := in_t 129 rfl rfl
abbrev md_X4_init : Md_ := (cX4_init, RX4, "<init>", 1, none, 1, 20, 0, 0)
set_option maxRecDepth 100000 in
theorem yl_X4_init : hy_L yX4_init md_X4_init 0 := ⟨in_t 137 rfl rfl, in_t 6 rfl rfl, by decide +kernel⟩
set_option maxRecDepth 100000 in
theorem yi_X4_init : Cond.instanceMethod yX4_init ∈ gtbl := in_t 136 rfl rfl
abbrev md_X5_step : Md_ := (cX5_step, RX5, "step", 6, (some .int), 4, 89, 0, 0)
set_option maxRecDepth 100000 in
theorem yl_X5_step : hy_L yX5_step md_X5_step 3 := ⟨in_t 200 rfl rfl, in_t 1 rfl rfl, by decide +kernel⟩
set_option maxRecDepth 100000 in
theorem yv_X5_step : hy_V yX5_step 5 := ⟨RX5, TX5, 6, hc_5, in_t 198 rfl rfl, in_t 199 rfl rfl⟩
abbrev md_X5_partAt : Md_ := (cX5_partAt, RX5, "partAt", 2, (some (.object RX2)), 1, 22, 0, 0)
set_option maxRecDepth 100000 in
theorem yl_X5_partAt : hy_L yX5_partAt md_X5_partAt 1 := ⟨in_t 204 rfl rfl, in_t 1 rfl rfl, by decide +kernel⟩
set_option maxRecDepth 100000 in
theorem yv_X5_partAt : hy_V yX5_partAt 5 := ⟨RX5, TX5, 6, hc_5, in_t 203 rfl rfl, in_g 0 rfl rfl⟩
abbrev md_X2_stepBeside : Md_ := (cX2_stepBeside, RX2, "stepBeside", 3, none, 3, 67, 0, 0)
set_option maxRecDepth 100000 in
theorem yl_X2_stepBeside : hy_L yX2_stepBeside md_X2_stepBeside 1 := ⟨in_t 208 rfl rfl, in_t 5 rfl rfl, by decide +kernel⟩
set_option maxRecDepth 100000 in
theorem yv_X2_stepBeside : hy_V yX2_stepBeside 2 := ⟨RX2, TX2, 10, hc_2, in_t 206 rfl rfl, in_t 207 rfl rfl⟩
abbrev md_X2_moveWarmth : Md_ := (cX2_moveWarmth, RX2, "moveWarmth", 5, none, 1, 21, 0, 0)
set_option maxRecDepth 100000 in
theorem yl_X2_moveWarmth : hy_L yX2_moveWarmth md_X2_moveWarmth 1 := ⟨in_t 212 rfl rfl, in_t 5 rfl rfl, by decide +kernel⟩
set_option maxRecDepth 100000 in
theorem yv_X2_moveWarmth : hy_V yX2_moveWarmth 2 := ⟨RX2, TX2, 10, hc_2, in_t 211 rfl rfl, in_g 1 rfl rfl⟩
abbrev md_X2_flowFrom : Md_ := (cX2_flowFrom, RX2, "flowFrom", 2, (some .int), 0, 0, 0, 0)
set_option maxRecDepth 100000 in
theorem yl_X2_flowFrom : hy_L yX2_flowFrom md_X2_flowFrom 1 := ⟨in_t 216 rfl rfl, in_t 5 rfl rfl, by decide +kernel⟩
set_option maxRecDepth 100000 in
theorem yv_X2_flowFrom : hy_V yX2_flowFrom 2 := ⟨RX2, TX2, 10, hc_2, in_t 215 rfl rfl, in_g 2 rfl rfl⟩
abbrev md_X4_change : Md_ := (cX4_change, RX4, "change", 3, none, 2, 45, 0, 0)
set_option maxRecDepth 100000 in
theorem yl_X4_change : hy_L yX4_change md_X4_change 2 := ⟨in_t 220 rfl rfl, in_t 6 rfl rfl, by decide +kernel⟩
set_option maxRecDepth 100000 in
theorem yv_X4_change : hy_V yX4_change 4 := ⟨RX4, TX4, 6, hc_4, in_t 218 rfl rfl, in_t 219 rfl rfl⟩
abbrev md_X4_becomeHot : Md_ := (cX4_becomeHot, RX4, "becomeHot", 5, none, 1, 21, 0, 0)
set_option maxRecDepth 100000 in
theorem yl_X4_becomeHot : hy_L yX4_becomeHot md_X4_becomeHot 1 := ⟨in_t 224 rfl rfl, in_t 6 rfl rfl, by decide +kernel⟩
set_option maxRecDepth 100000 in
theorem yv_X4_becomeHot : hy_V yX4_becomeHot 4 := ⟨RX4, TX4, 6, hc_4, in_t 223 rfl rfl, in_g 3 rfl rfl⟩
abbrev md_X4_becomeLamellar : Md_ := (cX4_becomeLamellar, RX4, "becomeLamellar", 2, none, 0, 0, 0, 0)
set_option maxRecDepth 100000 in
theorem yl_X4_becomeLamellar : hy_L yX4_becomeLamellar md_X4_becomeLamellar 1 := ⟨in_t 231 rfl rfl, in_t 6 rfl rfl, by decide +kernel⟩
set_option maxRecDepth 100000 in
theorem yv_X4_becomeLamellar : hy_V yX4_becomeLamellar 4 := ⟨RX4, TX4, 6, hc_4, in_t 230 rfl rfl, in_g 4 rfl rfl⟩
abbrev md_X4_becomeTough : Md_ := (cX4_becomeTough, RX4, "becomeTough", 2, none, 0, 0, 0, 0)
set_option maxRecDepth 100000 in
theorem yl_X4_becomeTough : hy_L yX4_becomeTough md_X4_becomeTough 1 := ⟨in_t 235 rfl rfl, in_t 6 rfl rfl, by decide +kernel⟩
set_option maxRecDepth 100000 in
theorem yv_X4_becomeTough : hy_V yX4_becomeTough 4 := ⟨RX4, TX4, 6, hc_4, in_t 234 rfl rfl, in_g 5 rfl rfl⟩
abbrev md_X4_becomeHard : Md_ := (cX4_becomeHard, RX4, "becomeHard", 3, none, 1, 21, 0, 0)
set_option maxRecDepth 100000 in
theorem yl_X4_becomeHard : hy_L yX4_becomeHard md_X4_becomeHard 1 := ⟨in_t 239 rfl rfl, in_t 6 rfl rfl, by decide +kernel⟩
set_option maxRecDepth 100000 in
theorem yv_X4_becomeHard : hy_V yX4_becomeHard 4 := ⟨RX4, TX4, 6, hc_4, in_t 238 rfl rfl, in_g 6 rfl rfl⟩
abbrev md_X4_draw : Md_ := (cX4_draw, RX4, "draw", 1, none, 1, 22, 0, 0)
set_option maxRecDepth 100000 in
theorem yl_X4_draw : hy_L yX4_draw md_X4_draw 0 := ⟨in_t 243 rfl rfl, in_t 6 rfl rfl, by decide +kernel⟩
set_option maxRecDepth 100000 in
theorem yv_X4_draw : hy_V yX4_draw 4 := ⟨RX4, TX4, 6, hc_4, in_t 242 rfl rfl, in_g 7 rfl rfl⟩
abbrev md_X2_innermostWarmth : Md_ := (cX2_innermostWarmth, RX2, "innermostWarmth", 1, (some .int), 0, 0, 0, 0)
set_option maxRecDepth 100000 in
theorem yl_X2_innermostWarmth : hy_L yX2_innermostWarmth md_X2_innermostWarmth 0 := ⟨in_t 248 rfl rfl, in_t 5 rfl rfl, by decide +kernel⟩
set_option maxRecDepth 100000 in
theorem yv_X2_innermostWarmth : hy_V yX2_innermostWarmth 2 := ⟨RX2, TX2, 10, hc_2, in_t 246 rfl rfl, in_t 247 rfl rfl⟩
abbrev md_X5_shell : Md_ := (cX5_shell, RX5, "shell", 5, (some .int), 3, 63, 0, 0)
set_option maxRecDepth 100000 in
theorem yl_X5_shell : hy_L yX5_shell md_X5_shell 3 := ⟨in_t 252 rfl rfl, in_t 1 rfl rfl, by decide +kernel⟩
set_option maxRecDepth 100000 in
theorem yv_X5_shell : hy_V yX5_shell 5 := ⟨RX5, TX5, 6, hc_5, in_t 250 rfl rfl, in_t 251 rfl rfl⟩
abbrev md_X4_tell : Md_ := (cX4_tell, RX4, "tell", 2, (some .int), 2, 42, 0, 0)
set_option maxRecDepth 100000 in
theorem yl_X4_tell : hy_L yX4_tell md_X4_tell 1 := ⟨in_t 257 rfl rfl, in_t 6 rfl rfl, by decide +kernel⟩
set_option maxRecDepth 100000 in
theorem yv_X4_tell : hy_V yX4_tell 4 := ⟨RX4, TX4, 6, hc_4, in_t 255 rfl rfl, in_t 256 rfl rfl⟩
abbrev md_X4_hardness : Md_ := (cX4_hardness, RX4, "hardness", 2, (some .int), 1, 21, 0, 0)
set_option maxRecDepth 100000 in
theorem yl_X4_hardness : hy_L yX4_hardness md_X4_hardness 0 := ⟨in_t 261 rfl rfl, in_t 6 rfl rfl, by decide +kernel⟩
set_option maxRecDepth 100000 in
theorem yv_X4_hardness : hy_V yX4_hardness 4 := ⟨RX4, TX4, 6, hc_4, in_t 259 rfl rfl, in_t 260 rfl rfl⟩
abbrev md_X5_taken : Md_ := (cX5_taken, RX5, "taken", 3, (some .long), 2, 43, 0, 0)
set_option maxRecDepth 100000 in
theorem yl_X5_taken : hy_L yX5_taken md_X5_taken 1 := ⟨in_t 265 rfl rfl, in_t 1 rfl rfl, by decide +kernel⟩
set_option maxRecDepth 100000 in
theorem yv_X5_taken : hy_V yX5_taken 5 := ⟨RX5, TX5, 6, hc_5, in_t 263 rfl rfl, in_t 264 rfl rfl⟩
abbrev md_X5_kept : Md_ := (cX5_kept, RX5, "kept", 3, (some .long), 2, 43, 0, 0)
set_option maxRecDepth 100000 in
theorem yl_X5_kept : hy_L yX5_kept md_X5_kept 1 := ⟨in_t 270 rfl rfl, in_t 1 rfl rfl, by decide +kernel⟩
set_option maxRecDepth 100000 in
theorem yv_X5_kept : hy_V yX5_kept 5 := ⟨RX5, TX5, 6, hc_5, in_t 268 rfl rfl, in_t 269 rfl rfl⟩
abbrev md_X2_warmthAstray : Md_ := (cX2_warmthAstray, RX2, "warmthAstray", 4, (some .long), 0, 0, 0, 0)
set_option maxRecDepth 100000 in
theorem yl_X2_warmthAstray : hy_L yX2_warmthAstray md_X2_warmthAstray 0 := ⟨in_t 274 rfl rfl, in_t 5 rfl rfl, by decide +kernel⟩
set_option maxRecDepth 100000 in
theorem yv_X2_warmthAstray : hy_V yX2_warmthAstray 2 := ⟨RX2, TX2, 10, hc_2, in_t 272 rfl rfl, in_t 273 rfl rfl⟩
abbrev md_X5_line : Md_ := (cX5_line, RX5, "line", 6, (some .int), 2, 44, 0, 0)
set_option maxRecDepth 100000 in
theorem yl_X5_line : hy_L yX5_line md_X5_line 4 := ⟨in_t 278 rfl rfl, in_t 1 rfl rfl, by decide +kernel⟩
set_option maxRecDepth 100000 in
theorem yv_X5_line : hy_V yX5_line 5 := ⟨RX5, TX5, 6, hc_5, in_t 276 rfl rfl, in_t 277 rfl rfl⟩
abbrev md_X5_furnaceAt : Md_ := (cX5_furnaceAt, RX5, "furnaceAt", 2, (some (.object RX0)), 1, 22, 0, 0)
set_option maxRecDepth 100000 in
theorem yl_X5_furnaceAt : hy_L yX5_furnaceAt md_X5_furnaceAt 1 := ⟨in_t 282 rfl rfl, in_t 1 rfl rfl, by decide +kernel⟩
set_option maxRecDepth 100000 in
theorem yv_X5_furnaceAt : hy_V yX5_furnaceAt 5 := ⟨RX5, TX5, 6, hc_5, in_t 281 rfl rfl, in_g 8 rfl rfl⟩
abbrev md_X5_lineIsAsTold : Md_ := (cX5_lineIsAsTold, RX5, "lineIsAsTold", 3, (some .boolean), 1, 22, 0, 0)
set_option maxRecDepth 100000 in
theorem yl_X5_lineIsAsTold : hy_L yX5_lineIsAsTold md_X5_lineIsAsTold 3 := ⟨in_t 285 rfl rfl, in_t 1 rfl rfl, by decide +kernel⟩
set_option maxRecDepth 100000 in
theorem ys_X5_lineIsAsTold : Cond.static yX5_lineIsAsTold ∈ gtbl := in_t 284 rfl rfl
abbrev md_X0_isRunning : Md_ := (cX0_isRunning, RX0, "isRunning", 1, (some .boolean), 0, 0, 0, 0)
set_option maxRecDepth 100000 in
theorem yl_X0_isRunning : hy_L yX0_isRunning md_X0_isRunning 0 := ⟨in_t 289 rfl rfl, in_t 3 rfl rfl, by decide +kernel⟩
set_option maxRecDepth 100000 in
theorem yv_X0_isRunning : hy_V yX0_isRunning 0 := ⟨RX0, TX0, 13, hc_0, in_t 287 rfl rfl, in_t 288 rfl rfl⟩
abbrev md_X0_addLine : Md_ := (cX0_addLine, RX0, "addLine", 4, (some .int), 0, 0, 0, 0)
set_option maxRecDepth 100000 in
theorem yl_X0_addLine : hy_L yX0_addLine md_X0_addLine 3 := ⟨in_t 293 rfl rfl, in_t 3 rfl rfl, by decide +kernel⟩
set_option maxRecDepth 100000 in
theorem yv_X0_addLine : hy_V yX0_addLine 0 := ⟨RX0, TX0, 13, hc_0, in_t 291 rfl rfl, in_t 292 rfl rfl⟩
abbrev md_X5_clear : Md_ := (cX5_clear, RX5, "clear", 4, (some .int), 2, 43, 0, 0)
set_option maxRecDepth 100000 in
theorem yl_X5_clear : hy_L yX5_clear md_X5_clear 1 := ⟨in_t 297 rfl rfl, in_t 1 rfl rfl, by decide +kernel⟩
set_option maxRecDepth 100000 in
theorem yv_X5_clear : hy_V yX5_clear 5 := ⟨RX5, TX5, 6, hc_5, in_t 295 rfl rfl, in_t 296 rfl rfl⟩
abbrev md_X5_load : Md_ := (cX5_load, RX5, "load", 6, (some .int), 2, 43, 0, 0)
set_option maxRecDepth 100000 in
theorem yl_X5_load : hy_L yX5_load md_X5_load 3 := ⟨in_t 301 rfl rfl, in_t 1 rfl rfl, by decide +kernel⟩
set_option maxRecDepth 100000 in
theorem yv_X5_load : hy_V yX5_load 5 := ⟨RX5, TX5, 6, hc_5, in_t 299 rfl rfl, in_t 300 rfl rfl⟩
abbrev md_X0_massInside : Md_ := (cX0_massInside, RX0, "massInside", 3, (some .int), 0, 0, 0, 0)
set_option maxRecDepth 100000 in
theorem yl_X0_massInside : hy_L yX0_massInside md_X0_massInside 0 := ⟨in_t 305 rfl rfl, in_t 3 rfl rfl, by decide +kernel⟩
set_option maxRecDepth 100000 in
theorem yv_X0_massInside : hy_V yX0_massInside 0 := ⟨RX0, TX0, 13, hc_0, in_t 303 rfl rfl, in_t 304 rfl rfl⟩
abbrev md_X5_unload : Md_ := (cX5_unload, RX5, "unload", 5, (some .int), 2, 43, 0, 0)
set_option maxRecDepth 100000 in
theorem yl_X5_unload : hy_L yX5_unload md_X5_unload 2 := ⟨in_t 309 rfl rfl, in_t 1 rfl rfl, by decide +kernel⟩
set_option maxRecDepth 100000 in
theorem yv_X5_unload : hy_V yX5_unload 5 := ⟨RX5, TX5, 6, hc_5, in_t 307 rfl rfl, in_t 308 rfl rfl⟩
abbrev md_X5_probe : Md_ := (cX5_probe, RX5, "probe", 6, (some .int), 2, 43, 0, 0)
set_option maxRecDepth 100000 in
theorem yl_X5_probe : hy_L yX5_probe md_X5_probe 4 := ⟨in_t 313 rfl rfl, in_t 1 rfl rfl, by decide +kernel⟩
set_option maxRecDepth 100000 in
theorem yv_X5_probe : hy_V yX5_probe 5 := ⟨RX5, TX5, 6, hc_5, in_t 311 rfl rfl, in_t 312 rfl rfl⟩
abbrev md_X5_run : Md_ := (cX5_run, RX5, "run", 4, (some .int), 2, 43, 1, 6)
set_option maxRecDepth 100000 in
theorem yl_X5_run : hy_L yX5_run md_X5_run 1 := ⟨in_t 317 rfl rfl, in_t 1 rfl rfl, by decide +kernel⟩
set_option maxRecDepth 100000 in
theorem yv_X5_run : hy_V yX5_run 5 := ⟨RX5, TX5, 6, hc_5, in_t 315 rfl rfl, in_t 316 rfl rfl⟩
abbrev md_X0_partsInside : Md_ := (cX0_partsInside, RX0, "partsInside", 3, (some .int), 0, 0, 0, 0)
set_option maxRecDepth 100000 in
theorem yl_X0_partsInside : hy_L yX0_partsInside md_X0_partsInside 0 := ⟨in_t 321 rfl rfl, in_t 3 rfl rfl, by decide +kernel⟩
set_option maxRecDepth 100000 in
theorem yv_X0_partsInside : hy_V yX0_partsInside 0 := ⟨RX0, TX0, 13, hc_0, in_t 319 rfl rfl, in_t 320 rfl rfl⟩
abbrev md_X3_init : Md_ := (cX3_init, RX3, "<init>", 2, none, 1, 20, 0, 0)
set_option maxRecDepth 100000 in
theorem yl_X3_init : hy_L yX3_init md_X3_init 1 := ⟨in_t 325 rfl rfl, in_t 8 rfl rfl, by decide +kernel⟩
set_option maxRecDepth 100000 in
theorem yi_X3_init : Cond.instanceMethod yX3_init ∈ gtbl := in_t 324 rfl rfl
abbrev md_X0_begin : Md_ := (cX0_begin, RX0, "begin", 3, none, 0, 0, 0, 0)
set_option maxRecDepth 100000 in
theorem yl_X0_begin : hy_L yX0_begin md_X0_begin 1 := ⟨in_t 353 rfl rfl, in_t 3 rfl rfl, by decide +kernel⟩
set_option maxRecDepth 100000 in
theorem yv_X0_begin : hy_V yX0_begin 0 := ⟨RX0, TX0, 13, hc_0, in_t 351 rfl rfl, in_t 352 rfl rfl⟩
abbrev md_X5_tick : Md_ := (cX5_tick, RX5, "tick", 4, (some .int), 5, 110, 0, 0)
set_option maxRecDepth 100000 in
theorem yl_X5_tick : hy_L yX5_tick md_X5_tick 1 := ⟨in_t 357 rfl rfl, in_t 1 rfl rfl, by decide +kernel⟩
set_option maxRecDepth 100000 in
theorem yv_X5_tick : hy_V yX5_tick 5 := ⟨RX5, TX5, 6, hc_5, in_t 355 rfl rfl, in_t 356 rfl rfl⟩
abbrev md_X0_doTick : Md_ := (cX0_doTick, RX0, "doTick", 2, none, 4, 89, 0, 0)
set_option maxRecDepth 100000 in
theorem yl_X0_doTick : hy_L yX0_doTick md_X0_doTick 0 := ⟨in_t 361 rfl rfl, in_t 3 rfl rfl, by decide +kernel⟩
set_option maxRecDepth 100000 in
theorem yv_X0_doTick : hy_V yX0_doTick 0 := ⟨RX0, TX0, 13, hc_0, in_t 359 rfl rfl, in_t 360 rfl rfl⟩
abbrev md_X0_gasByLine : Md_ := (cX0_gasByLine, RX0, "gasByLine", 1, (some .int), 2, 43, 0, 0)
set_option maxRecDepth 100000 in
theorem yl_X0_gasByLine : hy_L yX0_gasByLine md_X0_gasByLine 0 := ⟨in_t 365 rfl rfl, in_t 3 rfl rfl, by decide +kernel⟩
set_option maxRecDepth 100000 in
theorem yv_X0_gasByLine : hy_V yX0_gasByLine 0 := ⟨RX0, TX0, 13, hc_0, in_t 364 rfl rfl, in_g 9 rfl rfl⟩
abbrev md_X0_gasNearer : Md_ := (cX0_gasNearer, RX0, "gasNearer", 3, (some .int), 1, 21, 0, 0)
set_option maxRecDepth 100000 in
theorem yl_X0_gasNearer : hy_L yX0_gasNearer md_X0_gasNearer 2 := ⟨in_t 369 rfl rfl, in_t 3 rfl rfl, by decide +kernel⟩
set_option maxRecDepth 100000 in
theorem yv_X0_gasNearer : hy_V yX0_gasNearer 0 := ⟨RX0, TX0, 13, hc_0, in_t 368 rfl rfl, in_g 10 rfl rfl⟩
abbrev md_X0_lineIsOver : Md_ := (cX0_lineIsOver, RX0, "lineIsOver", 2, (some .boolean), 2, 45, 0, 0)
set_option maxRecDepth 100000 in
theorem yl_X0_lineIsOver : hy_L yX0_lineIsOver md_X0_lineIsOver 1 := ⟨in_t 378 rfl rfl, in_t 3 rfl rfl, by decide +kernel⟩
set_option maxRecDepth 100000 in
theorem yv_X0_lineIsOver : hy_V yX0_lineIsOver 0 := ⟨RX0, TX0, 13, hc_0, in_t 377 rfl rfl, in_g 11 rfl rfl⟩
abbrev md_X0_countSoak : Md_ := (cX0_countSoak, RX0, "countSoak", 4, none, 1, 22, 0, 0)
set_option maxRecDepth 100000 in
theorem yl_X0_countSoak : hy_L yX0_countSoak md_X0_countSoak 1 := ⟨in_t 382 rfl rfl, in_t 3 rfl rfl, by decide +kernel⟩
set_option maxRecDepth 100000 in
theorem yv_X0_countSoak : hy_V yX0_countSoak 0 := ⟨RX0, TX0, 13, hc_0, in_t 381 rfl rfl, in_g 12 rfl rfl⟩
abbrev md_X0_goToNextLine : Md_ := (cX0_goToNextLine, RX0, "goToNextLine", 1, none, 2, 42, 0, 0)
set_option maxRecDepth 100000 in
theorem yl_X0_goToNextLine : hy_L yX0_goToNextLine md_X0_goToNextLine 0 := ⟨in_t 388 rfl rfl, in_t 3 rfl rfl, by decide +kernel⟩
set_option maxRecDepth 100000 in
theorem yv_X0_goToNextLine : hy_V yX0_goToNextLine 0 := ⟨RX0, TX0, 13, hc_0, in_t 387 rfl rfl, in_g 13 rfl rfl⟩
abbrev md_X0_end : Md_ := (cX0_end, RX0, "end", 2, none, 1, 21, 0, 0)
set_option maxRecDepth 100000 in
theorem yl_X0_end : hy_L yX0_end md_X0_end 1 := ⟨in_t 392 rfl rfl, in_t 3 rfl rfl, by decide +kernel⟩
set_option maxRecDepth 100000 in
theorem yv_X0_end : hy_V yX0_end 0 := ⟨RX0, TX0, 13, hc_0, in_t 390 rfl rfl, in_t 391 rfl rfl⟩
abbrev md_X3_end : Md_ := (cX3_end, RX3, "end", 2, none, 0, 0, 0, 0)
set_option maxRecDepth 100000 in
theorem yl_X3_end : hy_L yX3_end md_X3_end 1 := ⟨in_t 396 rfl rfl, in_t 8 rfl rfl, by decide +kernel⟩
set_option maxRecDepth 100000 in
theorem yv_X3_end : hy_V yX3_end 3 := ⟨RX3, TX3, 6, hc_3, in_t 394 rfl rfl, in_t 395 rfl rfl⟩
abbrev md_X5_furnacesRunning : Md_ := (cX5_furnacesRunning, RX5, "furnacesRunning", 3, (some .int), 1, 20, 0, 0)
set_option maxRecDepth 100000 in
theorem yl_X5_furnacesRunning : hy_L yX5_furnacesRunning md_X5_furnacesRunning 0 := ⟨in_t 400 rfl rfl, in_t 1 rfl rfl, by decide +kernel⟩
set_option maxRecDepth 100000 in
theorem yv_X5_furnacesRunning : hy_V yX5_furnacesRunning 5 := ⟨RX5, TX5, 6, hc_5, in_t 399 rfl rfl, in_g 14 rfl rfl⟩
abbrev md_X5_stop : Md_ := (cX5_stop, RX5, "stop", 4, (some .int), 2, 43, 0, 0)
set_option maxRecDepth 100000 in
theorem yl_X5_stop : hy_L yX5_stop md_X5_stop 1 := ⟨in_t 404 rfl rfl, in_t 1 rfl rfl, by decide +kernel⟩
set_option maxRecDepth 100000 in
theorem yv_X5_stop : hy_V yX5_stop 5 := ⟨RX5, TX5, 6, hc_5, in_t 402 rfl rfl, in_t 403 rfl rfl⟩
abbrev md_X5_survey : Md_ := (cX5_survey, RX5, "survey", 5, (some .int), 2, 43, 0, 0)
set_option maxRecDepth 100000 in
theorem yl_X5_survey : hy_L yX5_survey md_X5_survey 2 := ⟨in_t 409 rfl rfl, in_t 1 rfl rfl, by decide +kernel⟩
set_option maxRecDepth 100000 in
theorem yv_X5_survey : hy_V yX5_survey 5 := ⟨RX5, TX5, 6, hc_5, in_t 407 rfl rfl, in_t 408 rfl rfl⟩
abbrev md_X5_doubtRuns : Md_ := (cX5_doubtRuns, RX5, "doubtRuns", 5, (some .int), 0, 0, 0, 0)
set_option maxRecDepth 100000 in
theorem yl_X5_doubtRuns : hy_L yX5_doubtRuns md_X5_doubtRuns 2 := ⟨in_t 413 rfl rfl, in_t 1 rfl rfl, by decide +kernel⟩
set_option maxRecDepth 100000 in
theorem yv_X5_doubtRuns : hy_V yX5_doubtRuns 5 := ⟨RX5, TX5, 6, hc_5, in_t 412 rfl rfl, in_g 15 rfl rfl⟩
abbrev md_X5_about : Md_ := (cX5_about, RX5, "about", 4, (some .int), 2, 43, 0, 0)
set_option maxRecDepth 100000 in
theorem yl_X5_about : hy_L yX5_about md_X5_about 2 := ⟨in_t 417 rfl rfl, in_t 1 rfl rfl, by decide +kernel⟩
set_option maxRecDepth 100000 in
theorem yv_X5_about : hy_V yX5_about 5 := ⟨RX5, TX5, 6, hc_5, in_t 415 rfl rfl, in_t 416 rfl rfl⟩
abbrev md_X0_tell : Md_ := (cX0_tell, RX0, "tell", 2, (some .int), 1, 22, 0, 0)
set_option maxRecDepth 100000 in
theorem yl_X0_tell : hy_L yX0_tell md_X0_tell 1 := ⟨in_t 421 rfl rfl, in_t 3 rfl rfl, by decide +kernel⟩
set_option maxRecDepth 100000 in
theorem yv_X0_tell : hy_V yX0_tell 0 := ⟨RX0, TX0, 13, hc_0, in_t 419 rfl rfl, in_t 420 rfl rfl⟩
abbrev md_X5_truth : Md_ := (cX5_truth, RX5, "truth", 1, (some .int), 0, 0, 0, 0)
set_option maxRecDepth 100000 in
theorem yl_X5_truth : hy_L yX5_truth md_X5_truth 1 := ⟨in_t 425 rfl rfl, in_t 1 rfl rfl, by decide +kernel⟩
set_option maxRecDepth 100000 in
theorem ys_X5_truth : Cond.static yX5_truth ∈ gtbl := in_t 424 rfl rfl
abbrev md_X5_runAt : Md_ := (cX5_runAt, RX5, "runAt", 3, (some .int), 2, 41, 0, 0)
set_option maxRecDepth 100000 in
theorem yl_X5_runAt : hy_L yX5_runAt md_X5_runAt 2 := ⟨in_t 430 rfl rfl, in_t 1 rfl rfl, by decide +kernel⟩
set_option maxRecDepth 100000 in
theorem yv_X5_runAt : hy_V yX5_runAt 5 := ⟨RX5, TX5, 6, hc_5, in_t 428 rfl rfl, in_t 429 rfl rfl⟩
abbrev md_X3_tell : Md_ := (cX3_tell, RX3, "tell", 2, (some .int), 1, 20, 0, 0)
set_option maxRecDepth 100000 in
theorem yl_X3_tell : hy_L yX3_tell md_X3_tell 1 := ⟨in_t 434 rfl rfl, in_t 8 rfl rfl, by decide +kernel⟩
set_option maxRecDepth 100000 in
theorem yv_X3_tell : hy_V yX3_tell 3 := ⟨RX3, TX3, 6, hc_3, in_t 432 rfl rfl, in_t 433 rfl rfl⟩
abbrev md_X3_isWell : Md_ := (cX3_isWell, RX3, "isWell", 1, (some .boolean), 0, 0, 0, 0)
set_option maxRecDepth 100000 in
theorem yl_X3_isWell : hy_L yX3_isWell md_X3_isWell 0 := ⟨in_t 439 rfl rfl, in_t 8 rfl rfl, by decide +kernel⟩
set_option maxRecDepth 100000 in
theorem yv_X3_isWell : hy_V yX3_isWell 3 := ⟨RX3, TX3, 6, hc_3, in_t 437 rfl rfl, in_t 438 rfl rfl⟩
abbrev md_X5_paper : Md_ := (cX5_paper, RX5, "paper", 7, (some .int), 2, 43, 0, 0)
set_option maxRecDepth 100000 in
theorem yl_X5_paper : hy_L yX5_paper md_X5_paper 3 := ⟨in_t 443 rfl rfl, in_t 1 rfl rfl, by decide +kernel⟩
set_option maxRecDepth 100000 in
theorem yv_X5_paper : hy_V yX5_paper 5 := ⟨RX5, TX5, 6, hc_5, in_t 441 rfl rfl, in_t 442 rfl rfl⟩
abbrev md_X5_job : Md_ := (cX5_job, RX5, "job", 3, (some .int), 5, 115, 0, 0)
set_option maxRecDepth 100000 in
theorem yl_X5_job : hy_L yX5_job md_X5_job 2 := ⟨in_t 449 rfl rfl, in_t 1 rfl rfl, by decide +kernel⟩
set_option maxRecDepth 100000 in
theorem yv_X5_job : hy_V yX5_job 5 := ⟨RX5, TX5, 6, hc_5, in_t 447 rfl rfl, in_t 448 rfl rfl⟩
abbrev md_X1_add : Md_ := (cX1_add, RX1, "add", 3, (some .int), 4, 93, 0, 0)
set_option maxRecDepth 100000 in
theorem yl_X1_add : hy_L yX1_add md_X1_add 2 := ⟨in_t 453 rfl rfl, in_t 2 rfl rfl, by decide +kernel⟩
set_option maxRecDepth 100000 in
theorem yv_X1_add : hy_V yX1_add 1 := ⟨RX1, TX1, 5, hc_1, in_t 451 rfl rfl, in_t 452 rfl rfl⟩
abbrev md_X1_plan : Md_ := (cX1_plan, RX1, "plan", 4, none, 3, 70, 0, 0)
set_option maxRecDepth 100000 in
theorem yl_X1_plan : hy_L yX1_plan md_X1_plan 0 := ⟨in_t 457 rfl rfl, in_t 2 rfl rfl, by decide +kernel⟩
set_option maxRecDepth 100000 in
theorem yv_X1_plan : hy_V yX1_plan 1 := ⟨RX1, TX1, 5, hc_1, in_t 456 rfl rfl, in_g 16 rfl rfl⟩
abbrev md_X1_nextOf : Md_ := (cX1_nextOf, RX1, "nextOf", 6, (some .int), 2, 45, 0, 0)
set_option maxRecDepth 100000 in
theorem yl_X1_nextOf : hy_L yX1_nextOf md_X1_nextOf 1 := ⟨in_t 461 rfl rfl, in_t 2 rfl rfl, by decide +kernel⟩
set_option maxRecDepth 100000 in
theorem yv_X1_nextOf : hy_V yX1_nextOf 1 := ⟨RX1, TX1, 5, hc_1, in_t 460 rfl rfl, in_g 17 rfl rfl⟩
abbrev md_X1_latenessWith : Md_ := (cX1_latenessWith, RX1, "latenessWith", 5, (some .int), 1, 21, 0, 0)
set_option maxRecDepth 100000 in
theorem yl_X1_latenessWith : hy_L yX1_latenessWith md_X1_latenessWith 2 := ⟨in_t 466 rfl rfl, in_t 2 rfl rfl, by decide +kernel⟩
set_option maxRecDepth 100000 in
theorem yv_X1_latenessWith : hy_V yX1_latenessWith 1 := ⟨RX1, TX1, 5, hc_1, in_t 465 rfl rfl, in_g 18 rfl rfl⟩
abbrev md_X5_clearJobs : Md_ := (cX5_clearJobs, RX5, "clearJobs", 1, (some .int), 5, 114, 0, 0)
set_option maxRecDepth 100000 in
theorem yl_X5_clearJobs : hy_L yX5_clearJobs md_X5_clearJobs 0 := ⟨in_t 471 rfl rfl, in_t 1 rfl rfl, by decide +kernel⟩
set_option maxRecDepth 100000 in
theorem yv_X5_clearJobs : hy_V yX5_clearJobs 5 := ⟨RX5, TX5, 6, hc_5, in_t 469 rfl rfl, in_t 470 rfl rfl⟩
abbrev md_X1_removeAll : Md_ := (cX1_removeAll, RX1, "removeAll", 2, (some .int), 4, 93, 0, 0)
set_option maxRecDepth 100000 in
theorem yl_X1_removeAll : hy_L yX1_removeAll md_X1_removeAll 0 := ⟨in_t 475 rfl rfl, in_t 2 rfl rfl, by decide +kernel⟩
set_option maxRecDepth 100000 in
theorem yv_X1_removeAll : hy_V yX1_removeAll 1 := ⟨RX1, TX1, 5, hc_1, in_t 473 rfl rfl, in_t 474 rfl rfl⟩
abbrev md_X5_lateness : Md_ := (cX5_lateness, RX5, "lateness", 1, (some .int), 1, 20, 0, 0)
set_option maxRecDepth 100000 in
theorem yl_X5_lateness : hy_L yX5_lateness md_X5_lateness 0 := ⟨in_t 479 rfl rfl, in_t 1 rfl rfl, by decide +kernel⟩
set_option maxRecDepth 100000 in
theorem yv_X5_lateness : hy_V yX5_lateness 5 := ⟨RX5, TX5, 6, hc_5, in_t 477 rfl rfl, in_t 478 rfl rfl⟩
abbrev md_X1_leastLateness : Md_ := (cX1_leastLateness, RX1, "leastLateness", 1, (some .int), 0, 0, 0, 0)
set_option maxRecDepth 100000 in
theorem yl_X1_leastLateness : hy_L yX1_leastLateness md_X1_leastLateness 0 := ⟨in_t 483 rfl rfl, in_t 2 rfl rfl, by decide +kernel⟩
set_option maxRecDepth 100000 in
theorem yv_X1_leastLateness : hy_V yX1_leastLateness 1 := ⟨RX1, TX1, 5, hc_1, in_t 481 rfl rfl, in_t 482 rfl rfl⟩
abbrev md_X5_order : Md_ := (cX5_order, RX5, "order", 2, (some .int), 1, 22, 0, 0)
set_option maxRecDepth 100000 in
theorem yl_X5_order : hy_L yX5_order md_X5_order 1 := ⟨in_t 487 rfl rfl, in_t 1 rfl rfl, by decide +kernel⟩
set_option maxRecDepth 100000 in
theorem yv_X5_order : hy_V yX5_order 5 := ⟨RX5, TX5, 6, hc_5, in_t 485 rfl rfl, in_t 486 rfl rfl⟩
abbrev md_X5_count : Md_ := (cX5_count, RX5, "count", 2, (some .int), 2, 42, 0, 0)
set_option maxRecDepth 100000 in
theorem yl_X5_count : hy_L yX5_count md_X5_count 1 := ⟨in_t 491 rfl rfl, in_t 1 rfl rfl, by decide +kernel⟩
set_option maxRecDepth 100000 in
theorem yv_X5_count : hy_V yX5_count 5 := ⟨RX5, TX5, 6, hc_5, in_t 489 rfl rfl, in_t 490 rfl rfl⟩
abbrev md_X5_runsInDoubt : Md_ := (cX5_runsInDoubt, RX5, "runsInDoubt", 3, (some .int), 0, 0, 0, 0)
set_option maxRecDepth 100000 in
theorem yl_X5_runsInDoubt : hy_L yX5_runsInDoubt md_X5_runsInDoubt 0 := ⟨in_t 495 rfl rfl, in_t 1 rfl rfl, by decide +kernel⟩
set_option maxRecDepth 100000 in
theorem yv_X5_runsInDoubt : hy_V yX5_runsInDoubt 5 := ⟨RX5, TX5, 6, hc_5, in_t 494 rfl rfl, in_g 19 rfl rfl⟩
abbrev md_X5_digest : Md_ := (cX5_digest, RX5, "digest", 4, (some .long), 4, 89, 0, 0)
set_option maxRecDepth 100000 in
theorem yl_X5_digest : hy_L yX5_digest md_X5_digest 0 := ⟨in_t 499 rfl rfl, in_t 1 rfl rfl, by decide +kernel⟩
set_option maxRecDepth 100000 in
theorem yv_X5_digest : hy_V yX5_digest 5 := ⟨RX5, TX5, 6, hc_5, in_t 497 rfl rfl, in_t 498 rfl rfl⟩
abbrev md_X2_digestFrom : Md_ := (cX2_digestFrom, RX2, "digestFrom", 7, (some .long), 3, 63, 0, 0)
set_option maxRecDepth 100000 in
theorem yl_X2_digestFrom : hy_L yX2_digestFrom md_X2_digestFrom 1 := ⟨in_t 506 rfl rfl, in_t 5 rfl rfl, by decide +kernel⟩
set_option maxRecDepth 100000 in
theorem yv_X2_digestFrom : hy_V yX2_digestFrom 2 := ⟨RX2, TX2, 10, hc_2, in_t 504 rfl rfl, in_t 505 rfl rfl⟩
abbrev md_X0_digestFrom : Md_ := (cX0_digestFrom, RX0, "digestFrom", 6, (some .long), 2, 43, 0, 0)
set_option maxRecDepth 100000 in
theorem yl_X0_digestFrom : hy_L yX0_digestFrom md_X0_digestFrom 1 := ⟨in_t 512 rfl rfl, in_t 3 rfl rfl, by decide +kernel⟩
set_option maxRecDepth 100000 in
theorem yv_X0_digestFrom : hy_V yX0_digestFrom 0 := ⟨RX0, TX0, 13, hc_0, in_t 510 rfl rfl, in_t 511 rfl rfl⟩
abbrev md_X3_digestFrom : Md_ := (cX3_digestFrom, RX3, "digestFrom", 6, (some .long), 2, 41, 0, 0)
set_option maxRecDepth 100000 in
theorem yl_X3_digestFrom : hy_L yX3_digestFrom md_X3_digestFrom 1 := ⟨in_t 518 rfl rfl, in_t 8 rfl rfl, by decide +kernel⟩
set_option maxRecDepth 100000 in
theorem yv_X3_digestFrom : hy_V yX3_digestFrom 3 := ⟨RX3, TX3, 6, hc_3, in_t 516 rfl rfl, in_t 517 rfl rfl⟩
abbrev md_X6_part : Md_ := (cX6_part, RX6, "part", 11, (some .int), 1, 22, 0, 0)
set_option maxRecDepth 100000 in
theorem yl_X6_part : hy_L yX6_part md_X6_part 6 := ⟨in_t 524 rfl rfl, in_t 4 rfl rfl, by decide +kernel⟩
set_option maxRecDepth 100000 in
theorem yv_X6_part : hy_V yX6_part 6 := ⟨RX6, TX6, 39, hc_6, in_t 522 rfl rfl, in_t 523 rfl rfl⟩
abbrev md_X6_in : Md_ := (cX6_in, RX6, "in", 3, (some .boolean), 0, 0, 0, 0)
set_option maxRecDepth 100000 in
theorem yl_X6_in : hy_L yX6_in md_X6_in 3 := ⟨in_t 527 rfl rfl, in_t 4 rfl rfl, by decide +kernel⟩
set_option maxRecDepth 100000 in
theorem ys_X6_in : Cond.static yX6_in ∈ gtbl := in_t 526 rfl rfl
abbrev md_X6_step : Md_ := (cX6_step, RX6, "step", 5, (some .int), 3, 76, 0, 0)
set_option maxRecDepth 100000 in
theorem yl_X6_step : hy_L yX6_step md_X6_step 3 := ⟨in_t 531 rfl rfl, in_t 4 rfl rfl, by decide +kernel⟩
set_option maxRecDepth 100000 in
theorem yv_X6_step : hy_V yX6_step 6 := ⟨RX6, TX6, 39, hc_6, in_t 529 rfl rfl, in_t 530 rfl rfl⟩
abbrev md_X6_isPart : Md_ := (cX6_isPart, RX6, "isPart", 2, (some .boolean), 1, 22, 0, 0)
set_option maxRecDepth 100000 in
theorem yl_X6_isPart : hy_L yX6_isPart md_X6_isPart 1 := ⟨in_t 536 rfl rfl, in_t 4 rfl rfl, by decide +kernel⟩
set_option maxRecDepth 100000 in
theorem yv_X6_isPart : hy_V yX6_isPart 6 := ⟨RX6, TX6, 39, hc_6, in_t 534 rfl rfl, in_g 20 rfl rfl⟩
abbrev md_X6_steps : Md_ := (cX6_steps, RX6, "steps", 6, none, 2, 51, 0, 0)
set_option maxRecDepth 100000 in
theorem yl_X6_steps : hy_L yX6_steps md_X6_steps 2 := ⟨in_t 540 rfl rfl, in_t 4 rfl rfl, by decide +kernel⟩
set_option maxRecDepth 100000 in
theorem yv_X6_steps : hy_V yX6_steps 6 := ⟨RX6, TX6, 39, hc_6, in_t 539 rfl rfl, in_g 21 rfl rfl⟩
abbrev md_X6_change : Md_ := (cX6_change, RX6, "change", 7, none, 1, 25, 0, 0)
set_option maxRecDepth 100000 in
theorem yl_X6_change : hy_L yX6_change md_X6_change 2 := ⟨in_t 544 rfl rfl, in_t 4 rfl rfl, by decide +kernel⟩
set_option maxRecDepth 100000 in
theorem yv_X6_change : hy_V yX6_change 6 := ⟨RX6, TX6, 39, hc_6, in_t 543 rfl rfl, in_g 22 rfl rfl⟩
abbrev md_X6_turn : Md_ := (cX6_turn, RX6, "turn", 6, (some .int), 0, 0, 0, 0)
set_option maxRecDepth 100000 in
theorem yl_X6_turn : hy_L yX6_turn md_X6_turn 4 := ⟨in_t 548 rfl rfl, in_t 4 rfl rfl, by decide +kernel⟩
set_option maxRecDepth 100000 in
theorem yv_X6_turn : hy_V yX6_turn 6 := ⟨RX6, TX6, 39, hc_6, in_t 547 rfl rfl, in_g 23 rfl rfl⟩
abbrev md_X6_innermost : Md_ := (cX6_innermost, RX6, "innermost", 2, (some .int), 0, 0, 0, 0)
set_option maxRecDepth 100000 in
theorem yl_X6_innermost : hy_L yX6_innermost md_X6_innermost 1 := ⟨in_t 552 rfl rfl, in_t 4 rfl rfl, by decide +kernel⟩
set_option maxRecDepth 100000 in
theorem yv_X6_innermost : hy_V yX6_innermost 6 := ⟨RX6, TX6, 39, hc_6, in_t 551 rfl rfl, in_g 24 rfl rfl⟩
abbrev md_X6_shell : Md_ := (cX6_shell, RX6, "shell", 5, (some .int), 2, 43, 0, 0)
set_option maxRecDepth 100000 in
theorem yl_X6_shell : hy_L yX6_shell md_X6_shell 3 := ⟨in_t 556 rfl rfl, in_t 4 rfl rfl, by decide +kernel⟩
set_option maxRecDepth 100000 in
theorem yv_X6_shell : hy_V yX6_shell 6 := ⟨RX6, TX6, 39, hc_6, in_t 554 rfl rfl, in_t 555 rfl rfl⟩
abbrev md_X6_hardness : Md_ := (cX6_hardness, RX6, "hardness", 4, (some .int), 0, 0, 0, 0)
set_option maxRecDepth 100000 in
theorem yl_X6_hardness : hy_L yX6_hardness md_X6_hardness 1 := ⟨in_t 561 rfl rfl, in_t 4 rfl rfl, by decide +kernel⟩
set_option maxRecDepth 100000 in
theorem yv_X6_hardness : hy_V yX6_hardness 6 := ⟨RX6, TX6, 39, hc_6, in_t 560 rfl rfl, in_g 25 rfl rfl⟩
abbrev md_X6_taken : Md_ := (cX6_taken, RX6, "taken", 2, (some .long), 2, 43, 0, 0)
set_option maxRecDepth 100000 in
theorem yl_X6_taken : hy_L yX6_taken md_X6_taken 1 := ⟨in_t 565 rfl rfl, in_t 4 rfl rfl, by decide +kernel⟩
set_option maxRecDepth 100000 in
theorem yv_X6_taken : hy_V yX6_taken 6 := ⟨RX6, TX6, 39, hc_6, in_t 563 rfl rfl, in_t 564 rfl rfl⟩
abbrev md_X6_kept : Md_ := (cX6_kept, RX6, "kept", 5, (some .long), 2, 43, 0, 0)
set_option maxRecDepth 100000 in
theorem yl_X6_kept : hy_L yX6_kept md_X6_kept 1 := ⟨in_t 570 rfl rfl, in_t 4 rfl rfl, by decide +kernel⟩
set_option maxRecDepth 100000 in
theorem yv_X6_kept : hy_V yX6_kept 6 := ⟨RX6, TX6, 39, hc_6, in_t 568 rfl rfl, in_t 569 rfl rfl⟩
abbrev md_X6_init : Md_ := (cX6_init, RX6, "<init>", 2, none, 1, 20, 34, 1500)
set_option maxRecDepth 100000 in
theorem yl_X6_init : hy_L yX6_init md_X6_init 0 := ⟨in_t 574 rfl rfl, in_t 4 rfl rfl, by decide +kernel⟩
set_option maxRecDepth 100000 in
theorem yi_X6_init : Cond.instanceMethod yX6_init ∈ gtbl := in_t 573 rfl rfl
abbrev md_X6_line : Md_ := (cX6_line, RX6, "line", 6, (some .int), 2, 42, 0, 0)
set_option maxRecDepth 100000 in
theorem yl_X6_line : hy_L yX6_line md_X6_line 4 := ⟨in_t 698 rfl rfl, in_t 4 rfl rfl, by decide +kernel⟩
set_option maxRecDepth 100000 in
theorem yv_X6_line : hy_V yX6_line 6 := ⟨RX6, TX6, 39, hc_6, in_t 696 rfl rfl, in_t 697 rfl rfl⟩
abbrev md_X6_isFurnace : Md_ := (cX6_isFurnace, RX6, "isFurnace", 1, (some .boolean), 1, 22, 0, 0)
set_option maxRecDepth 100000 in
theorem yl_X6_isFurnace : hy_L yX6_isFurnace md_X6_isFurnace 1 := ⟨in_t 701 rfl rfl, in_t 4 rfl rfl, by decide +kernel⟩
set_option maxRecDepth 100000 in
theorem ys_X6_isFurnace : Cond.static yX6_isFurnace ∈ gtbl := in_t 700 rfl rfl
abbrev md_X6_clear : Md_ := (cX6_clear, RX6, "clear", 3, (some .int), 2, 42, 0, 0)
set_option maxRecDepth 100000 in
theorem yl_X6_clear : hy_L yX6_clear md_X6_clear 1 := ⟨in_t 705 rfl rfl, in_t 4 rfl rfl, by decide +kernel⟩
set_option maxRecDepth 100000 in
theorem yv_X6_clear : hy_V yX6_clear 6 := ⟨RX6, TX6, 39, hc_6, in_t 703 rfl rfl, in_t 704 rfl rfl⟩
abbrev md_X6_load : Md_ := (cX6_load, RX6, "load", 5, (some .int), 2, 43, 0, 0)
set_option maxRecDepth 100000 in
theorem yl_X6_load : hy_L yX6_load md_X6_load 3 := ⟨in_t 709 rfl rfl, in_t 4 rfl rfl, by decide +kernel⟩
set_option maxRecDepth 100000 in
theorem yv_X6_load : hy_V yX6_load 6 := ⟨RX6, TX6, 39, hc_6, in_t 707 rfl rfl, in_t 708 rfl rfl⟩
abbrev md_X6_isPlace : Md_ := (cX6_isPlace, RX6, "isPlace", 1, (some .boolean), 1, 22, 0, 0)
set_option maxRecDepth 100000 in
theorem yl_X6_isPlace : hy_L yX6_isPlace md_X6_isPlace 1 := ⟨in_t 712 rfl rfl, in_t 4 rfl rfl, by decide +kernel⟩
set_option maxRecDepth 100000 in
theorem ys_X6_isPlace : Cond.static yX6_isPlace ∈ gtbl := in_t 711 rfl rfl
abbrev md_X6_massOf : Md_ := (cX6_massOf, RX6, "massOf", 4, (some .int), 0, 0, 0, 0)
set_option maxRecDepth 100000 in
theorem yl_X6_massOf : hy_L yX6_massOf md_X6_massOf 1 := ⟨in_t 716 rfl rfl, in_t 4 rfl rfl, by decide +kernel⟩
set_option maxRecDepth 100000 in
theorem yv_X6_massOf : hy_V yX6_massOf 6 := ⟨RX6, TX6, 39, hc_6, in_t 715 rfl rfl, in_g 26 rfl rfl⟩
abbrev md_X6_unload : Md_ := (cX6_unload, RX6, "unload", 4, (some .int), 2, 42, 0, 0)
set_option maxRecDepth 100000 in
theorem yl_X6_unload : hy_L yX6_unload md_X6_unload 2 := ⟨in_t 720 rfl rfl, in_t 4 rfl rfl, by decide +kernel⟩
set_option maxRecDepth 100000 in
theorem yv_X6_unload : hy_V yX6_unload 6 := ⟨RX6, TX6, 39, hc_6, in_t 718 rfl rfl, in_t 719 rfl rfl⟩
abbrev md_X6_probe : Md_ := (cX6_probe, RX6, "probe", 5, (some .int), 2, 42, 0, 0)
set_option maxRecDepth 100000 in
theorem yl_X6_probe : hy_L yX6_probe md_X6_probe 4 := ⟨in_t 724 rfl rfl, in_t 4 rfl rfl, by decide +kernel⟩
set_option maxRecDepth 100000 in
theorem yv_X6_probe : hy_V yX6_probe 6 := ⟨RX6, TX6, 39, hc_6, in_t 722 rfl rfl, in_t 723 rfl rfl⟩
abbrev md_X6_run : Md_ := (cX6_run, RX6, "run", 3, (some .int), 2, 42, 0, 0)
set_option maxRecDepth 100000 in
theorem yl_X6_run : hy_L yX6_run md_X6_run 1 := ⟨in_t 728 rfl rfl, in_t 4 rfl rfl, by decide +kernel⟩
set_option maxRecDepth 100000 in
theorem yv_X6_run : hy_V yX6_run 6 := ⟨RX6, TX6, 39, hc_6, in_t 726 rfl rfl, in_t 727 rfl rfl⟩
abbrev md_X6_loadOf : Md_ := (cX6_loadOf, RX6, "loadOf", 4, (some .int), 0, 0, 0, 0)
set_option maxRecDepth 100000 in
theorem yl_X6_loadOf : hy_L yX6_loadOf md_X6_loadOf 1 := ⟨in_t 732 rfl rfl, in_t 4 rfl rfl, by decide +kernel⟩
set_option maxRecDepth 100000 in
theorem yv_X6_loadOf : hy_V yX6_loadOf 6 := ⟨RX6, TX6, 39, hc_6, in_t 731 rfl rfl, in_g 27 rfl rfl⟩
abbrev md_X6_tick : Md_ := (cX6_tick, RX6, "tick", 4, (some .int), 4, 103, 0, 0)
set_option maxRecDepth 100000 in
theorem yl_X6_tick : hy_L yX6_tick md_X6_tick 1 := ⟨in_t 736 rfl rfl, in_t 4 rfl rfl, by decide +kernel⟩
set_option maxRecDepth 100000 in
theorem yv_X6_tick : hy_V yX6_tick 6 := ⟨RX6, TX6, 39, hc_6, in_t 734 rfl rfl, in_t 735 rfl rfl⟩
abbrev md_X6_ticks : Md_ := (cX6_ticks, RX6, "ticks", 8, none, 3, 76, 0, 0)
set_option maxRecDepth 100000 in
theorem yl_X6_ticks : hy_L yX6_ticks md_X6_ticks 1 := ⟨in_t 740 rfl rfl, in_t 4 rfl rfl, by decide +kernel⟩
set_option maxRecDepth 100000 in
theorem yv_X6_ticks : hy_V yX6_ticks 6 := ⟨RX6, TX6, 39, hc_6, in_t 739 rfl rfl, in_g 28 rfl rfl⟩
abbrev md_X6_liveAt : Md_ := (cX6_liveAt, RX6, "liveAt", 6, (some .int), 1, 21, 0, 0)
set_option maxRecDepth 100000 in
theorem yl_X6_liveAt : hy_L yX6_liveAt md_X6_liveAt 2 := ⟨in_t 744 rfl rfl, in_t 4 rfl rfl, by decide +kernel⟩
set_option maxRecDepth 100000 in
theorem yv_X6_liveAt : hy_V yX6_liveAt 6 := ⟨RX6, TX6, 39, hc_6, in_t 743 rfl rfl, in_g 29 rfl rfl⟩
abbrev md_X6_running : Md_ := (cX6_running, RX6, "running", 3, (some .int), 0, 0, 0, 0)
set_option maxRecDepth 100000 in
theorem yl_X6_running : hy_L yX6_running md_X6_running 0 := ⟨in_t 748 rfl rfl, in_t 4 rfl rfl, by decide +kernel⟩
set_option maxRecDepth 100000 in
theorem yv_X6_running : hy_V yX6_running 6 := ⟨RX6, TX6, 39, hc_6, in_t 747 rfl rfl, in_g 30 rfl rfl⟩
abbrev md_X6_stop : Md_ := (cX6_stop, RX6, "stop", 2, (some .int), 2, 42, 0, 0)
set_option maxRecDepth 100000 in
theorem yl_X6_stop : hy_L yX6_stop md_X6_stop 1 := ⟨in_t 752 rfl rfl, in_t 4 rfl rfl, by decide +kernel⟩
set_option maxRecDepth 100000 in
theorem yv_X6_stop : hy_V yX6_stop 6 := ⟨RX6, TX6, 39, hc_6, in_t 750 rfl rfl, in_t 751 rfl rfl⟩
abbrev md_X6_survey : Md_ := (cX6_survey, RX6, "survey", 5, (some .int), 2, 42, 0, 0)
set_option maxRecDepth 100000 in
theorem yl_X6_survey : hy_L yX6_survey md_X6_survey 2 := ⟨in_t 756 rfl rfl, in_t 4 rfl rfl, by decide +kernel⟩
set_option maxRecDepth 100000 in
theorem yv_X6_survey : hy_V yX6_survey 6 := ⟨RX6, TX6, 39, hc_6, in_t 754 rfl rfl, in_t 755 rfl rfl⟩
abbrev md_X6_about : Md_ := (cX6_about, RX6, "about", 3, (some .int), 2, 42, 0, 0)
set_option maxRecDepth 100000 in
theorem yl_X6_about : hy_L yX6_about md_X6_about 2 := ⟨in_t 760 rfl rfl, in_t 4 rfl rfl, by decide +kernel⟩
set_option maxRecDepth 100000 in
theorem yv_X6_about : hy_V yX6_about 6 := ⟨RX6, TX6, 39, hc_6, in_t 758 rfl rfl, in_t 759 rfl rfl⟩
abbrev md_X6_runAt : Md_ := (cX6_runAt, RX6, "runAt", 3, (some .int), 1, 22, 0, 0)
set_option maxRecDepth 100000 in
theorem yl_X6_runAt : hy_L yX6_runAt md_X6_runAt 2 := ⟨in_t 764 rfl rfl, in_t 4 rfl rfl, by decide +kernel⟩
set_option maxRecDepth 100000 in
theorem yv_X6_runAt : hy_V yX6_runAt 6 := ⟨RX6, TX6, 39, hc_6, in_t 762 rfl rfl, in_t 763 rfl rfl⟩
abbrev md_X6_isWell : Md_ := (cX6_isWell, RX6, "isWell", 2, (some .boolean), 0, 0, 0, 0)
set_option maxRecDepth 100000 in
theorem yl_X6_isWell : hy_L yX6_isWell md_X6_isWell 1 := ⟨in_t 768 rfl rfl, in_t 4 rfl rfl, by decide +kernel⟩
set_option maxRecDepth 100000 in
theorem yv_X6_isWell : hy_V yX6_isWell 6 := ⟨RX6, TX6, 39, hc_6, in_t 767 rfl rfl, in_g 31 rfl rfl⟩
abbrev md_X6_paper : Md_ := (cX6_paper, RX6, "paper", 5, (some .int), 2, 43, 0, 0)
set_option maxRecDepth 100000 in
theorem yl_X6_paper : hy_L yX6_paper md_X6_paper 3 := ⟨in_t 772 rfl rfl, in_t 4 rfl rfl, by decide +kernel⟩
set_option maxRecDepth 100000 in
theorem yv_X6_paper : hy_V yX6_paper 6 := ⟨RX6, TX6, 39, hc_6, in_t 770 rfl rfl, in_t 771 rfl rfl⟩
abbrev md_X6_job : Md_ := (cX6_job, RX6, "job", 3, (some .int), 1, 22, 0, 0)
set_option maxRecDepth 100000 in
theorem yl_X6_job : hy_L yX6_job md_X6_job 2 := ⟨in_t 776 rfl rfl, in_t 4 rfl rfl, by decide +kernel⟩
set_option maxRecDepth 100000 in
theorem yv_X6_job : hy_V yX6_job 6 := ⟨RX6, TX6, 39, hc_6, in_t 774 rfl rfl, in_t 775 rfl rfl⟩
abbrev md_X6_clearJobs : Md_ := (cX6_clearJobs, RX6, "clearJobs", 2, (some .int), 0, 0, 0, 0)
set_option maxRecDepth 100000 in
theorem yl_X6_clearJobs : hy_L yX6_clearJobs md_X6_clearJobs 0 := ⟨in_t 780 rfl rfl, in_t 4 rfl rfl, by decide +kernel⟩
set_option maxRecDepth 100000 in
theorem yv_X6_clearJobs : hy_V yX6_clearJobs 6 := ⟨RX6, TX6, 39, hc_6, in_t 778 rfl rfl, in_t 779 rfl rfl⟩
abbrev md_X6_lateness : Md_ := (cX6_lateness, RX6, "lateness", 1, (some .int), 2, 48, 0, 0)
set_option maxRecDepth 100000 in
theorem yl_X6_lateness : hy_L yX6_lateness md_X6_lateness 0 := ⟨in_t 784 rfl rfl, in_t 4 rfl rfl, by decide +kernel⟩
set_option maxRecDepth 100000 in
theorem yv_X6_lateness : hy_V yX6_lateness 6 := ⟨RX6, TX6, 39, hc_6, in_t 782 rfl rfl, in_t 783 rfl rfl⟩
abbrev md_X6_weigh : Md_ := (cX6_weigh, RX6, "weigh", 5, none, 1, 24, 0, 0)
set_option maxRecDepth 100000 in
theorem yl_X6_weigh : hy_L yX6_weigh md_X6_weigh 0 := ⟨in_t 788 rfl rfl, in_t 4 rfl rfl, by decide +kernel⟩
set_option maxRecDepth 100000 in
theorem yv_X6_weigh : hy_V yX6_weigh 6 := ⟨RX6, TX6, 39, hc_6, in_t 787 rfl rfl, in_g 32 rfl rfl⟩
abbrev md_X6_lateBy : Md_ := (cX6_lateBy, RX6, "lateBy", 5, (some .int), 0, 0, 0, 0)
set_option maxRecDepth 100000 in
theorem yl_X6_lateBy : hy_L yX6_lateBy md_X6_lateBy 2 := ⟨in_t 793 rfl rfl, in_t 4 rfl rfl, by decide +kernel⟩
set_option maxRecDepth 100000 in
theorem yv_X6_lateBy : hy_V yX6_lateBy 6 := ⟨RX6, TX6, 39, hc_6, in_t 792 rfl rfl, in_g 33 rfl rfl⟩
abbrev md_X6_order : Md_ := (cX6_order, RX6, "order", 5, (some .int), 2, 48, 0, 0)
set_option maxRecDepth 100000 in
theorem yl_X6_order : hy_L yX6_order md_X6_order 1 := ⟨in_t 797 rfl rfl, in_t 4 rfl rfl, by decide +kernel⟩
set_option maxRecDepth 100000 in
theorem yv_X6_order : hy_V yX6_order 6 := ⟨RX6, TX6, 39, hc_6, in_t 795 rfl rfl, in_t 796 rfl rfl⟩
abbrev md_X6_count : Md_ := (cX6_count, RX6, "count", 4, (some .int), 1, 22, 0, 0)
set_option maxRecDepth 100000 in
theorem yl_X6_count : hy_L yX6_count md_X6_count 1 := ⟨in_t 801 rfl rfl, in_t 4 rfl rfl, by decide +kernel⟩
set_option maxRecDepth 100000 in
theorem yv_X6_count : hy_V yX6_count 6 := ⟨RX6, TX6, 39, hc_6, in_t 799 rfl rfl, in_t 800 rfl rfl⟩
abbrev md_X6_digest : Md_ := (cX6_digest, RX6, "digest", 6, (some .long), 3, 67, 0, 0)
set_option maxRecDepth 100000 in
theorem yl_X6_digest : hy_L yX6_digest md_X6_digest 0 := ⟨in_t 805 rfl rfl, in_t 4 rfl rfl, by decide +kernel⟩
set_option maxRecDepth 100000 in
theorem yv_X6_digest : hy_V yX6_digest 6 := ⟨RX6, TX6, 39, hc_6, in_t 803 rfl rfl, in_t 804 rfl rfl⟩
abbrev md_L_law : Md_ := (cL_law, RL, "law", 4, (some .boolean), 8, 278, 600000, 7302250)
end
section
theorem dX0_init_0 : decode cX0_init 0 = .ok (.aload_n 0, 1) := by decide +kernel
theorem dX0_init_1 : decode cX0_init 1 = .ok (.invokespecial 3, 3) := by decide +kernel
theorem dX0_init_4 : decode cX0_init 4 = .ok (.aload_n 0, 1) := by decide +kernel
theorem dX0_init_5 : decode cX0_init 5 = .ok (.iconst 4, 1) := by decide +kernel
theorem dX0_init_6 : decode cX0_init 6 = .ok (.anewarray 9, 3) := by decide +kernel
theorem dX0_init_9 : decode cX0_init 9 = .ok (.putfield 11, 3) := by decide +kernel
theorem dX0_init_12 : decode cX0_init 12 = .ok (.aload_n 0, 1) := by decide +kernel
theorem dX0_init_13 : decode cX0_init 13 = .ok (.iconst 4, 1) := by decide +kernel
theorem dX0_init_14 : decode cX0_init 14 = .ok (.newarray .boolean, 2) := by decide +kernel
theorem dX0_init_16 : decode cX0_init 16 = .ok (.putfield 17, 3) := by decide +kernel
theorem dX0_init_19 : decode cX0_init 19 = .ok (.aload_n 0, 1) := by decide +kernel
theorem dX0_init_20 : decode cX0_init 20 = .ok (.iconst 4, 1) := by decide +kernel
theorem dX0_init_21 : decode cX0_init 21 = .ok (.newarray .int, 2) := by decide +kernel
theorem dX0_init_23 : decode cX0_init 23 = .ok (.putfield 21, 3) := by decide +kernel
theorem dX0_init_26 : decode cX0_init 26 = .ok (.aload_n 0, 1) := by decide +kernel
theorem dX0_init_27 : decode cX0_init 27 = .ok (.bipush 8, 2) := by decide +kernel
theorem dX0_init_29 : decode cX0_init 29 = .ok (.newarray .int, 2) := by decide +kernel
theorem dX0_init_31 : decode cX0_init 31 = .ok (.putfield 25, 3) := by decide +kernel
theorem dX0_init_34 : decode cX0_init 34 = .ok (.aload_n 0, 1) := by decide +kernel
theorem dX0_init_35 : decode cX0_init 35 = .ok (.bipush 8, 2) := by decide +kernel
theorem dX0_init_37 : decode cX0_init 37 = .ok (.newarray .int, 2) := by decide +kernel
theorem dX0_init_39 : decode cX0_init 39 = .ok (.putfield 28, 3) := by decide +kernel
theorem dX0_init_42 : decode cX0_init 42 = .ok (.aload_n 0, 1) := by decide +kernel
theorem dX0_init_43 : decode cX0_init 43 = .ok (.bipush 8, 2) := by decide +kernel
theorem dX0_init_45 : decode cX0_init 45 = .ok (.newarray .int, 2) := by decide +kernel
theorem dX0_init_47 : decode cX0_init 47 = .ok (.putfield 31, 3) := by decide +kernel
theorem dX0_init_50 : decode cX0_init 50 = .ok (.aload_n 0, 1) := by decide +kernel
theorem dX0_init_51 : decode cX0_init 51 = .ok (.sipush 200, 3) := by decide +kernel
theorem dX0_init_54 : decode cX0_init 54 = .ok (.putfield 34, 3) := by decide +kernel
theorem dX0_init_57 : decode cX0_init 57 = .ok (.return_, 1) := by decide +kernel
theorem dX0_isRunning_0 : decode cX0_isRunning 0 = .ok (.aload_n 0, 1) := by decide +kernel
theorem dX0_isRunning_1 : decode cX0_isRunning 1 = .ok (.getfield 38, 3) := by decide +kernel
theorem dX0_isRunning_4 : decode cX0_isRunning 4 = .ok (.ifnull 7, 3) := by decide +kernel
theorem dX0_isRunning_7 : decode cX0_isRunning 7 = .ok (.iconst 1, 1) := by decide +kernel
theorem dX0_isRunning_8 : decode cX0_isRunning 8 = .ok (.goto 4, 3) := by decide +kernel
theorem dX0_isRunning_11 : decode cX0_isRunning 11 = .ok (.iconst 0, 1) := by decide +kernel
theorem dX0_isRunning_12 : decode cX0_isRunning 12 = .ok (.ireturn, 1) := by decide +kernel
theorem dX0_addLine_0 : decode cX0_addLine 0 = .ok (.aload_n 0, 1) := by decide +kernel
theorem dX0_addLine_1 : decode cX0_addLine 1 = .ok (.getfield 42, 3) := by decide +kernel
theorem dX0_addLine_4 : decode cX0_addLine 4 = .ok (.bipush 8, 2) := by decide +kernel
theorem dX0_addLine_6 : decode cX0_addLine 6 = .ok (.if_icmp .lt 6, 3) := by decide +kernel
theorem dX0_addLine_9 : decode cX0_addLine 9 = .ok (.bipush (-4), 2) := by decide +kernel
theorem dX0_addLine_11 : decode cX0_addLine 11 = .ok (.ireturn, 1) := by decide +kernel
theorem dX0_addLine_12 : decode cX0_addLine 12 = .ok (.aload_n 0, 1) := by decide +kernel
theorem dX0_addLine_13 : decode cX0_addLine 13 = .ok (.getfield 25, 3) := by decide +kernel
theorem dX0_addLine_16 : decode cX0_addLine 16 = .ok (.aload_n 0, 1) := by decide +kernel
theorem dX0_addLine_17 : decode cX0_addLine 17 = .ok (.getfield 42, 3) := by decide +kernel
theorem dX0_addLine_20 : decode cX0_addLine 20 = .ok (.iload_n 1, 1) := by decide +kernel
theorem dX0_addLine_21 : decode cX0_addLine 21 = .ok (.iastore, 1) := by decide +kernel
theorem dX0_addLine_22 : decode cX0_addLine 22 = .ok (.aload_n 0, 1) := by decide +kernel
theorem dX0_addLine_23 : decode cX0_addLine 23 = .ok (.getfield 28, 3) := by decide +kernel
theorem dX0_addLine_26 : decode cX0_addLine 26 = .ok (.aload_n 0, 1) := by decide +kernel
theorem dX0_addLine_27 : decode cX0_addLine 27 = .ok (.getfield 42, 3) := by decide +kernel
theorem dX0_addLine_30 : decode cX0_addLine 30 = .ok (.iload_n 2, 1) := by decide +kernel
theorem dX0_addLine_31 : decode cX0_addLine 31 = .ok (.iastore, 1) := by decide +kernel
theorem dX0_addLine_32 : decode cX0_addLine 32 = .ok (.aload_n 0, 1) := by decide +kernel
theorem dX0_addLine_33 : decode cX0_addLine 33 = .ok (.getfield 31, 3) := by decide +kernel
theorem dX0_addLine_36 : decode cX0_addLine 36 = .ok (.aload_n 0, 1) := by decide +kernel
theorem dX0_addLine_37 : decode cX0_addLine 37 = .ok (.getfield 42, 3) := by decide +kernel
theorem dX0_addLine_40 : decode cX0_addLine 40 = .ok (.iload_n 3, 1) := by decide +kernel
theorem dX0_addLine_41 : decode cX0_addLine 41 = .ok (.iastore, 1) := by decide +kernel
theorem dX0_addLine_42 : decode cX0_addLine 42 = .ok (.aload_n 0, 1) := by decide +kernel
theorem dX0_addLine_43 : decode cX0_addLine 43 = .ok (.dup, 1) := by decide +kernel
theorem dX0_addLine_44 : decode cX0_addLine 44 = .ok (.getfield 42, 3) := by decide +kernel
theorem dX0_addLine_47 : decode cX0_addLine 47 = .ok (.iconst 1, 1) := by decide +kernel
theorem dX0_addLine_48 : decode cX0_addLine 48 = .ok (.iadd, 1) := by decide +kernel
theorem dX0_addLine_49 : decode cX0_addLine 49 = .ok (.putfield 42, 3) := by decide +kernel
theorem dX0_addLine_52 : decode cX0_addLine 52 = .ok (.aload_n 0, 1) := by decide +kernel
theorem dX0_addLine_53 : decode cX0_addLine 53 = .ok (.getfield 42, 3) := by decide +kernel
theorem dX0_addLine_56 : decode cX0_addLine 56 = .ok (.ireturn, 1) := by decide +kernel
theorem dX0_massInside_0 : decode cX0_massInside 0 = .ok (.iconst 0, 1) := by decide +kernel
theorem dX0_massInside_1 : decode cX0_massInside 1 = .ok (.istore_n 1, 1) := by decide +kernel
theorem dX0_massInside_2 : decode cX0_massInside 2 = .ok (.iconst 0, 1) := by decide +kernel
theorem dX0_massInside_3 : decode cX0_massInside 3 = .ok (.istore_n 2, 1) := by decide +kernel
theorem dX0_massInside_4 : decode cX0_massInside 4 = .ok (.iload_n 2, 1) := by decide +kernel
theorem dX0_massInside_5 : decode cX0_massInside 5 = .ok (.iconst 4, 1) := by decide +kernel
theorem dX0_massInside_6 : decode cX0_massInside 6 = .ok (.if_icmp .ge 30, 3) := by decide +kernel
theorem dX0_massInside_9 : decode cX0_massInside 9 = .ok (.aload_n 0, 1) := by decide +kernel
theorem dX0_massInside_10 : decode cX0_massInside 10 = .ok (.getfield 11, 3) := by decide +kernel
theorem dX0_massInside_13 : decode cX0_massInside 13 = .ok (.iload_n 2, 1) := by decide +kernel
theorem dX0_massInside_14 : decode cX0_massInside 14 = .ok (.aaload, 1) := by decide +kernel
theorem dX0_massInside_15 : decode cX0_massInside 15 = .ok (.ifnull 15, 3) := by decide +kernel
theorem dX0_massInside_18 : decode cX0_massInside 18 = .ok (.iload_n 1, 1) := by decide +kernel
theorem dX0_massInside_19 : decode cX0_massInside 19 = .ok (.aload_n 0, 1) := by decide +kernel
theorem dX0_massInside_20 : decode cX0_massInside 20 = .ok (.getfield 11, 3) := by decide +kernel
theorem dX0_massInside_23 : decode cX0_massInside 23 = .ok (.iload_n 2, 1) := by decide +kernel
theorem dX0_massInside_24 : decode cX0_massInside 24 = .ok (.aaload, 1) := by decide +kernel
theorem dX0_massInside_25 : decode cX0_massInside 25 = .ok (.getfield 45, 3) := by decide +kernel
theorem dX0_massInside_28 : decode cX0_massInside 28 = .ok (.iadd, 1) := by decide +kernel
theorem dX0_massInside_29 : decode cX0_massInside 29 = .ok (.istore_n 1, 1) := by decide +kernel
theorem dX0_massInside_30 : decode cX0_massInside 30 = .ok (.iinc 2 1, 3) := by decide +kernel
theorem dX0_massInside_33 : decode cX0_massInside 33 = .ok (.goto (-29), 3) := by decide +kernel
theorem dX0_massInside_36 : decode cX0_massInside 36 = .ok (.iload_n 1, 1) := by decide +kernel
theorem dX0_massInside_37 : decode cX0_massInside 37 = .ok (.ireturn, 1) := by decide +kernel
theorem dX0_partsInside_0 : decode cX0_partsInside 0 = .ok (.iconst 0, 1) := by decide +kernel
theorem dX0_partsInside_1 : decode cX0_partsInside 1 = .ok (.istore_n 1, 1) := by decide +kernel
theorem dX0_partsInside_2 : decode cX0_partsInside 2 = .ok (.iconst 0, 1) := by decide +kernel
theorem dX0_partsInside_3 : decode cX0_partsInside 3 = .ok (.istore_n 2, 1) := by decide +kernel
theorem dX0_partsInside_4 : decode cX0_partsInside 4 = .ok (.iload_n 2, 1) := by decide +kernel
theorem dX0_partsInside_5 : decode cX0_partsInside 5 = .ok (.iconst 4, 1) := by decide +kernel
theorem dX0_partsInside_6 : decode cX0_partsInside 6 = .ok (.if_icmp .ge 21, 3) := by decide +kernel
theorem dX0_partsInside_9 : decode cX0_partsInside 9 = .ok (.aload_n 0, 1) := by decide +kernel
theorem dX0_partsInside_10 : decode cX0_partsInside 10 = .ok (.getfield 11, 3) := by decide +kernel
theorem dX0_partsInside_13 : decode cX0_partsInside 13 = .ok (.iload_n 2, 1) := by decide +kernel
theorem dX0_partsInside_14 : decode cX0_partsInside 14 = .ok (.aaload, 1) := by decide +kernel
theorem dX0_partsInside_15 : decode cX0_partsInside 15 = .ok (.ifnull 6, 3) := by decide +kernel
theorem dX0_partsInside_18 : decode cX0_partsInside 18 = .ok (.iinc 1 1, 3) := by decide +kernel
theorem dX0_partsInside_21 : decode cX0_partsInside 21 = .ok (.iinc 2 1, 3) := by decide +kernel
theorem dX0_partsInside_24 : decode cX0_partsInside 24 = .ok (.goto (-20), 3) := by decide +kernel
theorem dX0_partsInside_27 : decode cX0_partsInside 27 = .ok (.iload_n 1, 1) := by decide +kernel
theorem dX0_partsInside_28 : decode cX0_partsInside 28 = .ok (.ireturn, 1) := by decide +kernel
theorem dX0_begin_0 : decode cX0_begin 0 = .ok (.aload_n 0, 1) := by decide +kernel
theorem dX0_begin_1 : decode cX0_begin 1 = .ok (.aload_n 1, 1) := by decide +kernel
theorem dX0_begin_2 : decode cX0_begin 2 = .ok (.putfield 38, 3) := by decide +kernel
theorem dX0_begin_5 : decode cX0_begin 5 = .ok (.aload_n 0, 1) := by decide +kernel
theorem dX0_begin_6 : decode cX0_begin 6 = .ok (.iconst 0, 1) := by decide +kernel
theorem dX0_begin_7 : decode cX0_begin 7 = .ok (.putfield 48, 3) := by decide +kernel
theorem dX0_begin_10 : decode cX0_begin 10 = .ok (.iconst 0, 1) := by decide +kernel
theorem dX0_begin_11 : decode cX0_begin 11 = .ok (.istore_n 2, 1) := by decide +kernel
theorem dX0_begin_12 : decode cX0_begin 12 = .ok (.iload_n 2, 1) := by decide +kernel
theorem dX0_begin_13 : decode cX0_begin 13 = .ok (.iconst 4, 1) := by decide +kernel
theorem dX0_begin_14 : decode cX0_begin 14 = .ok (.if_icmp .ge 28, 3) := by decide +kernel
theorem dX0_begin_17 : decode cX0_begin 17 = .ok (.aload_n 0, 1) := by decide +kernel
theorem dX0_begin_18 : decode cX0_begin 18 = .ok (.getfield 11, 3) := by decide +kernel
theorem dX0_begin_21 : decode cX0_begin 21 = .ok (.iload_n 2, 1) := by decide +kernel
theorem dX0_begin_22 : decode cX0_begin 22 = .ok (.aaload, 1) := by decide +kernel
theorem dX0_begin_23 : decode cX0_begin 23 = .ok (.ifnull 13, 3) := by decide +kernel
theorem dX0_begin_26 : decode cX0_begin 26 = .ok (.aload_n 0, 1) := by decide +kernel
theorem dX0_begin_27 : decode cX0_begin 27 = .ok (.getfield 11, 3) := by decide +kernel
theorem dX0_begin_30 : decode cX0_begin 30 = .ok (.iload_n 2, 1) := by decide +kernel
theorem dX0_begin_31 : decode cX0_begin 31 = .ok (.aaload, 1) := by decide +kernel
theorem dX0_begin_32 : decode cX0_begin 32 = .ok (.aload_n 1, 1) := by decide +kernel
theorem dX0_begin_33 : decode cX0_begin 33 = .ok (.putfield 51, 3) := by decide +kernel
theorem dX0_begin_36 : decode cX0_begin 36 = .ok (.iinc 2 1, 3) := by decide +kernel
theorem dX0_begin_39 : decode cX0_begin 39 = .ok (.goto (-27), 3) := by decide +kernel
theorem dX0_begin_42 : decode cX0_begin 42 = .ok (.return_, 1) := by decide +kernel
theorem dX0_end_0 : decode cX0_end 0 = .ok (.aload_n 0, 1) := by decide +kernel
theorem dX0_end_1 : decode cX0_end 1 = .ok (.getfield 38, 3) := by decide +kernel
theorem dX0_end_4 : decode cX0_end 4 = .ok (.ifnull 11, 3) := by decide +kernel
theorem dX0_end_7 : decode cX0_end 7 = .ok (.aload_n 0, 1) := by decide +kernel
theorem dX0_end_8 : decode cX0_end 8 = .ok (.getfield 38, 3) := by decide +kernel
theorem dX0_end_11 : decode cX0_end 11 = .ok (.iload_n 1, 1) := by decide +kernel
theorem dX0_end_12 : decode cX0_end 12 = .ok (.invokevirtual 54, 3) := by decide +kernel
theorem dX0_end_15 : decode cX0_end 15 = .ok (.aload_n 0, 1) := by decide +kernel
theorem dX0_end_16 : decode cX0_end 16 = .ok (.aconst_null, 1) := by decide +kernel
theorem dX0_end_17 : decode cX0_end 17 = .ok (.putfield 38, 3) := by decide +kernel
theorem dX0_end_20 : decode cX0_end 20 = .ok (.aload_n 0, 1) := by decide +kernel
theorem dX0_end_21 : decode cX0_end 21 = .ok (.iconst 0, 1) := by decide +kernel
theorem dX0_end_22 : decode cX0_end 22 = .ok (.putfield 60, 3) := by decide +kernel
theorem dX0_end_25 : decode cX0_end 25 = .ok (.return_, 1) := by decide +kernel
theorem dX0_doTick_0 : decode cX0_doTick 0 = .ok (.aload_n 0, 1) := by decide +kernel
theorem dX0_doTick_1 : decode cX0_doTick 1 = .ok (.getfield 38, 3) := by decide +kernel
theorem dX0_doTick_4 : decode cX0_doTick 4 = .ok (.ifnonnull 4, 3) := by decide +kernel
theorem dX0_doTick_7 : decode cX0_doTick 7 = .ok (.return_, 1) := by decide +kernel
theorem dX0_doTick_8 : decode cX0_doTick 8 = .ok (.aload_n 0, 1) := by decide +kernel
theorem dX0_doTick_9 : decode cX0_doTick 9 = .ok (.getfield 38, 3) := by decide +kernel
theorem dX0_doTick_12 : decode cX0_doTick 12 = .ok (.dup, 1) := by decide +kernel
theorem dX0_doTick_13 : decode cX0_doTick 13 = .ok (.getfield 63, 3) := by decide +kernel
theorem dX0_doTick_16 : decode cX0_doTick 16 = .ok (.iconst 1, 1) := by decide +kernel
theorem dX0_doTick_17 : decode cX0_doTick 17 = .ok (.iadd, 1) := by decide +kernel
theorem dX0_doTick_18 : decode cX0_doTick 18 = .ok (.putfield 63, 3) := by decide +kernel
theorem dX0_doTick_21 : decode cX0_doTick 21 = .ok (.aload_n 0, 1) := by decide +kernel
theorem dX0_doTick_22 : decode cX0_doTick 22 = .ok (.aload_n 0, 1) := by decide +kernel
theorem dX0_doTick_23 : decode cX0_doTick 23 = .ok (.invokevirtual 66, 3) := by decide +kernel
theorem dX0_doTick_26 : decode cX0_doTick 26 = .ok (.putfield 34, 3) := by decide +kernel
theorem dX0_doTick_29 : decode cX0_doTick 29 = .ok (.iconst 0, 1) := by decide +kernel
theorem dX0_doTick_30 : decode cX0_doTick 30 = .ok (.istore_n 1, 1) := by decide +kernel
theorem dX0_doTick_31 : decode cX0_doTick 31 = .ok (.iload_n 1, 1) := by decide +kernel
theorem dX0_doTick_32 : decode cX0_doTick 32 = .ok (.iconst 4, 1) := by decide +kernel
theorem dX0_doTick_33 : decode cX0_doTick 33 = .ok (.if_icmp .ge 36, 3) := by decide +kernel
theorem dX0_doTick_36 : decode cX0_doTick 36 = .ok (.aload_n 0, 1) := by decide +kernel
theorem dX0_doTick_37 : decode cX0_doTick 37 = .ok (.getfield 11, 3) := by decide +kernel
theorem dX0_doTick_40 : decode cX0_doTick 40 = .ok (.iload_n 1, 1) := by decide +kernel
theorem dX0_doTick_41 : decode cX0_doTick 41 = .ok (.aaload, 1) := by decide +kernel
theorem dX0_doTick_42 : decode cX0_doTick 42 = .ok (.ifnull 21, 3) := by decide +kernel
theorem dX0_doTick_45 : decode cX0_doTick 45 = .ok (.aload_n 0, 1) := by decide +kernel
theorem dX0_doTick_46 : decode cX0_doTick 46 = .ok (.getfield 11, 3) := by decide +kernel
theorem dX0_doTick_49 : decode cX0_doTick 49 = .ok (.iload_n 1, 1) := by decide +kernel
theorem dX0_doTick_50 : decode cX0_doTick 50 = .ok (.aaload, 1) := by decide +kernel
theorem dX0_doTick_51 : decode cX0_doTick 51 = .ok (.aload_n 0, 1) := by decide +kernel
theorem dX0_doTick_52 : decode cX0_doTick 52 = .ok (.getfield 34, 3) := by decide +kernel
theorem dX0_doTick_55 : decode cX0_doTick 55 = .ok (.aload_n 0, 1) := by decide +kernel
theorem dX0_doTick_56 : decode cX0_doTick 56 = .ok (.getfield 70, 3) := by decide +kernel
theorem dX0_doTick_59 : decode cX0_doTick 59 = .ok (.iadd, 1) := by decide +kernel
theorem dX0_doTick_60 : decode cX0_doTick 60 = .ok (.invokevirtual 73, 3) := by decide +kernel
theorem dX0_doTick_63 : decode cX0_doTick 63 = .ok (.iinc 1 1, 3) := by decide +kernel
theorem dX0_doTick_66 : decode cX0_doTick 66 = .ok (.goto (-35), 3) := by decide +kernel
theorem dX0_doTick_69 : decode cX0_doTick 69 = .ok (.aload_n 0, 1) := by decide +kernel
theorem dX0_doTick_70 : decode cX0_doTick 70 = .ok (.aload_n 0, 1) := by decide +kernel
theorem dX0_doTick_71 : decode cX0_doTick 71 = .ok (.getfield 38, 3) := by decide +kernel
theorem dX0_doTick_74 : decode cX0_doTick 74 = .ok (.invokevirtual 77, 3) := by decide +kernel
theorem dX0_doTick_77 : decode cX0_doTick 77 = .ok (.ifCond .eq 7, 3) := by decide +kernel
theorem dX0_doTick_80 : decode cX0_doTick 80 = .ok (.aload_n 0, 1) := by decide +kernel
theorem dX0_doTick_81 : decode cX0_doTick 81 = .ok (.invokevirtual 81, 3) := by decide +kernel
theorem dX0_doTick_84 : decode cX0_doTick 84 = .ok (.return_, 1) := by decide +kernel
theorem dX0_gasByLine_0 : decode cX0_gasByLine 0 = .ok (.aload_n 0, 1) := by decide +kernel
theorem dX0_gasByLine_1 : decode cX0_gasByLine 1 = .ok (.getfield 25, 3) := by decide +kernel
theorem dX0_gasByLine_4 : decode cX0_gasByLine 4 = .ok (.aload_n 0, 1) := by decide +kernel
theorem dX0_gasByLine_5 : decode cX0_gasByLine 5 = .ok (.getfield 48, 3) := by decide +kernel
theorem dX0_gasByLine_8 : decode cX0_gasByLine 8 = .ok (.iaload, 1) := by decide +kernel
theorem dX0_gasByLine_9 : decode cX0_gasByLine 9 = .ok (.tableswitch 70 0 2 #[27, 50, 60], 27) := by decide +kernel
theorem dX0_gasByLine_36 : decode cX0_gasByLine 36 = .ok (.aload_n 0, 1) := by decide +kernel
theorem dX0_gasByLine_37 : decode cX0_gasByLine 37 = .ok (.aload_n 0, 1) := by decide +kernel
theorem dX0_gasByLine_38 : decode cX0_gasByLine 38 = .ok (.getfield 28, 3) := by decide +kernel
theorem dX0_gasByLine_41 : decode cX0_gasByLine 41 = .ok (.aload_n 0, 1) := by decide +kernel
theorem dX0_gasByLine_42 : decode cX0_gasByLine 42 = .ok (.getfield 48, 3) := by decide +kernel
theorem dX0_gasByLine_45 : decode cX0_gasByLine 45 = .ok (.iaload, 1) := by decide +kernel
theorem dX0_gasByLine_46 : decode cX0_gasByLine 46 = .ok (.aload_n 0, 1) := by decide +kernel
theorem dX0_gasByLine_47 : decode cX0_gasByLine 47 = .ok (.getfield 31, 3) := by decide +kernel
theorem dX0_gasByLine_50 : decode cX0_gasByLine 50 = .ok (.aload_n 0, 1) := by decide +kernel
theorem dX0_gasByLine_51 : decode cX0_gasByLine 51 = .ok (.getfield 48, 3) := by decide +kernel
theorem dX0_gasByLine_54 : decode cX0_gasByLine 54 = .ok (.iaload, 1) := by decide +kernel
theorem dX0_gasByLine_55 : decode cX0_gasByLine 55 = .ok (.invokevirtual 84, 3) := by decide +kernel
theorem dX0_gasByLine_58 : decode cX0_gasByLine 58 = .ok (.ireturn, 1) := by decide +kernel
theorem dX0_gasByLine_59 : decode cX0_gasByLine 59 = .ok (.aload_n 0, 1) := by decide +kernel
theorem dX0_gasByLine_60 : decode cX0_gasByLine 60 = .ok (.getfield 28, 3) := by decide +kernel
theorem dX0_gasByLine_63 : decode cX0_gasByLine 63 = .ok (.aload_n 0, 1) := by decide +kernel
theorem dX0_gasByLine_64 : decode cX0_gasByLine 64 = .ok (.getfield 48, 3) := by decide +kernel
theorem dX0_gasByLine_67 : decode cX0_gasByLine 67 = .ok (.iaload, 1) := by decide +kernel
theorem dX0_gasByLine_68 : decode cX0_gasByLine 68 = .ok (.ireturn, 1) := by decide +kernel
theorem dX0_gasByLine_69 : decode cX0_gasByLine 69 = .ok (.aload_n 0, 1) := by decide +kernel
theorem dX0_gasByLine_70 : decode cX0_gasByLine 70 = .ok (.getfield 28, 3) := by decide +kernel
theorem dX0_gasByLine_73 : decode cX0_gasByLine 73 = .ok (.aload_n 0, 1) := by decide +kernel
theorem dX0_gasByLine_74 : decode cX0_gasByLine 74 = .ok (.getfield 48, 3) := by decide +kernel
theorem dX0_gasByLine_77 : decode cX0_gasByLine 77 = .ok (.iaload, 1) := by decide +kernel
theorem dX0_gasByLine_78 : decode cX0_gasByLine 78 = .ok (.ireturn, 1) := by decide +kernel
theorem dX0_gasByLine_79 : decode cX0_gasByLine 79 = .ok (.aload_n 0, 1) := by decide +kernel
theorem dX0_gasByLine_80 : decode cX0_gasByLine 80 = .ok (.getfield 34, 3) := by decide +kernel
theorem dX0_gasByLine_83 : decode cX0_gasByLine 83 = .ok (.ireturn, 1) := by decide +kernel
theorem dX0_gasNearer_0 : decode cX0_gasNearer 0 = .ok (.aload_n 0, 1) := by decide +kernel
theorem dX0_gasNearer_1 : decode cX0_gasNearer 1 = .ok (.getfield 34, 3) := by decide +kernel
theorem dX0_gasNearer_4 : decode cX0_gasNearer 4 = .ok (.iload_n 1, 1) := by decide +kernel
theorem dX0_gasNearer_5 : decode cX0_gasNearer 5 = .ok (.if_icmp .ge 16, 3) := by decide +kernel
theorem dX0_gasNearer_8 : decode cX0_gasNearer 8 = .ok (.iload_n 1, 1) := by decide +kernel
theorem dX0_gasNearer_9 : decode cX0_gasNearer 9 = .ok (.aload_n 0, 1) := by decide +kernel
theorem dX0_gasNearer_10 : decode cX0_gasNearer 10 = .ok (.getfield 34, 3) := by decide +kernel
theorem dX0_gasNearer_13 : decode cX0_gasNearer 13 = .ok (.iload_n 2, 1) := by decide +kernel
theorem dX0_gasNearer_14 : decode cX0_gasNearer 14 = .ok (.iadd, 1) := by decide +kernel
theorem dX0_gasNearer_15 : decode cX0_gasNearer 15 = .ok (.invokestatic 88, 3) := by decide +kernel
theorem dX0_gasNearer_18 : decode cX0_gasNearer 18 = .ok (.goto 13, 3) := by decide +kernel
theorem dX0_gasNearer_21 : decode cX0_gasNearer 21 = .ok (.iload_n 1, 1) := by decide +kernel
theorem dX0_gasNearer_22 : decode cX0_gasNearer 22 = .ok (.aload_n 0, 1) := by decide +kernel
theorem dX0_gasNearer_23 : decode cX0_gasNearer 23 = .ok (.getfield 34, 3) := by decide +kernel
theorem dX0_gasNearer_26 : decode cX0_gasNearer 26 = .ok (.iload_n 2, 1) := by decide +kernel
theorem dX0_gasNearer_27 : decode cX0_gasNearer 27 = .ok (.isub, 1) := by decide +kernel
theorem dX0_gasNearer_28 : decode cX0_gasNearer 28 = .ok (.invokestatic 93, 3) := by decide +kernel
theorem dX0_gasNearer_31 : decode cX0_gasNearer 31 = .ok (.ireturn, 1) := by decide +kernel
theorem dX0_lineIsOver_0 : decode cX0_lineIsOver 0 = .ok (.aload_n 0, 1) := by decide +kernel
theorem dX0_lineIsOver_1 : decode cX0_lineIsOver 1 = .ok (.getfield 25, 3) := by decide +kernel
theorem dX0_lineIsOver_4 : decode cX0_lineIsOver 4 = .ok (.aload_n 0, 1) := by decide +kernel
theorem dX0_lineIsOver_5 : decode cX0_lineIsOver 5 = .ok (.getfield 48, 3) := by decide +kernel
theorem dX0_lineIsOver_8 : decode cX0_lineIsOver 8 = .ok (.iaload, 1) := by decide +kernel
theorem dX0_lineIsOver_9 : decode cX0_lineIsOver 9 = .ok (.ifCond .ne 25, 3) := by decide +kernel
theorem dX0_lineIsOver_12 : decode cX0_lineIsOver 12 = .ok (.aload_n 0, 1) := by decide +kernel
theorem dX0_lineIsOver_13 : decode cX0_lineIsOver 13 = .ok (.getfield 34, 3) := by decide +kernel
theorem dX0_lineIsOver_16 : decode cX0_lineIsOver 16 = .ok (.aload_n 0, 1) := by decide +kernel
theorem dX0_lineIsOver_17 : decode cX0_lineIsOver 17 = .ok (.getfield 28, 3) := by decide +kernel
theorem dX0_lineIsOver_20 : decode cX0_lineIsOver 20 = .ok (.aload_n 0, 1) := by decide +kernel
theorem dX0_lineIsOver_21 : decode cX0_lineIsOver 21 = .ok (.getfield 48, 3) := by decide +kernel
theorem dX0_lineIsOver_24 : decode cX0_lineIsOver 24 = .ok (.iaload, 1) := by decide +kernel
theorem dX0_lineIsOver_25 : decode cX0_lineIsOver 25 = .ok (.if_icmp .ne 7, 3) := by decide +kernel
theorem dX0_lineIsOver_28 : decode cX0_lineIsOver 28 = .ok (.iconst 1, 1) := by decide +kernel
theorem dX0_lineIsOver_29 : decode cX0_lineIsOver 29 = .ok (.goto 4, 3) := by decide +kernel
theorem dX0_lineIsOver_32 : decode cX0_lineIsOver 32 = .ok (.iconst 0, 1) := by decide +kernel
theorem dX0_lineIsOver_33 : decode cX0_lineIsOver 33 = .ok (.ireturn, 1) := by decide +kernel
theorem dX0_lineIsOver_34 : decode cX0_lineIsOver 34 = .ok (.aload_n 0, 1) := by decide +kernel
theorem dX0_lineIsOver_35 : decode cX0_lineIsOver 35 = .ok (.getfield 25, 3) := by decide +kernel
theorem dX0_lineIsOver_38 : decode cX0_lineIsOver 38 = .ok (.aload_n 0, 1) := by decide +kernel
theorem dX0_lineIsOver_39 : decode cX0_lineIsOver 39 = .ok (.getfield 48, 3) := by decide +kernel
theorem dX0_lineIsOver_42 : decode cX0_lineIsOver 42 = .ok (.iaload, 1) := by decide +kernel
theorem dX0_lineIsOver_43 : decode cX0_lineIsOver 43 = .ok (.iconst 1, 1) := by decide +kernel
theorem dX0_lineIsOver_44 : decode cX0_lineIsOver 44 = .ok (.if_icmp .ne 11, 3) := by decide +kernel
theorem dX0_lineIsOver_47 : decode cX0_lineIsOver 47 = .ok (.aload_n 0, 1) := by decide +kernel
theorem dX0_lineIsOver_48 : decode cX0_lineIsOver 48 = .ok (.aload_n 1, 1) := by decide +kernel
theorem dX0_lineIsOver_49 : decode cX0_lineIsOver 49 = .ok (.invokevirtual 96, 3) := by decide +kernel
theorem dX0_lineIsOver_52 : decode cX0_lineIsOver 52 = .ok (.goto 13, 3) := by decide +kernel
theorem dX0_lineIsOver_55 : decode cX0_lineIsOver 55 = .ok (.aload_n 0, 1) := by decide +kernel
theorem dX0_lineIsOver_56 : decode cX0_lineIsOver 56 = .ok (.dup, 1) := by decide +kernel
theorem dX0_lineIsOver_57 : decode cX0_lineIsOver 57 = .ok (.getfield 60, 3) := by decide +kernel
theorem dX0_lineIsOver_60 : decode cX0_lineIsOver 60 = .ok (.iconst 1, 1) := by decide +kernel
theorem dX0_lineIsOver_61 : decode cX0_lineIsOver 61 = .ok (.iadd, 1) := by decide +kernel
theorem dX0_lineIsOver_62 : decode cX0_lineIsOver 62 = .ok (.putfield 60, 3) := by decide +kernel
theorem dX0_lineIsOver_65 : decode cX0_lineIsOver 65 = .ok (.aload_n 0, 1) := by decide +kernel
theorem dX0_lineIsOver_66 : decode cX0_lineIsOver 66 = .ok (.getfield 60, 3) := by decide +kernel
theorem dX0_lineIsOver_69 : decode cX0_lineIsOver 69 = .ok (.aload_n 0, 1) := by decide +kernel
theorem dX0_lineIsOver_70 : decode cX0_lineIsOver 70 = .ok (.getfield 31, 3) := by decide +kernel
theorem dX0_lineIsOver_73 : decode cX0_lineIsOver 73 = .ok (.aload_n 0, 1) := by decide +kernel
theorem dX0_lineIsOver_74 : decode cX0_lineIsOver 74 = .ok (.getfield 48, 3) := by decide +kernel
theorem dX0_lineIsOver_77 : decode cX0_lineIsOver 77 = .ok (.iaload, 1) := by decide +kernel
theorem dX0_lineIsOver_78 : decode cX0_lineIsOver 78 = .ok (.if_icmp .lt 7, 3) := by decide +kernel
theorem dX0_lineIsOver_81 : decode cX0_lineIsOver 81 = .ok (.iconst 1, 1) := by decide +kernel
theorem dX0_lineIsOver_82 : decode cX0_lineIsOver 82 = .ok (.goto 4, 3) := by decide +kernel
theorem dX0_lineIsOver_85 : decode cX0_lineIsOver 85 = .ok (.iconst 0, 1) := by decide +kernel
theorem dX0_lineIsOver_86 : decode cX0_lineIsOver 86 = .ok (.ireturn, 1) := by decide +kernel
theorem dX0_countSoak_0 : decode cX0_countSoak 0 = .ok (.iconst 0, 1) := by decide +kernel
theorem dX0_countSoak_1 : decode cX0_countSoak 1 = .ok (.istore_n 2, 1) := by decide +kernel
theorem dX0_countSoak_2 : decode cX0_countSoak 2 = .ok (.iconst 0, 1) := by decide +kernel
theorem dX0_countSoak_3 : decode cX0_countSoak 3 = .ok (.istore_n 3, 1) := by decide +kernel
theorem dX0_countSoak_4 : decode cX0_countSoak 4 = .ok (.iload_n 3, 1) := by decide +kernel
theorem dX0_countSoak_5 : decode cX0_countSoak 5 = .ok (.iconst 4, 1) := by decide +kernel
theorem dX0_countSoak_6 : decode cX0_countSoak 6 = .ok (.if_icmp .ge 65, 3) := by decide +kernel
theorem dX0_countSoak_9 : decode cX0_countSoak 9 = .ok (.aload_n 0, 1) := by decide +kernel
theorem dX0_countSoak_10 : decode cX0_countSoak 10 = .ok (.getfield 11, 3) := by decide +kernel
theorem dX0_countSoak_13 : decode cX0_countSoak 13 = .ok (.iload_n 3, 1) := by decide +kernel
theorem dX0_countSoak_14 : decode cX0_countSoak 14 = .ok (.aaload, 1) := by decide +kernel
theorem dX0_countSoak_15 : decode cX0_countSoak 15 = .ok (.ifnull 50, 3) := by decide +kernel
theorem dX0_countSoak_18 : decode cX0_countSoak 18 = .ok (.aload_n 0, 1) := by decide +kernel
theorem dX0_countSoak_19 : decode cX0_countSoak 19 = .ok (.getfield 17, 3) := by decide +kernel
theorem dX0_countSoak_22 : decode cX0_countSoak 22 = .ok (.iload_n 3, 1) := by decide +kernel
theorem dX0_countSoak_23 : decode cX0_countSoak 23 = .ok (.baload, 1) := by decide +kernel
theorem dX0_countSoak_24 : decode cX0_countSoak 24 = .ok (.ifCond .eq 6, 3) := by decide +kernel
theorem dX0_countSoak_27 : decode cX0_countSoak 27 = .ok (.goto 38, 3) := by decide +kernel
theorem dX0_countSoak_30 : decode cX0_countSoak 30 = .ok (.iinc 2 1, 3) := by decide +kernel
theorem dX0_countSoak_33 : decode cX0_countSoak 33 = .ok (.aload_n 0, 1) := by decide +kernel
theorem dX0_countSoak_34 : decode cX0_countSoak 34 = .ok (.getfield 11, 3) := by decide +kernel
theorem dX0_countSoak_37 : decode cX0_countSoak 37 = .ok (.iload_n 3, 1) := by decide +kernel
theorem dX0_countSoak_38 : decode cX0_countSoak 38 = .ok (.aaload, 1) := by decide +kernel
theorem dX0_countSoak_39 : decode cX0_countSoak 39 = .ok (.invokevirtual 100, 3) := by decide +kernel
theorem dX0_countSoak_42 : decode cX0_countSoak 42 = .ok (.aload_n 0, 1) := by decide +kernel
theorem dX0_countSoak_43 : decode cX0_countSoak 43 = .ok (.getfield 21, 3) := by decide +kernel
theorem dX0_countSoak_46 : decode cX0_countSoak 46 = .ok (.iload_n 3, 1) := by decide +kernel
theorem dX0_countSoak_47 : decode cX0_countSoak 47 = .ok (.iaload, 1) := by decide +kernel
theorem dX0_countSoak_48 : decode cX0_countSoak 48 = .ok (.iadd, 1) := by decide +kernel
theorem dX0_countSoak_49 : decode cX0_countSoak 49 = .ok (.aload_n 0, 1) := by decide +kernel
theorem dX0_countSoak_50 : decode cX0_countSoak 50 = .ok (.getfield 28, 3) := by decide +kernel
theorem dX0_countSoak_53 : decode cX0_countSoak 53 = .ok (.aload_n 0, 1) := by decide +kernel
theorem dX0_countSoak_54 : decode cX0_countSoak 54 = .ok (.getfield 48, 3) := by decide +kernel
theorem dX0_countSoak_57 : decode cX0_countSoak 57 = .ok (.iaload, 1) := by decide +kernel
theorem dX0_countSoak_58 : decode cX0_countSoak 58 = .ok (.bipush 100, 2) := by decide +kernel
theorem dX0_countSoak_60 : decode cX0_countSoak 60 = .ok (.isub, 1) := by decide +kernel
theorem dX0_countSoak_61 : decode cX0_countSoak 61 = .ok (.if_icmp .ge 4, 3) := by decide +kernel
theorem dX0_countSoak_64 : decode cX0_countSoak 64 = .ok (.return_, 1) := by decide +kernel
theorem dX0_countSoak_65 : decode cX0_countSoak 65 = .ok (.iinc 3 1, 3) := by decide +kernel
theorem dX0_countSoak_68 : decode cX0_countSoak 68 = .ok (.goto (-64), 3) := by decide +kernel
theorem dX0_countSoak_71 : decode cX0_countSoak 71 = .ok (.iload_n 2, 1) := by decide +kernel
theorem dX0_countSoak_72 : decode cX0_countSoak 72 = .ok (.ifCond .ne 4, 3) := by decide +kernel
theorem dX0_countSoak_75 : decode cX0_countSoak 75 = .ok (.return_, 1) := by decide +kernel
theorem dX0_countSoak_76 : decode cX0_countSoak 76 = .ok (.aload_n 0, 1) := by decide +kernel
theorem dX0_countSoak_77 : decode cX0_countSoak 77 = .ok (.dup, 1) := by decide +kernel
theorem dX0_countSoak_78 : decode cX0_countSoak 78 = .ok (.getfield 60, 3) := by decide +kernel
theorem dX0_countSoak_81 : decode cX0_countSoak 81 = .ok (.iconst 1, 1) := by decide +kernel
theorem dX0_countSoak_82 : decode cX0_countSoak 82 = .ok (.iadd, 1) := by decide +kernel
theorem dX0_countSoak_83 : decode cX0_countSoak 83 = .ok (.putfield 60, 3) := by decide +kernel
theorem dX0_countSoak_86 : decode cX0_countSoak 86 = .ok (.iload_n 2, 1) := by decide +kernel
theorem dX0_countSoak_87 : decode cX0_countSoak 87 = .ok (.iconst 2, 1) := by decide +kernel
theorem dX0_countSoak_88 : decode cX0_countSoak 88 = .ok (.if_icmp .ge 16, 3) := by decide +kernel
theorem dX0_countSoak_91 : decode cX0_countSoak 91 = .ok (.aload_n 0, 1) := by decide +kernel
theorem dX0_countSoak_92 : decode cX0_countSoak 92 = .ok (.invokevirtual 103, 3) := by decide +kernel
theorem dX0_countSoak_95 : decode cX0_countSoak 95 = .ok (.iconst 1, 1) := by decide +kernel
theorem dX0_countSoak_96 : decode cX0_countSoak 96 = .ok (.if_icmp .le 8, 3) := by decide +kernel
theorem dX0_countSoak_99 : decode cX0_countSoak 99 = .ok (.aload_n 1, 1) := by decide +kernel
theorem dX0_countSoak_100 : decode cX0_countSoak 100 = .ok (.iconst 1, 1) := by decide +kernel
theorem dX0_countSoak_101 : decode cX0_countSoak 101 = .ok (.putfield 106, 3) := by decide +kernel
theorem dX0_countSoak_104 : decode cX0_countSoak 104 = .ok (.return_, 1) := by decide +kernel
theorem dX0_goToNextLine_0 : decode cX0_goToNextLine 0 = .ok (.aload_n 0, 1) := by decide +kernel
theorem dX0_goToNextLine_1 : decode cX0_goToNextLine 1 = .ok (.dup, 1) := by decide +kernel
theorem dX0_goToNextLine_2 : decode cX0_goToNextLine 2 = .ok (.getfield 48, 3) := by decide +kernel
theorem dX0_goToNextLine_5 : decode cX0_goToNextLine 5 = .ok (.iconst 1, 1) := by decide +kernel
theorem dX0_goToNextLine_6 : decode cX0_goToNextLine 6 = .ok (.iadd, 1) := by decide +kernel
theorem dX0_goToNextLine_7 : decode cX0_goToNextLine 7 = .ok (.putfield 48, 3) := by decide +kernel
theorem dX0_goToNextLine_10 : decode cX0_goToNextLine 10 = .ok (.aload_n 0, 1) := by decide +kernel
theorem dX0_goToNextLine_11 : decode cX0_goToNextLine 11 = .ok (.iconst 0, 1) := by decide +kernel
theorem dX0_goToNextLine_12 : decode cX0_goToNextLine 12 = .ok (.putfield 60, 3) := by decide +kernel
theorem dX0_goToNextLine_15 : decode cX0_goToNextLine 15 = .ok (.aload_n 0, 1) := by decide +kernel
theorem dX0_goToNextLine_16 : decode cX0_goToNextLine 16 = .ok (.getfield 48, 3) := by decide +kernel
theorem dX0_goToNextLine_19 : decode cX0_goToNextLine 19 = .ok (.aload_n 0, 1) := by decide +kernel
theorem dX0_goToNextLine_20 : decode cX0_goToNextLine 20 = .ok (.getfield 42, 3) := by decide +kernel
theorem dX0_goToNextLine_23 : decode cX0_goToNextLine 23 = .ok (.if_icmp .lt 8, 3) := by decide +kernel
theorem dX0_goToNextLine_26 : decode cX0_goToNextLine 26 = .ok (.aload_n 0, 1) := by decide +kernel
theorem dX0_goToNextLine_27 : decode cX0_goToNextLine 27 = .ok (.iconst 1, 1) := by decide +kernel
theorem dX0_goToNextLine_28 : decode cX0_goToNextLine 28 = .ok (.invokevirtual 110, 3) := by decide +kernel
theorem dX0_goToNextLine_31 : decode cX0_goToNextLine 31 = .ok (.return_, 1) := by decide +kernel
theorem dX0_tell_0 : decode cX0_tell 0 = .ok (.iload_n 1, 1) := by decide +kernel
theorem dX0_tell_1 : decode cX0_tell 1 = .ok (.tableswitch 83 0 5 #[39, 44, 49, 57, 73, 78], 39) := by decide +kernel
theorem dX0_tell_40 : decode cX0_tell 40 = .ok (.aload_n 0, 1) := by decide +kernel
theorem dX0_tell_41 : decode cX0_tell 41 = .ok (.getfield 34, 3) := by decide +kernel
theorem dX0_tell_44 : decode cX0_tell 44 = .ok (.ireturn, 1) := by decide +kernel
theorem dX0_tell_45 : decode cX0_tell 45 = .ok (.aload_n 0, 1) := by decide +kernel
theorem dX0_tell_46 : decode cX0_tell 46 = .ok (.getfield 70, 3) := by decide +kernel
theorem dX0_tell_49 : decode cX0_tell 49 = .ok (.ireturn, 1) := by decide +kernel
theorem dX0_tell_50 : decode cX0_tell 50 = .ok (.aload_n 0, 1) := by decide +kernel
theorem dX0_tell_51 : decode cX0_tell 51 = .ok (.invokevirtual 111, 3) := by decide +kernel
theorem dX0_tell_54 : decode cX0_tell 54 = .ok (.invokestatic 115, 3) := by decide +kernel
theorem dX0_tell_57 : decode cX0_tell 57 = .ok (.ireturn, 1) := by decide +kernel
theorem dX0_tell_58 : decode cX0_tell 58 = .ok (.aload_n 0, 1) := by decide +kernel
theorem dX0_tell_59 : decode cX0_tell 59 = .ok (.invokevirtual 111, 3) := by decide +kernel
theorem dX0_tell_62 : decode cX0_tell 62 = .ok (.ifCond .eq 10, 3) := by decide +kernel
theorem dX0_tell_65 : decode cX0_tell 65 = .ok (.aload_n 0, 1) := by decide +kernel
theorem dX0_tell_66 : decode cX0_tell 66 = .ok (.getfield 48, 3) := by decide +kernel
theorem dX0_tell_69 : decode cX0_tell 69 = .ok (.goto 4, 3) := by decide +kernel
theorem dX0_tell_72 : decode cX0_tell 72 = .ok (.iconst (-1), 1) := by decide +kernel
theorem dX0_tell_73 : decode cX0_tell 73 = .ok (.ireturn, 1) := by decide +kernel
theorem dX0_tell_74 : decode cX0_tell 74 = .ok (.aload_n 0, 1) := by decide +kernel
theorem dX0_tell_75 : decode cX0_tell 75 = .ok (.getfield 60, 3) := by decide +kernel
theorem dX0_tell_78 : decode cX0_tell 78 = .ok (.ireturn, 1) := by decide +kernel
theorem dX0_tell_79 : decode cX0_tell 79 = .ok (.aload_n 0, 1) := by decide +kernel
theorem dX0_tell_80 : decode cX0_tell 80 = .ok (.invokevirtual 119, 3) := by decide +kernel
theorem dX0_tell_83 : decode cX0_tell 83 = .ok (.ireturn, 1) := by decide +kernel
theorem dX0_tell_84 : decode cX0_tell 84 = .ok (.aload_n 0, 1) := by decide +kernel
theorem dX0_tell_85 : decode cX0_tell 85 = .ok (.getfield 42, 3) := by decide +kernel
theorem dX0_tell_88 : decode cX0_tell 88 = .ok (.ireturn, 1) := by decide +kernel
theorem dX0_digestFrom_0 : decode cX0_digestFrom 0 = .ok (.lload_n 1, 1) := by decide +kernel
theorem dX0_digestFrom_1 : decode cX0_digestFrom 1 = .ok (.lstore_n 3, 1) := by decide +kernel
theorem dX0_digestFrom_2 : decode cX0_digestFrom 2 = .ok (.iconst 0, 1) := by decide +kernel
theorem dX0_digestFrom_3 : decode cX0_digestFrom 3 = .ok (.istore 5, 2) := by decide +kernel
theorem dX0_digestFrom_5 : decode cX0_digestFrom 5 = .ok (.iload 5, 2) := by decide +kernel
theorem dX0_digestFrom_7 : decode cX0_digestFrom 7 = .ok (.bipush 6, 2) := by decide +kernel
theorem dX0_digestFrom_9 : decode cX0_digestFrom 9 = .ok (.if_icmp .gt 23, 3) := by decide +kernel
theorem dX0_digestFrom_12 : decode cX0_digestFrom 12 = .ok (.ldc2_w 122, 3) := by decide +kernel
theorem dX0_digestFrom_15 : decode cX0_digestFrom 15 = .ok (.lload_n 3, 1) := by decide +kernel
theorem dX0_digestFrom_16 : decode cX0_digestFrom 16 = .ok (.lmul, 1) := by decide +kernel
theorem dX0_digestFrom_17 : decode cX0_digestFrom 17 = .ok (.aload_n 0, 1) := by decide +kernel
theorem dX0_digestFrom_18 : decode cX0_digestFrom 18 = .ok (.iload 5, 2) := by decide +kernel
theorem dX0_digestFrom_20 : decode cX0_digestFrom 20 = .ok (.invokevirtual 124, 3) := by decide +kernel
theorem dX0_digestFrom_23 : decode cX0_digestFrom 23 = .ok (.i2l, 1) := by decide +kernel
theorem dX0_digestFrom_24 : decode cX0_digestFrom 24 = .ok (.ladd, 1) := by decide +kernel
theorem dX0_digestFrom_25 : decode cX0_digestFrom 25 = .ok (.lstore_n 3, 1) := by decide +kernel
theorem dX0_digestFrom_26 : decode cX0_digestFrom 26 = .ok (.iinc 5 1, 3) := by decide +kernel
theorem dX0_digestFrom_29 : decode cX0_digestFrom 29 = .ok (.goto (-24), 3) := by decide +kernel
theorem dX0_digestFrom_32 : decode cX0_digestFrom 32 = .ok (.lload_n 3, 1) := by decide +kernel
theorem dX0_digestFrom_33 : decode cX0_digestFrom 33 = .ok (.lreturn, 1) := by decide +kernel
theorem dX1_init_0 : decode cX1_init 0 = .ok (.aload_n 0, 1) := by decide +kernel
theorem dX1_init_1 : decode cX1_init 1 = .ok (.invokespecial 3, 3) := by decide +kernel
theorem dX1_init_4 : decode cX1_init 4 = .ok (.aload_n 0, 1) := by decide +kernel
theorem dX1_init_5 : decode cX1_init 5 = .ok (.bipush 7, 2) := by decide +kernel
theorem dX1_init_7 : decode cX1_init 7 = .ok (.newarray .int, 2) := by decide +kernel
theorem dX1_init_9 : decode cX1_init 9 = .ok (.putfield 9, 3) := by decide +kernel
theorem dX1_init_12 : decode cX1_init 12 = .ok (.aload_n 0, 1) := by decide +kernel
theorem dX1_init_13 : decode cX1_init 13 = .ok (.bipush 7, 2) := by decide +kernel
theorem dX1_init_15 : decode cX1_init 15 = .ok (.newarray .int, 2) := by decide +kernel
theorem dX1_init_17 : decode cX1_init 17 = .ok (.putfield 15, 3) := by decide +kernel
theorem dX1_init_20 : decode cX1_init 20 = .ok (.aload_n 0, 1) := by decide +kernel
theorem dX1_init_21 : decode cX1_init 21 = .ok (.sipush 128, 3) := by decide +kernel
theorem dX1_init_24 : decode cX1_init 24 = .ok (.newarray .int, 2) := by decide +kernel
theorem dX1_init_26 : decode cX1_init 26 = .ok (.putfield 18, 3) := by decide +kernel
theorem dX1_init_29 : decode cX1_init 29 = .ok (.aload_n 0, 1) := by decide +kernel
theorem dX1_init_30 : decode cX1_init 30 = .ok (.bipush 7, 2) := by decide +kernel
theorem dX1_init_32 : decode cX1_init 32 = .ok (.newarray .int, 2) := by decide +kernel
theorem dX1_init_34 : decode cX1_init 34 = .ok (.putfield 21, 3) := by decide +kernel
theorem dX1_init_37 : decode cX1_init 37 = .ok (.return_, 1) := by decide +kernel
theorem dX1_add_0 : decode cX1_add 0 = .ok (.aload_n 0, 1) := by decide +kernel
theorem dX1_add_1 : decode cX1_add 1 = .ok (.getfield 24, 3) := by decide +kernel
theorem dX1_add_4 : decode cX1_add 4 = .ok (.bipush 7, 2) := by decide +kernel
theorem dX1_add_6 : decode cX1_add 6 = .ok (.if_icmp .lt 6, 3) := by decide +kernel
theorem dX1_add_9 : decode cX1_add 9 = .ok (.bipush (-4), 2) := by decide +kernel
theorem dX1_add_11 : decode cX1_add 11 = .ok (.ireturn, 1) := by decide +kernel
theorem dX1_add_12 : decode cX1_add 12 = .ok (.aload_n 0, 1) := by decide +kernel
theorem dX1_add_13 : decode cX1_add 13 = .ok (.getfield 9, 3) := by decide +kernel
theorem dX1_add_16 : decode cX1_add 16 = .ok (.aload_n 0, 1) := by decide +kernel
theorem dX1_add_17 : decode cX1_add 17 = .ok (.getfield 24, 3) := by decide +kernel
theorem dX1_add_20 : decode cX1_add 20 = .ok (.iload_n 1, 1) := by decide +kernel
theorem dX1_add_21 : decode cX1_add 21 = .ok (.iastore, 1) := by decide +kernel
theorem dX1_add_22 : decode cX1_add 22 = .ok (.aload_n 0, 1) := by decide +kernel
theorem dX1_add_23 : decode cX1_add 23 = .ok (.getfield 15, 3) := by decide +kernel
theorem dX1_add_26 : decode cX1_add 26 = .ok (.aload_n 0, 1) := by decide +kernel
theorem dX1_add_27 : decode cX1_add 27 = .ok (.getfield 24, 3) := by decide +kernel
theorem dX1_add_30 : decode cX1_add 30 = .ok (.iload_n 2, 1) := by decide +kernel
theorem dX1_add_31 : decode cX1_add 31 = .ok (.iastore, 1) := by decide +kernel
theorem dX1_add_32 : decode cX1_add 32 = .ok (.aload_n 0, 1) := by decide +kernel
theorem dX1_add_33 : decode cX1_add 33 = .ok (.dup, 1) := by decide +kernel
theorem dX1_add_34 : decode cX1_add 34 = .ok (.getfield 24, 3) := by decide +kernel
theorem dX1_add_37 : decode cX1_add 37 = .ok (.iconst 1, 1) := by decide +kernel
theorem dX1_add_38 : decode cX1_add 38 = .ok (.iadd, 1) := by decide +kernel
theorem dX1_add_39 : decode cX1_add 39 = .ok (.putfield 24, 3) := by decide +kernel
theorem dX1_add_42 : decode cX1_add 42 = .ok (.aload_n 0, 1) := by decide +kernel
theorem dX1_add_43 : decode cX1_add 43 = .ok (.invokevirtual 28, 3) := by decide +kernel
theorem dX1_add_46 : decode cX1_add 46 = .ok (.aload_n 0, 1) := by decide +kernel
theorem dX1_add_47 : decode cX1_add 47 = .ok (.getfield 24, 3) := by decide +kernel
theorem dX1_add_50 : decode cX1_add 50 = .ok (.iconst 1, 1) := by decide +kernel
theorem dX1_add_51 : decode cX1_add 51 = .ok (.isub, 1) := by decide +kernel
theorem dX1_add_52 : decode cX1_add 52 = .ok (.ireturn, 1) := by decide +kernel
theorem dX1_removeAll_0 : decode cX1_removeAll 0 = .ok (.aload_n 0, 1) := by decide +kernel
theorem dX1_removeAll_1 : decode cX1_removeAll 1 = .ok (.getfield 24, 3) := by decide +kernel
theorem dX1_removeAll_4 : decode cX1_removeAll 4 = .ok (.istore_n 1, 1) := by decide +kernel
theorem dX1_removeAll_5 : decode cX1_removeAll 5 = .ok (.aload_n 0, 1) := by decide +kernel
theorem dX1_removeAll_6 : decode cX1_removeAll 6 = .ok (.iconst 0, 1) := by decide +kernel
theorem dX1_removeAll_7 : decode cX1_removeAll 7 = .ok (.putfield 24, 3) := by decide +kernel
theorem dX1_removeAll_10 : decode cX1_removeAll 10 = .ok (.aload_n 0, 1) := by decide +kernel
theorem dX1_removeAll_11 : decode cX1_removeAll 11 = .ok (.invokevirtual 28, 3) := by decide +kernel
theorem dX1_removeAll_14 : decode cX1_removeAll 14 = .ok (.iload_n 1, 1) := by decide +kernel
theorem dX1_removeAll_15 : decode cX1_removeAll 15 = .ok (.ireturn, 1) := by decide +kernel
theorem dX1_leastLateness_0 : decode cX1_leastLateness 0 = .ok (.aload_n 0, 1) := by decide +kernel
theorem dX1_leastLateness_1 : decode cX1_leastLateness 1 = .ok (.getfield 18, 3) := by decide +kernel
theorem dX1_leastLateness_4 : decode cX1_leastLateness 4 = .ok (.iconst 0, 1) := by decide +kernel
theorem dX1_leastLateness_5 : decode cX1_leastLateness 5 = .ok (.iaload, 1) := by decide +kernel
theorem dX1_leastLateness_6 : decode cX1_leastLateness 6 = .ok (.ireturn, 1) := by decide +kernel
theorem dX1_plan_0 : decode cX1_plan 0 = .ok (.iconst 1, 1) := by decide +kernel
theorem dX1_plan_1 : decode cX1_plan 1 = .ok (.aload_n 0, 1) := by decide +kernel
theorem dX1_plan_2 : decode cX1_plan 2 = .ok (.getfield 24, 3) := by decide +kernel
theorem dX1_plan_5 : decode cX1_plan 5 = .ok (.ishl, 1) := by decide +kernel
theorem dX1_plan_6 : decode cX1_plan 6 = .ok (.iconst 1, 1) := by decide +kernel
theorem dX1_plan_7 : decode cX1_plan 7 = .ok (.isub, 1) := by decide +kernel
theorem dX1_plan_8 : decode cX1_plan 8 = .ok (.istore_n 1, 1) := by decide +kernel
theorem dX1_plan_9 : decode cX1_plan 9 = .ok (.aload_n 0, 1) := by decide +kernel
theorem dX1_plan_10 : decode cX1_plan 10 = .ok (.getfield 18, 3) := by decide +kernel
theorem dX1_plan_13 : decode cX1_plan 13 = .ok (.iload_n 1, 1) := by decide +kernel
theorem dX1_plan_14 : decode cX1_plan 14 = .ok (.iconst 0, 1) := by decide +kernel
theorem dX1_plan_15 : decode cX1_plan 15 = .ok (.iastore, 1) := by decide +kernel
theorem dX1_plan_16 : decode cX1_plan 16 = .ok (.iload_n 1, 1) := by decide +kernel
theorem dX1_plan_17 : decode cX1_plan 17 = .ok (.iconst 1, 1) := by decide +kernel
theorem dX1_plan_18 : decode cX1_plan 18 = .ok (.isub, 1) := by decide +kernel
theorem dX1_plan_19 : decode cX1_plan 19 = .ok (.istore_n 2, 1) := by decide +kernel
theorem dX1_plan_20 : decode cX1_plan 20 = .ok (.iload_n 2, 1) := by decide +kernel
theorem dX1_plan_21 : decode cX1_plan 21 = .ok (.ifCond .lt 27, 3) := by decide +kernel
theorem dX1_plan_24 : decode cX1_plan 24 = .ok (.aload_n 0, 1) := by decide +kernel
theorem dX1_plan_25 : decode cX1_plan 25 = .ok (.iload_n 2, 1) := by decide +kernel
theorem dX1_plan_26 : decode cX1_plan 26 = .ok (.invokevirtual 31, 3) := by decide +kernel
theorem dX1_plan_29 : decode cX1_plan 29 = .ok (.istore_n 3, 1) := by decide +kernel
theorem dX1_plan_30 : decode cX1_plan 30 = .ok (.aload_n 0, 1) := by decide +kernel
theorem dX1_plan_31 : decode cX1_plan 31 = .ok (.getfield 18, 3) := by decide +kernel
theorem dX1_plan_34 : decode cX1_plan 34 = .ok (.iload_n 2, 1) := by decide +kernel
theorem dX1_plan_35 : decode cX1_plan 35 = .ok (.aload_n 0, 1) := by decide +kernel
theorem dX1_plan_36 : decode cX1_plan 36 = .ok (.iload_n 3, 1) := by decide +kernel
theorem dX1_plan_37 : decode cX1_plan 37 = .ok (.iload_n 2, 1) := by decide +kernel
theorem dX1_plan_38 : decode cX1_plan 38 = .ok (.invokevirtual 35, 3) := by decide +kernel
theorem dX1_plan_41 : decode cX1_plan 41 = .ok (.iastore, 1) := by decide +kernel
theorem dX1_plan_42 : decode cX1_plan 42 = .ok (.iinc 2 (-1), 3) := by decide +kernel
theorem dX1_plan_45 : decode cX1_plan 45 = .ok (.goto (-25), 3) := by decide +kernel
theorem dX1_plan_48 : decode cX1_plan 48 = .ok (.iconst 0, 1) := by decide +kernel
theorem dX1_plan_49 : decode cX1_plan 49 = .ok (.istore_n 2, 1) := by decide +kernel
theorem dX1_plan_50 : decode cX1_plan 50 = .ok (.iconst 0, 1) := by decide +kernel
theorem dX1_plan_51 : decode cX1_plan 51 = .ok (.istore_n 3, 1) := by decide +kernel
theorem dX1_plan_52 : decode cX1_plan 52 = .ok (.iload_n 3, 1) := by decide +kernel
theorem dX1_plan_53 : decode cX1_plan 53 = .ok (.aload_n 0, 1) := by decide +kernel
theorem dX1_plan_54 : decode cX1_plan 54 = .ok (.getfield 24, 3) := by decide +kernel
theorem dX1_plan_57 : decode cX1_plan 57 = .ok (.if_icmp .ge 31, 3) := by decide +kernel
theorem dX1_plan_60 : decode cX1_plan 60 = .ok (.aload_n 0, 1) := by decide +kernel
theorem dX1_plan_61 : decode cX1_plan 61 = .ok (.getfield 21, 3) := by decide +kernel
theorem dX1_plan_64 : decode cX1_plan 64 = .ok (.iload_n 3, 1) := by decide +kernel
theorem dX1_plan_65 : decode cX1_plan 65 = .ok (.aload_n 0, 1) := by decide +kernel
theorem dX1_plan_66 : decode cX1_plan 66 = .ok (.iload_n 2, 1) := by decide +kernel
theorem dX1_plan_67 : decode cX1_plan 67 = .ok (.invokevirtual 31, 3) := by decide +kernel
theorem dX1_plan_70 : decode cX1_plan 70 = .ok (.iastore, 1) := by decide +kernel
theorem dX1_plan_71 : decode cX1_plan 71 = .ok (.iload_n 2, 1) := by decide +kernel
theorem dX1_plan_72 : decode cX1_plan 72 = .ok (.iconst 1, 1) := by decide +kernel
theorem dX1_plan_73 : decode cX1_plan 73 = .ok (.aload_n 0, 1) := by decide +kernel
theorem dX1_plan_74 : decode cX1_plan 74 = .ok (.getfield 21, 3) := by decide +kernel
theorem dX1_plan_77 : decode cX1_plan 77 = .ok (.iload_n 3, 1) := by decide +kernel
theorem dX1_plan_78 : decode cX1_plan 78 = .ok (.iaload, 1) := by decide +kernel
theorem dX1_plan_79 : decode cX1_plan 79 = .ok (.ishl, 1) := by decide +kernel
theorem dX1_plan_80 : decode cX1_plan 80 = .ok (.ior, 1) := by decide +kernel
theorem dX1_plan_81 : decode cX1_plan 81 = .ok (.istore_n 2, 1) := by decide +kernel
theorem dX1_plan_82 : decode cX1_plan 82 = .ok (.iinc 3 1, 3) := by decide +kernel
theorem dX1_plan_85 : decode cX1_plan 85 = .ok (.goto (-33), 3) := by decide +kernel
theorem dX1_plan_88 : decode cX1_plan 88 = .ok (.return_, 1) := by decide +kernel
theorem dX1_nextOf_0 : decode cX1_nextOf 0 = .ok (.iconst 0, 1) := by decide +kernel
theorem dX1_nextOf_1 : decode cX1_nextOf 1 = .ok (.istore_n 2, 1) := by decide +kernel
theorem dX1_nextOf_2 : decode cX1_nextOf 2 = .ok (.ldc 41, 2) := by decide +kernel
theorem dX1_nextOf_4 : decode cX1_nextOf 4 = .ok (.istore_n 3, 1) := by decide +kernel
theorem dX1_nextOf_5 : decode cX1_nextOf 5 = .ok (.iconst 0, 1) := by decide +kernel
theorem dX1_nextOf_6 : decode cX1_nextOf 6 = .ok (.istore 4, 2) := by decide +kernel
theorem dX1_nextOf_8 : decode cX1_nextOf 8 = .ok (.iload 4, 2) := by decide +kernel
theorem dX1_nextOf_10 : decode cX1_nextOf 10 = .ok (.aload_n 0, 1) := by decide +kernel
theorem dX1_nextOf_11 : decode cX1_nextOf 11 = .ok (.getfield 24, 3) := by decide +kernel
theorem dX1_nextOf_14 : decode cX1_nextOf 14 = .ok (.if_icmp .ge 39, 3) := by decide +kernel
theorem dX1_nextOf_17 : decode cX1_nextOf 17 = .ok (.iload_n 1, 1) := by decide +kernel
theorem dX1_nextOf_18 : decode cX1_nextOf 18 = .ok (.iload 4, 2) := by decide +kernel
theorem dX1_nextOf_20 : decode cX1_nextOf 20 = .ok (.ishr, 1) := by decide +kernel
theorem dX1_nextOf_21 : decode cX1_nextOf 21 = .ok (.iconst 1, 1) := by decide +kernel
theorem dX1_nextOf_22 : decode cX1_nextOf 22 = .ok (.iand, 1) := by decide +kernel
theorem dX1_nextOf_23 : decode cX1_nextOf 23 = .ok (.ifCond .ne 24, 3) := by decide +kernel
theorem dX1_nextOf_26 : decode cX1_nextOf 26 = .ok (.aload_n 0, 1) := by decide +kernel
theorem dX1_nextOf_27 : decode cX1_nextOf 27 = .ok (.iload 4, 2) := by decide +kernel
theorem dX1_nextOf_29 : decode cX1_nextOf 29 = .ok (.iload_n 1, 1) := by decide +kernel
theorem dX1_nextOf_30 : decode cX1_nextOf 30 = .ok (.invokevirtual 35, 3) := by decide +kernel
theorem dX1_nextOf_33 : decode cX1_nextOf 33 = .ok (.istore 5, 2) := by decide +kernel
theorem dX1_nextOf_35 : decode cX1_nextOf 35 = .ok (.iload 5, 2) := by decide +kernel
theorem dX1_nextOf_37 : decode cX1_nextOf 37 = .ok (.iload_n 3, 1) := by decide +kernel
theorem dX1_nextOf_38 : decode cX1_nextOf 38 = .ok (.if_icmp .ge 9, 3) := by decide +kernel
theorem dX1_nextOf_41 : decode cX1_nextOf 41 = .ok (.iload 5, 2) := by decide +kernel
theorem dX1_nextOf_43 : decode cX1_nextOf 43 = .ok (.istore_n 3, 1) := by decide +kernel
theorem dX1_nextOf_44 : decode cX1_nextOf 44 = .ok (.iload 4, 2) := by decide +kernel
theorem dX1_nextOf_46 : decode cX1_nextOf 46 = .ok (.istore_n 2, 1) := by decide +kernel
theorem dX1_nextOf_47 : decode cX1_nextOf 47 = .ok (.iinc 4 1, 3) := by decide +kernel
theorem dX1_nextOf_50 : decode cX1_nextOf 50 = .ok (.goto (-42), 3) := by decide +kernel
theorem dX1_nextOf_53 : decode cX1_nextOf 53 = .ok (.iload_n 2, 1) := by decide +kernel
theorem dX1_nextOf_54 : decode cX1_nextOf 54 = .ok (.ireturn, 1) := by decide +kernel
theorem dX1_latenessWith_0 : decode cX1_latenessWith 0 = .ok (.aload_n 0, 1) := by decide +kernel
theorem dX1_latenessWith_1 : decode cX1_latenessWith 1 = .ok (.getfield 9, 3) := by decide +kernel
theorem dX1_latenessWith_4 : decode cX1_latenessWith 4 = .ok (.iload_n 1, 1) := by decide +kernel
theorem dX1_latenessWith_5 : decode cX1_latenessWith 5 = .ok (.iaload, 1) := by decide +kernel
theorem dX1_latenessWith_6 : decode cX1_latenessWith 6 = .ok (.istore_n 3, 1) := by decide +kernel
theorem dX1_latenessWith_7 : decode cX1_latenessWith 7 = .ok (.iconst 0, 1) := by decide +kernel
theorem dX1_latenessWith_8 : decode cX1_latenessWith 8 = .ok (.istore 4, 2) := by decide +kernel
theorem dX1_latenessWith_10 : decode cX1_latenessWith 10 = .ok (.iload 4, 2) := by decide +kernel
theorem dX1_latenessWith_12 : decode cX1_latenessWith 12 = .ok (.aload_n 0, 1) := by decide +kernel
theorem dX1_latenessWith_13 : decode cX1_latenessWith 13 = .ok (.getfield 24, 3) := by decide +kernel
theorem dX1_latenessWith_16 : decode cX1_latenessWith 16 = .ok (.if_icmp .ge 29, 3) := by decide +kernel
theorem dX1_latenessWith_19 : decode cX1_latenessWith 19 = .ok (.iload_n 2, 1) := by decide +kernel
theorem dX1_latenessWith_20 : decode cX1_latenessWith 20 = .ok (.iload 4, 2) := by decide +kernel
theorem dX1_latenessWith_22 : decode cX1_latenessWith 22 = .ok (.ishr, 1) := by decide +kernel
theorem dX1_latenessWith_23 : decode cX1_latenessWith 23 = .ok (.iconst 1, 1) := by decide +kernel
theorem dX1_latenessWith_24 : decode cX1_latenessWith 24 = .ok (.iand, 1) := by decide +kernel
theorem dX1_latenessWith_25 : decode cX1_latenessWith 25 = .ok (.iconst 1, 1) := by decide +kernel
theorem dX1_latenessWith_26 : decode cX1_latenessWith 26 = .ok (.if_icmp .ne 13, 3) := by decide +kernel
theorem dX1_latenessWith_29 : decode cX1_latenessWith 29 = .ok (.iload_n 3, 1) := by decide +kernel
theorem dX1_latenessWith_30 : decode cX1_latenessWith 30 = .ok (.aload_n 0, 1) := by decide +kernel
theorem dX1_latenessWith_31 : decode cX1_latenessWith 31 = .ok (.getfield 9, 3) := by decide +kernel
theorem dX1_latenessWith_34 : decode cX1_latenessWith 34 = .ok (.iload 4, 2) := by decide +kernel
theorem dX1_latenessWith_36 : decode cX1_latenessWith 36 = .ok (.iaload, 1) := by decide +kernel
theorem dX1_latenessWith_37 : decode cX1_latenessWith 37 = .ok (.iadd, 1) := by decide +kernel
theorem dX1_latenessWith_38 : decode cX1_latenessWith 38 = .ok (.istore_n 3, 1) := by decide +kernel
theorem dX1_latenessWith_39 : decode cX1_latenessWith 39 = .ok (.iinc 4 1, 3) := by decide +kernel
theorem dX1_latenessWith_42 : decode cX1_latenessWith 42 = .ok (.goto (-32), 3) := by decide +kernel
theorem dX1_latenessWith_45 : decode cX1_latenessWith 45 = .ok (.iconst 0, 1) := by decide +kernel
theorem dX1_latenessWith_46 : decode cX1_latenessWith 46 = .ok (.iload_n 3, 1) := by decide +kernel
theorem dX1_latenessWith_47 : decode cX1_latenessWith 47 = .ok (.aload_n 0, 1) := by decide +kernel
theorem dX1_latenessWith_48 : decode cX1_latenessWith 48 = .ok (.getfield 15, 3) := by decide +kernel
theorem dX1_latenessWith_51 : decode cX1_latenessWith 51 = .ok (.iload_n 1, 1) := by decide +kernel
theorem dX1_latenessWith_52 : decode cX1_latenessWith 52 = .ok (.iaload, 1) := by decide +kernel
theorem dX1_latenessWith_53 : decode cX1_latenessWith 53 = .ok (.isub, 1) := by decide +kernel
theorem dX1_latenessWith_54 : decode cX1_latenessWith 54 = .ok (.invokestatic 42, 3) := by decide +kernel
theorem dX1_latenessWith_57 : decode cX1_latenessWith 57 = .ok (.aload_n 0, 1) := by decide +kernel
theorem dX1_latenessWith_58 : decode cX1_latenessWith 58 = .ok (.getfield 18, 3) := by decide +kernel
theorem dX1_latenessWith_61 : decode cX1_latenessWith 61 = .ok (.iload_n 2, 1) := by decide +kernel
theorem dX1_latenessWith_62 : decode cX1_latenessWith 62 = .ok (.iconst 1, 1) := by decide +kernel
theorem dX1_latenessWith_63 : decode cX1_latenessWith 63 = .ok (.iload_n 1, 1) := by decide +kernel
theorem dX1_latenessWith_64 : decode cX1_latenessWith 64 = .ok (.ishl, 1) := by decide +kernel
theorem dX1_latenessWith_65 : decode cX1_latenessWith 65 = .ok (.ior, 1) := by decide +kernel
theorem dX1_latenessWith_66 : decode cX1_latenessWith 66 = .ok (.iaload, 1) := by decide +kernel
theorem dX1_latenessWith_67 : decode cX1_latenessWith 67 = .ok (.iadd, 1) := by decide +kernel
theorem dX1_latenessWith_68 : decode cX1_latenessWith 68 = .ok (.ireturn, 1) := by decide +kernel
theorem dX2_init_0 : decode cX2_init 0 = .ok (.aload_n 0, 1) := by decide +kernel
theorem dX2_init_1 : decode cX2_init 1 = .ok (.invokespecial 3, 3) := by decide +kernel
theorem dX2_init_4 : decode cX2_init 4 = .ok (.aload_n 0, 1) := by decide +kernel
theorem dX2_init_5 : decode cX2_init 5 = .ok (.iload_n 1, 1) := by decide +kernel
theorem dX2_init_6 : decode cX2_init 6 = .ok (.putfield 9, 3) := by decide +kernel
theorem dX2_init_9 : decode cX2_init 9 = .ok (.aload_n 0, 1) := by decide +kernel
theorem dX2_init_10 : decode cX2_init 10 = .ok (.iload_n 3, 1) := by decide +kernel
theorem dX2_init_11 : decode cX2_init 11 = .ok (.putfield 15, 3) := by decide +kernel
theorem dX2_init_14 : decode cX2_init 14 = .ok (.aload_n 0, 1) := by decide +kernel
theorem dX2_init_15 : decode cX2_init 15 = .ok (.iload 4, 2) := by decide +kernel
theorem dX2_init_17 : decode cX2_init 17 = .ok (.putfield 18, 3) := by decide +kernel
theorem dX2_init_20 : decode cX2_init 20 = .ok (.aload_n 0, 1) := by decide +kernel
theorem dX2_init_21 : decode cX2_init 21 = .ok (.iload 5, 2) := by decide +kernel
theorem dX2_init_23 : decode cX2_init 23 = .ok (.putfield 21, 3) := by decide +kernel
theorem dX2_init_26 : decode cX2_init 26 = .ok (.aload_n 0, 1) := by decide +kernel
theorem dX2_init_27 : decode cX2_init 27 = .ok (.iload 6, 2) := by decide +kernel
theorem dX2_init_29 : decode cX2_init 29 = .ok (.putfield 24, 3) := by decide +kernel
theorem dX2_init_32 : decode cX2_init 32 = .ok (.aload_n 0, 1) := by decide +kernel
theorem dX2_init_33 : decode cX2_init 33 = .ok (.iload 7, 2) := by decide +kernel
theorem dX2_init_35 : decode cX2_init 35 = .ok (.putfield 27, 3) := by decide +kernel
theorem dX2_init_38 : decode cX2_init 38 = .ok (.aload_n 0, 1) := by decide +kernel
theorem dX2_init_39 : decode cX2_init 39 = .ok (.iload_n 2, 1) := by decide +kernel
theorem dX2_init_40 : decode cX2_init 40 = .ok (.anewarray 30, 3) := by decide +kernel
theorem dX2_init_43 : decode cX2_init 43 = .ok (.putfield 32, 3) := by decide +kernel
theorem dX2_init_46 : decode cX2_init 46 = .ok (.iconst 0, 1) := by decide +kernel
theorem dX2_init_47 : decode cX2_init 47 = .ok (.istore 8, 2) := by decide +kernel
theorem dX2_init_49 : decode cX2_init 49 = .ok (.iload 8, 2) := by decide +kernel
theorem dX2_init_51 : decode cX2_init 51 = .ok (.iload_n 2, 1) := by decide +kernel
theorem dX2_init_52 : decode cX2_init 52 = .ok (.if_icmp .ge 23, 3) := by decide +kernel
theorem dX2_init_55 : decode cX2_init 55 = .ok (.aload_n 0, 1) := by decide +kernel
theorem dX2_init_56 : decode cX2_init 56 = .ok (.getfield 32, 3) := by decide +kernel
theorem dX2_init_59 : decode cX2_init 59 = .ok (.iload 8, 2) := by decide +kernel
theorem dX2_init_61 : decode cX2_init 61 = .ok (.new 30, 3) := by decide +kernel
theorem dX2_init_64 : decode cX2_init 64 = .ok (.dup, 1) := by decide +kernel
theorem dX2_init_65 : decode cX2_init 65 = .ok (.invokespecial 36, 3) := by decide +kernel
theorem dX2_init_68 : decode cX2_init 68 = .ok (.aastore, 1) := by decide +kernel
theorem dX2_init_69 : decode cX2_init 69 = .ok (.iinc 8 1, 3) := by decide +kernel
theorem dX2_init_72 : decode cX2_init 72 = .ok (.goto (-23), 3) := by decide +kernel
theorem dX2_init_75 : decode cX2_init 75 = .ok (.return_, 1) := by decide +kernel
theorem dX2_stepBeside_0 : decode cX2_stepBeside 0 = .ok (.aload_n 0, 1) := by decide +kernel
theorem dX2_stepBeside_1 : decode cX2_stepBeside 1 = .ok (.iload_n 1, 1) := by decide +kernel
theorem dX2_stepBeside_2 : decode cX2_stepBeside 2 = .ok (.invokevirtual 37, 3) := by decide +kernel
theorem dX2_stepBeside_5 : decode cX2_stepBeside 5 = .ok (.iconst 0, 1) := by decide +kernel
theorem dX2_stepBeside_6 : decode cX2_stepBeside 6 = .ok (.istore_n 2, 1) := by decide +kernel
theorem dX2_stepBeside_7 : decode cX2_stepBeside 7 = .ok (.iload_n 2, 1) := by decide +kernel
theorem dX2_stepBeside_8 : decode cX2_stepBeside 8 = .ok (.aload_n 0, 1) := by decide +kernel
theorem dX2_stepBeside_9 : decode cX2_stepBeside 9 = .ok (.getfield 32, 3) := by decide +kernel
theorem dX2_stepBeside_12 : decode cX2_stepBeside 12 = .ok (.arraylength, 1) := by decide +kernel
theorem dX2_stepBeside_13 : decode cX2_stepBeside 13 = .ok (.if_icmp .ge 26, 3) := by decide +kernel
theorem dX2_stepBeside_16 : decode cX2_stepBeside 16 = .ok (.aload_n 0, 1) := by decide +kernel
theorem dX2_stepBeside_17 : decode cX2_stepBeside 17 = .ok (.getfield 32, 3) := by decide +kernel
theorem dX2_stepBeside_20 : decode cX2_stepBeside 20 = .ok (.iload_n 2, 1) := by decide +kernel
theorem dX2_stepBeside_21 : decode cX2_stepBeside 21 = .ok (.aaload, 1) := by decide +kernel
theorem dX2_stepBeside_22 : decode cX2_stepBeside 22 = .ok (.aload_n 0, 1) := by decide +kernel
theorem dX2_stepBeside_23 : decode cX2_stepBeside 23 = .ok (.getfield 24, 3) := by decide +kernel
theorem dX2_stepBeside_26 : decode cX2_stepBeside 26 = .ok (.aload_n 0, 1) := by decide +kernel
theorem dX2_stepBeside_27 : decode cX2_stepBeside 27 = .ok (.getfield 27, 3) := by decide +kernel
theorem dX2_stepBeside_30 : decode cX2_stepBeside 30 = .ok (.invokevirtual 41, 3) := by decide +kernel
theorem dX2_stepBeside_33 : decode cX2_stepBeside 33 = .ok (.iinc 2 1, 3) := by decide +kernel
theorem dX2_stepBeside_36 : decode cX2_stepBeside 36 = .ok (.goto (-29), 3) := by decide +kernel
theorem dX2_stepBeside_39 : decode cX2_stepBeside 39 = .ok (.return_, 1) := by decide +kernel
theorem dX2_moveWarmth_0 : decode cX2_moveWarmth 0 = .ok (.iload_n 1, 1) := by decide +kernel
theorem dX2_moveWarmth_1 : decode cX2_moveWarmth 1 = .ok (.aload_n 0, 1) := by decide +kernel
theorem dX2_moveWarmth_2 : decode cX2_moveWarmth 2 = .ok (.getfield 32, 3) := by decide +kernel
theorem dX2_moveWarmth_5 : decode cX2_moveWarmth 5 = .ok (.iconst 0, 1) := by decide +kernel
theorem dX2_moveWarmth_6 : decode cX2_moveWarmth 6 = .ok (.aaload, 1) := by decide +kernel
theorem dX2_moveWarmth_7 : decode cX2_moveWarmth 7 = .ok (.getfield 45, 3) := by decide +kernel
theorem dX2_moveWarmth_10 : decode cX2_moveWarmth 10 = .ok (.isub, 1) := by decide +kernel
theorem dX2_moveWarmth_11 : decode cX2_moveWarmth 11 = .ok (.aload_n 0, 1) := by decide +kernel
theorem dX2_moveWarmth_12 : decode cX2_moveWarmth 12 = .ok (.getfield 21, 3) := by decide +kernel
theorem dX2_moveWarmth_15 : decode cX2_moveWarmth 15 = .ok (.imul, 1) := by decide +kernel
theorem dX2_moveWarmth_16 : decode cX2_moveWarmth 16 = .ok (.sipush 1000, 3) := by decide +kernel
theorem dX2_moveWarmth_19 : decode cX2_moveWarmth 19 = .ok (.idiv, 1) := by decide +kernel
theorem dX2_moveWarmth_20 : decode cX2_moveWarmth 20 = .ok (.istore_n 2, 1) := by decide +kernel
theorem dX2_moveWarmth_21 : decode cX2_moveWarmth 21 = .ok (.aload_n 0, 1) := by decide +kernel
theorem dX2_moveWarmth_22 : decode cX2_moveWarmth 22 = .ok (.dup, 1) := by decide +kernel
theorem dX2_moveWarmth_23 : decode cX2_moveWarmth 23 = .ok (.getfield 48, 3) := by decide +kernel
theorem dX2_moveWarmth_26 : decode cX2_moveWarmth 26 = .ok (.iload_n 2, 1) := by decide +kernel
theorem dX2_moveWarmth_27 : decode cX2_moveWarmth 27 = .ok (.i2l, 1) := by decide +kernel
theorem dX2_moveWarmth_28 : decode cX2_moveWarmth 28 = .ok (.ladd, 1) := by decide +kernel
theorem dX2_moveWarmth_29 : decode cX2_moveWarmth 29 = .ok (.putfield 48, 3) := by decide +kernel
theorem dX2_moveWarmth_32 : decode cX2_moveWarmth 32 = .ok (.iconst 0, 1) := by decide +kernel
theorem dX2_moveWarmth_33 : decode cX2_moveWarmth 33 = .ok (.istore_n 3, 1) := by decide +kernel
theorem dX2_moveWarmth_34 : decode cX2_moveWarmth 34 = .ok (.iload_n 3, 1) := by decide +kernel
theorem dX2_moveWarmth_35 : decode cX2_moveWarmth 35 = .ok (.aload_n 0, 1) := by decide +kernel
theorem dX2_moveWarmth_36 : decode cX2_moveWarmth 36 = .ok (.getfield 32, 3) := by decide +kernel
theorem dX2_moveWarmth_39 : decode cX2_moveWarmth 39 = .ok (.arraylength, 1) := by decide +kernel
theorem dX2_moveWarmth_40 : decode cX2_moveWarmth 40 = .ok (.if_icmp .ge 37, 3) := by decide +kernel
theorem dX2_moveWarmth_43 : decode cX2_moveWarmth 43 = .ok (.aload_n 0, 1) := by decide +kernel
theorem dX2_moveWarmth_44 : decode cX2_moveWarmth 44 = .ok (.iload_n 3, 1) := by decide +kernel
theorem dX2_moveWarmth_45 : decode cX2_moveWarmth 45 = .ok (.invokevirtual 52, 3) := by decide +kernel
theorem dX2_moveWarmth_48 : decode cX2_moveWarmth 48 = .ok (.istore 4, 2) := by decide +kernel
theorem dX2_moveWarmth_50 : decode cX2_moveWarmth 50 = .ok (.aload_n 0, 1) := by decide +kernel
theorem dX2_moveWarmth_51 : decode cX2_moveWarmth 51 = .ok (.getfield 32, 3) := by decide +kernel
theorem dX2_moveWarmth_54 : decode cX2_moveWarmth 54 = .ok (.iload_n 3, 1) := by decide +kernel
theorem dX2_moveWarmth_55 : decode cX2_moveWarmth 55 = .ok (.aaload, 1) := by decide +kernel
theorem dX2_moveWarmth_56 : decode cX2_moveWarmth 56 = .ok (.dup, 1) := by decide +kernel
theorem dX2_moveWarmth_57 : decode cX2_moveWarmth 57 = .ok (.getfield 45, 3) := by decide +kernel
theorem dX2_moveWarmth_60 : decode cX2_moveWarmth 60 = .ok (.iload_n 2, 1) := by decide +kernel
theorem dX2_moveWarmth_61 : decode cX2_moveWarmth 61 = .ok (.iload 4, 2) := by decide +kernel
theorem dX2_moveWarmth_63 : decode cX2_moveWarmth 63 = .ok (.isub, 1) := by decide +kernel
theorem dX2_moveWarmth_64 : decode cX2_moveWarmth 64 = .ok (.iadd, 1) := by decide +kernel
theorem dX2_moveWarmth_65 : decode cX2_moveWarmth 65 = .ok (.putfield 45, 3) := by decide +kernel
theorem dX2_moveWarmth_68 : decode cX2_moveWarmth 68 = .ok (.iload 4, 2) := by decide +kernel
theorem dX2_moveWarmth_70 : decode cX2_moveWarmth 70 = .ok (.istore_n 2, 1) := by decide +kernel
theorem dX2_moveWarmth_71 : decode cX2_moveWarmth 71 = .ok (.iinc 3 1, 3) := by decide +kernel
theorem dX2_moveWarmth_74 : decode cX2_moveWarmth 74 = .ok (.goto (-40), 3) := by decide +kernel
theorem dX2_moveWarmth_77 : decode cX2_moveWarmth 77 = .ok (.return_, 1) := by decide +kernel
theorem dX2_flowFrom_0 : decode cX2_flowFrom 0 = .ok (.iload_n 1, 1) := by decide +kernel
theorem dX2_flowFrom_1 : decode cX2_flowFrom 1 = .ok (.iconst 1, 1) := by decide +kernel
theorem dX2_flowFrom_2 : decode cX2_flowFrom 2 = .ok (.iadd, 1) := by decide +kernel
theorem dX2_flowFrom_3 : decode cX2_flowFrom 3 = .ok (.aload_n 0, 1) := by decide +kernel
theorem dX2_flowFrom_4 : decode cX2_flowFrom 4 = .ok (.getfield 32, 3) := by decide +kernel
theorem dX2_flowFrom_7 : decode cX2_flowFrom 7 = .ok (.arraylength, 1) := by decide +kernel
theorem dX2_flowFrom_8 : decode cX2_flowFrom 8 = .ok (.if_icmp .lt 5, 3) := by decide +kernel
theorem dX2_flowFrom_11 : decode cX2_flowFrom 11 = .ok (.iconst 0, 1) := by decide +kernel
theorem dX2_flowFrom_12 : decode cX2_flowFrom 12 = .ok (.ireturn, 1) := by decide +kernel
theorem dX2_flowFrom_13 : decode cX2_flowFrom 13 = .ok (.aload_n 0, 1) := by decide +kernel
theorem dX2_flowFrom_14 : decode cX2_flowFrom 14 = .ok (.getfield 32, 3) := by decide +kernel
theorem dX2_flowFrom_17 : decode cX2_flowFrom 17 = .ok (.iload_n 1, 1) := by decide +kernel
theorem dX2_flowFrom_18 : decode cX2_flowFrom 18 = .ok (.aaload, 1) := by decide +kernel
theorem dX2_flowFrom_19 : decode cX2_flowFrom 19 = .ok (.getfield 45, 3) := by decide +kernel
theorem dX2_flowFrom_22 : decode cX2_flowFrom 22 = .ok (.aload_n 0, 1) := by decide +kernel
theorem dX2_flowFrom_23 : decode cX2_flowFrom 23 = .ok (.getfield 32, 3) := by decide +kernel
theorem dX2_flowFrom_26 : decode cX2_flowFrom 26 = .ok (.iload_n 1, 1) := by decide +kernel
theorem dX2_flowFrom_27 : decode cX2_flowFrom 27 = .ok (.iconst 1, 1) := by decide +kernel
theorem dX2_flowFrom_28 : decode cX2_flowFrom 28 = .ok (.iadd, 1) := by decide +kernel
theorem dX2_flowFrom_29 : decode cX2_flowFrom 29 = .ok (.aaload, 1) := by decide +kernel
theorem dX2_flowFrom_30 : decode cX2_flowFrom 30 = .ok (.getfield 45, 3) := by decide +kernel
theorem dX2_flowFrom_33 : decode cX2_flowFrom 33 = .ok (.isub, 1) := by decide +kernel
theorem dX2_flowFrom_34 : decode cX2_flowFrom 34 = .ok (.aload_n 0, 1) := by decide +kernel
theorem dX2_flowFrom_35 : decode cX2_flowFrom 35 = .ok (.getfield 18, 3) := by decide +kernel
theorem dX2_flowFrom_38 : decode cX2_flowFrom 38 = .ok (.imul, 1) := by decide +kernel
theorem dX2_flowFrom_39 : decode cX2_flowFrom 39 = .ok (.sipush 1000, 3) := by decide +kernel
theorem dX2_flowFrom_42 : decode cX2_flowFrom 42 = .ok (.idiv, 1) := by decide +kernel
theorem dX2_flowFrom_43 : decode cX2_flowFrom 43 = .ok (.ireturn, 1) := by decide +kernel
theorem dX2_innermostWarmth_0 : decode cX2_innermostWarmth 0 = .ok (.aload_n 0, 1) := by decide +kernel
theorem dX2_innermostWarmth_1 : decode cX2_innermostWarmth 1 = .ok (.getfield 32, 3) := by decide +kernel
theorem dX2_innermostWarmth_4 : decode cX2_innermostWarmth 4 = .ok (.aload_n 0, 1) := by decide +kernel
theorem dX2_innermostWarmth_5 : decode cX2_innermostWarmth 5 = .ok (.getfield 32, 3) := by decide +kernel
theorem dX2_innermostWarmth_8 : decode cX2_innermostWarmth 8 = .ok (.arraylength, 1) := by decide +kernel
theorem dX2_innermostWarmth_9 : decode cX2_innermostWarmth 9 = .ok (.iconst 1, 1) := by decide +kernel
theorem dX2_innermostWarmth_10 : decode cX2_innermostWarmth 10 = .ok (.isub, 1) := by decide +kernel
theorem dX2_innermostWarmth_11 : decode cX2_innermostWarmth 11 = .ok (.aaload, 1) := by decide +kernel
theorem dX2_innermostWarmth_12 : decode cX2_innermostWarmth 12 = .ok (.getfield 45, 3) := by decide +kernel
theorem dX2_innermostWarmth_15 : decode cX2_innermostWarmth 15 = .ok (.ireturn, 1) := by decide +kernel
theorem dX2_warmthAstray_0 : decode cX2_warmthAstray 0 = .ok (.aload_n 0, 1) := by decide +kernel
theorem dX2_warmthAstray_1 : decode cX2_warmthAstray 1 = .ok (.getfield 48, 3) := by decide +kernel
theorem dX2_warmthAstray_4 : decode cX2_warmthAstray 4 = .ok (.lneg, 1) := by decide +kernel
theorem dX2_warmthAstray_5 : decode cX2_warmthAstray 5 = .ok (.lstore_n 1, 1) := by decide +kernel
theorem dX2_warmthAstray_6 : decode cX2_warmthAstray 6 = .ok (.iconst 0, 1) := by decide +kernel
theorem dX2_warmthAstray_7 : decode cX2_warmthAstray 7 = .ok (.istore_n 3, 1) := by decide +kernel
theorem dX2_warmthAstray_8 : decode cX2_warmthAstray 8 = .ok (.iload_n 3, 1) := by decide +kernel
theorem dX2_warmthAstray_9 : decode cX2_warmthAstray 9 = .ok (.aload_n 0, 1) := by decide +kernel
theorem dX2_warmthAstray_10 : decode cX2_warmthAstray 10 = .ok (.getfield 32, 3) := by decide +kernel
theorem dX2_warmthAstray_13 : decode cX2_warmthAstray 13 = .ok (.arraylength, 1) := by decide +kernel
theorem dX2_warmthAstray_14 : decode cX2_warmthAstray 14 = .ok (.if_icmp .ge 26, 3) := by decide +kernel
theorem dX2_warmthAstray_17 : decode cX2_warmthAstray 17 = .ok (.lload_n 1, 1) := by decide +kernel
theorem dX2_warmthAstray_18 : decode cX2_warmthAstray 18 = .ok (.aload_n 0, 1) := by decide +kernel
theorem dX2_warmthAstray_19 : decode cX2_warmthAstray 19 = .ok (.getfield 32, 3) := by decide +kernel
theorem dX2_warmthAstray_22 : decode cX2_warmthAstray 22 = .ok (.iload_n 3, 1) := by decide +kernel
theorem dX2_warmthAstray_23 : decode cX2_warmthAstray 23 = .ok (.aaload, 1) := by decide +kernel
theorem dX2_warmthAstray_24 : decode cX2_warmthAstray 24 = .ok (.getfield 45, 3) := by decide +kernel
theorem dX2_warmthAstray_27 : decode cX2_warmthAstray 27 = .ok (.sipush 200, 3) := by decide +kernel
theorem dX2_warmthAstray_30 : decode cX2_warmthAstray 30 = .ok (.isub, 1) := by decide +kernel
theorem dX2_warmthAstray_31 : decode cX2_warmthAstray 31 = .ok (.i2l, 1) := by decide +kernel
theorem dX2_warmthAstray_32 : decode cX2_warmthAstray 32 = .ok (.ladd, 1) := by decide +kernel
theorem dX2_warmthAstray_33 : decode cX2_warmthAstray 33 = .ok (.lstore_n 1, 1) := by decide +kernel
theorem dX2_warmthAstray_34 : decode cX2_warmthAstray 34 = .ok (.iinc 3 1, 3) := by decide +kernel
theorem dX2_warmthAstray_37 : decode cX2_warmthAstray 37 = .ok (.goto (-29), 3) := by decide +kernel
theorem dX2_warmthAstray_40 : decode cX2_warmthAstray 40 = .ok (.lload_n 1, 1) := by decide +kernel
theorem dX2_warmthAstray_41 : decode cX2_warmthAstray 41 = .ok (.lreturn, 1) := by decide +kernel
theorem dX2_digestFrom_0 : decode cX2_digestFrom 0 = .ok (.ldc2_w 56, 3) := by decide +kernel
theorem dX2_digestFrom_3 : decode cX2_digestFrom 3 = .ok (.lload_n 1, 1) := by decide +kernel
theorem dX2_digestFrom_4 : decode cX2_digestFrom 4 = .ok (.lmul, 1) := by decide +kernel
theorem dX2_digestFrom_5 : decode cX2_digestFrom 5 = .ok (.aload_n 0, 1) := by decide +kernel
theorem dX2_digestFrom_6 : decode cX2_digestFrom 6 = .ok (.getfield 48, 3) := by decide +kernel
theorem dX2_digestFrom_9 : decode cX2_digestFrom 9 = .ok (.ladd, 1) := by decide +kernel
theorem dX2_digestFrom_10 : decode cX2_digestFrom 10 = .ok (.lstore_n 3, 1) := by decide +kernel
theorem dX2_digestFrom_11 : decode cX2_digestFrom 11 = .ok (.iconst 0, 1) := by decide +kernel
theorem dX2_digestFrom_12 : decode cX2_digestFrom 12 = .ok (.istore 5, 2) := by decide +kernel
theorem dX2_digestFrom_14 : decode cX2_digestFrom 14 = .ok (.iload 5, 2) := by decide +kernel
theorem dX2_digestFrom_16 : decode cX2_digestFrom 16 = .ok (.aload_n 0, 1) := by decide +kernel
theorem dX2_digestFrom_17 : decode cX2_digestFrom 17 = .ok (.getfield 32, 3) := by decide +kernel
theorem dX2_digestFrom_20 : decode cX2_digestFrom 20 = .ok (.arraylength, 1) := by decide +kernel
theorem dX2_digestFrom_21 : decode cX2_digestFrom 21 = .ok (.if_icmp .ge 45, 3) := by decide +kernel
theorem dX2_digestFrom_24 : decode cX2_digestFrom 24 = .ok (.iconst 0, 1) := by decide +kernel
theorem dX2_digestFrom_25 : decode cX2_digestFrom 25 = .ok (.istore 6, 2) := by decide +kernel
theorem dX2_digestFrom_27 : decode cX2_digestFrom 27 = .ok (.iload 6, 2) := by decide +kernel
theorem dX2_digestFrom_29 : decode cX2_digestFrom 29 = .ok (.bipush 6, 2) := by decide +kernel
theorem dX2_digestFrom_31 : decode cX2_digestFrom 31 = .ok (.if_icmp .gt 29, 3) := by decide +kernel
theorem dX2_digestFrom_34 : decode cX2_digestFrom 34 = .ok (.ldc2_w 56, 3) := by decide +kernel
theorem dX2_digestFrom_37 : decode cX2_digestFrom 37 = .ok (.lload_n 3, 1) := by decide +kernel
theorem dX2_digestFrom_38 : decode cX2_digestFrom 38 = .ok (.lmul, 1) := by decide +kernel
theorem dX2_digestFrom_39 : decode cX2_digestFrom 39 = .ok (.aload_n 0, 1) := by decide +kernel
theorem dX2_digestFrom_40 : decode cX2_digestFrom 40 = .ok (.getfield 32, 3) := by decide +kernel
theorem dX2_digestFrom_43 : decode cX2_digestFrom 43 = .ok (.iload 5, 2) := by decide +kernel
theorem dX2_digestFrom_45 : decode cX2_digestFrom 45 = .ok (.aaload, 1) := by decide +kernel
theorem dX2_digestFrom_46 : decode cX2_digestFrom 46 = .ok (.iload 6, 2) := by decide +kernel
theorem dX2_digestFrom_48 : decode cX2_digestFrom 48 = .ok (.invokevirtual 58, 3) := by decide +kernel
theorem dX2_digestFrom_51 : decode cX2_digestFrom 51 = .ok (.i2l, 1) := by decide +kernel
theorem dX2_digestFrom_52 : decode cX2_digestFrom 52 = .ok (.ladd, 1) := by decide +kernel
theorem dX2_digestFrom_53 : decode cX2_digestFrom 53 = .ok (.lstore_n 3, 1) := by decide +kernel
theorem dX2_digestFrom_54 : decode cX2_digestFrom 54 = .ok (.iinc 6 1, 3) := by decide +kernel
theorem dX2_digestFrom_57 : decode cX2_digestFrom 57 = .ok (.goto (-30), 3) := by decide +kernel
theorem dX2_digestFrom_60 : decode cX2_digestFrom 60 = .ok (.iinc 5 1, 3) := by decide +kernel
theorem dX2_digestFrom_63 : decode cX2_digestFrom 63 = .ok (.goto (-49), 3) := by decide +kernel
theorem dX2_digestFrom_66 : decode cX2_digestFrom 66 = .ok (.lload_n 3, 1) := by decide +kernel
theorem dX2_digestFrom_67 : decode cX2_digestFrom 67 = .ok (.lreturn, 1) := by decide +kernel
theorem dX3_init_0 : decode cX3_init 0 = .ok (.aload_n 0, 1) := by decide +kernel
theorem dX3_init_1 : decode cX3_init 1 = .ok (.invokespecial 3, 3) := by decide +kernel
theorem dX3_init_4 : decode cX3_init 4 = .ok (.aload_n 0, 1) := by decide +kernel
theorem dX3_init_5 : decode cX3_init 5 = .ok (.iload_n 1, 1) := by decide +kernel
theorem dX3_init_6 : decode cX3_init 6 = .ok (.putfield 9, 3) := by decide +kernel
theorem dX3_init_9 : decode cX3_init 9 = .ok (.return_, 1) := by decide +kernel
theorem dX3_end_0 : decode cX3_end 0 = .ok (.aload_n 0, 1) := by decide +kernel
theorem dX3_end_1 : decode cX3_end 1 = .ok (.iconst 1, 1) := by decide +kernel
theorem dX3_end_2 : decode cX3_end 2 = .ok (.putfield 15, 3) := by decide +kernel
theorem dX3_end_5 : decode cX3_end 5 = .ok (.aload_n 0, 1) := by decide +kernel
theorem dX3_end_6 : decode cX3_end 6 = .ok (.iload_n 1, 1) := by decide +kernel
theorem dX3_end_7 : decode cX3_end 7 = .ok (.putfield 19, 3) := by decide +kernel
theorem dX3_end_10 : decode cX3_end 10 = .ok (.return_, 1) := by decide +kernel
theorem dX3_isWell_0 : decode cX3_isWell 0 = .ok (.aload_n 0, 1) := by decide +kernel
theorem dX3_isWell_1 : decode cX3_isWell 1 = .ok (.getfield 19, 3) := by decide +kernel
theorem dX3_isWell_4 : decode cX3_isWell 4 = .ok (.ifCond .eq 14, 3) := by decide +kernel
theorem dX3_isWell_7 : decode cX3_isWell 7 = .ok (.aload_n 0, 1) := by decide +kernel
theorem dX3_isWell_8 : decode cX3_isWell 8 = .ok (.getfield 22, 3) := by decide +kernel
theorem dX3_isWell_11 : decode cX3_isWell 11 = .ok (.ifCond .ne 7, 3) := by decide +kernel
theorem dX3_isWell_14 : decode cX3_isWell 14 = .ok (.iconst 1, 1) := by decide +kernel
theorem dX3_isWell_15 : decode cX3_isWell 15 = .ok (.goto 4, 3) := by decide +kernel
theorem dX3_isWell_18 : decode cX3_isWell 18 = .ok (.iconst 0, 1) := by decide +kernel
theorem dX3_isWell_19 : decode cX3_isWell 19 = .ok (.ireturn, 1) := by decide +kernel
theorem dX3_tell_0 : decode cX3_tell 0 = .ok (.iload_n 1, 1) := by decide +kernel
theorem dX3_tell_1 : decode cX3_tell 1 = .ok (.tableswitch 60 0 3 #[31, 36, 44, 52], 31) := by decide +kernel
theorem dX3_tell_32 : decode cX3_tell 32 = .ok (.aload_n 0, 1) := by decide +kernel
theorem dX3_tell_33 : decode cX3_tell 33 = .ok (.getfield 9, 3) := by decide +kernel
theorem dX3_tell_36 : decode cX3_tell 36 = .ok (.ireturn, 1) := by decide +kernel
theorem dX3_tell_37 : decode cX3_tell 37 = .ok (.aload_n 0, 1) := by decide +kernel
theorem dX3_tell_38 : decode cX3_tell 38 = .ok (.getfield 15, 3) := by decide +kernel
theorem dX3_tell_41 : decode cX3_tell 41 = .ok (.invokestatic 25, 3) := by decide +kernel
theorem dX3_tell_44 : decode cX3_tell 44 = .ok (.ireturn, 1) := by decide +kernel
theorem dX3_tell_45 : decode cX3_tell 45 = .ok (.aload_n 0, 1) := by decide +kernel
theorem dX3_tell_46 : decode cX3_tell 46 = .ok (.invokevirtual 29, 3) := by decide +kernel
theorem dX3_tell_49 : decode cX3_tell 49 = .ok (.invokestatic 25, 3) := by decide +kernel
theorem dX3_tell_52 : decode cX3_tell 52 = .ok (.ireturn, 1) := by decide +kernel
theorem dX3_tell_53 : decode cX3_tell 53 = .ok (.aload_n 0, 1) := by decide +kernel
theorem dX3_tell_54 : decode cX3_tell 54 = .ok (.getfield 33, 3) := by decide +kernel
theorem dX3_tell_57 : decode cX3_tell 57 = .ok (.invokestatic 25, 3) := by decide +kernel
theorem dX3_tell_60 : decode cX3_tell 60 = .ok (.ireturn, 1) := by decide +kernel
theorem dX3_tell_61 : decode cX3_tell 61 = .ok (.aload_n 0, 1) := by decide +kernel
theorem dX3_tell_62 : decode cX3_tell 62 = .ok (.getfield 36, 3) := by decide +kernel
theorem dX3_tell_65 : decode cX3_tell 65 = .ok (.ireturn, 1) := by decide +kernel
theorem dX3_digestFrom_0 : decode cX3_digestFrom 0 = .ok (.lload_n 1, 1) := by decide +kernel
theorem dX3_digestFrom_1 : decode cX3_digestFrom 1 = .ok (.lstore_n 3, 1) := by decide +kernel
theorem dX3_digestFrom_2 : decode cX3_digestFrom 2 = .ok (.iconst 0, 1) := by decide +kernel
theorem dX3_digestFrom_3 : decode cX3_digestFrom 3 = .ok (.istore 5, 2) := by decide +kernel
theorem dX3_digestFrom_5 : decode cX3_digestFrom 5 = .ok (.iload 5, 2) := by decide +kernel
theorem dX3_digestFrom_7 : decode cX3_digestFrom 7 = .ok (.iconst 4, 1) := by decide +kernel
theorem dX3_digestFrom_8 : decode cX3_digestFrom 8 = .ok (.if_icmp .gt 23, 3) := by decide +kernel
theorem dX3_digestFrom_11 : decode cX3_digestFrom 11 = .ok (.ldc2_w 39, 3) := by decide +kernel
theorem dX3_digestFrom_14 : decode cX3_digestFrom 14 = .ok (.lload_n 3, 1) := by decide +kernel
theorem dX3_digestFrom_15 : decode cX3_digestFrom 15 = .ok (.lmul, 1) := by decide +kernel
theorem dX3_digestFrom_16 : decode cX3_digestFrom 16 = .ok (.aload_n 0, 1) := by decide +kernel
theorem dX3_digestFrom_17 : decode cX3_digestFrom 17 = .ok (.iload 5, 2) := by decide +kernel
theorem dX3_digestFrom_19 : decode cX3_digestFrom 19 = .ok (.invokevirtual 41, 3) := by decide +kernel
theorem dX3_digestFrom_22 : decode cX3_digestFrom 22 = .ok (.i2l, 1) := by decide +kernel
theorem dX3_digestFrom_23 : decode cX3_digestFrom 23 = .ok (.ladd, 1) := by decide +kernel
theorem dX3_digestFrom_24 : decode cX3_digestFrom 24 = .ok (.lstore_n 3, 1) := by decide +kernel
theorem dX3_digestFrom_25 : decode cX3_digestFrom 25 = .ok (.iinc 5 1, 3) := by decide +kernel
theorem dX3_digestFrom_28 : decode cX3_digestFrom 28 = .ok (.goto (-23), 3) := by decide +kernel
theorem dX3_digestFrom_31 : decode cX3_digestFrom 31 = .ok (.lload_n 3, 1) := by decide +kernel
theorem dX3_digestFrom_32 : decode cX3_digestFrom 32 = .ok (.lreturn, 1) := by decide +kernel
theorem dX4_init_0 : decode cX4_init 0 = .ok (.aload_n 0, 1) := by decide +kernel
theorem dX4_init_1 : decode cX4_init 1 = .ok (.invokespecial 3, 3) := by decide +kernel
theorem dX4_init_4 : decode cX4_init 4 = .ok (.aload_n 0, 1) := by decide +kernel
theorem dX4_init_5 : decode cX4_init 5 = .ok (.sipush 200, 3) := by decide +kernel
theorem dX4_init_8 : decode cX4_init 8 = .ok (.putfield 9, 3) := by decide +kernel
theorem dX4_init_11 : decode cX4_init 11 = .ok (.aload_n 0, 1) := by decide +kernel
theorem dX4_init_12 : decode cX4_init 12 = .ok (.sipush 1000, 3) := by decide +kernel
theorem dX4_init_15 : decode cX4_init 15 = .ok (.putfield 15, 3) := by decide +kernel
theorem dX4_init_18 : decode cX4_init 18 = .ok (.return_, 1) := by decide +kernel
theorem dX4_change_0 : decode cX4_change 0 = .ok (.aload_n 0, 1) := by decide +kernel
theorem dX4_change_1 : decode cX4_change 1 = .ok (.getfield 9, 3) := by decide +kernel
theorem dX4_change_4 : decode cX4_change 4 = .ok (.sipush 7300, 3) := by decide +kernel
theorem dX4_change_7 : decode cX4_change 7 = .ok (.if_icmp .le 21, 3) := by decide +kernel
theorem dX4_change_10 : decode cX4_change 10 = .ok (.aload_n 0, 1) := by decide +kernel
theorem dX4_change_11 : decode cX4_change 11 = .ok (.aload_n 0, 1) := by decide +kernel
theorem dX4_change_12 : decode cX4_change 12 = .ok (.getfield 9, 3) := by decide +kernel
theorem dX4_change_15 : decode cX4_change 15 = .ok (.sipush 7300, 3) := by decide +kernel
theorem dX4_change_18 : decode cX4_change 18 = .ok (.isub, 1) := by decide +kernel
theorem dX4_change_19 : decode cX4_change 19 = .ok (.bipush 10, 2) := by decide +kernel
theorem dX4_change_21 : decode cX4_change 21 = .ok (.idiv, 1) := by decide +kernel
theorem dX4_change_22 : decode cX4_change 22 = .ok (.invokevirtual 18, 3) := by decide +kernel
theorem dX4_change_25 : decode cX4_change 25 = .ok (.goto 79, 3) := by decide +kernel
theorem dX4_change_28 : decode cX4_change 28 = .ok (.aload_n 0, 1) := by decide +kernel
theorem dX4_change_29 : decode cX4_change 29 = .ok (.getfield 9, 3) := by decide +kernel
theorem dX4_change_32 : decode cX4_change 32 = .ok (.sipush 5500, 3) := by decide +kernel
theorem dX4_change_35 : decode cX4_change 35 = .ok (.if_icmp .lt 18, 3) := by decide +kernel
theorem dX4_change_38 : decode cX4_change 38 = .ok (.aload_n 0, 1) := by decide +kernel
theorem dX4_change_39 : decode cX4_change 39 = .ok (.iload_n 1, 1) := by decide +kernel
theorem dX4_change_40 : decode cX4_change 40 = .ok (.aload_n 0, 1) := by decide +kernel
theorem dX4_change_41 : decode cX4_change 41 = .ok (.getfield 22, 3) := by decide +kernel
theorem dX4_change_44 : decode cX4_change 44 = .ok (.invokestatic 25, 3) := by decide +kernel
theorem dX4_change_47 : decode cX4_change 47 = .ok (.invokevirtual 31, 3) := by decide +kernel
theorem dX4_change_50 : decode cX4_change 50 = .ok (.goto 54, 3) := by decide +kernel
theorem dX4_change_53 : decode cX4_change 53 = .ok (.aload_n 0, 1) := by decide +kernel
theorem dX4_change_54 : decode cX4_change 54 = .ok (.getfield 9, 3) := by decide +kernel
theorem dX4_change_57 : decode cX4_change 57 = .ok (.sipush 3000, 3) := by decide +kernel
theorem dX4_change_60 : decode cX4_change 60 = .ok (.if_icmp .lt 18, 3) := by decide +kernel
theorem dX4_change_63 : decode cX4_change 63 = .ok (.aload_n 0, 1) := by decide +kernel
theorem dX4_change_64 : decode cX4_change 64 = .ok (.iload_n 2, 1) := by decide +kernel
theorem dX4_change_65 : decode cX4_change 65 = .ok (.aload_n 0, 1) := by decide +kernel
theorem dX4_change_66 : decode cX4_change 66 = .ok (.getfield 22, 3) := by decide +kernel
theorem dX4_change_69 : decode cX4_change 69 = .ok (.invokestatic 25, 3) := by decide +kernel
theorem dX4_change_72 : decode cX4_change 72 = .ok (.invokevirtual 34, 3) := by decide +kernel
theorem dX4_change_75 : decode cX4_change 75 = .ok (.goto 29, 3) := by decide +kernel
theorem dX4_change_78 : decode cX4_change 78 = .ok (.aload_n 0, 1) := by decide +kernel
theorem dX4_change_79 : decode cX4_change 79 = .ok (.aload_n 0, 1) := by decide +kernel
theorem dX4_change_80 : decode cX4_change 80 = .ok (.getfield 22, 3) := by decide +kernel
theorem dX4_change_83 : decode cX4_change 83 = .ok (.aload_n 0, 1) := by decide +kernel
theorem dX4_change_84 : decode cX4_change 84 = .ok (.getfield 37, 3) := by decide +kernel
theorem dX4_change_87 : decode cX4_change 87 = .ok (.iadd, 1) := by decide +kernel
theorem dX4_change_88 : decode cX4_change 88 = .ok (.sipush 3000, 3) := by decide +kernel
theorem dX4_change_91 : decode cX4_change 91 = .ok (.aload_n 0, 1) := by decide +kernel
theorem dX4_change_92 : decode cX4_change 92 = .ok (.getfield 9, 3) := by decide +kernel
theorem dX4_change_95 : decode cX4_change 95 = .ok (.isub, 1) := by decide +kernel
theorem dX4_change_96 : decode cX4_change 96 = .ok (.imul, 1) := by decide +kernel
theorem dX4_change_97 : decode cX4_change 97 = .ok (.sipush 2600, 3) := by decide +kernel
theorem dX4_change_100 : decode cX4_change 100 = .ok (.idiv, 1) := by decide +kernel
theorem dX4_change_101 : decode cX4_change 101 = .ok (.invokevirtual 40, 3) := by decide +kernel
theorem dX4_change_104 : decode cX4_change 104 = .ok (.aload_n 0, 1) := by decide +kernel
theorem dX4_change_105 : decode cX4_change 105 = .ok (.invokevirtual 43, 3) := by decide +kernel
theorem dX4_change_108 : decode cX4_change 108 = .ok (.return_, 1) := by decide +kernel
theorem dX4_becomeHot_0 : decode cX4_becomeHot 0 = .ok (.iload_n 1, 1) := by decide +kernel
theorem dX4_becomeHot_1 : decode cX4_becomeHot 1 = .ok (.aload_n 0, 1) := by decide +kernel
theorem dX4_becomeHot_2 : decode cX4_becomeHot 2 = .ok (.getfield 15, 3) := by decide +kernel
theorem dX4_becomeHot_5 : decode cX4_becomeHot 5 = .ok (.invokestatic 25, 3) := by decide +kernel
theorem dX4_becomeHot_8 : decode cX4_becomeHot 8 = .ok (.istore_n 2, 1) := by decide +kernel
theorem dX4_becomeHot_9 : decode cX4_becomeHot 9 = .ok (.iload_n 1, 1) := by decide +kernel
theorem dX4_becomeHot_10 : decode cX4_becomeHot 10 = .ok (.iload_n 2, 1) := by decide +kernel
theorem dX4_becomeHot_11 : decode cX4_becomeHot 11 = .ok (.isub, 1) := by decide +kernel
theorem dX4_becomeHot_12 : decode cX4_becomeHot 12 = .ok (.aload_n 0, 1) := by decide +kernel
theorem dX4_becomeHot_13 : decode cX4_becomeHot 13 = .ok (.getfield 46, 3) := by decide +kernel
theorem dX4_becomeHot_16 : decode cX4_becomeHot 16 = .ok (.invokestatic 25, 3) := by decide +kernel
theorem dX4_becomeHot_19 : decode cX4_becomeHot 19 = .ok (.istore_n 3, 1) := by decide +kernel
theorem dX4_becomeHot_20 : decode cX4_becomeHot 20 = .ok (.iload_n 1, 1) := by decide +kernel
theorem dX4_becomeHot_21 : decode cX4_becomeHot 21 = .ok (.iload_n 2, 1) := by decide +kernel
theorem dX4_becomeHot_22 : decode cX4_becomeHot 22 = .ok (.isub, 1) := by decide +kernel
theorem dX4_becomeHot_23 : decode cX4_becomeHot 23 = .ok (.iload_n 3, 1) := by decide +kernel
theorem dX4_becomeHot_24 : decode cX4_becomeHot 24 = .ok (.isub, 1) := by decide +kernel
theorem dX4_becomeHot_25 : decode cX4_becomeHot 25 = .ok (.aload_n 0, 1) := by decide +kernel
theorem dX4_becomeHot_26 : decode cX4_becomeHot 26 = .ok (.getfield 37, 3) := by decide +kernel
theorem dX4_becomeHot_29 : decode cX4_becomeHot 29 = .ok (.invokestatic 25, 3) := by decide +kernel
theorem dX4_becomeHot_32 : decode cX4_becomeHot 32 = .ok (.istore 4, 2) := by decide +kernel
theorem dX4_becomeHot_34 : decode cX4_becomeHot 34 = .ok (.aload_n 0, 1) := by decide +kernel
theorem dX4_becomeHot_35 : decode cX4_becomeHot 35 = .ok (.dup, 1) := by decide +kernel
theorem dX4_becomeHot_36 : decode cX4_becomeHot 36 = .ok (.getfield 15, 3) := by decide +kernel
theorem dX4_becomeHot_39 : decode cX4_becomeHot 39 = .ok (.iload_n 2, 1) := by decide +kernel
theorem dX4_becomeHot_40 : decode cX4_becomeHot 40 = .ok (.isub, 1) := by decide +kernel
theorem dX4_becomeHot_41 : decode cX4_becomeHot 41 = .ok (.putfield 15, 3) := by decide +kernel
theorem dX4_becomeHot_44 : decode cX4_becomeHot 44 = .ok (.aload_n 0, 1) := by decide +kernel
theorem dX4_becomeHot_45 : decode cX4_becomeHot 45 = .ok (.dup, 1) := by decide +kernel
theorem dX4_becomeHot_46 : decode cX4_becomeHot 46 = .ok (.getfield 46, 3) := by decide +kernel
theorem dX4_becomeHot_49 : decode cX4_becomeHot 49 = .ok (.iload_n 3, 1) := by decide +kernel
theorem dX4_becomeHot_50 : decode cX4_becomeHot 50 = .ok (.isub, 1) := by decide +kernel
theorem dX4_becomeHot_51 : decode cX4_becomeHot 51 = .ok (.putfield 46, 3) := by decide +kernel
theorem dX4_becomeHot_54 : decode cX4_becomeHot 54 = .ok (.aload_n 0, 1) := by decide +kernel
theorem dX4_becomeHot_55 : decode cX4_becomeHot 55 = .ok (.dup, 1) := by decide +kernel
theorem dX4_becomeHot_56 : decode cX4_becomeHot 56 = .ok (.getfield 37, 3) := by decide +kernel
theorem dX4_becomeHot_59 : decode cX4_becomeHot 59 = .ok (.iload 4, 2) := by decide +kernel
theorem dX4_becomeHot_61 : decode cX4_becomeHot 61 = .ok (.isub, 1) := by decide +kernel
theorem dX4_becomeHot_62 : decode cX4_becomeHot 62 = .ok (.putfield 37, 3) := by decide +kernel
theorem dX4_becomeHot_65 : decode cX4_becomeHot 65 = .ok (.aload_n 0, 1) := by decide +kernel
theorem dX4_becomeHot_66 : decode cX4_becomeHot 66 = .ok (.dup, 1) := by decide +kernel
theorem dX4_becomeHot_67 : decode cX4_becomeHot 67 = .ok (.getfield 22, 3) := by decide +kernel
theorem dX4_becomeHot_70 : decode cX4_becomeHot 70 = .ok (.iload_n 2, 1) := by decide +kernel
theorem dX4_becomeHot_71 : decode cX4_becomeHot 71 = .ok (.iload_n 3, 1) := by decide +kernel
theorem dX4_becomeHot_72 : decode cX4_becomeHot 72 = .ok (.iadd, 1) := by decide +kernel
end
section
theorem dX4_becomeHot_73 : decode cX4_becomeHot 73 = .ok (.iload 4, 2) := by decide +kernel
theorem dX4_becomeHot_75 : decode cX4_becomeHot 75 = .ok (.iadd, 1) := by decide +kernel
theorem dX4_becomeHot_76 : decode cX4_becomeHot 76 = .ok (.iadd, 1) := by decide +kernel
theorem dX4_becomeHot_77 : decode cX4_becomeHot 77 = .ok (.putfield 22, 3) := by decide +kernel
theorem dX4_becomeHot_80 : decode cX4_becomeHot 80 = .ok (.return_, 1) := by decide +kernel
theorem dX4_becomeLamellar_0 : decode cX4_becomeLamellar 0 = .ok (.aload_n 0, 1) := by decide +kernel
theorem dX4_becomeLamellar_1 : decode cX4_becomeLamellar 1 = .ok (.dup, 1) := by decide +kernel
theorem dX4_becomeLamellar_2 : decode cX4_becomeLamellar 2 = .ok (.getfield 22, 3) := by decide +kernel
theorem dX4_becomeLamellar_5 : decode cX4_becomeLamellar 5 = .ok (.iload_n 1, 1) := by decide +kernel
theorem dX4_becomeLamellar_6 : decode cX4_becomeLamellar 6 = .ok (.isub, 1) := by decide +kernel
theorem dX4_becomeLamellar_7 : decode cX4_becomeLamellar 7 = .ok (.putfield 22, 3) := by decide +kernel
theorem dX4_becomeLamellar_10 : decode cX4_becomeLamellar 10 = .ok (.aload_n 0, 1) := by decide +kernel
theorem dX4_becomeLamellar_11 : decode cX4_becomeLamellar 11 = .ok (.dup, 1) := by decide +kernel
theorem dX4_becomeLamellar_12 : decode cX4_becomeLamellar 12 = .ok (.getfield 15, 3) := by decide +kernel
theorem dX4_becomeLamellar_15 : decode cX4_becomeLamellar 15 = .ok (.iload_n 1, 1) := by decide +kernel
theorem dX4_becomeLamellar_16 : decode cX4_becomeLamellar 16 = .ok (.iadd, 1) := by decide +kernel
theorem dX4_becomeLamellar_17 : decode cX4_becomeLamellar 17 = .ok (.putfield 15, 3) := by decide +kernel
theorem dX4_becomeLamellar_20 : decode cX4_becomeLamellar 20 = .ok (.return_, 1) := by decide +kernel
theorem dX4_becomeTough_0 : decode cX4_becomeTough 0 = .ok (.aload_n 0, 1) := by decide +kernel
theorem dX4_becomeTough_1 : decode cX4_becomeTough 1 = .ok (.dup, 1) := by decide +kernel
theorem dX4_becomeTough_2 : decode cX4_becomeTough 2 = .ok (.getfield 22, 3) := by decide +kernel
theorem dX4_becomeTough_5 : decode cX4_becomeTough 5 = .ok (.iload_n 1, 1) := by decide +kernel
theorem dX4_becomeTough_6 : decode cX4_becomeTough 6 = .ok (.isub, 1) := by decide +kernel
theorem dX4_becomeTough_7 : decode cX4_becomeTough 7 = .ok (.putfield 22, 3) := by decide +kernel
theorem dX4_becomeTough_10 : decode cX4_becomeTough 10 = .ok (.aload_n 0, 1) := by decide +kernel
theorem dX4_becomeTough_11 : decode cX4_becomeTough 11 = .ok (.dup, 1) := by decide +kernel
theorem dX4_becomeTough_12 : decode cX4_becomeTough 12 = .ok (.getfield 46, 3) := by decide +kernel
theorem dX4_becomeTough_15 : decode cX4_becomeTough 15 = .ok (.iload_n 1, 1) := by decide +kernel
theorem dX4_becomeTough_16 : decode cX4_becomeTough 16 = .ok (.iadd, 1) := by decide +kernel
theorem dX4_becomeTough_17 : decode cX4_becomeTough 17 = .ok (.putfield 46, 3) := by decide +kernel
theorem dX4_becomeTough_20 : decode cX4_becomeTough 20 = .ok (.return_, 1) := by decide +kernel
theorem dX4_becomeHard_0 : decode cX4_becomeHard 0 = .ok (.aload_n 0, 1) := by decide +kernel
theorem dX4_becomeHard_1 : decode cX4_becomeHard 1 = .ok (.getfield 37, 3) := by decide +kernel
theorem dX4_becomeHard_4 : decode cX4_becomeHard 4 = .ok (.iload_n 1, 1) := by decide +kernel
theorem dX4_becomeHard_5 : decode cX4_becomeHard 5 = .ok (.if_icmp .ge 37, 3) := by decide +kernel
theorem dX4_becomeHard_8 : decode cX4_becomeHard 8 = .ok (.iload_n 1, 1) := by decide +kernel
theorem dX4_becomeHard_9 : decode cX4_becomeHard 9 = .ok (.aload_n 0, 1) := by decide +kernel
theorem dX4_becomeHard_10 : decode cX4_becomeHard 10 = .ok (.getfield 37, 3) := by decide +kernel
theorem dX4_becomeHard_13 : decode cX4_becomeHard 13 = .ok (.isub, 1) := by decide +kernel
theorem dX4_becomeHard_14 : decode cX4_becomeHard 14 = .ok (.aload_n 0, 1) := by decide +kernel
theorem dX4_becomeHard_15 : decode cX4_becomeHard 15 = .ok (.getfield 22, 3) := by decide +kernel
theorem dX4_becomeHard_18 : decode cX4_becomeHard 18 = .ok (.invokestatic 25, 3) := by decide +kernel
theorem dX4_becomeHard_21 : decode cX4_becomeHard 21 = .ok (.istore_n 2, 1) := by decide +kernel
theorem dX4_becomeHard_22 : decode cX4_becomeHard 22 = .ok (.aload_n 0, 1) := by decide +kernel
theorem dX4_becomeHard_23 : decode cX4_becomeHard 23 = .ok (.dup, 1) := by decide +kernel
theorem dX4_becomeHard_24 : decode cX4_becomeHard 24 = .ok (.getfield 22, 3) := by decide +kernel
theorem dX4_becomeHard_27 : decode cX4_becomeHard 27 = .ok (.iload_n 2, 1) := by decide +kernel
theorem dX4_becomeHard_28 : decode cX4_becomeHard 28 = .ok (.isub, 1) := by decide +kernel
theorem dX4_becomeHard_29 : decode cX4_becomeHard 29 = .ok (.putfield 22, 3) := by decide +kernel
theorem dX4_becomeHard_32 : decode cX4_becomeHard 32 = .ok (.aload_n 0, 1) := by decide +kernel
theorem dX4_becomeHard_33 : decode cX4_becomeHard 33 = .ok (.dup, 1) := by decide +kernel
theorem dX4_becomeHard_34 : decode cX4_becomeHard 34 = .ok (.getfield 37, 3) := by decide +kernel
theorem dX4_becomeHard_37 : decode cX4_becomeHard 37 = .ok (.iload_n 2, 1) := by decide +kernel
theorem dX4_becomeHard_38 : decode cX4_becomeHard 38 = .ok (.iadd, 1) := by decide +kernel
theorem dX4_becomeHard_39 : decode cX4_becomeHard 39 = .ok (.putfield 37, 3) := by decide +kernel
theorem dX4_becomeHard_42 : decode cX4_becomeHard 42 = .ok (.return_, 1) := by decide +kernel
theorem dX4_draw_0 : decode cX4_draw 0 = .ok (.aload_n 0, 1) := by decide +kernel
theorem dX4_draw_1 : decode cX4_draw 1 = .ok (.getfield 37, 3) := by decide +kernel
theorem dX4_draw_4 : decode cX4_draw 4 = .ok (.ifCond .le 39, 3) := by decide +kernel
theorem dX4_draw_7 : decode cX4_draw 7 = .ok (.aload_n 0, 1) := by decide +kernel
theorem dX4_draw_8 : decode cX4_draw 8 = .ok (.getfield 9, 3) := by decide +kernel
theorem dX4_draw_11 : decode cX4_draw 11 = .ok (.sipush 1500, 3) := by decide +kernel
theorem dX4_draw_14 : decode cX4_draw 14 = .ok (.sipush 6500, 3) := by decide +kernel
theorem dX4_draw_17 : decode cX4_draw 17 = .ok (.invokestatic 49, 3) := by decide +kernel
theorem dX4_draw_20 : decode cX4_draw 20 = .ok (.ifCond .eq 23, 3) := by decide +kernel
theorem dX4_draw_23 : decode cX4_draw 23 = .ok (.aload_n 0, 1) := by decide +kernel
theorem dX4_draw_24 : decode cX4_draw 24 = .ok (.dup, 1) := by decide +kernel
theorem dX4_draw_25 : decode cX4_draw 25 = .ok (.getfield 53, 3) := by decide +kernel
theorem dX4_draw_28 : decode cX4_draw 28 = .ok (.aload_n 0, 1) := by decide +kernel
theorem dX4_draw_29 : decode cX4_draw 29 = .ok (.getfield 9, 3) := by decide +kernel
theorem dX4_draw_32 : decode cX4_draw 32 = .ok (.sipush 1500, 3) := by decide +kernel
theorem dX4_draw_35 : decode cX4_draw 35 = .ok (.isub, 1) := by decide +kernel
theorem dX4_draw_36 : decode cX4_draw 36 = .ok (.bipush 100, 2) := by decide +kernel
theorem dX4_draw_38 : decode cX4_draw 38 = .ok (.idiv, 1) := by decide +kernel
theorem dX4_draw_39 : decode cX4_draw 39 = .ok (.iadd, 1) := by decide +kernel
theorem dX4_draw_40 : decode cX4_draw 40 = .ok (.putfield 53, 3) := by decide +kernel
theorem dX4_draw_43 : decode cX4_draw 43 = .ok (.aload_n 0, 1) := by decide +kernel
theorem dX4_draw_44 : decode cX4_draw 44 = .ok (.getfield 22, 3) := by decide +kernel
theorem dX4_draw_47 : decode cX4_draw 47 = .ok (.sipush 500, 3) := by decide +kernel
theorem dX4_draw_50 : decode cX4_draw 50 = .ok (.if_icmp .le 8, 3) := by decide +kernel
theorem dX4_draw_53 : decode cX4_draw 53 = .ok (.aload_n 0, 1) := by decide +kernel
theorem dX4_draw_54 : decode cX4_draw 54 = .ok (.iconst 0, 1) := by decide +kernel
theorem dX4_draw_55 : decode cX4_draw 55 = .ok (.putfield 53, 3) := by decide +kernel
theorem dX4_draw_58 : decode cX4_draw 58 = .ok (.return_, 1) := by decide +kernel
theorem dX4_hardness_0 : decode cX4_hardness 0 = .ok (.sipush 800, 3) := by decide +kernel
theorem dX4_hardness_3 : decode cX4_hardness 3 = .ok (.sipush 400, 3) := by decide +kernel
theorem dX4_hardness_6 : decode cX4_hardness 6 = .ok (.aload_n 0, 1) := by decide +kernel
theorem dX4_hardness_7 : decode cX4_hardness 7 = .ok (.getfield 53, 3) := by decide +kernel
theorem dX4_hardness_10 : decode cX4_hardness 10 = .ok (.bipush 50, 2) := by decide +kernel
theorem dX4_hardness_12 : decode cX4_hardness 12 = .ok (.idiv, 1) := by decide +kernel
theorem dX4_hardness_13 : decode cX4_hardness 13 = .ok (.invokestatic 25, 3) := by decide +kernel
theorem dX4_hardness_16 : decode cX4_hardness 16 = .ok (.isub, 1) := by decide +kernel
theorem dX4_hardness_17 : decode cX4_hardness 17 = .ok (.istore_n 1, 1) := by decide +kernel
theorem dX4_hardness_18 : decode cX4_hardness 18 = .ok (.sipush 200, 3) := by decide +kernel
theorem dX4_hardness_21 : decode cX4_hardness 21 = .ok (.aload_n 0, 1) := by decide +kernel
theorem dX4_hardness_22 : decode cX4_hardness 22 = .ok (.getfield 22, 3) := by decide +kernel
theorem dX4_hardness_25 : decode cX4_hardness 25 = .ok (.imul, 1) := by decide +kernel
theorem dX4_hardness_26 : decode cX4_hardness 26 = .ok (.sipush 250, 3) := by decide +kernel
theorem dX4_hardness_29 : decode cX4_hardness 29 = .ok (.aload_n 0, 1) := by decide +kernel
theorem dX4_hardness_30 : decode cX4_hardness 30 = .ok (.getfield 15, 3) := by decide +kernel
theorem dX4_hardness_33 : decode cX4_hardness 33 = .ok (.imul, 1) := by decide +kernel
theorem dX4_hardness_34 : decode cX4_hardness 34 = .ok (.iadd, 1) := by decide +kernel
theorem dX4_hardness_35 : decode cX4_hardness 35 = .ok (.sipush 450, 3) := by decide +kernel
theorem dX4_hardness_38 : decode cX4_hardness 38 = .ok (.aload_n 0, 1) := by decide +kernel
theorem dX4_hardness_39 : decode cX4_hardness 39 = .ok (.getfield 46, 3) := by decide +kernel
theorem dX4_hardness_42 : decode cX4_hardness 42 = .ok (.imul, 1) := by decide +kernel
theorem dX4_hardness_43 : decode cX4_hardness 43 = .ok (.iadd, 1) := by decide +kernel
theorem dX4_hardness_44 : decode cX4_hardness 44 = .ok (.iload_n 1, 1) := by decide +kernel
theorem dX4_hardness_45 : decode cX4_hardness 45 = .ok (.aload_n 0, 1) := by decide +kernel
theorem dX4_hardness_46 : decode cX4_hardness 46 = .ok (.getfield 37, 3) := by decide +kernel
theorem dX4_hardness_49 : decode cX4_hardness 49 = .ok (.imul, 1) := by decide +kernel
theorem dX4_hardness_50 : decode cX4_hardness 50 = .ok (.iadd, 1) := by decide +kernel
theorem dX4_hardness_51 : decode cX4_hardness 51 = .ok (.sipush 1000, 3) := by decide +kernel
theorem dX4_hardness_54 : decode cX4_hardness 54 = .ok (.idiv, 1) := by decide +kernel
theorem dX4_hardness_55 : decode cX4_hardness 55 = .ok (.ireturn, 1) := by decide +kernel
theorem dX4_tell_0 : decode cX4_tell 0 = .ok (.iload_n 1, 1) := by decide +kernel
theorem dX4_tell_1 : decode cX4_tell 1 = .ok (.tableswitch 69 0 5 #[39, 44, 49, 54, 59, 64], 39) := by decide +kernel
theorem dX4_tell_40 : decode cX4_tell 40 = .ok (.aload_n 0, 1) := by decide +kernel
theorem dX4_tell_41 : decode cX4_tell 41 = .ok (.getfield 9, 3) := by decide +kernel
theorem dX4_tell_44 : decode cX4_tell 44 = .ok (.ireturn, 1) := by decide +kernel
theorem dX4_tell_45 : decode cX4_tell 45 = .ok (.aload_n 0, 1) := by decide +kernel
theorem dX4_tell_46 : decode cX4_tell 46 = .ok (.getfield 22, 3) := by decide +kernel
theorem dX4_tell_49 : decode cX4_tell 49 = .ok (.ireturn, 1) := by decide +kernel
theorem dX4_tell_50 : decode cX4_tell 50 = .ok (.aload_n 0, 1) := by decide +kernel
theorem dX4_tell_51 : decode cX4_tell 51 = .ok (.getfield 15, 3) := by decide +kernel
theorem dX4_tell_54 : decode cX4_tell 54 = .ok (.ireturn, 1) := by decide +kernel
theorem dX4_tell_55 : decode cX4_tell 55 = .ok (.aload_n 0, 1) := by decide +kernel
theorem dX4_tell_56 : decode cX4_tell 56 = .ok (.getfield 46, 3) := by decide +kernel
theorem dX4_tell_59 : decode cX4_tell 59 = .ok (.ireturn, 1) := by decide +kernel
theorem dX4_tell_60 : decode cX4_tell 60 = .ok (.aload_n 0, 1) := by decide +kernel
theorem dX4_tell_61 : decode cX4_tell 61 = .ok (.getfield 37, 3) := by decide +kernel
theorem dX4_tell_64 : decode cX4_tell 64 = .ok (.ireturn, 1) := by decide +kernel
theorem dX4_tell_65 : decode cX4_tell 65 = .ok (.aload_n 0, 1) := by decide +kernel
theorem dX4_tell_66 : decode cX4_tell 66 = .ok (.getfield 53, 3) := by decide +kernel
theorem dX4_tell_69 : decode cX4_tell 69 = .ok (.ireturn, 1) := by decide +kernel
theorem dX4_tell_70 : decode cX4_tell 70 = .ok (.aload_n 0, 1) := by decide +kernel
theorem dX4_tell_71 : decode cX4_tell 71 = .ok (.invokevirtual 56, 3) := by decide +kernel
theorem dX4_tell_74 : decode cX4_tell 74 = .ok (.ireturn, 1) := by decide +kernel
theorem dX5_init_0 : decode cX5_init 0 = .ok (.aload_n 0, 1) := by decide +kernel
theorem dX5_init_1 : decode cX5_init 1 = .ok (.invokespecial 1, 3) := by decide +kernel
theorem dX5_init_4 : decode cX5_init 4 = .ok (.aload_n 0, 1) := by decide +kernel
theorem dX5_init_5 : decode cX5_init 5 = .ok (.bipush 12, 2) := by decide +kernel
theorem dX5_init_7 : decode cX5_init 7 = .ok (.anewarray 9, 3) := by decide +kernel
theorem dX5_init_10 : decode cX5_init 10 = .ok (.putfield 11, 3) := by decide +kernel
theorem dX5_init_13 : decode cX5_init 13 = .ok (.aload_n 0, 1) := by decide +kernel
theorem dX5_init_14 : decode cX5_init 14 = .ok (.iconst 3, 1) := by decide +kernel
theorem dX5_init_15 : decode cX5_init 15 = .ok (.anewarray 15, 3) := by decide +kernel
theorem dX5_init_18 : decode cX5_init 18 = .ok (.putfield 17, 3) := by decide +kernel
theorem dX5_init_21 : decode cX5_init 21 = .ok (.aload_n 0, 1) := by decide +kernel
theorem dX5_init_22 : decode cX5_init 22 = .ok (.bipush 100, 2) := by decide +kernel
theorem dX5_init_24 : decode cX5_init 24 = .ok (.anewarray 21, 3) := by decide +kernel
theorem dX5_init_27 : decode cX5_init 27 = .ok (.putfield 23, 3) := by decide +kernel
theorem dX5_init_30 : decode cX5_init 30 = .ok (.aload_n 0, 1) := by decide +kernel
theorem dX5_init_31 : decode cX5_init 31 = .ok (.new 27, 3) := by decide +kernel
theorem dX5_init_34 : decode cX5_init 34 = .ok (.dup, 1) := by decide +kernel
theorem dX5_init_35 : decode cX5_init 35 = .ok (.invokespecial 29, 3) := by decide +kernel
theorem dX5_init_38 : decode cX5_init 38 = .ok (.putfield 30, 3) := by decide +kernel
theorem dX5_init_41 : decode cX5_init 41 = .ok (.iconst 0, 1) := by decide +kernel
theorem dX5_init_42 : decode cX5_init 42 = .ok (.istore_n 1, 1) := by decide +kernel
theorem dX5_init_43 : decode cX5_init 43 = .ok (.iload_n 1, 1) := by decide +kernel
theorem dX5_init_44 : decode cX5_init 44 = .ok (.iconst 3, 1) := by decide +kernel
theorem dX5_init_45 : decode cX5_init 45 = .ok (.if_icmp .ge 22, 3) := by decide +kernel
theorem dX5_init_48 : decode cX5_init 48 = .ok (.aload_n 0, 1) := by decide +kernel
theorem dX5_init_49 : decode cX5_init 49 = .ok (.getfield 17, 3) := by decide +kernel
theorem dX5_init_52 : decode cX5_init 52 = .ok (.iload_n 1, 1) := by decide +kernel
theorem dX5_init_53 : decode cX5_init 53 = .ok (.new 15, 3) := by decide +kernel
theorem dX5_init_56 : decode cX5_init 56 = .ok (.dup, 1) := by decide +kernel
theorem dX5_init_57 : decode cX5_init 57 = .ok (.invokespecial 34, 3) := by decide +kernel
theorem dX5_init_60 : decode cX5_init 60 = .ok (.aastore, 1) := by decide +kernel
theorem dX5_init_61 : decode cX5_init 61 = .ok (.iinc 1 1, 3) := by decide +kernel
theorem dX5_init_64 : decode cX5_init 64 = .ok (.goto (-21), 3) := by decide +kernel
theorem dX5_init_67 : decode cX5_init 67 = .ok (.return_, 1) := by decide +kernel
theorem dX5_part_0 : decode cX5_part 0 = .ok (.iload_n 1, 1) := by decide +kernel
theorem dX5_part_1 : decode cX5_part 1 = .ok (.iconst 1, 1) := by decide +kernel
theorem dX5_part_2 : decode cX5_part 2 = .ok (.bipush 6, 2) := by decide +kernel
theorem dX5_part_4 : decode cX5_part 4 = .ok (.invokestatic 35, 3) := by decide +kernel
theorem dX5_part_7 : decode cX5_part 7 = .ok (.ifCond .eq 61, 3) := by decide +kernel
theorem dX5_part_10 : decode cX5_part 10 = .ok (.iload_n 2, 1) := by decide +kernel
theorem dX5_part_11 : decode cX5_part 11 = .ok (.iconst 1, 1) := by decide +kernel
theorem dX5_part_12 : decode cX5_part 12 = .ok (.sipush 1000, 3) := by decide +kernel
theorem dX5_part_15 : decode cX5_part 15 = .ok (.invokestatic 35, 3) := by decide +kernel
theorem dX5_part_18 : decode cX5_part 18 = .ok (.ifCond .eq 50, 3) := by decide +kernel
theorem dX5_part_21 : decode cX5_part 21 = .ok (.iload_n 3, 1) := by decide +kernel
theorem dX5_part_22 : decode cX5_part 22 = .ok (.iconst 1, 1) := by decide +kernel
theorem dX5_part_23 : decode cX5_part 23 = .ok (.sipush 300, 3) := by decide +kernel
theorem dX5_part_26 : decode cX5_part 26 = .ok (.invokestatic 35, 3) := by decide +kernel
theorem dX5_part_29 : decode cX5_part 29 = .ok (.ifCond .eq 39, 3) := by decide +kernel
theorem dX5_part_32 : decode cX5_part 32 = .ok (.iload 4, 2) := by decide +kernel
theorem dX5_part_34 : decode cX5_part 34 = .ok (.iconst 1, 1) := by decide +kernel
theorem dX5_part_35 : decode cX5_part 35 = .ok (.sipush 300, 3) := by decide +kernel
theorem dX5_part_38 : decode cX5_part 38 = .ok (.invokestatic 35, 3) := by decide +kernel
theorem dX5_part_41 : decode cX5_part 41 = .ok (.ifCond .eq 27, 3) := by decide +kernel
theorem dX5_part_44 : decode cX5_part 44 = .ok (.iload 5, 2) := by decide +kernel
theorem dX5_part_46 : decode cX5_part 46 = .ok (.iconst 0, 1) := by decide +kernel
theorem dX5_part_47 : decode cX5_part 47 = .ok (.sipush 200, 3) := by decide +kernel
theorem dX5_part_50 : decode cX5_part 50 = .ok (.invokestatic 35, 3) := by decide +kernel
theorem dX5_part_53 : decode cX5_part 53 = .ok (.ifCond .eq 15, 3) := by decide +kernel
theorem dX5_part_56 : decode cX5_part 56 = .ok (.iload 6, 2) := by decide +kernel
theorem dX5_part_58 : decode cX5_part 58 = .ok (.iconst 0, 1) := by decide +kernel
theorem dX5_part_59 : decode cX5_part 59 = .ok (.sipush 200, 3) := by decide +kernel
theorem dX5_part_62 : decode cX5_part 62 = .ok (.invokestatic 35, 3) := by decide +kernel
theorem dX5_part_65 : decode cX5_part 65 = .ok (.ifCond .ne 6, 3) := by decide +kernel
theorem dX5_part_68 : decode cX5_part 68 = .ok (.bipush (-2), 2) := by decide +kernel
theorem dX5_part_70 : decode cX5_part 70 = .ok (.ireturn, 1) := by decide +kernel
theorem dX5_part_71 : decode cX5_part 71 = .ok (.aload_n 0, 1) := by decide +kernel
theorem dX5_part_72 : decode cX5_part 72 = .ok (.getfield 39, 3) := by decide +kernel
theorem dX5_part_75 : decode cX5_part 75 = .ok (.bipush 12, 2) := by decide +kernel
theorem dX5_part_77 : decode cX5_part 77 = .ok (.if_icmp .lt 6, 3) := by decide +kernel
theorem dX5_part_80 : decode cX5_part 80 = .ok (.bipush (-4), 2) := by decide +kernel
theorem dX5_part_82 : decode cX5_part 82 = .ok (.ireturn, 1) := by decide +kernel
theorem dX5_part_83 : decode cX5_part 83 = .ok (.aload_n 0, 1) := by decide +kernel
theorem dX5_part_84 : decode cX5_part 84 = .ok (.getfield 11, 3) := by decide +kernel
theorem dX5_part_87 : decode cX5_part 87 = .ok (.aload_n 0, 1) := by decide +kernel
theorem dX5_part_88 : decode cX5_part 88 = .ok (.getfield 39, 3) := by decide +kernel
theorem dX5_part_91 : decode cX5_part 91 = .ok (.new 9, 3) := by decide +kernel
theorem dX5_part_94 : decode cX5_part 94 = .ok (.dup, 1) := by decide +kernel
theorem dX5_part_95 : decode cX5_part 95 = .ok (.aload_n 0, 1) := by decide +kernel
theorem dX5_part_96 : decode cX5_part 96 = .ok (.getfield 39, 3) := by decide +kernel
theorem dX5_part_99 : decode cX5_part 99 = .ok (.iload_n 1, 1) := by decide +kernel
theorem dX5_part_100 : decode cX5_part 100 = .ok (.iload_n 2, 1) := by decide +kernel
theorem dX5_part_101 : decode cX5_part 101 = .ok (.iload_n 3, 1) := by decide +kernel
theorem dX5_part_102 : decode cX5_part 102 = .ok (.iload 4, 2) := by decide +kernel
theorem dX5_part_104 : decode cX5_part 104 = .ok (.iload 5, 2) := by decide +kernel
theorem dX5_part_106 : decode cX5_part 106 = .ok (.iload 6, 2) := by decide +kernel
theorem dX5_part_108 : decode cX5_part 108 = .ok (.invokespecial 43, 3) := by decide +kernel
theorem dX5_part_111 : decode cX5_part 111 = .ok (.aastore, 1) := by decide +kernel
theorem dX5_part_112 : decode cX5_part 112 = .ok (.aload_n 0, 1) := by decide +kernel
theorem dX5_part_113 : decode cX5_part 113 = .ok (.dup, 1) := by decide +kernel
theorem dX5_part_114 : decode cX5_part 114 = .ok (.getfield 39, 3) := by decide +kernel
theorem dX5_part_117 : decode cX5_part 117 = .ok (.dup_x1, 1) := by decide +kernel
theorem dX5_part_118 : decode cX5_part 118 = .ok (.iconst 1, 1) := by decide +kernel
theorem dX5_part_119 : decode cX5_part 119 = .ok (.iadd, 1) := by decide +kernel
theorem dX5_part_120 : decode cX5_part 120 = .ok (.putfield 39, 3) := by decide +kernel
theorem dX5_part_123 : decode cX5_part 123 = .ok (.ireturn, 1) := by decide +kernel
theorem dX5_step_0 : decode cX5_step 0 = .ok (.aload_n 0, 1) := by decide +kernel
theorem dX5_step_1 : decode cX5_step 1 = .ok (.iload_n 1, 1) := by decide +kernel
theorem dX5_step_2 : decode cX5_step 2 = .ok (.invokevirtual 46, 3) := by decide +kernel
theorem dX5_step_5 : decode cX5_step 5 = .ok (.astore 4, 2) := by decide +kernel
theorem dX5_step_7 : decode cX5_step 7 = .ok (.aload 4, 2) := by decide +kernel
theorem dX5_step_9 : decode cX5_step 9 = .ok (.ifnull 27, 3) := by decide +kernel
theorem dX5_step_12 : decode cX5_step 12 = .ok (.iload_n 2, 1) := by decide +kernel
theorem dX5_step_13 : decode cX5_step 13 = .ok (.sipush (-1000), 3) := by decide +kernel
theorem dX5_step_16 : decode cX5_step 16 = .ok (.sipush 12000, 3) := by decide +kernel
theorem dX5_step_19 : decode cX5_step 19 = .ok (.invokestatic 35, 3) := by decide +kernel
theorem dX5_step_22 : decode cX5_step 22 = .ok (.ifCond .eq 14, 3) := by decide +kernel
theorem dX5_step_25 : decode cX5_step 25 = .ok (.iload_n 3, 1) := by decide +kernel
theorem dX5_step_26 : decode cX5_step 26 = .ok (.iconst 1, 1) := by decide +kernel
theorem dX5_step_27 : decode cX5_step 27 = .ok (.sipush 200, 3) := by decide +kernel
theorem dX5_step_30 : decode cX5_step 30 = .ok (.invokestatic 35, 3) := by decide +kernel
theorem dX5_step_33 : decode cX5_step 33 = .ok (.ifCond .ne 6, 3) := by decide +kernel
theorem dX5_step_36 : decode cX5_step 36 = .ok (.bipush (-2), 2) := by decide +kernel
theorem dX5_step_38 : decode cX5_step 38 = .ok (.ireturn, 1) := by decide +kernel
theorem dX5_step_39 : decode cX5_step 39 = .ok (.aload 4, 2) := by decide +kernel
theorem dX5_step_41 : decode cX5_step 41 = .ok (.getfield 50, 3) := by decide +kernel
theorem dX5_step_44 : decode cX5_step 44 = .ok (.ifCond .eq 6, 3) := by decide +kernel
theorem dX5_step_47 : decode cX5_step 47 = .ok (.bipush (-3), 2) := by decide +kernel
theorem dX5_step_49 : decode cX5_step 49 = .ok (.ireturn, 1) := by decide +kernel
theorem dX5_step_50 : decode cX5_step 50 = .ok (.iconst 0, 1) := by decide +kernel
theorem dX5_step_51 : decode cX5_step 51 = .ok (.istore 5, 2) := by decide +kernel
theorem dX5_step_53 : decode cX5_step 53 = .ok (.iload 5, 2) := by decide +kernel
theorem dX5_step_55 : decode cX5_step 55 = .ok (.iload_n 3, 1) := by decide +kernel
theorem dX5_step_56 : decode cX5_step 56 = .ok (.if_icmp .ge 15, 3) := by decide +kernel
theorem dX5_step_59 : decode cX5_step 59 = .ok (.aload 4, 2) := by decide +kernel
theorem dX5_step_61 : decode cX5_step 61 = .ok (.iload_n 2, 1) := by decide +kernel
theorem dX5_step_62 : decode cX5_step 62 = .ok (.invokevirtual 54, 3) := by decide +kernel
theorem dX5_step_65 : decode cX5_step 65 = .ok (.iinc 5 1, 3) := by decide +kernel
theorem dX5_step_68 : decode cX5_step 68 = .ok (.goto (-15), 3) := by decide +kernel
theorem dX5_step_71 : decode cX5_step 71 = .ok (.aload 4, 2) := by decide +kernel
theorem dX5_step_73 : decode cX5_step 73 = .ok (.invokevirtual 58, 3) := by decide +kernel
theorem dX5_step_76 : decode cX5_step 76 = .ok (.ireturn, 1) := by decide +kernel
theorem dX5_shell_0 : decode cX5_shell 0 = .ok (.aload_n 0, 1) := by decide +kernel
theorem dX5_shell_1 : decode cX5_shell 1 = .ok (.iload_n 1, 1) := by decide +kernel
theorem dX5_shell_2 : decode cX5_shell 2 = .ok (.invokevirtual 46, 3) := by decide +kernel
theorem dX5_shell_5 : decode cX5_shell 5 = .ok (.astore 4, 2) := by decide +kernel
theorem dX5_shell_7 : decode cX5_shell 7 = .ok (.aload 4, 2) := by decide +kernel
theorem dX5_shell_9 : decode cX5_shell 9 = .ok (.ifnull 29, 3) := by decide +kernel
theorem dX5_shell_12 : decode cX5_shell 12 = .ok (.iload_n 2, 1) := by decide +kernel
theorem dX5_shell_13 : decode cX5_shell 13 = .ok (.iconst 0, 1) := by decide +kernel
theorem dX5_shell_14 : decode cX5_shell 14 = .ok (.aload 4, 2) := by decide +kernel
theorem dX5_shell_16 : decode cX5_shell 16 = .ok (.getfield 62, 3) := by decide +kernel
theorem dX5_shell_19 : decode cX5_shell 19 = .ok (.arraylength, 1) := by decide +kernel
theorem dX5_shell_20 : decode cX5_shell 20 = .ok (.iconst 1, 1) := by decide +kernel
theorem dX5_shell_21 : decode cX5_shell 21 = .ok (.isub, 1) := by decide +kernel
theorem dX5_shell_22 : decode cX5_shell 22 = .ok (.invokestatic 35, 3) := by decide +kernel
theorem dX5_shell_25 : decode cX5_shell 25 = .ok (.ifCond .eq 13, 3) := by decide +kernel
theorem dX5_shell_28 : decode cX5_shell 28 = .ok (.iload_n 3, 1) := by decide +kernel
theorem dX5_shell_29 : decode cX5_shell 29 = .ok (.iconst 0, 1) := by decide +kernel
theorem dX5_shell_30 : decode cX5_shell 30 = .ok (.bipush 6, 2) := by decide +kernel
theorem dX5_shell_32 : decode cX5_shell 32 = .ok (.invokestatic 35, 3) := by decide +kernel
theorem dX5_shell_35 : decode cX5_shell 35 = .ok (.ifCond .ne 6, 3) := by decide +kernel
theorem dX5_shell_38 : decode cX5_shell 38 = .ok (.ldc 66, 2) := by decide +kernel
theorem dX5_shell_40 : decode cX5_shell 40 = .ok (.ireturn, 1) := by decide +kernel
theorem dX5_shell_41 : decode cX5_shell 41 = .ok (.aload 4, 2) := by decide +kernel
theorem dX5_shell_43 : decode cX5_shell 43 = .ok (.getfield 62, 3) := by decide +kernel
theorem dX5_shell_46 : decode cX5_shell 46 = .ok (.iload_n 2, 1) := by decide +kernel
theorem dX5_shell_47 : decode cX5_shell 47 = .ok (.aaload, 1) := by decide +kernel
theorem dX5_shell_48 : decode cX5_shell 48 = .ok (.iload_n 3, 1) := by decide +kernel
theorem dX5_shell_49 : decode cX5_shell 49 = .ok (.invokevirtual 67, 3) := by decide +kernel
theorem dX5_shell_52 : decode cX5_shell 52 = .ok (.ireturn, 1) := by decide +kernel
theorem dX5_taken_0 : decode cX5_taken 0 = .ok (.aload_n 0, 1) := by decide +kernel
theorem dX5_taken_1 : decode cX5_taken 1 = .ok (.iload_n 1, 1) := by decide +kernel
theorem dX5_taken_2 : decode cX5_taken 2 = .ok (.invokevirtual 46, 3) := by decide +kernel
theorem dX5_taken_5 : decode cX5_taken 5 = .ok (.astore_n 2, 1) := by decide +kernel
theorem dX5_taken_6 : decode cX5_taken 6 = .ok (.aload_n 2, 1) := by decide +kernel
theorem dX5_taken_7 : decode cX5_taken 7 = .ok (.ifnonnull 9, 3) := by decide +kernel
theorem dX5_taken_10 : decode cX5_taken 10 = .ok (.ldc2_w 73, 3) := by decide +kernel
theorem dX5_taken_13 : decode cX5_taken 13 = .ok (.goto 7, 3) := by decide +kernel
theorem dX5_taken_16 : decode cX5_taken 16 = .ok (.aload_n 2, 1) := by decide +kernel
theorem dX5_taken_17 : decode cX5_taken 17 = .ok (.getfield 75, 3) := by decide +kernel
theorem dX5_taken_20 : decode cX5_taken 20 = .ok (.lreturn, 1) := by decide +kernel
theorem dX5_kept_0 : decode cX5_kept 0 = .ok (.aload_n 0, 1) := by decide +kernel
theorem dX5_kept_1 : decode cX5_kept 1 = .ok (.iload_n 1, 1) := by decide +kernel
theorem dX5_kept_2 : decode cX5_kept 2 = .ok (.invokevirtual 46, 3) := by decide +kernel
theorem dX5_kept_5 : decode cX5_kept 5 = .ok (.astore_n 2, 1) := by decide +kernel
theorem dX5_kept_6 : decode cX5_kept 6 = .ok (.aload_n 2, 1) := by decide +kernel
theorem dX5_kept_7 : decode cX5_kept 7 = .ok (.ifnonnull 7, 3) := by decide +kernel
theorem dX5_kept_10 : decode cX5_kept 10 = .ok (.lconst 1, 1) := by decide +kernel
theorem dX5_kept_11 : decode cX5_kept 11 = .ok (.goto 7, 3) := by decide +kernel
theorem dX5_kept_14 : decode cX5_kept 14 = .ok (.aload_n 2, 1) := by decide +kernel
theorem dX5_kept_15 : decode cX5_kept 15 = .ok (.invokevirtual 79, 3) := by decide +kernel
theorem dX5_kept_18 : decode cX5_kept 18 = .ok (.lreturn, 1) := by decide +kernel
theorem dX5_line_0 : decode cX5_line 0 = .ok (.aload_n 0, 1) := by decide +kernel
theorem dX5_line_1 : decode cX5_line 1 = .ok (.iload_n 1, 1) := by decide +kernel
theorem dX5_line_2 : decode cX5_line 2 = .ok (.invokevirtual 83, 3) := by decide +kernel
theorem dX5_line_5 : decode cX5_line 5 = .ok (.astore 5, 2) := by decide +kernel
theorem dX5_line_7 : decode cX5_line 7 = .ok (.aload 5, 2) := by decide +kernel
theorem dX5_line_9 : decode cX5_line 9 = .ok (.ifnull 13, 3) := by decide +kernel
theorem dX5_line_12 : decode cX5_line 12 = .ok (.iload_n 2, 1) := by decide +kernel
theorem dX5_line_13 : decode cX5_line 13 = .ok (.iload_n 3, 1) := by decide +kernel
theorem dX5_line_14 : decode cX5_line 14 = .ok (.iload 4, 2) := by decide +kernel
theorem dX5_line_16 : decode cX5_line 16 = .ok (.invokestatic 87, 3) := by decide +kernel
theorem dX5_line_19 : decode cX5_line 19 = .ok (.ifCond .ne 6, 3) := by decide +kernel
theorem dX5_line_22 : decode cX5_line 22 = .ok (.bipush (-2), 2) := by decide +kernel
theorem dX5_line_24 : decode cX5_line 24 = .ok (.ireturn, 1) := by decide +kernel
theorem dX5_line_25 : decode cX5_line 25 = .ok (.aload 5, 2) := by decide +kernel
theorem dX5_line_27 : decode cX5_line 27 = .ok (.invokevirtual 90, 3) := by decide +kernel
theorem dX5_line_30 : decode cX5_line 30 = .ok (.ifCond .eq 6, 3) := by decide +kernel
theorem dX5_line_33 : decode cX5_line 33 = .ok (.bipush (-3), 2) := by decide +kernel
theorem dX5_line_35 : decode cX5_line 35 = .ok (.ireturn, 1) := by decide +kernel
theorem dX5_line_36 : decode cX5_line 36 = .ok (.aload 5, 2) := by decide +kernel
theorem dX5_line_38 : decode cX5_line 38 = .ok (.iload_n 2, 1) := by decide +kernel
theorem dX5_line_39 : decode cX5_line 39 = .ok (.iload_n 3, 1) := by decide +kernel
theorem dX5_line_40 : decode cX5_line 40 = .ok (.iload 4, 2) := by decide +kernel
theorem dX5_line_42 : decode cX5_line 42 = .ok (.invokevirtual 94, 3) := by decide +kernel
theorem dX5_line_45 : decode cX5_line 45 = .ok (.ireturn, 1) := by decide +kernel
theorem dX5_clear_0 : decode cX5_clear 0 = .ok (.aload_n 0, 1) := by decide +kernel
theorem dX5_clear_1 : decode cX5_clear 1 = .ok (.iload_n 1, 1) := by decide +kernel
theorem dX5_clear_2 : decode cX5_clear 2 = .ok (.invokevirtual 83, 3) := by decide +kernel
theorem dX5_clear_5 : decode cX5_clear 5 = .ok (.astore_n 2, 1) := by decide +kernel
theorem dX5_clear_6 : decode cX5_clear 6 = .ok (.aload_n 2, 1) := by decide +kernel
theorem dX5_clear_7 : decode cX5_clear 7 = .ok (.ifnonnull 6, 3) := by decide +kernel
theorem dX5_clear_10 : decode cX5_clear 10 = .ok (.bipush (-2), 2) := by decide +kernel
theorem dX5_clear_12 : decode cX5_clear 12 = .ok (.ireturn, 1) := by decide +kernel
theorem dX5_clear_13 : decode cX5_clear 13 = .ok (.aload_n 2, 1) := by decide +kernel
theorem dX5_clear_14 : decode cX5_clear 14 = .ok (.invokevirtual 90, 3) := by decide +kernel
theorem dX5_clear_17 : decode cX5_clear 17 = .ok (.ifCond .eq 6, 3) := by decide +kernel
theorem dX5_clear_20 : decode cX5_clear 20 = .ok (.bipush (-3), 2) := by decide +kernel
theorem dX5_clear_22 : decode cX5_clear 22 = .ok (.ireturn, 1) := by decide +kernel
theorem dX5_clear_23 : decode cX5_clear 23 = .ok (.aload_n 2, 1) := by decide +kernel
theorem dX5_clear_24 : decode cX5_clear 24 = .ok (.getfield 98, 3) := by decide +kernel
theorem dX5_clear_27 : decode cX5_clear 27 = .ok (.istore_n 3, 1) := by decide +kernel
theorem dX5_clear_28 : decode cX5_clear 28 = .ok (.aload_n 2, 1) := by decide +kernel
theorem dX5_clear_29 : decode cX5_clear 29 = .ok (.iconst 0, 1) := by decide +kernel
theorem dX5_clear_30 : decode cX5_clear 30 = .ok (.putfield 98, 3) := by decide +kernel
theorem dX5_clear_33 : decode cX5_clear 33 = .ok (.iload_n 3, 1) := by decide +kernel
theorem dX5_clear_34 : decode cX5_clear 34 = .ok (.ireturn, 1) := by decide +kernel
theorem dX5_load_0 : decode cX5_load 0 = .ok (.aload_n 0, 1) := by decide +kernel
theorem dX5_load_1 : decode cX5_load 1 = .ok (.iload_n 1, 1) := by decide +kernel
theorem dX5_load_2 : decode cX5_load 2 = .ok (.invokevirtual 83, 3) := by decide +kernel
theorem dX5_load_5 : decode cX5_load 5 = .ok (.astore 4, 2) := by decide +kernel
theorem dX5_load_7 : decode cX5_load 7 = .ok (.aload_n 0, 1) := by decide +kernel
theorem dX5_load_8 : decode cX5_load 8 = .ok (.iload_n 3, 1) := by decide +kernel
theorem dX5_load_9 : decode cX5_load 9 = .ok (.invokevirtual 46, 3) := by decide +kernel
theorem dX5_load_12 : decode cX5_load 12 = .ok (.astore 5, 2) := by decide +kernel
theorem dX5_load_14 : decode cX5_load 14 = .ok (.aload 4, 2) := by decide +kernel
theorem dX5_load_16 : decode cX5_load 16 = .ok (.ifnull 17, 3) := by decide +kernel
theorem dX5_load_19 : decode cX5_load 19 = .ok (.aload 5, 2) := by decide +kernel
theorem dX5_load_21 : decode cX5_load 21 = .ok (.ifnull 12, 3) := by decide +kernel
theorem dX5_load_24 : decode cX5_load 24 = .ok (.iload_n 2, 1) := by decide +kernel
theorem dX5_load_25 : decode cX5_load 25 = .ok (.iconst 0, 1) := by decide +kernel
theorem dX5_load_26 : decode cX5_load 26 = .ok (.iconst 3, 1) := by decide +kernel
theorem dX5_load_27 : decode cX5_load 27 = .ok (.invokestatic 35, 3) := by decide +kernel
theorem dX5_load_30 : decode cX5_load 30 = .ok (.ifCond .ne 6, 3) := by decide +kernel
theorem dX5_load_33 : decode cX5_load 33 = .ok (.bipush (-2), 2) := by decide +kernel
theorem dX5_load_35 : decode cX5_load 35 = .ok (.ireturn, 1) := by decide +kernel
theorem dX5_load_36 : decode cX5_load 36 = .ok (.aload 5, 2) := by decide +kernel
theorem dX5_load_38 : decode cX5_load 38 = .ok (.getfield 50, 3) := by decide +kernel
theorem dX5_load_41 : decode cX5_load 41 = .ok (.ifCond .ne 38, 3) := by decide +kernel
theorem dX5_load_44 : decode cX5_load 44 = .ok (.aload 4, 2) := by decide +kernel
theorem dX5_load_46 : decode cX5_load 46 = .ok (.getfield 101, 3) := by decide +kernel
theorem dX5_load_49 : decode cX5_load 49 = .ok (.iload_n 2, 1) := by decide +kernel
theorem dX5_load_50 : decode cX5_load 50 = .ok (.aaload, 1) := by decide +kernel
theorem dX5_load_51 : decode cX5_load 51 = .ok (.ifnonnull 28, 3) := by decide +kernel
theorem dX5_load_54 : decode cX5_load 54 = .ok (.aload 4, 2) := by decide +kernel
theorem dX5_load_56 : decode cX5_load 56 = .ok (.invokevirtual 90, 3) := by decide +kernel
theorem dX5_load_59 : decode cX5_load 59 = .ok (.ifCond .ne 20, 3) := by decide +kernel
theorem dX5_load_62 : decode cX5_load 62 = .ok (.aload 4, 2) := by decide +kernel
theorem dX5_load_64 : decode cX5_load 64 = .ok (.invokevirtual 104, 3) := by decide +kernel
theorem dX5_load_67 : decode cX5_load 67 = .ok (.aload 5, 2) := by decide +kernel
theorem dX5_load_69 : decode cX5_load 69 = .ok (.getfield 107, 3) := by decide +kernel
theorem dX5_load_72 : decode cX5_load 72 = .ok (.iadd, 1) := by decide +kernel
theorem dX5_load_73 : decode cX5_load 73 = .ok (.sipush 1000, 3) := by decide +kernel
theorem dX5_load_76 : decode cX5_load 76 = .ok (.if_icmp .le 6, 3) := by decide +kernel
theorem dX5_load_79 : decode cX5_load 79 = .ok (.bipush (-3), 2) := by decide +kernel
theorem dX5_load_81 : decode cX5_load 81 = .ok (.ireturn, 1) := by decide +kernel
theorem dX5_load_82 : decode cX5_load 82 = .ok (.aload 4, 2) := by decide +kernel
theorem dX5_load_84 : decode cX5_load 84 = .ok (.getfield 101, 3) := by decide +kernel
theorem dX5_load_87 : decode cX5_load 87 = .ok (.iload_n 2, 1) := by decide +kernel
theorem dX5_load_88 : decode cX5_load 88 = .ok (.aload 5, 2) := by decide +kernel
theorem dX5_load_90 : decode cX5_load 90 = .ok (.aastore, 1) := by decide +kernel
theorem dX5_load_91 : decode cX5_load 91 = .ok (.aload 5, 2) := by decide +kernel
theorem dX5_load_93 : decode cX5_load 93 = .ok (.iconst 1, 1) := by decide +kernel
theorem dX5_load_94 : decode cX5_load 94 = .ok (.putfield 50, 3) := by decide +kernel
theorem dX5_load_97 : decode cX5_load 97 = .ok (.iconst 1, 1) := by decide +kernel
theorem dX5_load_98 : decode cX5_load 98 = .ok (.ireturn, 1) := by decide +kernel
theorem dX5_unload_0 : decode cX5_unload 0 = .ok (.aload_n 0, 1) := by decide +kernel
theorem dX5_unload_1 : decode cX5_unload 1 = .ok (.iload_n 1, 1) := by decide +kernel
theorem dX5_unload_2 : decode cX5_unload 2 = .ok (.invokevirtual 83, 3) := by decide +kernel
theorem dX5_unload_5 : decode cX5_unload 5 = .ok (.astore_n 3, 1) := by decide +kernel
theorem dX5_unload_6 : decode cX5_unload 6 = .ok (.aload_n 3, 1) := by decide +kernel
theorem dX5_unload_7 : decode cX5_unload 7 = .ok (.ifnull 12, 3) := by decide +kernel
theorem dX5_unload_10 : decode cX5_unload 10 = .ok (.iload_n 2, 1) := by decide +kernel
theorem dX5_unload_11 : decode cX5_unload 11 = .ok (.iconst 0, 1) := by decide +kernel
theorem dX5_unload_12 : decode cX5_unload 12 = .ok (.iconst 3, 1) := by decide +kernel
theorem dX5_unload_13 : decode cX5_unload 13 = .ok (.invokestatic 35, 3) := by decide +kernel
theorem dX5_unload_16 : decode cX5_unload 16 = .ok (.ifCond .ne 6, 3) := by decide +kernel
theorem dX5_unload_19 : decode cX5_unload 19 = .ok (.bipush (-2), 2) := by decide +kernel
theorem dX5_unload_21 : decode cX5_unload 21 = .ok (.ireturn, 1) := by decide +kernel
theorem dX5_unload_22 : decode cX5_unload 22 = .ok (.aload_n 3, 1) := by decide +kernel
theorem dX5_unload_23 : decode cX5_unload 23 = .ok (.getfield 101, 3) := by decide +kernel
theorem dX5_unload_26 : decode cX5_unload 26 = .ok (.iload_n 2, 1) := by decide +kernel
theorem dX5_unload_27 : decode cX5_unload 27 = .ok (.aaload, 1) := by decide +kernel
theorem dX5_unload_28 : decode cX5_unload 28 = .ok (.astore 4, 2) := by decide +kernel
theorem dX5_unload_30 : decode cX5_unload 30 = .ok (.aload 4, 2) := by decide +kernel
theorem dX5_unload_32 : decode cX5_unload 32 = .ok (.ifnull 10, 3) := by decide +kernel
theorem dX5_unload_35 : decode cX5_unload 35 = .ok (.aload_n 3, 1) := by decide +kernel
theorem dX5_unload_36 : decode cX5_unload 36 = .ok (.invokevirtual 90, 3) := by decide +kernel
theorem dX5_unload_39 : decode cX5_unload 39 = .ok (.ifCond .eq 6, 3) := by decide +kernel
theorem dX5_unload_42 : decode cX5_unload 42 = .ok (.bipush (-3), 2) := by decide +kernel
theorem dX5_unload_44 : decode cX5_unload 44 = .ok (.ireturn, 1) := by decide +kernel
theorem dX5_unload_45 : decode cX5_unload 45 = .ok (.aload_n 3, 1) := by decide +kernel
theorem dX5_unload_46 : decode cX5_unload 46 = .ok (.getfield 101, 3) := by decide +kernel
theorem dX5_unload_49 : decode cX5_unload 49 = .ok (.iload_n 2, 1) := by decide +kernel
theorem dX5_unload_50 : decode cX5_unload 50 = .ok (.aconst_null, 1) := by decide +kernel
theorem dX5_unload_51 : decode cX5_unload 51 = .ok (.aastore, 1) := by decide +kernel
theorem dX5_unload_52 : decode cX5_unload 52 = .ok (.aload 4, 2) := by decide +kernel
theorem dX5_unload_54 : decode cX5_unload 54 = .ok (.iconst 0, 1) := by decide +kernel
theorem dX5_unload_55 : decode cX5_unload 55 = .ok (.putfield 50, 3) := by decide +kernel
theorem dX5_unload_58 : decode cX5_unload 58 = .ok (.aload 4, 2) := by decide +kernel
theorem dX5_unload_60 : decode cX5_unload 60 = .ok (.getfield 110, 3) := by decide +kernel
theorem dX5_unload_63 : decode cX5_unload 63 = .ok (.ireturn, 1) := by decide +kernel
theorem dX5_probe_0 : decode cX5_probe 0 = .ok (.aload_n 0, 1) := by decide +kernel
theorem dX5_probe_1 : decode cX5_probe 1 = .ok (.iload_n 1, 1) := by decide +kernel
theorem dX5_probe_2 : decode cX5_probe 2 = .ok (.invokevirtual 83, 3) := by decide +kernel
theorem dX5_probe_5 : decode cX5_probe 5 = .ok (.astore 5, 2) := by decide +kernel
theorem dX5_probe_7 : decode cX5_probe 7 = .ok (.aload 5, 2) := by decide +kernel
theorem dX5_probe_9 : decode cX5_probe 9 = .ok (.ifnull 26, 3) := by decide +kernel
theorem dX5_probe_12 : decode cX5_probe 12 = .ok (.iload_n 2, 1) := by decide +kernel
theorem dX5_probe_13 : decode cX5_probe 13 = .ok (.iconst 0, 1) := by decide +kernel
theorem dX5_probe_14 : decode cX5_probe 14 = .ok (.iconst 3, 1) := by decide +kernel
theorem dX5_probe_15 : decode cX5_probe 15 = .ok (.invokestatic 35, 3) := by decide +kernel
theorem dX5_probe_18 : decode cX5_probe 18 = .ok (.ifCond .eq 17, 3) := by decide +kernel
theorem dX5_probe_21 : decode cX5_probe 21 = .ok (.iload 4, 2) := by decide +kernel
theorem dX5_probe_23 : decode cX5_probe 23 = .ok (.sipush (-500), 3) := by decide +kernel
theorem dX5_probe_26 : decode cX5_probe 26 = .ok (.sipush 500, 3) := by decide +kernel
theorem dX5_probe_29 : decode cX5_probe 29 = .ok (.invokestatic 35, 3) := by decide +kernel
theorem dX5_probe_32 : decode cX5_probe 32 = .ok (.ifCond .ne 6, 3) := by decide +kernel
theorem dX5_probe_35 : decode cX5_probe 35 = .ok (.bipush (-2), 2) := by decide +kernel
theorem dX5_probe_37 : decode cX5_probe 37 = .ok (.ireturn, 1) := by decide +kernel
theorem dX5_probe_38 : decode cX5_probe 38 = .ok (.aload 5, 2) := by decide +kernel
theorem dX5_probe_40 : decode cX5_probe 40 = .ok (.getfield 113, 3) := by decide +kernel
theorem dX5_probe_43 : decode cX5_probe 43 = .ok (.iload_n 2, 1) := by decide +kernel
theorem dX5_probe_44 : decode cX5_probe 44 = .ok (.iload_n 3, 1) := by decide +kernel
theorem dX5_probe_45 : decode cX5_probe 45 = .ok (.ifCond .ne 7, 3) := by decide +kernel
theorem dX5_probe_48 : decode cX5_probe 48 = .ok (.iconst 1, 1) := by decide +kernel
theorem dX5_probe_49 : decode cX5_probe 49 = .ok (.goto 4, 3) := by decide +kernel
theorem dX5_probe_52 : decode cX5_probe 52 = .ok (.iconst 0, 1) := by decide +kernel
theorem dX5_probe_53 : decode cX5_probe 53 = .ok (.bastore, 1) := by decide +kernel
theorem dX5_probe_54 : decode cX5_probe 54 = .ok (.aload 5, 2) := by decide +kernel
theorem dX5_probe_56 : decode cX5_probe 56 = .ok (.getfield 117, 3) := by decide +kernel
theorem dX5_probe_59 : decode cX5_probe 59 = .ok (.iload_n 2, 1) := by decide +kernel
theorem dX5_probe_60 : decode cX5_probe 60 = .ok (.iload 4, 2) := by decide +kernel
theorem dX5_probe_62 : decode cX5_probe 62 = .ok (.iastore, 1) := by decide +kernel
theorem dX5_probe_63 : decode cX5_probe 63 = .ok (.iconst 1, 1) := by decide +kernel
theorem dX5_probe_64 : decode cX5_probe 64 = .ok (.ireturn, 1) := by decide +kernel
theorem dX5_run_0 : decode cX5_run 0 = .ok (.aload_n 0, 1) := by decide +kernel
theorem dX5_run_1 : decode cX5_run 1 = .ok (.iload_n 1, 1) := by decide +kernel
theorem dX5_run_2 : decode cX5_run 2 = .ok (.invokevirtual 83, 3) := by decide +kernel
theorem dX5_run_5 : decode cX5_run 5 = .ok (.astore_n 2, 1) := by decide +kernel
theorem dX5_run_6 : decode cX5_run 6 = .ok (.aload_n 2, 1) := by decide +kernel
theorem dX5_run_7 : decode cX5_run 7 = .ok (.ifnonnull 6, 3) := by decide +kernel
theorem dX5_run_10 : decode cX5_run 10 = .ok (.bipush (-2), 2) := by decide +kernel
theorem dX5_run_12 : decode cX5_run 12 = .ok (.ireturn, 1) := by decide +kernel
theorem dX5_run_13 : decode cX5_run 13 = .ok (.aload_n 2, 1) := by decide +kernel
theorem dX5_run_14 : decode cX5_run 14 = .ok (.invokevirtual 90, 3) := by decide +kernel
theorem dX5_run_17 : decode cX5_run 17 = .ok (.ifCond .ne 17, 3) := by decide +kernel
theorem dX5_run_20 : decode cX5_run 20 = .ok (.aload_n 2, 1) := by decide +kernel
theorem dX5_run_21 : decode cX5_run 21 = .ok (.getfield 98, 3) := by decide +kernel
theorem dX5_run_24 : decode cX5_run 24 = .ok (.ifCond .eq 10, 3) := by decide +kernel
theorem dX5_run_27 : decode cX5_run 27 = .ok (.aload_n 2, 1) := by decide +kernel
theorem dX5_run_28 : decode cX5_run 28 = .ok (.invokevirtual 121, 3) := by decide +kernel
theorem dX5_run_31 : decode cX5_run 31 = .ok (.ifCond .ne 6, 3) := by decide +kernel
theorem dX5_run_34 : decode cX5_run 34 = .ok (.bipush (-3), 2) := by decide +kernel
theorem dX5_run_36 : decode cX5_run 36 = .ok (.ireturn, 1) := by decide +kernel
theorem dX5_run_37 : decode cX5_run 37 = .ok (.aload_n 0, 1) := by decide +kernel
theorem dX5_run_38 : decode cX5_run 38 = .ok (.getfield 124, 3) := by decide +kernel
theorem dX5_run_41 : decode cX5_run 41 = .ok (.bipush 100, 2) := by decide +kernel
theorem dX5_run_43 : decode cX5_run 43 = .ok (.if_icmp .lt 6, 3) := by decide +kernel
theorem dX5_run_46 : decode cX5_run 46 = .ok (.bipush (-4), 2) := by decide +kernel
theorem dX5_run_48 : decode cX5_run 48 = .ok (.ireturn, 1) := by decide +kernel
theorem dX5_run_49 : decode cX5_run 49 = .ok (.new 21, 3) := by decide +kernel
theorem dX5_run_52 : decode cX5_run 52 = .ok (.dup, 1) := by decide +kernel
theorem dX5_run_53 : decode cX5_run 53 = .ok (.iload_n 1, 1) := by decide +kernel
theorem dX5_run_54 : decode cX5_run 54 = .ok (.invokespecial 127, 3) := by decide +kernel
theorem dX5_run_57 : decode cX5_run 57 = .ok (.astore_n 3, 1) := by decide +kernel
theorem dX5_run_58 : decode cX5_run 58 = .ok (.aload_n 0, 1) := by decide +kernel
theorem dX5_run_59 : decode cX5_run 59 = .ok (.getfield 23, 3) := by decide +kernel
theorem dX5_run_62 : decode cX5_run 62 = .ok (.aload_n 0, 1) := by decide +kernel
theorem dX5_run_63 : decode cX5_run 63 = .ok (.getfield 124, 3) := by decide +kernel
theorem dX5_run_66 : decode cX5_run 66 = .ok (.aload_n 3, 1) := by decide +kernel
theorem dX5_run_67 : decode cX5_run 67 = .ok (.aastore, 1) := by decide +kernel
theorem dX5_run_68 : decode cX5_run 68 = .ok (.aload_n 2, 1) := by decide +kernel
theorem dX5_run_69 : decode cX5_run 69 = .ok (.aload_n 3, 1) := by decide +kernel
theorem dX5_run_70 : decode cX5_run 70 = .ok (.invokevirtual 129, 3) := by decide +kernel
theorem dX5_run_73 : decode cX5_run 73 = .ok (.aload_n 0, 1) := by decide +kernel
theorem dX5_run_74 : decode cX5_run 74 = .ok (.dup, 1) := by decide +kernel
theorem dX5_run_75 : decode cX5_run 75 = .ok (.getfield 124, 3) := by decide +kernel
theorem dX5_run_78 : decode cX5_run 78 = .ok (.dup_x1, 1) := by decide +kernel
theorem dX5_run_79 : decode cX5_run 79 = .ok (.iconst 1, 1) := by decide +kernel
theorem dX5_run_80 : decode cX5_run 80 = .ok (.iadd, 1) := by decide +kernel
theorem dX5_run_81 : decode cX5_run 81 = .ok (.putfield 124, 3) := by decide +kernel
theorem dX5_run_84 : decode cX5_run 84 = .ok (.ireturn, 1) := by decide +kernel
theorem dX5_tick_0 : decode cX5_tick 0 = .ok (.iload_n 1, 1) := by decide +kernel
theorem dX5_tick_1 : decode cX5_tick 1 = .ok (.iconst 1, 1) := by decide +kernel
theorem dX5_tick_2 : decode cX5_tick 2 = .ok (.sipush 200, 3) := by decide +kernel
theorem dX5_tick_5 : decode cX5_tick 5 = .ok (.invokestatic 35, 3) := by decide +kernel
theorem dX5_tick_8 : decode cX5_tick 8 = .ok (.ifCond .ne 6, 3) := by decide +kernel
theorem dX5_tick_11 : decode cX5_tick 11 = .ok (.bipush (-2), 2) := by decide +kernel
theorem dX5_tick_13 : decode cX5_tick 13 = .ok (.ireturn, 1) := by decide +kernel
theorem dX5_tick_14 : decode cX5_tick 14 = .ok (.iconst 0, 1) := by decide +kernel
theorem dX5_tick_15 : decode cX5_tick 15 = .ok (.istore_n 2, 1) := by decide +kernel
theorem dX5_tick_16 : decode cX5_tick 16 = .ok (.iload_n 2, 1) := by decide +kernel
theorem dX5_tick_17 : decode cX5_tick 17 = .ok (.iload_n 1, 1) := by decide +kernel
theorem dX5_tick_18 : decode cX5_tick 18 = .ok (.if_icmp .ge 31, 3) := by decide +kernel
theorem dX5_tick_21 : decode cX5_tick 21 = .ok (.iconst 0, 1) := by decide +kernel
theorem dX5_tick_22 : decode cX5_tick 22 = .ok (.istore_n 3, 1) := by decide +kernel
theorem dX5_tick_23 : decode cX5_tick 23 = .ok (.iload_n 3, 1) := by decide +kernel
theorem dX5_tick_24 : decode cX5_tick 24 = .ok (.iconst 3, 1) := by decide +kernel
theorem dX5_tick_25 : decode cX5_tick 25 = .ok (.if_icmp .ge 18, 3) := by decide +kernel
theorem dX5_tick_28 : decode cX5_tick 28 = .ok (.aload_n 0, 1) := by decide +kernel
theorem dX5_tick_29 : decode cX5_tick 29 = .ok (.getfield 17, 3) := by decide +kernel
theorem dX5_tick_32 : decode cX5_tick 32 = .ok (.iload_n 3, 1) := by decide +kernel
theorem dX5_tick_33 : decode cX5_tick 33 = .ok (.aaload, 1) := by decide +kernel
theorem dX5_tick_34 : decode cX5_tick 34 = .ok (.invokevirtual 133, 3) := by decide +kernel
theorem dX5_tick_37 : decode cX5_tick 37 = .ok (.iinc 3 1, 3) := by decide +kernel
theorem dX5_tick_40 : decode cX5_tick 40 = .ok (.goto (-17), 3) := by decide +kernel
theorem dX5_tick_43 : decode cX5_tick 43 = .ok (.iinc 2 1, 3) := by decide +kernel
theorem dX5_tick_46 : decode cX5_tick 46 = .ok (.goto (-30), 3) := by decide +kernel
theorem dX5_tick_49 : decode cX5_tick 49 = .ok (.aload_n 0, 1) := by decide +kernel
theorem dX5_tick_50 : decode cX5_tick 50 = .ok (.invokevirtual 136, 3) := by decide +kernel
theorem dX5_tick_53 : decode cX5_tick 53 = .ok (.ireturn, 1) := by decide +kernel
theorem dX5_stop_0 : decode cX5_stop 0 = .ok (.aload_n 0, 1) := by decide +kernel
theorem dX5_stop_1 : decode cX5_stop 1 = .ok (.iload_n 1, 1) := by decide +kernel
theorem dX5_stop_2 : decode cX5_stop 2 = .ok (.invokevirtual 83, 3) := by decide +kernel
theorem dX5_stop_5 : decode cX5_stop 5 = .ok (.astore_n 2, 1) := by decide +kernel
theorem dX5_stop_6 : decode cX5_stop 6 = .ok (.aload_n 2, 1) := by decide +kernel
theorem dX5_stop_7 : decode cX5_stop 7 = .ok (.ifnonnull 6, 3) := by decide +kernel
theorem dX5_stop_10 : decode cX5_stop 10 = .ok (.bipush (-2), 2) := by decide +kernel
theorem dX5_stop_12 : decode cX5_stop 12 = .ok (.ireturn, 1) := by decide +kernel
theorem dX5_stop_13 : decode cX5_stop 13 = .ok (.aload_n 2, 1) := by decide +kernel
theorem dX5_stop_14 : decode cX5_stop 14 = .ok (.invokevirtual 90, 3) := by decide +kernel
theorem dX5_stop_17 : decode cX5_stop 17 = .ok (.ifCond .ne 6, 3) := by decide +kernel
theorem dX5_stop_20 : decode cX5_stop 20 = .ok (.bipush (-3), 2) := by decide +kernel
theorem dX5_stop_22 : decode cX5_stop 22 = .ok (.ireturn, 1) := by decide +kernel
theorem dX5_stop_23 : decode cX5_stop 23 = .ok (.aload_n 2, 1) := by decide +kernel
theorem dX5_stop_24 : decode cX5_stop 24 = .ok (.getfield 139, 3) := by decide +kernel
theorem dX5_stop_27 : decode cX5_stop 27 = .ok (.istore_n 3, 1) := by decide +kernel
theorem dX5_stop_28 : decode cX5_stop 28 = .ok (.aload_n 2, 1) := by decide +kernel
theorem dX5_stop_29 : decode cX5_stop 29 = .ok (.iconst 0, 1) := by decide +kernel
theorem dX5_stop_30 : decode cX5_stop 30 = .ok (.invokevirtual 142, 3) := by decide +kernel
theorem dX5_stop_33 : decode cX5_stop 33 = .ok (.iload_n 3, 1) := by decide +kernel
theorem dX5_stop_34 : decode cX5_stop 34 = .ok (.ireturn, 1) := by decide +kernel
theorem dX5_survey_0 : decode cX5_survey 0 = .ok (.aload_n 0, 1) := by decide +kernel
theorem dX5_survey_1 : decode cX5_survey 1 = .ok (.iload_n 1, 1) := by decide +kernel
theorem dX5_survey_2 : decode cX5_survey 2 = .ok (.invokevirtual 83, 3) := by decide +kernel
theorem dX5_survey_5 : decode cX5_survey 5 = .ok (.astore_n 3, 1) := by decide +kernel
theorem dX5_survey_6 : decode cX5_survey 6 = .ok (.aload_n 3, 1) := by decide +kernel
theorem dX5_survey_7 : decode cX5_survey 7 = .ok (.ifnull 16, 3) := by decide +kernel
theorem dX5_survey_10 : decode cX5_survey 10 = .ok (.iload_n 2, 1) := by decide +kernel
theorem dX5_survey_11 : decode cX5_survey 11 = .ok (.sipush (-500), 3) := by decide +kernel
theorem dX5_survey_14 : decode cX5_survey 14 = .ok (.sipush 500, 3) := by decide +kernel
theorem dX5_survey_17 : decode cX5_survey 17 = .ok (.invokestatic 35, 3) := by decide +kernel
theorem dX5_survey_20 : decode cX5_survey 20 = .ok (.ifCond .ne 6, 3) := by decide +kernel
theorem dX5_survey_23 : decode cX5_survey 23 = .ok (.bipush (-2), 2) := by decide +kernel
theorem dX5_survey_25 : decode cX5_survey 25 = .ok (.ireturn, 1) := by decide +kernel
theorem dX5_survey_26 : decode cX5_survey 26 = .ok (.aload_n 3, 1) := by decide +kernel
theorem dX5_survey_27 : decode cX5_survey 27 = .ok (.invokevirtual 90, 3) := by decide +kernel
theorem dX5_survey_30 : decode cX5_survey 30 = .ok (.ifCond .eq 6, 3) := by decide +kernel
theorem dX5_survey_33 : decode cX5_survey 33 = .ok (.bipush (-3), 2) := by decide +kernel
theorem dX5_survey_35 : decode cX5_survey 35 = .ok (.ireturn, 1) := by decide +kernel
theorem dX5_survey_36 : decode cX5_survey 36 = .ok (.iload_n 2, 1) := by decide +kernel
theorem dX5_survey_37 : decode cX5_survey 37 = .ok (.aload_n 3, 1) := by decide +kernel
theorem dX5_survey_38 : decode cX5_survey 38 = .ok (.getfield 146, 3) := by decide +kernel
theorem dX5_survey_41 : decode cX5_survey 41 = .ok (.if_icmp .ne 7, 3) := by decide +kernel
theorem dX5_survey_44 : decode cX5_survey 44 = .ok (.iconst 0, 1) := by decide +kernel
theorem dX5_survey_45 : decode cX5_survey 45 = .ok (.goto 12, 3) := by decide +kernel
theorem dX5_survey_48 : decode cX5_survey 48 = .ok (.aload_n 0, 1) := by decide +kernel
theorem dX5_survey_49 : decode cX5_survey 49 = .ok (.iload_n 1, 1) := by decide +kernel
theorem dX5_survey_50 : decode cX5_survey 50 = .ok (.aload_n 3, 1) := by decide +kernel
theorem dX5_survey_51 : decode cX5_survey 51 = .ok (.getfield 149, 3) := by decide +kernel
theorem dX5_survey_54 : decode cX5_survey 54 = .ok (.invokevirtual 152, 3) := by decide +kernel
theorem dX5_survey_57 : decode cX5_survey 57 = .ok (.istore 4, 2) := by decide +kernel
theorem dX5_survey_59 : decode cX5_survey 59 = .ok (.aload_n 3, 1) := by decide +kernel
theorem dX5_survey_60 : decode cX5_survey 60 = .ok (.iload_n 2, 1) := by decide +kernel
theorem dX5_survey_61 : decode cX5_survey 61 = .ok (.putfield 146, 3) := by decide +kernel
theorem dX5_survey_64 : decode cX5_survey 64 = .ok (.aload_n 3, 1) := by decide +kernel
theorem dX5_survey_65 : decode cX5_survey 65 = .ok (.aload_n 0, 1) := by decide +kernel
theorem dX5_survey_66 : decode cX5_survey 66 = .ok (.getfield 124, 3) := by decide +kernel
theorem dX5_survey_69 : decode cX5_survey 69 = .ok (.putfield 149, 3) := by decide +kernel
theorem dX5_survey_72 : decode cX5_survey 72 = .ok (.iload 4, 2) := by decide +kernel
theorem dX5_survey_74 : decode cX5_survey 74 = .ok (.ireturn, 1) := by decide +kernel
theorem dX5_about_0 : decode cX5_about 0 = .ok (.aload_n 0, 1) := by decide +kernel
theorem dX5_about_1 : decode cX5_about 1 = .ok (.iload_n 1, 1) := by decide +kernel
theorem dX5_about_2 : decode cX5_about 2 = .ok (.invokevirtual 83, 3) := by decide +kernel
theorem dX5_about_5 : decode cX5_about 5 = .ok (.astore_n 3, 1) := by decide +kernel
theorem dX5_about_6 : decode cX5_about 6 = .ok (.aload_n 3, 1) := by decide +kernel
theorem dX5_about_7 : decode cX5_about 7 = .ok (.ifnull 13, 3) := by decide +kernel
theorem dX5_about_10 : decode cX5_about 10 = .ok (.iload_n 2, 1) := by decide +kernel
theorem dX5_about_11 : decode cX5_about 11 = .ok (.iconst 0, 1) := by decide +kernel
theorem dX5_about_12 : decode cX5_about 12 = .ok (.bipush 6, 2) := by decide +kernel
theorem dX5_about_14 : decode cX5_about 14 = .ok (.invokestatic 35, 3) := by decide +kernel
theorem dX5_about_17 : decode cX5_about 17 = .ok (.ifCond .ne 6, 3) := by decide +kernel
theorem dX5_about_20 : decode cX5_about 20 = .ok (.bipush (-2), 2) := by decide +kernel
theorem dX5_about_22 : decode cX5_about 22 = .ok (.ireturn, 1) := by decide +kernel
theorem dX5_about_23 : decode cX5_about 23 = .ok (.aload_n 3, 1) := by decide +kernel
theorem dX5_about_24 : decode cX5_about 24 = .ok (.iload_n 2, 1) := by decide +kernel
theorem dX5_about_25 : decode cX5_about 25 = .ok (.invokevirtual 156, 3) := by decide +kernel
theorem dX5_about_28 : decode cX5_about 28 = .ok (.ireturn, 1) := by decide +kernel
theorem dX5_runAt_0 : decode cX5_runAt 0 = .ok (.iload_n 1, 1) := by decide +kernel
theorem dX5_runAt_1 : decode cX5_runAt 1 = .ok (.ifCond .lt 12, 3) := by decide +kernel
theorem dX5_runAt_4 : decode cX5_runAt 4 = .ok (.iload_n 2, 1) := by decide +kernel
theorem dX5_runAt_5 : decode cX5_runAt 5 = .ok (.iconst 0, 1) := by decide +kernel
theorem dX5_runAt_6 : decode cX5_runAt 6 = .ok (.iconst 4, 1) := by decide +kernel
theorem dX5_runAt_7 : decode cX5_runAt 7 = .ok (.invokestatic 35, 3) := by decide +kernel
theorem dX5_runAt_10 : decode cX5_runAt 10 = .ok (.ifCond .ne 6, 3) := by decide +kernel
theorem dX5_runAt_13 : decode cX5_runAt 13 = .ok (.bipush (-2), 2) := by decide +kernel
theorem dX5_runAt_15 : decode cX5_runAt 15 = .ok (.ireturn, 1) := by decide +kernel
theorem dX5_runAt_16 : decode cX5_runAt 16 = .ok (.iload_n 1, 1) := by decide +kernel
theorem dX5_runAt_17 : decode cX5_runAt 17 = .ok (.aload_n 0, 1) := by decide +kernel
theorem dX5_runAt_18 : decode cX5_runAt 18 = .ok (.getfield 124, 3) := by decide +kernel
theorem dX5_runAt_21 : decode cX5_runAt 21 = .ok (.if_icmp .lt 5, 3) := by decide +kernel
theorem dX5_runAt_24 : decode cX5_runAt 24 = .ok (.iconst (-1), 1) := by decide +kernel
theorem dX5_runAt_25 : decode cX5_runAt 25 = .ok (.ireturn, 1) := by decide +kernel
theorem dX5_runAt_26 : decode cX5_runAt 26 = .ok (.aload_n 0, 1) := by decide +kernel
theorem dX5_runAt_27 : decode cX5_runAt 27 = .ok (.getfield 23, 3) := by decide +kernel
theorem dX5_runAt_30 : decode cX5_runAt 30 = .ok (.iload_n 1, 1) := by decide +kernel
theorem dX5_runAt_31 : decode cX5_runAt 31 = .ok (.aaload, 1) := by decide +kernel
theorem dX5_runAt_32 : decode cX5_runAt 32 = .ok (.iload_n 2, 1) := by decide +kernel
theorem dX5_runAt_33 : decode cX5_runAt 33 = .ok (.invokevirtual 157, 3) := by decide +kernel
theorem dX5_runAt_36 : decode cX5_runAt 36 = .ok (.ireturn, 1) := by decide +kernel
theorem dX5_paper_0 : decode cX5_paper 0 = .ok (.aload_n 0, 1) := by decide +kernel
theorem dX5_paper_1 : decode cX5_paper 1 = .ok (.iload_n 1, 1) := by decide +kernel
theorem dX5_paper_2 : decode cX5_paper 2 = .ok (.invokevirtual 46, 3) := by decide +kernel
theorem dX5_paper_5 : decode cX5_paper 5 = .ok (.astore 4, 2) := by decide +kernel
theorem dX5_paper_7 : decode cX5_paper 7 = .ok (.aload 4, 2) := by decide +kernel
theorem dX5_paper_9 : decode cX5_paper 9 = .ok (.ifnull 8, 3) := by decide +kernel
theorem dX5_paper_12 : decode cX5_paper 12 = .ok (.iload_n 2, 1) := by decide +kernel
theorem dX5_paper_13 : decode cX5_paper 13 = .ok (.iload_n 3, 1) := by decide +kernel
theorem dX5_paper_14 : decode cX5_paper 14 = .ok (.if_icmp .le 6, 3) := by decide +kernel
theorem dX5_paper_17 : decode cX5_paper 17 = .ok (.bipush (-2), 2) := by decide +kernel
theorem dX5_paper_19 : decode cX5_paper 19 = .ok (.ireturn, 1) := by decide +kernel
theorem dX5_paper_20 : decode cX5_paper 20 = .ok (.aload 4, 2) := by decide +kernel
theorem dX5_paper_22 : decode cX5_paper 22 = .ok (.getfield 158, 3) := by decide +kernel
theorem dX5_paper_25 : decode cX5_paper 25 = .ok (.astore 5, 2) := by decide +kernel
theorem dX5_paper_27 : decode cX5_paper 27 = .ok (.aload 5, 2) := by decide +kernel
theorem dX5_paper_29 : decode cX5_paper 29 = .ok (.ifnonnull 6, 3) := by decide +kernel
theorem dX5_paper_32 : decode cX5_paper 32 = .ok (.bipush (-10), 2) := by decide +kernel
theorem dX5_paper_34 : decode cX5_paper 34 = .ok (.ireturn, 1) := by decide +kernel
theorem dX5_paper_35 : decode cX5_paper 35 = .ok (.aload 5, 2) := by decide +kernel
theorem dX5_paper_37 : decode cX5_paper 37 = .ok (.getfield 162, 3) := by decide +kernel
theorem dX5_paper_40 : decode cX5_paper 40 = .ok (.ifCond .eq 6, 3) := by decide +kernel
theorem dX5_paper_43 : decode cX5_paper 43 = .ok (.bipush (-11), 2) := by decide +kernel
theorem dX5_paper_45 : decode cX5_paper 45 = .ok (.ireturn, 1) := by decide +kernel
theorem dX5_paper_46 : decode cX5_paper 46 = .ok (.aload 5, 2) := by decide +kernel
theorem dX5_paper_48 : decode cX5_paper 48 = .ok (.invokevirtual 165, 3) := by decide +kernel
theorem dX5_paper_51 : decode cX5_paper 51 = .ok (.ifCond .ne 6, 3) := by decide +kernel
theorem dX5_paper_54 : decode cX5_paper 54 = .ok (.bipush (-12), 2) := by decide +kernel
theorem dX5_paper_56 : decode cX5_paper 56 = .ok (.ireturn, 1) := by decide +kernel
theorem dX5_paper_57 : decode cX5_paper 57 = .ok (.aload 4, 2) := by decide +kernel
theorem dX5_paper_59 : decode cX5_paper 59 = .ok (.getfield 62, 3) := by decide +kernel
theorem dX5_paper_62 : decode cX5_paper 62 = .ok (.iconst 0, 1) := by decide +kernel
theorem dX5_paper_63 : decode cX5_paper 63 = .ok (.aaload, 1) := by decide +kernel
theorem dX5_paper_64 : decode cX5_paper 64 = .ok (.astore 6, 2) := by decide +kernel
theorem dX5_paper_66 : decode cX5_paper 66 = .ok (.aload 6, 2) := by decide +kernel
theorem dX5_paper_68 : decode cX5_paper 68 = .ok (.invokevirtual 168, 3) := by decide +kernel
theorem dX5_paper_71 : decode cX5_paper 71 = .ok (.iload_n 2, 1) := by decide +kernel
theorem dX5_paper_72 : decode cX5_paper 72 = .ok (.iload_n 3, 1) := by decide +kernel
theorem dX5_paper_73 : decode cX5_paper 73 = .ok (.invokestatic 35, 3) := by decide +kernel
theorem dX5_paper_76 : decode cX5_paper 76 = .ok (.ifCond .ne 6, 3) := by decide +kernel
theorem dX5_paper_79 : decode cX5_paper 79 = .ok (.bipush (-13), 2) := by decide +kernel
theorem dX5_paper_81 : decode cX5_paper 81 = .ok (.ireturn, 1) := by decide +kernel
theorem dX5_paper_82 : decode cX5_paper 82 = .ok (.aload 6, 2) := by decide +kernel
theorem dX5_paper_84 : decode cX5_paper 84 = .ok (.getfield 171, 3) := by decide +kernel
theorem dX5_paper_87 : decode cX5_paper 87 = .ok (.sipush 500, 3) := by decide +kernel
theorem dX5_paper_90 : decode cX5_paper 90 = .ok (.if_icmp .le 8, 3) := by decide +kernel
theorem dX5_paper_93 : decode cX5_paper 93 = .ok (.bipush (-14), 2) := by decide +kernel
theorem dX5_paper_95 : decode cX5_paper 95 = .ok (.goto 4, 3) := by decide +kernel
theorem dX5_paper_98 : decode cX5_paper 98 = .ok (.iconst 1, 1) := by decide +kernel
theorem dX5_paper_99 : decode cX5_paper 99 = .ok (.ireturn, 1) := by decide +kernel
theorem dX5_job_0 : decode cX5_job 0 = .ok (.iload_n 1, 1) := by decide +kernel
theorem dX5_job_1 : decode cX5_job 1 = .ok (.iconst 1, 1) := by decide +kernel
theorem dX5_job_2 : decode cX5_job 2 = .ok (.sipush 1000, 3) := by decide +kernel
theorem dX5_job_5 : decode cX5_job 5 = .ok (.invokestatic 35, 3) := by decide +kernel
theorem dX5_job_8 : decode cX5_job 8 = .ok (.ifCond .eq 14, 3) := by decide +kernel
theorem dX5_job_11 : decode cX5_job 11 = .ok (.iload_n 2, 1) := by decide +kernel
theorem dX5_job_12 : decode cX5_job 12 = .ok (.iconst 0, 1) := by decide +kernel
theorem dX5_job_13 : decode cX5_job 13 = .ok (.sipush 10000, 3) := by decide +kernel
theorem dX5_job_16 : decode cX5_job 16 = .ok (.invokestatic 35, 3) := by decide +kernel
theorem dX5_job_19 : decode cX5_job 19 = .ok (.ifCond .ne 6, 3) := by decide +kernel
theorem dX5_job_22 : decode cX5_job 22 = .ok (.bipush (-2), 2) := by decide +kernel
theorem dX5_job_24 : decode cX5_job 24 = .ok (.ireturn, 1) := by decide +kernel
theorem dX5_job_25 : decode cX5_job 25 = .ok (.aload_n 0, 1) := by decide +kernel
theorem dX5_job_26 : decode cX5_job 26 = .ok (.getfield 30, 3) := by decide +kernel
theorem dX5_job_29 : decode cX5_job 29 = .ok (.iload_n 1, 1) := by decide +kernel
theorem dX5_job_30 : decode cX5_job 30 = .ok (.iload_n 2, 1) := by decide +kernel
theorem dX5_job_31 : decode cX5_job 31 = .ok (.invokevirtual 174, 3) := by decide +kernel
theorem dX5_job_34 : decode cX5_job 34 = .ok (.ireturn, 1) := by decide +kernel
theorem dX5_clearJobs_0 : decode cX5_clearJobs 0 = .ok (.aload_n 0, 1) := by decide +kernel
theorem dX5_clearJobs_1 : decode cX5_clearJobs 1 = .ok (.getfield 30, 3) := by decide +kernel
theorem dX5_clearJobs_4 : decode cX5_clearJobs 4 = .ok (.invokevirtual 177, 3) := by decide +kernel
theorem dX5_clearJobs_7 : decode cX5_clearJobs 7 = .ok (.ireturn, 1) := by decide +kernel
theorem dX5_lateness_0 : decode cX5_lateness 0 = .ok (.aload_n 0, 1) := by decide +kernel
theorem dX5_lateness_1 : decode cX5_lateness 1 = .ok (.getfield 30, 3) := by decide +kernel
theorem dX5_lateness_4 : decode cX5_lateness 4 = .ok (.invokevirtual 180, 3) := by decide +kernel
theorem dX5_lateness_7 : decode cX5_lateness 7 = .ok (.ireturn, 1) := by decide +kernel
theorem dX5_order_0 : decode cX5_order 0 = .ok (.iload_n 1, 1) := by decide +kernel
theorem dX5_order_1 : decode cX5_order 1 = .ok (.iconst 0, 1) := by decide +kernel
theorem dX5_order_2 : decode cX5_order 2 = .ok (.aload_n 0, 1) := by decide +kernel
theorem dX5_order_3 : decode cX5_order 3 = .ok (.getfield 30, 3) := by decide +kernel
theorem dX5_order_6 : decode cX5_order 6 = .ok (.getfield 183, 3) := by decide +kernel
theorem dX5_order_9 : decode cX5_order 9 = .ok (.iconst 1, 1) := by decide +kernel
theorem dX5_order_10 : decode cX5_order 10 = .ok (.isub, 1) := by decide +kernel
theorem dX5_order_11 : decode cX5_order 11 = .ok (.invokestatic 35, 3) := by decide +kernel
theorem dX5_order_14 : decode cX5_order 14 = .ok (.ifCond .eq 15, 3) := by decide +kernel
theorem dX5_order_17 : decode cX5_order 17 = .ok (.aload_n 0, 1) := by decide +kernel
theorem dX5_order_18 : decode cX5_order 18 = .ok (.getfield 30, 3) := by decide +kernel
theorem dX5_order_21 : decode cX5_order 21 = .ok (.getfield 186, 3) := by decide +kernel
theorem dX5_order_24 : decode cX5_order 24 = .ok (.iload_n 1, 1) := by decide +kernel
theorem dX5_order_25 : decode cX5_order 25 = .ok (.iaload, 1) := by decide +kernel
theorem dX5_order_26 : decode cX5_order 26 = .ok (.goto 4, 3) := by decide +kernel
theorem dX5_order_29 : decode cX5_order 29 = .ok (.iconst (-1), 1) := by decide +kernel
theorem dX5_order_30 : decode cX5_order 30 = .ok (.ireturn, 1) := by decide +kernel
theorem dX5_count_0 : decode cX5_count 0 = .ok (.iload_n 1, 1) := by decide +kernel
theorem dX5_count_1 : decode cX5_count 1 = .ok (.tableswitch 63 0 4 #[35, 40, 45, 50, 58], 35) := by decide +kernel
theorem dX5_count_36 : decode cX5_count 36 = .ok (.aload_n 0, 1) := by decide +kernel
theorem dX5_count_37 : decode cX5_count 37 = .ok (.getfield 39, 3) := by decide +kernel
theorem dX5_count_40 : decode cX5_count 40 = .ok (.ireturn, 1) := by decide +kernel
theorem dX5_count_41 : decode cX5_count 41 = .ok (.aload_n 0, 1) := by decide +kernel
theorem dX5_count_42 : decode cX5_count 42 = .ok (.getfield 124, 3) := by decide +kernel
theorem dX5_count_45 : decode cX5_count 45 = .ok (.ireturn, 1) := by decide +kernel
theorem dX5_count_46 : decode cX5_count 46 = .ok (.aload_n 0, 1) := by decide +kernel
theorem dX5_count_47 : decode cX5_count 47 = .ok (.invokevirtual 136, 3) := by decide +kernel
theorem dX5_count_50 : decode cX5_count 50 = .ok (.ireturn, 1) := by decide +kernel
theorem dX5_count_51 : decode cX5_count 51 = .ok (.aload_n 0, 1) := by decide +kernel
theorem dX5_count_52 : decode cX5_count 52 = .ok (.getfield 30, 3) := by decide +kernel
theorem dX5_count_55 : decode cX5_count 55 = .ok (.getfield 183, 3) := by decide +kernel
theorem dX5_count_58 : decode cX5_count 58 = .ok (.ireturn, 1) := by decide +kernel
theorem dX5_count_59 : decode cX5_count 59 = .ok (.aload_n 0, 1) := by decide +kernel
theorem dX5_count_60 : decode cX5_count 60 = .ok (.invokevirtual 189, 3) := by decide +kernel
theorem dX5_count_63 : decode cX5_count 63 = .ok (.ireturn, 1) := by decide +kernel
theorem dX5_count_64 : decode cX5_count 64 = .ok (.bipush (-2), 2) := by decide +kernel
theorem dX5_count_66 : decode cX5_count 66 = .ok (.ireturn, 1) := by decide +kernel
theorem dX5_digest_0 : decode cX5_digest 0 = .ok (.ldc2_w 192, 3) := by decide +kernel
theorem dX5_digest_3 : decode cX5_digest 3 = .ok (.lstore_n 1, 1) := by decide +kernel
theorem dX5_digest_4 : decode cX5_digest 4 = .ok (.iconst 0, 1) := by decide +kernel
theorem dX5_digest_5 : decode cX5_digest 5 = .ok (.istore_n 3, 1) := by decide +kernel
theorem dX5_digest_6 : decode cX5_digest 6 = .ok (.iload_n 3, 1) := by decide +kernel
theorem dX5_digest_7 : decode cX5_digest 7 = .ok (.iconst 4, 1) := by decide +kernel
theorem dX5_digest_8 : decode cX5_digest 8 = .ok (.if_icmp .gt 22, 3) := by decide +kernel
theorem dX5_digest_11 : decode cX5_digest 11 = .ok (.ldc2_w 194, 3) := by decide +kernel
theorem dX5_digest_14 : decode cX5_digest 14 = .ok (.lload_n 1, 1) := by decide +kernel
theorem dX5_digest_15 : decode cX5_digest 15 = .ok (.lmul, 1) := by decide +kernel
theorem dX5_digest_16 : decode cX5_digest 16 = .ok (.aload_n 0, 1) := by decide +kernel
theorem dX5_digest_17 : decode cX5_digest 17 = .ok (.iload_n 3, 1) := by decide +kernel
theorem dX5_digest_18 : decode cX5_digest 18 = .ok (.invokevirtual 196, 3) := by decide +kernel
theorem dX5_digest_21 : decode cX5_digest 21 = .ok (.i2l, 1) := by decide +kernel
theorem dX5_digest_22 : decode cX5_digest 22 = .ok (.ladd, 1) := by decide +kernel
theorem dX5_digest_23 : decode cX5_digest 23 = .ok (.lstore_n 1, 1) := by decide +kernel
theorem dX5_digest_24 : decode cX5_digest 24 = .ok (.iinc 3 1, 3) := by decide +kernel
theorem dX5_digest_27 : decode cX5_digest 27 = .ok (.goto (-21), 3) := by decide +kernel
theorem dX5_digest_30 : decode cX5_digest 30 = .ok (.iconst 0, 1) := by decide +kernel
theorem dX5_digest_31 : decode cX5_digest 31 = .ok (.istore_n 3, 1) := by decide +kernel
theorem dX5_digest_32 : decode cX5_digest 32 = .ok (.iload_n 3, 1) := by decide +kernel
theorem dX5_digest_33 : decode cX5_digest 33 = .ok (.aload_n 0, 1) := by decide +kernel
theorem dX5_digest_34 : decode cX5_digest 34 = .ok (.getfield 39, 3) := by decide +kernel
theorem dX5_digest_37 : decode cX5_digest 37 = .ok (.if_icmp .ge 20, 3) := by decide +kernel
theorem dX5_digest_40 : decode cX5_digest 40 = .ok (.aload_n 0, 1) := by decide +kernel
theorem dX5_digest_41 : decode cX5_digest 41 = .ok (.getfield 11, 3) := by decide +kernel
theorem dX5_digest_44 : decode cX5_digest 44 = .ok (.iload_n 3, 1) := by decide +kernel
theorem dX5_digest_45 : decode cX5_digest 45 = .ok (.aaload, 1) := by decide +kernel
theorem dX5_digest_46 : decode cX5_digest 46 = .ok (.lload_n 1, 1) := by decide +kernel
theorem dX5_digest_47 : decode cX5_digest 47 = .ok (.invokevirtual 199, 3) := by decide +kernel
theorem dX5_digest_50 : decode cX5_digest 50 = .ok (.lstore_n 1, 1) := by decide +kernel
theorem dX5_digest_51 : decode cX5_digest 51 = .ok (.iinc 3 1, 3) := by decide +kernel
theorem dX5_digest_54 : decode cX5_digest 54 = .ok (.goto (-22), 3) := by decide +kernel
theorem dX5_digest_57 : decode cX5_digest 57 = .ok (.iconst 0, 1) := by decide +kernel
theorem dX5_digest_58 : decode cX5_digest 58 = .ok (.istore_n 3, 1) := by decide +kernel
theorem dX5_digest_59 : decode cX5_digest 59 = .ok (.iload_n 3, 1) := by decide +kernel
theorem dX5_digest_60 : decode cX5_digest 60 = .ok (.iconst 3, 1) := by decide +kernel
theorem dX5_digest_61 : decode cX5_digest 61 = .ok (.if_icmp .ge 20, 3) := by decide +kernel
theorem dX5_digest_64 : decode cX5_digest 64 = .ok (.aload_n 0, 1) := by decide +kernel
theorem dX5_digest_65 : decode cX5_digest 65 = .ok (.getfield 17, 3) := by decide +kernel
theorem dX5_digest_68 : decode cX5_digest 68 = .ok (.iload_n 3, 1) := by decide +kernel
theorem dX5_digest_69 : decode cX5_digest 69 = .ok (.aaload, 1) := by decide +kernel
theorem dX5_digest_70 : decode cX5_digest 70 = .ok (.lload_n 1, 1) := by decide +kernel
theorem dX5_digest_71 : decode cX5_digest 71 = .ok (.invokevirtual 203, 3) := by decide +kernel
theorem dX5_digest_74 : decode cX5_digest 74 = .ok (.lstore_n 1, 1) := by decide +kernel
theorem dX5_digest_75 : decode cX5_digest 75 = .ok (.iinc 3 1, 3) := by decide +kernel
theorem dX5_digest_78 : decode cX5_digest 78 = .ok (.goto (-19), 3) := by decide +kernel
theorem dX5_digest_81 : decode cX5_digest 81 = .ok (.iconst 0, 1) := by decide +kernel
theorem dX5_digest_82 : decode cX5_digest 82 = .ok (.istore_n 3, 1) := by decide +kernel
theorem dX5_digest_83 : decode cX5_digest 83 = .ok (.iload_n 3, 1) := by decide +kernel
theorem dX5_digest_84 : decode cX5_digest 84 = .ok (.aload_n 0, 1) := by decide +kernel
theorem dX5_digest_85 : decode cX5_digest 85 = .ok (.getfield 124, 3) := by decide +kernel
theorem dX5_digest_88 : decode cX5_digest 88 = .ok (.if_icmp .ge 20, 3) := by decide +kernel
theorem dX5_digest_91 : decode cX5_digest 91 = .ok (.aload_n 0, 1) := by decide +kernel
theorem dX5_digest_92 : decode cX5_digest 92 = .ok (.getfield 23, 3) := by decide +kernel
theorem dX5_digest_95 : decode cX5_digest 95 = .ok (.iload_n 3, 1) := by decide +kernel
theorem dX5_digest_96 : decode cX5_digest 96 = .ok (.aaload, 1) := by decide +kernel
theorem dX5_digest_97 : decode cX5_digest 97 = .ok (.lload_n 1, 1) := by decide +kernel
theorem dX5_digest_98 : decode cX5_digest 98 = .ok (.invokevirtual 204, 3) := by decide +kernel
theorem dX5_digest_101 : decode cX5_digest 101 = .ok (.lstore_n 1, 1) := by decide +kernel
theorem dX5_digest_102 : decode cX5_digest 102 = .ok (.iinc 3 1, 3) := by decide +kernel
theorem dX5_digest_105 : decode cX5_digest 105 = .ok (.goto (-22), 3) := by decide +kernel
theorem dX5_digest_108 : decode cX5_digest 108 = .ok (.lload_n 1, 1) := by decide +kernel
theorem dX5_digest_109 : decode cX5_digest 109 = .ok (.lreturn, 1) := by decide +kernel
theorem dX5_within_0 : decode cX5_within 0 = .ok (.iload_n 0, 1) := by decide +kernel
theorem dX5_within_1 : decode cX5_within 1 = .ok (.iload_n 1, 1) := by decide +kernel
theorem dX5_within_2 : decode cX5_within 2 = .ok (.if_icmp .lt 12, 3) := by decide +kernel
theorem dX5_within_5 : decode cX5_within 5 = .ok (.iload_n 0, 1) := by decide +kernel
theorem dX5_within_6 : decode cX5_within 6 = .ok (.iload_n 2, 1) := by decide +kernel
theorem dX5_within_7 : decode cX5_within 7 = .ok (.if_icmp .gt 7, 3) := by decide +kernel
theorem dX5_within_10 : decode cX5_within 10 = .ok (.iconst 1, 1) := by decide +kernel
theorem dX5_within_11 : decode cX5_within 11 = .ok (.goto 4, 3) := by decide +kernel
theorem dX5_within_14 : decode cX5_within 14 = .ok (.iconst 0, 1) := by decide +kernel
theorem dX5_within_15 : decode cX5_within 15 = .ok (.ireturn, 1) := by decide +kernel
theorem dX5_lineIsAsTold_0 : decode cX5_lineIsAsTold 0 = .ok (.iload_n 0, 1) := by decide +kernel
theorem dX5_lineIsAsTold_1 : decode cX5_lineIsAsTold 1 = .ok (.iconst 0, 1) := by decide +kernel
theorem dX5_lineIsAsTold_2 : decode cX5_lineIsAsTold 2 = .ok (.iconst 3, 1) := by decide +kernel
theorem dX5_lineIsAsTold_3 : decode cX5_lineIsAsTold 3 = .ok (.invokestatic 35, 3) := by decide +kernel
theorem dX5_lineIsAsTold_6 : decode cX5_lineIsAsTold 6 = .ok (.ifCond .eq 46, 3) := by decide +kernel
theorem dX5_lineIsAsTold_9 : decode cX5_lineIsAsTold 9 = .ok (.iload_n 0, 1) := by decide +kernel
theorem dX5_lineIsAsTold_10 : decode cX5_lineIsAsTold 10 = .ok (.iconst 3, 1) := by decide +kernel
theorem dX5_lineIsAsTold_11 : decode cX5_lineIsAsTold 11 = .ok (.if_icmp .eq 16, 3) := by decide +kernel
theorem dX5_lineIsAsTold_14 : decode cX5_lineIsAsTold 14 = .ok (.iload_n 1, 1) := by decide +kernel
theorem dX5_lineIsAsTold_15 : decode cX5_lineIsAsTold 15 = .ok (.sipush 200, 3) := by decide +kernel
theorem dX5_lineIsAsTold_18 : decode cX5_lineIsAsTold 18 = .ok (.sipush 11000, 3) := by decide +kernel
theorem dX5_lineIsAsTold_21 : decode cX5_lineIsAsTold 21 = .ok (.invokestatic 35, 3) := by decide +kernel
theorem dX5_lineIsAsTold_24 : decode cX5_lineIsAsTold 24 = .ok (.ifCond .eq 28, 3) := by decide +kernel
theorem dX5_lineIsAsTold_27 : decode cX5_lineIsAsTold 27 = .ok (.iload_n 2, 1) := by decide +kernel
theorem dX5_lineIsAsTold_28 : decode cX5_lineIsAsTold 28 = .ok (.iconst 1, 1) := by decide +kernel
theorem dX5_lineIsAsTold_29 : decode cX5_lineIsAsTold 29 = .ok (.iload_n 0, 1) := by decide +kernel
theorem dX5_lineIsAsTold_30 : decode cX5_lineIsAsTold 30 = .ok (.ifCond .ne 9, 3) := by decide +kernel
theorem dX5_lineIsAsTold_33 : decode cX5_lineIsAsTold 33 = .ok (.sipush 1000, 3) := by decide +kernel
theorem dX5_lineIsAsTold_36 : decode cX5_lineIsAsTold 36 = .ok (.goto 6, 3) := by decide +kernel
theorem dX5_lineIsAsTold_39 : decode cX5_lineIsAsTold 39 = .ok (.sipush 500, 3) := by decide +kernel
theorem dX5_lineIsAsTold_42 : decode cX5_lineIsAsTold 42 = .ok (.invokestatic 35, 3) := by decide +kernel
theorem dX5_lineIsAsTold_45 : decode cX5_lineIsAsTold 45 = .ok (.ifCond .eq 7, 3) := by decide +kernel
theorem dX5_lineIsAsTold_48 : decode cX5_lineIsAsTold 48 = .ok (.iconst 1, 1) := by decide +kernel
theorem dX5_lineIsAsTold_49 : decode cX5_lineIsAsTold 49 = .ok (.goto 4, 3) := by decide +kernel
theorem dX5_lineIsAsTold_52 : decode cX5_lineIsAsTold 52 = .ok (.iconst 0, 1) := by decide +kernel
theorem dX5_lineIsAsTold_53 : decode cX5_lineIsAsTold 53 = .ok (.ireturn, 1) := by decide +kernel
theorem dX5_partAt_0 : decode cX5_partAt 0 = .ok (.iload_n 1, 1) := by decide +kernel
theorem dX5_partAt_1 : decode cX5_partAt 1 = .ok (.iconst 0, 1) := by decide +kernel
theorem dX5_partAt_2 : decode cX5_partAt 2 = .ok (.aload_n 0, 1) := by decide +kernel
theorem dX5_partAt_3 : decode cX5_partAt 3 = .ok (.getfield 39, 3) := by decide +kernel
theorem dX5_partAt_6 : decode cX5_partAt 6 = .ok (.iconst 1, 1) := by decide +kernel
theorem dX5_partAt_7 : decode cX5_partAt 7 = .ok (.isub, 1) := by decide +kernel
theorem dX5_partAt_8 : decode cX5_partAt 8 = .ok (.invokestatic 35, 3) := by decide +kernel
theorem dX5_partAt_11 : decode cX5_partAt 11 = .ok (.ifCond .eq 12, 3) := by decide +kernel
theorem dX5_partAt_14 : decode cX5_partAt 14 = .ok (.aload_n 0, 1) := by decide +kernel
theorem dX5_partAt_15 : decode cX5_partAt 15 = .ok (.getfield 11, 3) := by decide +kernel
theorem dX5_partAt_18 : decode cX5_partAt 18 = .ok (.iload_n 1, 1) := by decide +kernel
theorem dX5_partAt_19 : decode cX5_partAt 19 = .ok (.aaload, 1) := by decide +kernel
theorem dX5_partAt_20 : decode cX5_partAt 20 = .ok (.goto 4, 3) := by decide +kernel
theorem dX5_partAt_23 : decode cX5_partAt 23 = .ok (.aconst_null, 1) := by decide +kernel
theorem dX5_partAt_24 : decode cX5_partAt 24 = .ok (.areturn, 1) := by decide +kernel
theorem dX5_furnaceAt_0 : decode cX5_furnaceAt 0 = .ok (.iload_n 1, 1) := by decide +kernel
theorem dX5_furnaceAt_1 : decode cX5_furnaceAt 1 = .ok (.iconst 0, 1) := by decide +kernel
theorem dX5_furnaceAt_2 : decode cX5_furnaceAt 2 = .ok (.iconst 2, 1) := by decide +kernel
theorem dX5_furnaceAt_3 : decode cX5_furnaceAt 3 = .ok (.invokestatic 35, 3) := by decide +kernel
theorem dX5_furnaceAt_6 : decode cX5_furnaceAt 6 = .ok (.ifCond .eq 12, 3) := by decide +kernel
theorem dX5_furnaceAt_9 : decode cX5_furnaceAt 9 = .ok (.aload_n 0, 1) := by decide +kernel
theorem dX5_furnaceAt_10 : decode cX5_furnaceAt 10 = .ok (.getfield 17, 3) := by decide +kernel
theorem dX5_furnaceAt_13 : decode cX5_furnaceAt 13 = .ok (.iload_n 1, 1) := by decide +kernel
theorem dX5_furnaceAt_14 : decode cX5_furnaceAt 14 = .ok (.aaload, 1) := by decide +kernel
theorem dX5_furnaceAt_15 : decode cX5_furnaceAt 15 = .ok (.goto 4, 3) := by decide +kernel
theorem dX5_furnaceAt_18 : decode cX5_furnaceAt 18 = .ok (.aconst_null, 1) := by decide +kernel
theorem dX5_furnaceAt_19 : decode cX5_furnaceAt 19 = .ok (.areturn, 1) := by decide +kernel
theorem dX5_furnacesRunning_0 : decode cX5_furnacesRunning 0 = .ok (.iconst 0, 1) := by decide +kernel
theorem dX5_furnacesRunning_1 : decode cX5_furnacesRunning 1 = .ok (.istore_n 1, 1) := by decide +kernel
theorem dX5_furnacesRunning_2 : decode cX5_furnacesRunning 2 = .ok (.iconst 0, 1) := by decide +kernel
theorem dX5_furnacesRunning_3 : decode cX5_furnacesRunning 3 = .ok (.istore_n 2, 1) := by decide +kernel
theorem dX5_furnacesRunning_4 : decode cX5_furnacesRunning 4 = .ok (.iload_n 2, 1) := by decide +kernel
theorem dX5_furnacesRunning_5 : decode cX5_furnacesRunning 5 = .ok (.iconst 3, 1) := by decide +kernel
theorem dX5_furnacesRunning_6 : decode cX5_furnacesRunning 6 = .ok (.if_icmp .ge 24, 3) := by decide +kernel
theorem dX5_furnacesRunning_9 : decode cX5_furnacesRunning 9 = .ok (.aload_n 0, 1) := by decide +kernel
theorem dX5_furnacesRunning_10 : decode cX5_furnacesRunning 10 = .ok (.getfield 17, 3) := by decide +kernel
theorem dX5_furnacesRunning_13 : decode cX5_furnacesRunning 13 = .ok (.iload_n 2, 1) := by decide +kernel
theorem dX5_furnacesRunning_14 : decode cX5_furnacesRunning 14 = .ok (.aaload, 1) := by decide +kernel
theorem dX5_furnacesRunning_15 : decode cX5_furnacesRunning 15 = .ok (.invokevirtual 90, 3) := by decide +kernel
theorem dX5_furnacesRunning_18 : decode cX5_furnacesRunning 18 = .ok (.ifCond .eq 6, 3) := by decide +kernel
theorem dX5_furnacesRunning_21 : decode cX5_furnacesRunning 21 = .ok (.iinc 1 1, 3) := by decide +kernel
theorem dX5_furnacesRunning_24 : decode cX5_furnacesRunning 24 = .ok (.iinc 2 1, 3) := by decide +kernel
theorem dX5_furnacesRunning_27 : decode cX5_furnacesRunning 27 = .ok (.goto (-23), 3) := by decide +kernel
theorem dX5_furnacesRunning_30 : decode cX5_furnacesRunning 30 = .ok (.iload_n 1, 1) := by decide +kernel
theorem dX5_furnacesRunning_31 : decode cX5_furnacesRunning 31 = .ok (.ireturn, 1) := by decide +kernel
theorem dX5_doubtRuns_0 : decode cX5_doubtRuns 0 = .ok (.iconst 0, 1) := by decide +kernel
theorem dX5_doubtRuns_1 : decode cX5_doubtRuns 1 = .ok (.istore_n 3, 1) := by decide +kernel
theorem dX5_doubtRuns_2 : decode cX5_doubtRuns 2 = .ok (.iload_n 2, 1) := by decide +kernel
theorem dX5_doubtRuns_3 : decode cX5_doubtRuns 3 = .ok (.istore 4, 2) := by decide +kernel
theorem dX5_doubtRuns_5 : decode cX5_doubtRuns 5 = .ok (.iload 4, 2) := by decide +kernel
theorem dX5_doubtRuns_7 : decode cX5_doubtRuns 7 = .ok (.aload_n 0, 1) := by decide +kernel
theorem dX5_doubtRuns_8 : decode cX5_doubtRuns 8 = .ok (.getfield 124, 3) := by decide +kernel
theorem dX5_doubtRuns_11 : decode cX5_doubtRuns 11 = .ok (.if_icmp .ge 37, 3) := by decide +kernel
theorem dX5_doubtRuns_14 : decode cX5_doubtRuns 14 = .ok (.aload_n 0, 1) := by decide +kernel
theorem dX5_doubtRuns_15 : decode cX5_doubtRuns 15 = .ok (.getfield 23, 3) := by decide +kernel
theorem dX5_doubtRuns_18 : decode cX5_doubtRuns 18 = .ok (.iload 4, 2) := by decide +kernel
theorem dX5_doubtRuns_20 : decode cX5_doubtRuns 20 = .ok (.aaload, 1) := by decide +kernel
theorem dX5_doubtRuns_21 : decode cX5_doubtRuns 21 = .ok (.getfield 205, 3) := by decide +kernel
theorem dX5_doubtRuns_24 : decode cX5_doubtRuns 24 = .ok (.iload_n 1, 1) := by decide +kernel
theorem dX5_doubtRuns_25 : decode cX5_doubtRuns 25 = .ok (.if_icmp .ne 17, 3) := by decide +kernel
theorem dX5_doubtRuns_28 : decode cX5_doubtRuns 28 = .ok (.aload_n 0, 1) := by decide +kernel
theorem dX5_doubtRuns_29 : decode cX5_doubtRuns 29 = .ok (.getfield 23, 3) := by decide +kernel
theorem dX5_doubtRuns_32 : decode cX5_doubtRuns 32 = .ok (.iload 4, 2) := by decide +kernel
theorem dX5_doubtRuns_34 : decode cX5_doubtRuns 34 = .ok (.aaload, 1) := by decide +kernel
theorem dX5_doubtRuns_35 : decode cX5_doubtRuns 35 = .ok (.iconst 1, 1) := by decide +kernel
theorem dX5_doubtRuns_36 : decode cX5_doubtRuns 36 = .ok (.putfield 162, 3) := by decide +kernel
theorem dX5_doubtRuns_39 : decode cX5_doubtRuns 39 = .ok (.iinc 3 1, 3) := by decide +kernel
theorem dX5_doubtRuns_42 : decode cX5_doubtRuns 42 = .ok (.iinc 4 1, 3) := by decide +kernel
theorem dX5_doubtRuns_45 : decode cX5_doubtRuns 45 = .ok (.goto (-40), 3) := by decide +kernel
theorem dX5_doubtRuns_48 : decode cX5_doubtRuns 48 = .ok (.iload_n 3, 1) := by decide +kernel
theorem dX5_doubtRuns_49 : decode cX5_doubtRuns 49 = .ok (.ireturn, 1) := by decide +kernel
theorem dX5_runsInDoubt_0 : decode cX5_runsInDoubt 0 = .ok (.iconst 0, 1) := by decide +kernel
theorem dX5_runsInDoubt_1 : decode cX5_runsInDoubt 1 = .ok (.istore_n 1, 1) := by decide +kernel
theorem dX5_runsInDoubt_2 : decode cX5_runsInDoubt 2 = .ok (.iconst 0, 1) := by decide +kernel
theorem dX5_runsInDoubt_3 : decode cX5_runsInDoubt 3 = .ok (.istore_n 2, 1) := by decide +kernel
theorem dX5_runsInDoubt_4 : decode cX5_runsInDoubt 4 = .ok (.iload_n 2, 1) := by decide +kernel
theorem dX5_runsInDoubt_5 : decode cX5_runsInDoubt 5 = .ok (.aload_n 0, 1) := by decide +kernel
theorem dX5_runsInDoubt_6 : decode cX5_runsInDoubt 6 = .ok (.getfield 124, 3) := by decide +kernel
theorem dX5_runsInDoubt_9 : decode cX5_runsInDoubt 9 = .ok (.if_icmp .ge 24, 3) := by decide +kernel
theorem dX5_runsInDoubt_12 : decode cX5_runsInDoubt 12 = .ok (.aload_n 0, 1) := by decide +kernel
theorem dX5_runsInDoubt_13 : decode cX5_runsInDoubt 13 = .ok (.getfield 23, 3) := by decide +kernel
theorem dX5_runsInDoubt_16 : decode cX5_runsInDoubt 16 = .ok (.iload_n 2, 1) := by decide +kernel
theorem dX5_runsInDoubt_17 : decode cX5_runsInDoubt 17 = .ok (.aaload, 1) := by decide +kernel
theorem dX5_runsInDoubt_18 : decode cX5_runsInDoubt 18 = .ok (.getfield 162, 3) := by decide +kernel
theorem dX5_runsInDoubt_21 : decode cX5_runsInDoubt 21 = .ok (.ifCond .eq 6, 3) := by decide +kernel
theorem dX5_runsInDoubt_24 : decode cX5_runsInDoubt 24 = .ok (.iinc 1 1, 3) := by decide +kernel
theorem dX5_runsInDoubt_27 : decode cX5_runsInDoubt 27 = .ok (.iinc 2 1, 3) := by decide +kernel
theorem dX5_runsInDoubt_30 : decode cX5_runsInDoubt 30 = .ok (.goto (-26), 3) := by decide +kernel
theorem dX5_runsInDoubt_33 : decode cX5_runsInDoubt 33 = .ok (.iload_n 1, 1) := by decide +kernel
theorem dX5_runsInDoubt_34 : decode cX5_runsInDoubt 34 = .ok (.ireturn, 1) := by decide +kernel
theorem dX5_truth_0 : decode cX5_truth 0 = .ok (.iload_n 0, 1) := by decide +kernel
theorem dX5_truth_1 : decode cX5_truth 1 = .ok (.ifCond .eq 7, 3) := by decide +kernel
theorem dX5_truth_4 : decode cX5_truth 4 = .ok (.iconst 1, 1) := by decide +kernel
theorem dX5_truth_5 : decode cX5_truth 5 = .ok (.goto 4, 3) := by decide +kernel
theorem dX5_truth_8 : decode cX5_truth 8 = .ok (.iconst 0, 1) := by decide +kernel
theorem dX5_truth_9 : decode cX5_truth 9 = .ok (.ireturn, 1) := by decide +kernel
theorem dX6_in_0 : decode cX6_in 0 = .ok (.iload_n 0, 1) := by decide +kernel
theorem dX6_in_1 : decode cX6_in 1 = .ok (.iload_n 1, 1) := by decide +kernel
theorem dX6_in_2 : decode cX6_in 2 = .ok (.if_icmp .lt 12, 3) := by decide +kernel
theorem dX6_in_5 : decode cX6_in 5 = .ok (.iload_n 0, 1) := by decide +kernel
theorem dX6_in_6 : decode cX6_in 6 = .ok (.iload_n 2, 1) := by decide +kernel
theorem dX6_in_7 : decode cX6_in 7 = .ok (.if_icmp .gt 7, 3) := by decide +kernel
theorem dX6_in_10 : decode cX6_in 10 = .ok (.iconst 1, 1) := by decide +kernel
theorem dX6_in_11 : decode cX6_in 11 = .ok (.goto 4, 3) := by decide +kernel
theorem dX6_in_14 : decode cX6_in 14 = .ok (.iconst 0, 1) := by decide +kernel
theorem dX6_in_15 : decode cX6_in 15 = .ok (.ireturn, 1) := by decide +kernel
theorem dX6_part_0 : decode cX6_part 0 = .ok (.iload_n 1, 1) := by decide +kernel
theorem dX6_part_1 : decode cX6_part 1 = .ok (.iconst 1, 1) := by decide +kernel
theorem dX6_part_2 : decode cX6_part 2 = .ok (.bipush 6, 2) := by decide +kernel
theorem dX6_part_4 : decode cX6_part 4 = .ok (.invokestatic 1, 3) := by decide +kernel
theorem dX6_part_7 : decode cX6_part 7 = .ok (.ifCond .eq 65, 3) := by decide +kernel
theorem dX6_part_10 : decode cX6_part 10 = .ok (.iload_n 2, 1) := by decide +kernel
theorem dX6_part_11 : decode cX6_part 11 = .ok (.iconst 1, 1) := by decide +kernel
theorem dX6_part_12 : decode cX6_part 12 = .ok (.sipush 1000, 3) := by decide +kernel
theorem dX6_part_15 : decode cX6_part 15 = .ok (.invokestatic 1, 3) := by decide +kernel
theorem dX6_part_18 : decode cX6_part 18 = .ok (.ifCond .eq 54, 3) := by decide +kernel
theorem dX6_part_21 : decode cX6_part 21 = .ok (.iload_n 3, 1) := by decide +kernel
theorem dX6_part_22 : decode cX6_part 22 = .ok (.iconst 1, 1) := by decide +kernel
theorem dX6_part_23 : decode cX6_part 23 = .ok (.sipush 300, 3) := by decide +kernel
theorem dX6_part_26 : decode cX6_part 26 = .ok (.invokestatic 1, 3) := by decide +kernel
theorem dX6_part_29 : decode cX6_part 29 = .ok (.ifCond .eq 43, 3) := by decide +kernel
theorem dX6_part_32 : decode cX6_part 32 = .ok (.iload 4, 2) := by decide +kernel
theorem dX6_part_34 : decode cX6_part 34 = .ok (.iconst 1, 1) := by decide +kernel
theorem dX6_part_35 : decode cX6_part 35 = .ok (.sipush 300, 3) := by decide +kernel
theorem dX6_part_38 : decode cX6_part 38 = .ok (.invokestatic 1, 3) := by decide +kernel
theorem dX6_part_41 : decode cX6_part 41 = .ok (.ifCond .eq 31, 3) := by decide +kernel
theorem dX6_part_44 : decode cX6_part 44 = .ok (.iload 5, 2) := by decide +kernel
theorem dX6_part_46 : decode cX6_part 46 = .ok (.iconst 0, 1) := by decide +kernel
end
section
theorem dX6_part_47 : decode cX6_part 47 = .ok (.sipush 200, 3) := by decide +kernel
theorem dX6_part_50 : decode cX6_part 50 = .ok (.invokestatic 1, 3) := by decide +kernel
theorem dX6_part_53 : decode cX6_part 53 = .ok (.ifCond .eq 19, 3) := by decide +kernel
theorem dX6_part_56 : decode cX6_part 56 = .ok (.iload 6, 2) := by decide +kernel
theorem dX6_part_58 : decode cX6_part 58 = .ok (.iconst 0, 1) := by decide +kernel
theorem dX6_part_59 : decode cX6_part 59 = .ok (.sipush 200, 3) := by decide +kernel
theorem dX6_part_62 : decode cX6_part 62 = .ok (.invokestatic 1, 3) := by decide +kernel
theorem dX6_part_65 : decode cX6_part 65 = .ok (.ifCond .eq 7, 3) := by decide +kernel
theorem dX6_part_68 : decode cX6_part 68 = .ok (.iconst 1, 1) := by decide +kernel
theorem dX6_part_69 : decode cX6_part 69 = .ok (.goto 4, 3) := by decide +kernel
theorem dX6_part_72 : decode cX6_part 72 = .ok (.iconst 0, 1) := by decide +kernel
theorem dX6_part_73 : decode cX6_part 73 = .ok (.istore 7, 2) := by decide +kernel
theorem dX6_part_75 : decode cX6_part 75 = .ok (.iload 7, 2) := by decide +kernel
theorem dX6_part_77 : decode cX6_part 77 = .ok (.ifCond .ne 6, 3) := by decide +kernel
theorem dX6_part_80 : decode cX6_part 80 = .ok (.bipush (-2), 2) := by decide +kernel
theorem dX6_part_82 : decode cX6_part 82 = .ok (.ireturn, 1) := by decide +kernel
theorem dX6_part_83 : decode cX6_part 83 = .ok (.aload_n 0, 1) := by decide +kernel
theorem dX6_part_84 : decode cX6_part 84 = .ok (.getfield 7, 3) := by decide +kernel
theorem dX6_part_87 : decode cX6_part 87 = .ok (.bipush 12, 2) := by decide +kernel
theorem dX6_part_89 : decode cX6_part 89 = .ok (.if_icmp .ne 6, 3) := by decide +kernel
theorem dX6_part_92 : decode cX6_part 92 = .ok (.bipush (-4), 2) := by decide +kernel
theorem dX6_part_94 : decode cX6_part 94 = .ok (.ireturn, 1) := by decide +kernel
theorem dX6_part_95 : decode cX6_part 95 = .ok (.aload_n 0, 1) := by decide +kernel
theorem dX6_part_96 : decode cX6_part 96 = .ok (.getfield 7, 3) := by decide +kernel
theorem dX6_part_99 : decode cX6_part 99 = .ok (.istore 8, 2) := by decide +kernel
theorem dX6_part_101 : decode cX6_part 101 = .ok (.aload_n 0, 1) := by decide +kernel
theorem dX6_part_102 : decode cX6_part 102 = .ok (.getfield 11, 3) := by decide +kernel
theorem dX6_part_105 : decode cX6_part 105 = .ok (.iload 8, 2) := by decide +kernel
theorem dX6_part_107 : decode cX6_part 107 = .ok (.iload_n 1, 1) := by decide +kernel
theorem dX6_part_108 : decode cX6_part 108 = .ok (.iastore, 1) := by decide +kernel
theorem dX6_part_109 : decode cX6_part 109 = .ok (.aload_n 0, 1) := by decide +kernel
theorem dX6_part_110 : decode cX6_part 110 = .ok (.getfield 15, 3) := by decide +kernel
theorem dX6_part_113 : decode cX6_part 113 = .ok (.iload 8, 2) := by decide +kernel
theorem dX6_part_115 : decode cX6_part 115 = .ok (.iload_n 2, 1) := by decide +kernel
theorem dX6_part_116 : decode cX6_part 116 = .ok (.iastore, 1) := by decide +kernel
theorem dX6_part_117 : decode cX6_part 117 = .ok (.aload_n 0, 1) := by decide +kernel
theorem dX6_part_118 : decode cX6_part 118 = .ok (.getfield 18, 3) := by decide +kernel
theorem dX6_part_121 : decode cX6_part 121 = .ok (.iload 8, 2) := by decide +kernel
theorem dX6_part_123 : decode cX6_part 123 = .ok (.iload_n 3, 1) := by decide +kernel
theorem dX6_part_124 : decode cX6_part 124 = .ok (.iastore, 1) := by decide +kernel
theorem dX6_part_125 : decode cX6_part 125 = .ok (.aload_n 0, 1) := by decide +kernel
theorem dX6_part_126 : decode cX6_part 126 = .ok (.getfield 21, 3) := by decide +kernel
theorem dX6_part_129 : decode cX6_part 129 = .ok (.iload 8, 2) := by decide +kernel
theorem dX6_part_131 : decode cX6_part 131 = .ok (.iload 4, 2) := by decide +kernel
theorem dX6_part_133 : decode cX6_part 133 = .ok (.iastore, 1) := by decide +kernel
theorem dX6_part_134 : decode cX6_part 134 = .ok (.aload_n 0, 1) := by decide +kernel
theorem dX6_part_135 : decode cX6_part 135 = .ok (.getfield 24, 3) := by decide +kernel
theorem dX6_part_138 : decode cX6_part 138 = .ok (.iload 8, 2) := by decide +kernel
theorem dX6_part_140 : decode cX6_part 140 = .ok (.iload 5, 2) := by decide +kernel
theorem dX6_part_142 : decode cX6_part 142 = .ok (.iastore, 1) := by decide +kernel
theorem dX6_part_143 : decode cX6_part 143 = .ok (.aload_n 0, 1) := by decide +kernel
theorem dX6_part_144 : decode cX6_part 144 = .ok (.getfield 27, 3) := by decide +kernel
theorem dX6_part_147 : decode cX6_part 147 = .ok (.iload 8, 2) := by decide +kernel
theorem dX6_part_149 : decode cX6_part 149 = .ok (.iload 6, 2) := by decide +kernel
theorem dX6_part_151 : decode cX6_part 151 = .ok (.iastore, 1) := by decide +kernel
theorem dX6_part_152 : decode cX6_part 152 = .ok (.aload_n 0, 1) := by decide +kernel
theorem dX6_part_153 : decode cX6_part 153 = .ok (.getfield 30, 3) := by decide +kernel
theorem dX6_part_156 : decode cX6_part 156 = .ok (.iload 8, 2) := by decide +kernel
theorem dX6_part_158 : decode cX6_part 158 = .ok (.lconst 0, 1) := by decide +kernel
theorem dX6_part_159 : decode cX6_part 159 = .ok (.lastore, 1) := by decide +kernel
theorem dX6_part_160 : decode cX6_part 160 = .ok (.aload_n 0, 1) := by decide +kernel
theorem dX6_part_161 : decode cX6_part 161 = .ok (.getfield 34, 3) := by decide +kernel
theorem dX6_part_164 : decode cX6_part 164 = .ok (.iload 8, 2) := by decide +kernel
theorem dX6_part_166 : decode cX6_part 166 = .ok (.iconst (-1), 1) := by decide +kernel
theorem dX6_part_167 : decode cX6_part 167 = .ok (.iastore, 1) := by decide +kernel
theorem dX6_part_168 : decode cX6_part 168 = .ok (.aload_n 0, 1) := by decide +kernel
theorem dX6_part_169 : decode cX6_part 169 = .ok (.getfield 37, 3) := by decide +kernel
theorem dX6_part_172 : decode cX6_part 172 = .ok (.iload 8, 2) := by decide +kernel
theorem dX6_part_174 : decode cX6_part 174 = .ok (.iconst (-1), 1) := by decide +kernel
theorem dX6_part_175 : decode cX6_part 175 = .ok (.iastore, 1) := by decide +kernel
theorem dX6_part_176 : decode cX6_part 176 = .ok (.iconst 0, 1) := by decide +kernel
theorem dX6_part_177 : decode cX6_part 177 = .ok (.istore 9, 2) := by decide +kernel
theorem dX6_part_179 : decode cX6_part 179 = .ok (.iload 9, 2) := by decide +kernel
theorem dX6_part_181 : decode cX6_part 181 = .ok (.bipush 6, 2) := by decide +kernel
theorem dX6_part_183 : decode cX6_part 183 = .ok (.if_icmp .ge 85, 3) := by decide +kernel
theorem dX6_part_186 : decode cX6_part 186 = .ok (.aload_n 0, 1) := by decide +kernel
theorem dX6_part_187 : decode cX6_part 187 = .ok (.getfield 40, 3) := by decide +kernel
theorem dX6_part_190 : decode cX6_part 190 = .ok (.bipush 6, 2) := by decide +kernel
theorem dX6_part_192 : decode cX6_part 192 = .ok (.iload 8, 2) := by decide +kernel
theorem dX6_part_194 : decode cX6_part 194 = .ok (.imul, 1) := by decide +kernel
theorem dX6_part_195 : decode cX6_part 195 = .ok (.iload 9, 2) := by decide +kernel
theorem dX6_part_197 : decode cX6_part 197 = .ok (.iadd, 1) := by decide +kernel
theorem dX6_part_198 : decode cX6_part 198 = .ok (.sipush 200, 3) := by decide +kernel
theorem dX6_part_201 : decode cX6_part 201 = .ok (.iastore, 1) := by decide +kernel
theorem dX6_part_202 : decode cX6_part 202 = .ok (.aload_n 0, 1) := by decide +kernel
theorem dX6_part_203 : decode cX6_part 203 = .ok (.getfield 43, 3) := by decide +kernel
theorem dX6_part_206 : decode cX6_part 206 = .ok (.bipush 6, 2) := by decide +kernel
theorem dX6_part_208 : decode cX6_part 208 = .ok (.iload 8, 2) := by decide +kernel
theorem dX6_part_210 : decode cX6_part 210 = .ok (.imul, 1) := by decide +kernel
theorem dX6_part_211 : decode cX6_part 211 = .ok (.iload 9, 2) := by decide +kernel
theorem dX6_part_213 : decode cX6_part 213 = .ok (.iadd, 1) := by decide +kernel
theorem dX6_part_214 : decode cX6_part 214 = .ok (.iconst 0, 1) := by decide +kernel
theorem dX6_part_215 : decode cX6_part 215 = .ok (.iastore, 1) := by decide +kernel
theorem dX6_part_216 : decode cX6_part 216 = .ok (.iconst 0, 1) := by decide +kernel
theorem dX6_part_217 : decode cX6_part 217 = .ok (.istore 10, 2) := by decide +kernel
theorem dX6_part_219 : decode cX6_part 219 = .ok (.iload 10, 2) := by decide +kernel
theorem dX6_part_221 : decode cX6_part 221 = .ok (.iconst 4, 1) := by decide +kernel
theorem dX6_part_222 : decode cX6_part 222 = .ok (.if_icmp .ge 40, 3) := by decide +kernel
theorem dX6_part_225 : decode cX6_part 225 = .ok (.aload_n 0, 1) := by decide +kernel
theorem dX6_part_226 : decode cX6_part 226 = .ok (.getfield 46, 3) := by decide +kernel
theorem dX6_part_229 : decode cX6_part 229 = .ok (.bipush 24, 2) := by decide +kernel
theorem dX6_part_231 : decode cX6_part 231 = .ok (.iload 8, 2) := by decide +kernel
theorem dX6_part_233 : decode cX6_part 233 = .ok (.imul, 1) := by decide +kernel
theorem dX6_part_234 : decode cX6_part 234 = .ok (.iconst 4, 1) := by decide +kernel
theorem dX6_part_235 : decode cX6_part 235 = .ok (.iload 9, 2) := by decide +kernel
theorem dX6_part_237 : decode cX6_part 237 = .ok (.imul, 1) := by decide +kernel
theorem dX6_part_238 : decode cX6_part 238 = .ok (.iadd, 1) := by decide +kernel
theorem dX6_part_239 : decode cX6_part 239 = .ok (.iload 10, 2) := by decide +kernel
theorem dX6_part_241 : decode cX6_part 241 = .ok (.iadd, 1) := by decide +kernel
theorem dX6_part_242 : decode cX6_part 242 = .ok (.iload 10, 2) := by decide +kernel
theorem dX6_part_244 : decode cX6_part 244 = .ok (.iconst 1, 1) := by decide +kernel
theorem dX6_part_245 : decode cX6_part 245 = .ok (.if_icmp .ne 9, 3) := by decide +kernel
theorem dX6_part_248 : decode cX6_part 248 = .ok (.sipush 1000, 3) := by decide +kernel
theorem dX6_part_251 : decode cX6_part 251 = .ok (.goto 4, 3) := by decide +kernel
theorem dX6_part_254 : decode cX6_part 254 = .ok (.iconst 0, 1) := by decide +kernel
theorem dX6_part_255 : decode cX6_part 255 = .ok (.iastore, 1) := by decide +kernel
theorem dX6_part_256 : decode cX6_part 256 = .ok (.iinc 10 1, 3) := by decide +kernel
theorem dX6_part_259 : decode cX6_part 259 = .ok (.goto (-40), 3) := by decide +kernel
theorem dX6_part_262 : decode cX6_part 262 = .ok (.iinc 9 1, 3) := by decide +kernel
theorem dX6_part_265 : decode cX6_part 265 = .ok (.goto (-86), 3) := by decide +kernel
theorem dX6_part_268 : decode cX6_part 268 = .ok (.aload_n 0, 1) := by decide +kernel
theorem dX6_part_269 : decode cX6_part 269 = .ok (.dup, 1) := by decide +kernel
theorem dX6_part_270 : decode cX6_part 270 = .ok (.getfield 7, 3) := by decide +kernel
theorem dX6_part_273 : decode cX6_part 273 = .ok (.iconst 1, 1) := by decide +kernel
theorem dX6_part_274 : decode cX6_part 274 = .ok (.iadd, 1) := by decide +kernel
theorem dX6_part_275 : decode cX6_part 275 = .ok (.putfield 7, 3) := by decide +kernel
theorem dX6_part_278 : decode cX6_part 278 = .ok (.iload 8, 2) := by decide +kernel
theorem dX6_part_280 : decode cX6_part 280 = .ok (.ireturn, 1) := by decide +kernel
theorem dX6_isPart_0 : decode cX6_isPart 0 = .ok (.iload_n 1, 1) := by decide +kernel
theorem dX6_isPart_1 : decode cX6_isPart 1 = .ok (.iconst 0, 1) := by decide +kernel
theorem dX6_isPart_2 : decode cX6_isPart 2 = .ok (.aload_n 0, 1) := by decide +kernel
theorem dX6_isPart_3 : decode cX6_isPart 3 = .ok (.getfield 7, 3) := by decide +kernel
theorem dX6_isPart_6 : decode cX6_isPart 6 = .ok (.iconst 1, 1) := by decide +kernel
theorem dX6_isPart_7 : decode cX6_isPart 7 = .ok (.isub, 1) := by decide +kernel
theorem dX6_isPart_8 : decode cX6_isPart 8 = .ok (.invokestatic 1, 3) := by decide +kernel
theorem dX6_isPart_11 : decode cX6_isPart 11 = .ok (.ireturn, 1) := by decide +kernel
theorem dX6_steps_0 : decode cX6_steps 0 = .ok (.bipush 6, 2) := by decide +kernel
theorem dX6_steps_2 : decode cX6_steps 2 = .ok (.iload_n 1, 1) := by decide +kernel
theorem dX6_steps_3 : decode cX6_steps 3 = .ok (.imul, 1) := by decide +kernel
theorem dX6_steps_4 : decode cX6_steps 4 = .ok (.istore_n 3, 1) := by decide +kernel
theorem dX6_steps_5 : decode cX6_steps 5 = .ok (.aload_n 0, 1) := by decide +kernel
theorem dX6_steps_6 : decode cX6_steps 6 = .ok (.getfield 11, 3) := by decide +kernel
theorem dX6_steps_9 : decode cX6_steps 9 = .ok (.iload_n 1, 1) := by decide +kernel
theorem dX6_steps_10 : decode cX6_steps 10 = .ok (.iaload, 1) := by decide +kernel
theorem dX6_steps_11 : decode cX6_steps 11 = .ok (.istore 4, 2) := by decide +kernel
theorem dX6_steps_13 : decode cX6_steps 13 = .ok (.aload_n 0, 1) := by decide +kernel
theorem dX6_steps_14 : decode cX6_steps 14 = .ok (.getfield 49, 3) := by decide +kernel
theorem dX6_steps_17 : decode cX6_steps 17 = .ok (.iconst 0, 1) := by decide +kernel
theorem dX6_steps_18 : decode cX6_steps 18 = .ok (.iload_n 2, 1) := by decide +kernel
theorem dX6_steps_19 : decode cX6_steps 19 = .ok (.aload_n 0, 1) := by decide +kernel
theorem dX6_steps_20 : decode cX6_steps 20 = .ok (.getfield 40, 3) := by decide +kernel
theorem dX6_steps_23 : decode cX6_steps 23 = .ok (.iload_n 3, 1) := by decide +kernel
theorem dX6_steps_24 : decode cX6_steps 24 = .ok (.iaload, 1) := by decide +kernel
theorem dX6_steps_25 : decode cX6_steps 25 = .ok (.isub, 1) := by decide +kernel
theorem dX6_steps_26 : decode cX6_steps 26 = .ok (.aload_n 0, 1) := by decide +kernel
theorem dX6_steps_27 : decode cX6_steps 27 = .ok (.getfield 21, 3) := by decide +kernel
theorem dX6_steps_30 : decode cX6_steps 30 = .ok (.iload_n 1, 1) := by decide +kernel
theorem dX6_steps_31 : decode cX6_steps 31 = .ok (.iaload, 1) := by decide +kernel
theorem dX6_steps_32 : decode cX6_steps 32 = .ok (.imul, 1) := by decide +kernel
theorem dX6_steps_33 : decode cX6_steps 33 = .ok (.sipush 1000, 3) := by decide +kernel
theorem dX6_steps_36 : decode cX6_steps 36 = .ok (.idiv, 1) := by decide +kernel
theorem dX6_steps_37 : decode cX6_steps 37 = .ok (.iastore, 1) := by decide +kernel
theorem dX6_steps_38 : decode cX6_steps 38 = .ok (.iconst 0, 1) := by decide +kernel
theorem dX6_steps_39 : decode cX6_steps 39 = .ok (.istore 5, 2) := by decide +kernel
theorem dX6_steps_41 : decode cX6_steps 41 = .ok (.iload 5, 2) := by decide +kernel
theorem dX6_steps_43 : decode cX6_steps 43 = .ok (.iconst 1, 1) := by decide +kernel
theorem dX6_steps_44 : decode cX6_steps 44 = .ok (.iadd, 1) := by decide +kernel
theorem dX6_steps_45 : decode cX6_steps 45 = .ok (.iload 4, 2) := by decide +kernel
theorem dX6_steps_47 : decode cX6_steps 47 = .ok (.if_icmp .ge 50, 3) := by decide +kernel
theorem dX6_steps_50 : decode cX6_steps 50 = .ok (.aload_n 0, 1) := by decide +kernel
theorem dX6_steps_51 : decode cX6_steps 51 = .ok (.getfield 49, 3) := by decide +kernel
theorem dX6_steps_54 : decode cX6_steps 54 = .ok (.iload 5, 2) := by decide +kernel
theorem dX6_steps_56 : decode cX6_steps 56 = .ok (.iconst 1, 1) := by decide +kernel
theorem dX6_steps_57 : decode cX6_steps 57 = .ok (.iadd, 1) := by decide +kernel
theorem dX6_steps_58 : decode cX6_steps 58 = .ok (.aload_n 0, 1) := by decide +kernel
theorem dX6_steps_59 : decode cX6_steps 59 = .ok (.getfield 40, 3) := by decide +kernel
theorem dX6_steps_62 : decode cX6_steps 62 = .ok (.iload_n 3, 1) := by decide +kernel
theorem dX6_steps_63 : decode cX6_steps 63 = .ok (.iload 5, 2) := by decide +kernel
theorem dX6_steps_65 : decode cX6_steps 65 = .ok (.iadd, 1) := by decide +kernel
theorem dX6_steps_66 : decode cX6_steps 66 = .ok (.iaload, 1) := by decide +kernel
theorem dX6_steps_67 : decode cX6_steps 67 = .ok (.aload_n 0, 1) := by decide +kernel
theorem dX6_steps_68 : decode cX6_steps 68 = .ok (.getfield 40, 3) := by decide +kernel
theorem dX6_steps_71 : decode cX6_steps 71 = .ok (.iload_n 3, 1) := by decide +kernel
theorem dX6_steps_72 : decode cX6_steps 72 = .ok (.iload 5, 2) := by decide +kernel
theorem dX6_steps_74 : decode cX6_steps 74 = .ok (.iadd, 1) := by decide +kernel
theorem dX6_steps_75 : decode cX6_steps 75 = .ok (.iconst 1, 1) := by decide +kernel
theorem dX6_steps_76 : decode cX6_steps 76 = .ok (.iadd, 1) := by decide +kernel
theorem dX6_steps_77 : decode cX6_steps 77 = .ok (.iaload, 1) := by decide +kernel
theorem dX6_steps_78 : decode cX6_steps 78 = .ok (.isub, 1) := by decide +kernel
theorem dX6_steps_79 : decode cX6_steps 79 = .ok (.aload_n 0, 1) := by decide +kernel
theorem dX6_steps_80 : decode cX6_steps 80 = .ok (.getfield 18, 3) := by decide +kernel
theorem dX6_steps_83 : decode cX6_steps 83 = .ok (.iload_n 1, 1) := by decide +kernel
theorem dX6_steps_84 : decode cX6_steps 84 = .ok (.iaload, 1) := by decide +kernel
theorem dX6_steps_85 : decode cX6_steps 85 = .ok (.imul, 1) := by decide +kernel
theorem dX6_steps_86 : decode cX6_steps 86 = .ok (.sipush 1000, 3) := by decide +kernel
theorem dX6_steps_89 : decode cX6_steps 89 = .ok (.idiv, 1) := by decide +kernel
theorem dX6_steps_90 : decode cX6_steps 90 = .ok (.iastore, 1) := by decide +kernel
theorem dX6_steps_91 : decode cX6_steps 91 = .ok (.iinc 5 1, 3) := by decide +kernel
theorem dX6_steps_94 : decode cX6_steps 94 = .ok (.goto (-53), 3) := by decide +kernel
theorem dX6_steps_97 : decode cX6_steps 97 = .ok (.aload_n 0, 1) := by decide +kernel
theorem dX6_steps_98 : decode cX6_steps 98 = .ok (.getfield 49, 3) := by decide +kernel
theorem dX6_steps_101 : decode cX6_steps 101 = .ok (.iload 4, 2) := by decide +kernel
theorem dX6_steps_103 : decode cX6_steps 103 = .ok (.iconst 0, 1) := by decide +kernel
theorem dX6_steps_104 : decode cX6_steps 104 = .ok (.iastore, 1) := by decide +kernel
theorem dX6_steps_105 : decode cX6_steps 105 = .ok (.iconst 0, 1) := by decide +kernel
theorem dX6_steps_106 : decode cX6_steps 106 = .ok (.istore 5, 2) := by decide +kernel
theorem dX6_steps_108 : decode cX6_steps 108 = .ok (.iload 5, 2) := by decide +kernel
theorem dX6_steps_110 : decode cX6_steps 110 = .ok (.iload 4, 2) := by decide +kernel
theorem dX6_steps_112 : decode cX6_steps 112 = .ok (.if_icmp .ge 38, 3) := by decide +kernel
theorem dX6_steps_115 : decode cX6_steps 115 = .ok (.aload_n 0, 1) := by decide +kernel
theorem dX6_steps_116 : decode cX6_steps 116 = .ok (.getfield 40, 3) := by decide +kernel
theorem dX6_steps_119 : decode cX6_steps 119 = .ok (.iload_n 3, 1) := by decide +kernel
theorem dX6_steps_120 : decode cX6_steps 120 = .ok (.iload 5, 2) := by decide +kernel
theorem dX6_steps_122 : decode cX6_steps 122 = .ok (.iadd, 1) := by decide +kernel
theorem dX6_steps_123 : decode cX6_steps 123 = .ok (.dup2, 1) := by decide +kernel
theorem dX6_steps_124 : decode cX6_steps 124 = .ok (.iaload, 1) := by decide +kernel
theorem dX6_steps_125 : decode cX6_steps 125 = .ok (.aload_n 0, 1) := by decide +kernel
theorem dX6_steps_126 : decode cX6_steps 126 = .ok (.getfield 49, 3) := by decide +kernel
theorem dX6_steps_129 : decode cX6_steps 129 = .ok (.iload 5, 2) := by decide +kernel
theorem dX6_steps_131 : decode cX6_steps 131 = .ok (.iaload, 1) := by decide +kernel
theorem dX6_steps_132 : decode cX6_steps 132 = .ok (.aload_n 0, 1) := by decide +kernel
theorem dX6_steps_133 : decode cX6_steps 133 = .ok (.getfield 49, 3) := by decide +kernel
theorem dX6_steps_136 : decode cX6_steps 136 = .ok (.iload 5, 2) := by decide +kernel
theorem dX6_steps_138 : decode cX6_steps 138 = .ok (.iconst 1, 1) := by decide +kernel
theorem dX6_steps_139 : decode cX6_steps 139 = .ok (.iadd, 1) := by decide +kernel
theorem dX6_steps_140 : decode cX6_steps 140 = .ok (.iaload, 1) := by decide +kernel
theorem dX6_steps_141 : decode cX6_steps 141 = .ok (.isub, 1) := by decide +kernel
theorem dX6_steps_142 : decode cX6_steps 142 = .ok (.iadd, 1) := by decide +kernel
theorem dX6_steps_143 : decode cX6_steps 143 = .ok (.iastore, 1) := by decide +kernel
theorem dX6_steps_144 : decode cX6_steps 144 = .ok (.iinc 5 1, 3) := by decide +kernel
theorem dX6_steps_147 : decode cX6_steps 147 = .ok (.goto (-39), 3) := by decide +kernel
theorem dX6_steps_150 : decode cX6_steps 150 = .ok (.aload_n 0, 1) := by decide +kernel
theorem dX6_steps_151 : decode cX6_steps 151 = .ok (.getfield 30, 3) := by decide +kernel
theorem dX6_steps_154 : decode cX6_steps 154 = .ok (.iload_n 1, 1) := by decide +kernel
theorem dX6_steps_155 : decode cX6_steps 155 = .ok (.dup2, 1) := by decide +kernel
theorem dX6_steps_156 : decode cX6_steps 156 = .ok (.laload, 1) := by decide +kernel
theorem dX6_steps_157 : decode cX6_steps 157 = .ok (.aload_n 0, 1) := by decide +kernel
theorem dX6_steps_158 : decode cX6_steps 158 = .ok (.getfield 49, 3) := by decide +kernel
theorem dX6_steps_161 : decode cX6_steps 161 = .ok (.iconst 0, 1) := by decide +kernel
theorem dX6_steps_162 : decode cX6_steps 162 = .ok (.iaload, 1) := by decide +kernel
theorem dX6_steps_163 : decode cX6_steps 163 = .ok (.i2l, 1) := by decide +kernel
theorem dX6_steps_164 : decode cX6_steps 164 = .ok (.ladd, 1) := by decide +kernel
theorem dX6_steps_165 : decode cX6_steps 165 = .ok (.lastore, 1) := by decide +kernel
theorem dX6_steps_166 : decode cX6_steps 166 = .ok (.iconst 0, 1) := by decide +kernel
theorem dX6_steps_167 : decode cX6_steps 167 = .ok (.istore 5, 2) := by decide +kernel
theorem dX6_steps_169 : decode cX6_steps 169 = .ok (.iload 5, 2) := by decide +kernel
theorem dX6_steps_171 : decode cX6_steps 171 = .ok (.iload 4, 2) := by decide +kernel
theorem dX6_steps_173 : decode cX6_steps 173 = .ok (.if_icmp .ge 18, 3) := by decide +kernel
theorem dX6_steps_176 : decode cX6_steps 176 = .ok (.aload_n 0, 1) := by decide +kernel
theorem dX6_steps_177 : decode cX6_steps 177 = .ok (.iload_n 1, 1) := by decide +kernel
theorem dX6_steps_178 : decode cX6_steps 178 = .ok (.iload_n 3, 1) := by decide +kernel
theorem dX6_steps_179 : decode cX6_steps 179 = .ok (.iload 5, 2) := by decide +kernel
theorem dX6_steps_181 : decode cX6_steps 181 = .ok (.iadd, 1) := by decide +kernel
theorem dX6_steps_182 : decode cX6_steps 182 = .ok (.invokevirtual 52, 3) := by decide +kernel
theorem dX6_steps_185 : decode cX6_steps 185 = .ok (.iinc 5 1, 3) := by decide +kernel
theorem dX6_steps_188 : decode cX6_steps 188 = .ok (.goto (-19), 3) := by decide +kernel
theorem dX6_steps_191 : decode cX6_steps 191 = .ok (.return_, 1) := by decide +kernel
theorem dX6_turn_0 : decode cX6_turn 0 = .ok (.aload_n 0, 1) := by decide +kernel
theorem dX6_turn_1 : decode cX6_turn 1 = .ok (.getfield 46, 3) := by decide +kernel
theorem dX6_turn_4 : decode cX6_turn 4 = .ok (.iconst 4, 1) := by decide +kernel
theorem dX6_turn_5 : decode cX6_turn 5 = .ok (.iload_n 1, 1) := by decide +kernel
theorem dX6_turn_6 : decode cX6_turn 6 = .ok (.imul, 1) := by decide +kernel
theorem dX6_turn_7 : decode cX6_turn 7 = .ok (.iload_n 2, 1) := by decide +kernel
theorem dX6_turn_8 : decode cX6_turn 8 = .ok (.iadd, 1) := by decide +kernel
theorem dX6_turn_9 : decode cX6_turn 9 = .ok (.iaload, 1) := by decide +kernel
theorem dX6_turn_10 : decode cX6_turn 10 = .ok (.iload 4, 2) := by decide +kernel
theorem dX6_turn_12 : decode cX6_turn 12 = .ok (.if_icmp .ge 16, 3) := by decide +kernel
theorem dX6_turn_15 : decode cX6_turn 15 = .ok (.aload_n 0, 1) := by decide +kernel
theorem dX6_turn_16 : decode cX6_turn 16 = .ok (.getfield 46, 3) := by decide +kernel
theorem dX6_turn_19 : decode cX6_turn 19 = .ok (.iconst 4, 1) := by decide +kernel
theorem dX6_turn_20 : decode cX6_turn 20 = .ok (.iload_n 1, 1) := by decide +kernel
theorem dX6_turn_21 : decode cX6_turn 21 = .ok (.imul, 1) := by decide +kernel
theorem dX6_turn_22 : decode cX6_turn 22 = .ok (.iload_n 2, 1) := by decide +kernel
theorem dX6_turn_23 : decode cX6_turn 23 = .ok (.iadd, 1) := by decide +kernel
theorem dX6_turn_24 : decode cX6_turn 24 = .ok (.iaload, 1) := by decide +kernel
theorem dX6_turn_25 : decode cX6_turn 25 = .ok (.goto 5, 3) := by decide +kernel
theorem dX6_turn_28 : decode cX6_turn 28 = .ok (.iload 4, 2) := by decide +kernel
theorem dX6_turn_30 : decode cX6_turn 30 = .ok (.istore 5, 2) := by decide +kernel
theorem dX6_turn_32 : decode cX6_turn 32 = .ok (.aload_n 0, 1) := by decide +kernel
theorem dX6_turn_33 : decode cX6_turn 33 = .ok (.getfield 46, 3) := by decide +kernel
theorem dX6_turn_36 : decode cX6_turn 36 = .ok (.iconst 4, 1) := by decide +kernel
theorem dX6_turn_37 : decode cX6_turn 37 = .ok (.iload_n 1, 1) := by decide +kernel
theorem dX6_turn_38 : decode cX6_turn 38 = .ok (.imul, 1) := by decide +kernel
theorem dX6_turn_39 : decode cX6_turn 39 = .ok (.iload_n 2, 1) := by decide +kernel
theorem dX6_turn_40 : decode cX6_turn 40 = .ok (.iadd, 1) := by decide +kernel
theorem dX6_turn_41 : decode cX6_turn 41 = .ok (.dup2, 1) := by decide +kernel
theorem dX6_turn_42 : decode cX6_turn 42 = .ok (.iaload, 1) := by decide +kernel
theorem dX6_turn_43 : decode cX6_turn 43 = .ok (.iload 5, 2) := by decide +kernel
theorem dX6_turn_45 : decode cX6_turn 45 = .ok (.isub, 1) := by decide +kernel
theorem dX6_turn_46 : decode cX6_turn 46 = .ok (.iastore, 1) := by decide +kernel
theorem dX6_turn_47 : decode cX6_turn 47 = .ok (.aload_n 0, 1) := by decide +kernel
theorem dX6_turn_48 : decode cX6_turn 48 = .ok (.getfield 46, 3) := by decide +kernel
theorem dX6_turn_51 : decode cX6_turn 51 = .ok (.iconst 4, 1) := by decide +kernel
theorem dX6_turn_52 : decode cX6_turn 52 = .ok (.iload_n 1, 1) := by decide +kernel
theorem dX6_turn_53 : decode cX6_turn 53 = .ok (.imul, 1) := by decide +kernel
theorem dX6_turn_54 : decode cX6_turn 54 = .ok (.iload_n 3, 1) := by decide +kernel
theorem dX6_turn_55 : decode cX6_turn 55 = .ok (.iadd, 1) := by decide +kernel
theorem dX6_turn_56 : decode cX6_turn 56 = .ok (.dup2, 1) := by decide +kernel
theorem dX6_turn_57 : decode cX6_turn 57 = .ok (.iaload, 1) := by decide +kernel
theorem dX6_turn_58 : decode cX6_turn 58 = .ok (.iload 5, 2) := by decide +kernel
theorem dX6_turn_60 : decode cX6_turn 60 = .ok (.iadd, 1) := by decide +kernel
theorem dX6_turn_61 : decode cX6_turn 61 = .ok (.iastore, 1) := by decide +kernel
theorem dX6_turn_62 : decode cX6_turn 62 = .ok (.iload 5, 2) := by decide +kernel
theorem dX6_turn_64 : decode cX6_turn 64 = .ok (.ireturn, 1) := by decide +kernel
theorem dX6_change_0 : decode cX6_change 0 = .ok (.aload_n 0, 1) := by decide +kernel
theorem dX6_change_1 : decode cX6_change 1 = .ok (.getfield 40, 3) := by decide +kernel
theorem dX6_change_4 : decode cX6_change 4 = .ok (.iload_n 2, 1) := by decide +kernel
theorem dX6_change_5 : decode cX6_change 5 = .ok (.iaload, 1) := by decide +kernel
theorem dX6_change_6 : decode cX6_change 6 = .ok (.istore_n 3, 1) := by decide +kernel
theorem dX6_change_7 : decode cX6_change 7 = .ok (.iload_n 3, 1) := by decide +kernel
theorem dX6_change_8 : decode cX6_change 8 = .ok (.sipush 7300, 3) := by decide +kernel
theorem dX6_change_11 : decode cX6_change 11 = .ok (.if_icmp .le 58, 3) := by decide +kernel
theorem dX6_change_14 : decode cX6_change 14 = .ok (.iload_n 3, 1) := by decide +kernel
theorem dX6_change_15 : decode cX6_change 15 = .ok (.sipush 7300, 3) := by decide +kernel
theorem dX6_change_18 : decode cX6_change 18 = .ok (.isub, 1) := by decide +kernel
theorem dX6_change_19 : decode cX6_change 19 = .ok (.bipush 10, 2) := by decide +kernel
theorem dX6_change_21 : decode cX6_change 21 = .ok (.idiv, 1) := by decide +kernel
theorem dX6_change_22 : decode cX6_change 22 = .ok (.istore 4, 2) := by decide +kernel
theorem dX6_change_24 : decode cX6_change 24 = .ok (.iload 4, 2) := by decide +kernel
theorem dX6_change_26 : decode cX6_change 26 = .ok (.aload_n 0, 1) := by decide +kernel
theorem dX6_change_27 : decode cX6_change 27 = .ok (.iload_n 2, 1) := by decide +kernel
theorem dX6_change_28 : decode cX6_change 28 = .ok (.iconst 1, 1) := by decide +kernel
theorem dX6_change_29 : decode cX6_change 29 = .ok (.iconst 0, 1) := by decide +kernel
theorem dX6_change_30 : decode cX6_change 30 = .ok (.iload 4, 2) := by decide +kernel
theorem dX6_change_32 : decode cX6_change 32 = .ok (.invokevirtual 56, 3) := by decide +kernel
theorem dX6_change_35 : decode cX6_change 35 = .ok (.isub, 1) := by decide +kernel
theorem dX6_change_36 : decode cX6_change 36 = .ok (.istore 4, 2) := by decide +kernel
theorem dX6_change_38 : decode cX6_change 38 = .ok (.iload 4, 2) := by decide +kernel
theorem dX6_change_40 : decode cX6_change 40 = .ok (.aload_n 0, 1) := by decide +kernel
theorem dX6_change_41 : decode cX6_change 41 = .ok (.iload_n 2, 1) := by decide +kernel
theorem dX6_change_42 : decode cX6_change 42 = .ok (.iconst 2, 1) := by decide +kernel
theorem dX6_change_43 : decode cX6_change 43 = .ok (.iconst 0, 1) := by decide +kernel
theorem dX6_change_44 : decode cX6_change 44 = .ok (.iload 4, 2) := by decide +kernel
theorem dX6_change_46 : decode cX6_change 46 = .ok (.invokevirtual 56, 3) := by decide +kernel
theorem dX6_change_49 : decode cX6_change 49 = .ok (.isub, 1) := by decide +kernel
theorem dX6_change_50 : decode cX6_change 50 = .ok (.istore 4, 2) := by decide +kernel
theorem dX6_change_52 : decode cX6_change 52 = .ok (.iload 4, 2) := by decide +kernel
theorem dX6_change_54 : decode cX6_change 54 = .ok (.aload_n 0, 1) := by decide +kernel
theorem dX6_change_55 : decode cX6_change 55 = .ok (.iload_n 2, 1) := by decide +kernel
theorem dX6_change_56 : decode cX6_change 56 = .ok (.iconst 3, 1) := by decide +kernel
theorem dX6_change_57 : decode cX6_change 57 = .ok (.iconst 0, 1) := by decide +kernel
theorem dX6_change_58 : decode cX6_change 58 = .ok (.iload 4, 2) := by decide +kernel
theorem dX6_change_60 : decode cX6_change 60 = .ok (.invokevirtual 56, 3) := by decide +kernel
theorem dX6_change_63 : decode cX6_change 63 = .ok (.isub, 1) := by decide +kernel
theorem dX6_change_64 : decode cX6_change 64 = .ok (.istore 4, 2) := by decide +kernel
theorem dX6_change_66 : decode cX6_change 66 = .ok (.goto 119, 3) := by decide +kernel
theorem dX6_change_69 : decode cX6_change 69 = .ok (.iload_n 3, 1) := by decide +kernel
theorem dX6_change_70 : decode cX6_change 70 = .ok (.sipush 5500, 3) := by decide +kernel
theorem dX6_change_73 : decode cX6_change 73 = .ok (.if_icmp .lt 21, 3) := by decide +kernel
theorem dX6_change_76 : decode cX6_change 76 = .ok (.aload_n 0, 1) := by decide +kernel
theorem dX6_change_77 : decode cX6_change 77 = .ok (.iload_n 2, 1) := by decide +kernel
theorem dX6_change_78 : decode cX6_change 78 = .ok (.iconst 0, 1) := by decide +kernel
theorem dX6_change_79 : decode cX6_change 79 = .ok (.iconst 1, 1) := by decide +kernel
theorem dX6_change_80 : decode cX6_change 80 = .ok (.aload_n 0, 1) := by decide +kernel
theorem dX6_change_81 : decode cX6_change 81 = .ok (.getfield 24, 3) := by decide +kernel
theorem dX6_change_84 : decode cX6_change 84 = .ok (.iload_n 1, 1) := by decide +kernel
theorem dX6_change_85 : decode cX6_change 85 = .ok (.iaload, 1) := by decide +kernel
theorem dX6_change_86 : decode cX6_change 86 = .ok (.invokevirtual 56, 3) := by decide +kernel
theorem dX6_change_89 : decode cX6_change 89 = .ok (.istore 4, 2) := by decide +kernel
theorem dX6_change_91 : decode cX6_change 91 = .ok (.goto 94, 3) := by decide +kernel
theorem dX6_change_94 : decode cX6_change 94 = .ok (.iload_n 3, 1) := by decide +kernel
theorem dX6_change_95 : decode cX6_change 95 = .ok (.sipush 3000, 3) := by decide +kernel
theorem dX6_change_98 : decode cX6_change 98 = .ok (.if_icmp .lt 21, 3) := by decide +kernel
theorem dX6_change_101 : decode cX6_change 101 = .ok (.aload_n 0, 1) := by decide +kernel
theorem dX6_change_102 : decode cX6_change 102 = .ok (.iload_n 2, 1) := by decide +kernel
theorem dX6_change_103 : decode cX6_change 103 = .ok (.iconst 0, 1) := by decide +kernel
theorem dX6_change_104 : decode cX6_change 104 = .ok (.iconst 2, 1) := by decide +kernel
theorem dX6_change_105 : decode cX6_change 105 = .ok (.aload_n 0, 1) := by decide +kernel
theorem dX6_change_106 : decode cX6_change 106 = .ok (.getfield 27, 3) := by decide +kernel
theorem dX6_change_109 : decode cX6_change 109 = .ok (.iload_n 1, 1) := by decide +kernel
theorem dX6_change_110 : decode cX6_change 110 = .ok (.iaload, 1) := by decide +kernel
theorem dX6_change_111 : decode cX6_change 111 = .ok (.invokevirtual 56, 3) := by decide +kernel
theorem dX6_change_114 : decode cX6_change 114 = .ok (.istore 4, 2) := by decide +kernel
theorem dX6_change_116 : decode cX6_change 116 = .ok (.goto 69, 3) := by decide +kernel
theorem dX6_change_119 : decode cX6_change 119 = .ok (.aload_n 0, 1) := by decide +kernel
theorem dX6_change_120 : decode cX6_change 120 = .ok (.getfield 46, 3) := by decide +kernel
theorem dX6_change_123 : decode cX6_change 123 = .ok (.iconst 4, 1) := by decide +kernel
theorem dX6_change_124 : decode cX6_change 124 = .ok (.iload_n 2, 1) := by decide +kernel
theorem dX6_change_125 : decode cX6_change 125 = .ok (.imul, 1) := by decide +kernel
theorem dX6_change_126 : decode cX6_change 126 = .ok (.iaload, 1) := by decide +kernel
theorem dX6_change_127 : decode cX6_change 127 = .ok (.aload_n 0, 1) := by decide +kernel
theorem dX6_change_128 : decode cX6_change 128 = .ok (.getfield 46, 3) := by decide +kernel
theorem dX6_change_131 : decode cX6_change 131 = .ok (.iconst 4, 1) := by decide +kernel
theorem dX6_change_132 : decode cX6_change 132 = .ok (.iload_n 2, 1) := by decide +kernel
theorem dX6_change_133 : decode cX6_change 133 = .ok (.imul, 1) := by decide +kernel
theorem dX6_change_134 : decode cX6_change 134 = .ok (.iconst 3, 1) := by decide +kernel
theorem dX6_change_135 : decode cX6_change 135 = .ok (.iadd, 1) := by decide +kernel
theorem dX6_change_136 : decode cX6_change 136 = .ok (.iaload, 1) := by decide +kernel
theorem dX6_change_137 : decode cX6_change 137 = .ok (.iadd, 1) := by decide +kernel
theorem dX6_change_138 : decode cX6_change 138 = .ok (.sipush 3000, 3) := by decide +kernel
theorem dX6_change_141 : decode cX6_change 141 = .ok (.iload_n 3, 1) := by decide +kernel
theorem dX6_change_142 : decode cX6_change 142 = .ok (.isub, 1) := by decide +kernel
theorem dX6_change_143 : decode cX6_change 143 = .ok (.imul, 1) := by decide +kernel
theorem dX6_change_144 : decode cX6_change 144 = .ok (.sipush 2600, 3) := by decide +kernel
theorem dX6_change_147 : decode cX6_change 147 = .ok (.idiv, 1) := by decide +kernel
theorem dX6_change_148 : decode cX6_change 148 = .ok (.istore 4, 2) := by decide +kernel
theorem dX6_change_150 : decode cX6_change 150 = .ok (.iload 4, 2) := by decide +kernel
theorem dX6_change_152 : decode cX6_change 152 = .ok (.aload_n 0, 1) := by decide +kernel
theorem dX6_change_153 : decode cX6_change 153 = .ok (.getfield 46, 3) := by decide +kernel
theorem dX6_change_156 : decode cX6_change 156 = .ok (.iconst 4, 1) := by decide +kernel
theorem dX6_change_157 : decode cX6_change 157 = .ok (.iload_n 2, 1) := by decide +kernel
theorem dX6_change_158 : decode cX6_change 158 = .ok (.imul, 1) := by decide +kernel
theorem dX6_change_159 : decode cX6_change 159 = .ok (.iconst 3, 1) := by decide +kernel
theorem dX6_change_160 : decode cX6_change 160 = .ok (.iadd, 1) := by decide +kernel
theorem dX6_change_161 : decode cX6_change 161 = .ok (.iaload, 1) := by decide +kernel
theorem dX6_change_162 : decode cX6_change 162 = .ok (.isub, 1) := by decide +kernel
theorem dX6_change_163 : decode cX6_change 163 = .ok (.istore 5, 2) := by decide +kernel
theorem dX6_change_165 : decode cX6_change 165 = .ok (.iload 5, 2) := by decide +kernel
theorem dX6_change_167 : decode cX6_change 167 = .ok (.ifCond .le 15, 3) := by decide +kernel
theorem dX6_change_170 : decode cX6_change 170 = .ok (.aload_n 0, 1) := by decide +kernel
theorem dX6_change_171 : decode cX6_change 171 = .ok (.iload_n 2, 1) := by decide +kernel
theorem dX6_change_172 : decode cX6_change 172 = .ok (.iconst 0, 1) := by decide +kernel
theorem dX6_change_173 : decode cX6_change 173 = .ok (.iconst 3, 1) := by decide +kernel
theorem dX6_change_174 : decode cX6_change 174 = .ok (.iload 5, 2) := by decide +kernel
theorem dX6_change_176 : decode cX6_change 176 = .ok (.invokevirtual 56, 3) := by decide +kernel
theorem dX6_change_179 : decode cX6_change 179 = .ok (.goto 4, 3) := by decide +kernel
theorem dX6_change_182 : decode cX6_change 182 = .ok (.iconst 0, 1) := by decide +kernel
theorem dX6_change_183 : decode cX6_change 183 = .ok (.istore 6, 2) := by decide +kernel
theorem dX6_change_185 : decode cX6_change 185 = .ok (.iload_n 3, 1) := by decide +kernel
theorem dX6_change_186 : decode cX6_change 186 = .ok (.sipush 1500, 3) := by decide +kernel
theorem dX6_change_189 : decode cX6_change 189 = .ok (.sipush 6500, 3) := by decide +kernel
theorem dX6_change_192 : decode cX6_change 192 = .ok (.invokestatic 1, 3) := by decide +kernel
theorem dX6_change_195 : decode cX6_change 195 = .ok (.ifCond .eq 33, 3) := by decide +kernel
theorem dX6_change_198 : decode cX6_change 198 = .ok (.aload_n 0, 1) := by decide +kernel
theorem dX6_change_199 : decode cX6_change 199 = .ok (.getfield 46, 3) := by decide +kernel
theorem dX6_change_202 : decode cX6_change 202 = .ok (.iconst 4, 1) := by decide +kernel
theorem dX6_change_203 : decode cX6_change 203 = .ok (.iload_n 2, 1) := by decide +kernel
theorem dX6_change_204 : decode cX6_change 204 = .ok (.imul, 1) := by decide +kernel
theorem dX6_change_205 : decode cX6_change 205 = .ok (.iconst 3, 1) := by decide +kernel
theorem dX6_change_206 : decode cX6_change 206 = .ok (.iadd, 1) := by decide +kernel
theorem dX6_change_207 : decode cX6_change 207 = .ok (.iaload, 1) := by decide +kernel
theorem dX6_change_208 : decode cX6_change 208 = .ok (.ifCond .le 20, 3) := by decide +kernel
theorem dX6_change_211 : decode cX6_change 211 = .ok (.aload_n 0, 1) := by decide +kernel
theorem dX6_change_212 : decode cX6_change 212 = .ok (.getfield 43, 3) := by decide +kernel
theorem dX6_change_215 : decode cX6_change 215 = .ok (.iload_n 2, 1) := by decide +kernel
theorem dX6_change_216 : decode cX6_change 216 = .ok (.dup2, 1) := by decide +kernel
theorem dX6_change_217 : decode cX6_change 217 = .ok (.iaload, 1) := by decide +kernel
theorem dX6_change_218 : decode cX6_change 218 = .ok (.iload_n 3, 1) := by decide +kernel
theorem dX6_change_219 : decode cX6_change 219 = .ok (.sipush 1500, 3) := by decide +kernel
theorem dX6_change_222 : decode cX6_change 222 = .ok (.isub, 1) := by decide +kernel
theorem dX6_change_223 : decode cX6_change 223 = .ok (.bipush 100, 2) := by decide +kernel
theorem dX6_change_225 : decode cX6_change 225 = .ok (.idiv, 1) := by decide +kernel
theorem dX6_change_226 : decode cX6_change 226 = .ok (.iadd, 1) := by decide +kernel
theorem dX6_change_227 : decode cX6_change 227 = .ok (.iastore, 1) := by decide +kernel
theorem dX6_change_228 : decode cX6_change 228 = .ok (.aload_n 0, 1) := by decide +kernel
theorem dX6_change_229 : decode cX6_change 229 = .ok (.getfield 43, 3) := by decide +kernel
theorem dX6_change_232 : decode cX6_change 232 = .ok (.iload_n 2, 1) := by decide +kernel
theorem dX6_change_233 : decode cX6_change 233 = .ok (.aload_n 0, 1) := by decide +kernel
theorem dX6_change_234 : decode cX6_change 234 = .ok (.getfield 46, 3) := by decide +kernel
theorem dX6_change_237 : decode cX6_change 237 = .ok (.iconst 4, 1) := by decide +kernel
theorem dX6_change_238 : decode cX6_change 238 = .ok (.iload_n 2, 1) := by decide +kernel
theorem dX6_change_239 : decode cX6_change 239 = .ok (.imul, 1) := by decide +kernel
theorem dX6_change_240 : decode cX6_change 240 = .ok (.iaload, 1) := by decide +kernel
theorem dX6_change_241 : decode cX6_change 241 = .ok (.sipush 500, 3) := by decide +kernel
theorem dX6_change_244 : decode cX6_change 244 = .ok (.if_icmp .le 7, 3) := by decide +kernel
theorem dX6_change_247 : decode cX6_change 247 = .ok (.iconst 0, 1) := by decide +kernel
theorem dX6_change_248 : decode cX6_change 248 = .ok (.goto 9, 3) := by decide +kernel
theorem dX6_change_251 : decode cX6_change 251 = .ok (.aload_n 0, 1) := by decide +kernel
theorem dX6_change_252 : decode cX6_change 252 = .ok (.getfield 43, 3) := by decide +kernel
theorem dX6_change_255 : decode cX6_change 255 = .ok (.iload_n 2, 1) := by decide +kernel
theorem dX6_change_256 : decode cX6_change 256 = .ok (.iaload, 1) := by decide +kernel
theorem dX6_change_257 : decode cX6_change 257 = .ok (.iastore, 1) := by decide +kernel
theorem dX6_change_258 : decode cX6_change 258 = .ok (.return_, 1) := by decide +kernel
theorem dX6_hardness_0 : decode cX6_hardness 0 = .ok (.aload_n 0, 1) := by decide +kernel
theorem dX6_hardness_1 : decode cX6_hardness 1 = .ok (.getfield 43, 3) := by decide +kernel
theorem dX6_hardness_4 : decode cX6_hardness 4 = .ok (.iload_n 1, 1) := by decide +kernel
theorem dX6_hardness_5 : decode cX6_hardness 5 = .ok (.iaload, 1) := by decide +kernel
theorem dX6_hardness_6 : decode cX6_hardness 6 = .ok (.bipush 50, 2) := by decide +kernel
theorem dX6_hardness_8 : decode cX6_hardness 8 = .ok (.idiv, 1) := by decide +kernel
theorem dX6_hardness_9 : decode cX6_hardness 9 = .ok (.sipush 400, 3) := by decide +kernel
theorem dX6_hardness_12 : decode cX6_hardness 12 = .ok (.if_icmp .ge 15, 3) := by decide +kernel
theorem dX6_hardness_15 : decode cX6_hardness 15 = .ok (.aload_n 0, 1) := by decide +kernel
theorem dX6_hardness_16 : decode cX6_hardness 16 = .ok (.getfield 43, 3) := by decide +kernel
theorem dX6_hardness_19 : decode cX6_hardness 19 = .ok (.iload_n 1, 1) := by decide +kernel
theorem dX6_hardness_20 : decode cX6_hardness 20 = .ok (.iaload, 1) := by decide +kernel
theorem dX6_hardness_21 : decode cX6_hardness 21 = .ok (.bipush 50, 2) := by decide +kernel
theorem dX6_hardness_23 : decode cX6_hardness 23 = .ok (.idiv, 1) := by decide +kernel
theorem dX6_hardness_24 : decode cX6_hardness 24 = .ok (.goto 6, 3) := by decide +kernel
theorem dX6_hardness_27 : decode cX6_hardness 27 = .ok (.sipush 400, 3) := by decide +kernel
theorem dX6_hardness_30 : decode cX6_hardness 30 = .ok (.istore_n 2, 1) := by decide +kernel
theorem dX6_hardness_31 : decode cX6_hardness 31 = .ok (.sipush 800, 3) := by decide +kernel
theorem dX6_hardness_34 : decode cX6_hardness 34 = .ok (.iload_n 2, 1) := by decide +kernel
theorem dX6_hardness_35 : decode cX6_hardness 35 = .ok (.isub, 1) := by decide +kernel
theorem dX6_hardness_36 : decode cX6_hardness 36 = .ok (.istore_n 3, 1) := by decide +kernel
theorem dX6_hardness_37 : decode cX6_hardness 37 = .ok (.sipush 200, 3) := by decide +kernel
theorem dX6_hardness_40 : decode cX6_hardness 40 = .ok (.aload_n 0, 1) := by decide +kernel
theorem dX6_hardness_41 : decode cX6_hardness 41 = .ok (.getfield 46, 3) := by decide +kernel
theorem dX6_hardness_44 : decode cX6_hardness 44 = .ok (.iconst 4, 1) := by decide +kernel
theorem dX6_hardness_45 : decode cX6_hardness 45 = .ok (.iload_n 1, 1) := by decide +kernel
theorem dX6_hardness_46 : decode cX6_hardness 46 = .ok (.imul, 1) := by decide +kernel
theorem dX6_hardness_47 : decode cX6_hardness 47 = .ok (.iaload, 1) := by decide +kernel
theorem dX6_hardness_48 : decode cX6_hardness 48 = .ok (.imul, 1) := by decide +kernel
theorem dX6_hardness_49 : decode cX6_hardness 49 = .ok (.sipush 250, 3) := by decide +kernel
theorem dX6_hardness_52 : decode cX6_hardness 52 = .ok (.aload_n 0, 1) := by decide +kernel
theorem dX6_hardness_53 : decode cX6_hardness 53 = .ok (.getfield 46, 3) := by decide +kernel
theorem dX6_hardness_56 : decode cX6_hardness 56 = .ok (.iconst 4, 1) := by decide +kernel
theorem dX6_hardness_57 : decode cX6_hardness 57 = .ok (.iload_n 1, 1) := by decide +kernel
theorem dX6_hardness_58 : decode cX6_hardness 58 = .ok (.imul, 1) := by decide +kernel
theorem dX6_hardness_59 : decode cX6_hardness 59 = .ok (.iconst 1, 1) := by decide +kernel
theorem dX6_hardness_60 : decode cX6_hardness 60 = .ok (.iadd, 1) := by decide +kernel
theorem dX6_hardness_61 : decode cX6_hardness 61 = .ok (.iaload, 1) := by decide +kernel
theorem dX6_hardness_62 : decode cX6_hardness 62 = .ok (.imul, 1) := by decide +kernel
theorem dX6_hardness_63 : decode cX6_hardness 63 = .ok (.iadd, 1) := by decide +kernel
theorem dX6_hardness_64 : decode cX6_hardness 64 = .ok (.sipush 450, 3) := by decide +kernel
theorem dX6_hardness_67 : decode cX6_hardness 67 = .ok (.aload_n 0, 1) := by decide +kernel
theorem dX6_hardness_68 : decode cX6_hardness 68 = .ok (.getfield 46, 3) := by decide +kernel
theorem dX6_hardness_71 : decode cX6_hardness 71 = .ok (.iconst 4, 1) := by decide +kernel
theorem dX6_hardness_72 : decode cX6_hardness 72 = .ok (.iload_n 1, 1) := by decide +kernel
theorem dX6_hardness_73 : decode cX6_hardness 73 = .ok (.imul, 1) := by decide +kernel
theorem dX6_hardness_74 : decode cX6_hardness 74 = .ok (.iconst 2, 1) := by decide +kernel
theorem dX6_hardness_75 : decode cX6_hardness 75 = .ok (.iadd, 1) := by decide +kernel
theorem dX6_hardness_76 : decode cX6_hardness 76 = .ok (.iaload, 1) := by decide +kernel
theorem dX6_hardness_77 : decode cX6_hardness 77 = .ok (.imul, 1) := by decide +kernel
theorem dX6_hardness_78 : decode cX6_hardness 78 = .ok (.iadd, 1) := by decide +kernel
theorem dX6_hardness_79 : decode cX6_hardness 79 = .ok (.iload_n 3, 1) := by decide +kernel
theorem dX6_hardness_80 : decode cX6_hardness 80 = .ok (.aload_n 0, 1) := by decide +kernel
theorem dX6_hardness_81 : decode cX6_hardness 81 = .ok (.getfield 46, 3) := by decide +kernel
theorem dX6_hardness_84 : decode cX6_hardness 84 = .ok (.iconst 4, 1) := by decide +kernel
theorem dX6_hardness_85 : decode cX6_hardness 85 = .ok (.iload_n 1, 1) := by decide +kernel
theorem dX6_hardness_86 : decode cX6_hardness 86 = .ok (.imul, 1) := by decide +kernel
theorem dX6_hardness_87 : decode cX6_hardness 87 = .ok (.iconst 3, 1) := by decide +kernel
theorem dX6_hardness_88 : decode cX6_hardness 88 = .ok (.iadd, 1) := by decide +kernel
theorem dX6_hardness_89 : decode cX6_hardness 89 = .ok (.iaload, 1) := by decide +kernel
theorem dX6_hardness_90 : decode cX6_hardness 90 = .ok (.imul, 1) := by decide +kernel
theorem dX6_hardness_91 : decode cX6_hardness 91 = .ok (.iadd, 1) := by decide +kernel
theorem dX6_hardness_92 : decode cX6_hardness 92 = .ok (.sipush 1000, 3) := by decide +kernel
theorem dX6_hardness_95 : decode cX6_hardness 95 = .ok (.idiv, 1) := by decide +kernel
theorem dX6_hardness_96 : decode cX6_hardness 96 = .ok (.ireturn, 1) := by decide +kernel
theorem dX6_innermost_0 : decode cX6_innermost 0 = .ok (.aload_n 0, 1) := by decide +kernel
theorem dX6_innermost_1 : decode cX6_innermost 1 = .ok (.getfield 40, 3) := by decide +kernel
theorem dX6_innermost_4 : decode cX6_innermost 4 = .ok (.bipush 6, 2) := by decide +kernel
theorem dX6_innermost_6 : decode cX6_innermost 6 = .ok (.iload_n 1, 1) := by decide +kernel
theorem dX6_innermost_7 : decode cX6_innermost 7 = .ok (.imul, 1) := by decide +kernel
theorem dX6_innermost_8 : decode cX6_innermost 8 = .ok (.aload_n 0, 1) := by decide +kernel
theorem dX6_innermost_9 : decode cX6_innermost 9 = .ok (.getfield 11, 3) := by decide +kernel
theorem dX6_innermost_12 : decode cX6_innermost 12 = .ok (.iload_n 1, 1) := by decide +kernel
theorem dX6_innermost_13 : decode cX6_innermost 13 = .ok (.iaload, 1) := by decide +kernel
theorem dX6_innermost_14 : decode cX6_innermost 14 = .ok (.iadd, 1) := by decide +kernel
theorem dX6_innermost_15 : decode cX6_innermost 15 = .ok (.iconst 1, 1) := by decide +kernel
theorem dX6_innermost_16 : decode cX6_innermost 16 = .ok (.isub, 1) := by decide +kernel
theorem dX6_innermost_17 : decode cX6_innermost 17 = .ok (.iaload, 1) := by decide +kernel
theorem dX6_innermost_18 : decode cX6_innermost 18 = .ok (.ireturn, 1) := by decide +kernel
theorem dX6_step_0 : decode cX6_step 0 = .ok (.aload_n 0, 1) := by decide +kernel
theorem dX6_step_1 : decode cX6_step 1 = .ok (.iload_n 1, 1) := by decide +kernel
theorem dX6_step_2 : decode cX6_step 2 = .ok (.invokevirtual 60, 3) := by decide +kernel
theorem dX6_step_5 : decode cX6_step 5 = .ok (.ifCond .eq 27, 3) := by decide +kernel
theorem dX6_step_8 : decode cX6_step 8 = .ok (.iload_n 2, 1) := by decide +kernel
theorem dX6_step_9 : decode cX6_step 9 = .ok (.sipush (-1000), 3) := by decide +kernel
theorem dX6_step_12 : decode cX6_step 12 = .ok (.sipush 12000, 3) := by decide +kernel
theorem dX6_step_15 : decode cX6_step 15 = .ok (.invokestatic 1, 3) := by decide +kernel
theorem dX6_step_18 : decode cX6_step 18 = .ok (.ifCond .eq 14, 3) := by decide +kernel
theorem dX6_step_21 : decode cX6_step 21 = .ok (.iload_n 3, 1) := by decide +kernel
theorem dX6_step_22 : decode cX6_step 22 = .ok (.iconst 1, 1) := by decide +kernel
theorem dX6_step_23 : decode cX6_step 23 = .ok (.sipush 200, 3) := by decide +kernel
theorem dX6_step_26 : decode cX6_step 26 = .ok (.invokestatic 1, 3) := by decide +kernel
theorem dX6_step_29 : decode cX6_step 29 = .ok (.ifCond .ne 6, 3) := by decide +kernel
theorem dX6_step_32 : decode cX6_step 32 = .ok (.bipush (-2), 2) := by decide +kernel
theorem dX6_step_34 : decode cX6_step 34 = .ok (.ireturn, 1) := by decide +kernel
theorem dX6_step_35 : decode cX6_step 35 = .ok (.aload_n 0, 1) := by decide +kernel
theorem dX6_step_36 : decode cX6_step 36 = .ok (.getfield 34, 3) := by decide +kernel
theorem dX6_step_39 : decode cX6_step 39 = .ok (.iload_n 1, 1) := by decide +kernel
theorem dX6_step_40 : decode cX6_step 40 = .ok (.iaload, 1) := by decide +kernel
theorem dX6_step_41 : decode cX6_step 41 = .ok (.iconst (-1), 1) := by decide +kernel
theorem dX6_step_42 : decode cX6_step 42 = .ok (.if_icmp .eq 6, 3) := by decide +kernel
theorem dX6_step_45 : decode cX6_step 45 = .ok (.bipush (-3), 2) := by decide +kernel
theorem dX6_step_47 : decode cX6_step 47 = .ok (.ireturn, 1) := by decide +kernel
theorem dX6_step_48 : decode cX6_step 48 = .ok (.iconst 0, 1) := by decide +kernel
theorem dX6_step_49 : decode cX6_step 49 = .ok (.istore 4, 2) := by decide +kernel
theorem dX6_step_51 : decode cX6_step 51 = .ok (.iload 4, 2) := by decide +kernel
theorem dX6_step_53 : decode cX6_step 53 = .ok (.iload_n 3, 1) := by decide +kernel
theorem dX6_step_54 : decode cX6_step 54 = .ok (.if_icmp .ge 15, 3) := by decide +kernel
theorem dX6_step_57 : decode cX6_step 57 = .ok (.aload_n 0, 1) := by decide +kernel
theorem dX6_step_58 : decode cX6_step 58 = .ok (.iload_n 1, 1) := by decide +kernel
theorem dX6_step_59 : decode cX6_step 59 = .ok (.iload_n 2, 1) := by decide +kernel
theorem dX6_step_60 : decode cX6_step 60 = .ok (.invokevirtual 64, 3) := by decide +kernel
theorem dX6_step_63 : decode cX6_step 63 = .ok (.iinc 4 1, 3) := by decide +kernel
theorem dX6_step_66 : decode cX6_step 66 = .ok (.goto (-15), 3) := by decide +kernel
theorem dX6_step_69 : decode cX6_step 69 = .ok (.aload_n 0, 1) := by decide +kernel
theorem dX6_step_70 : decode cX6_step 70 = .ok (.iload_n 1, 1) := by decide +kernel
theorem dX6_step_71 : decode cX6_step 71 = .ok (.invokevirtual 67, 3) := by decide +kernel
theorem dX6_step_74 : decode cX6_step 74 = .ok (.ireturn, 1) := by decide +kernel
theorem dX6_shell_0 : decode cX6_shell 0 = .ok (.aload_n 0, 1) := by decide +kernel
theorem dX6_shell_1 : decode cX6_shell 1 = .ok (.iload_n 1, 1) := by decide +kernel
theorem dX6_shell_2 : decode cX6_shell 2 = .ok (.invokevirtual 60, 3) := by decide +kernel
theorem dX6_shell_5 : decode cX6_shell 5 = .ok (.ifCond .eq 29, 3) := by decide +kernel
theorem dX6_shell_8 : decode cX6_shell 8 = .ok (.iload_n 2, 1) := by decide +kernel
theorem dX6_shell_9 : decode cX6_shell 9 = .ok (.iconst 0, 1) := by decide +kernel
theorem dX6_shell_10 : decode cX6_shell 10 = .ok (.aload_n 0, 1) := by decide +kernel
theorem dX6_shell_11 : decode cX6_shell 11 = .ok (.getfield 11, 3) := by decide +kernel
theorem dX6_shell_14 : decode cX6_shell 14 = .ok (.iload_n 1, 1) := by decide +kernel
theorem dX6_shell_15 : decode cX6_shell 15 = .ok (.iaload, 1) := by decide +kernel
theorem dX6_shell_16 : decode cX6_shell 16 = .ok (.iconst 1, 1) := by decide +kernel
theorem dX6_shell_17 : decode cX6_shell 17 = .ok (.isub, 1) := by decide +kernel
theorem dX6_shell_18 : decode cX6_shell 18 = .ok (.invokestatic 1, 3) := by decide +kernel
theorem dX6_shell_21 : decode cX6_shell 21 = .ok (.ifCond .eq 13, 3) := by decide +kernel
theorem dX6_shell_24 : decode cX6_shell 24 = .ok (.iload_n 3, 1) := by decide +kernel
theorem dX6_shell_25 : decode cX6_shell 25 = .ok (.iconst 0, 1) := by decide +kernel
theorem dX6_shell_26 : decode cX6_shell 26 = .ok (.bipush 6, 2) := by decide +kernel
theorem dX6_shell_28 : decode cX6_shell 28 = .ok (.invokestatic 1, 3) := by decide +kernel
theorem dX6_shell_31 : decode cX6_shell 31 = .ok (.ifCond .ne 6, 3) := by decide +kernel
theorem dX6_shell_34 : decode cX6_shell 34 = .ok (.ldc 71, 2) := by decide +kernel
theorem dX6_shell_36 : decode cX6_shell 36 = .ok (.ireturn, 1) := by decide +kernel
theorem dX6_shell_37 : decode cX6_shell 37 = .ok (.bipush 6, 2) := by decide +kernel
theorem dX6_shell_39 : decode cX6_shell 39 = .ok (.iload_n 1, 1) := by decide +kernel
theorem dX6_shell_40 : decode cX6_shell 40 = .ok (.imul, 1) := by decide +kernel
theorem dX6_shell_41 : decode cX6_shell 41 = .ok (.iload_n 2, 1) := by decide +kernel
theorem dX6_shell_42 : decode cX6_shell 42 = .ok (.iadd, 1) := by decide +kernel
theorem dX6_shell_43 : decode cX6_shell 43 = .ok (.istore 4, 2) := by decide +kernel
theorem dX6_shell_45 : decode cX6_shell 45 = .ok (.iload_n 3, 1) := by decide +kernel
theorem dX6_shell_46 : decode cX6_shell 46 = .ok (.ifCond .ne 13, 3) := by decide +kernel
theorem dX6_shell_49 : decode cX6_shell 49 = .ok (.aload_n 0, 1) := by decide +kernel
theorem dX6_shell_50 : decode cX6_shell 50 = .ok (.getfield 40, 3) := by decide +kernel
theorem dX6_shell_53 : decode cX6_shell 53 = .ok (.iload 4, 2) := by decide +kernel
theorem dX6_shell_55 : decode cX6_shell 55 = .ok (.iaload, 1) := by decide +kernel
theorem dX6_shell_56 : decode cX6_shell 56 = .ok (.goto 45, 3) := by decide +kernel
theorem dX6_shell_59 : decode cX6_shell 59 = .ok (.iload_n 3, 1) := by decide +kernel
theorem dX6_shell_60 : decode cX6_shell 60 = .ok (.iconst 5, 1) := by decide +kernel
theorem dX6_shell_61 : decode cX6_shell 61 = .ok (.if_icmp .ge 19, 3) := by decide +kernel
theorem dX6_shell_64 : decode cX6_shell 64 = .ok (.aload_n 0, 1) := by decide +kernel
theorem dX6_shell_65 : decode cX6_shell 65 = .ok (.getfield 46, 3) := by decide +kernel
theorem dX6_shell_68 : decode cX6_shell 68 = .ok (.iconst 4, 1) := by decide +kernel
theorem dX6_shell_69 : decode cX6_shell 69 = .ok (.iload 4, 2) := by decide +kernel
theorem dX6_shell_71 : decode cX6_shell 71 = .ok (.imul, 1) := by decide +kernel
theorem dX6_shell_72 : decode cX6_shell 72 = .ok (.iload_n 3, 1) := by decide +kernel
theorem dX6_shell_73 : decode cX6_shell 73 = .ok (.iadd, 1) := by decide +kernel
theorem dX6_shell_74 : decode cX6_shell 74 = .ok (.iconst 1, 1) := by decide +kernel
theorem dX6_shell_75 : decode cX6_shell 75 = .ok (.isub, 1) := by decide +kernel
theorem dX6_shell_76 : decode cX6_shell 76 = .ok (.iaload, 1) := by decide +kernel
theorem dX6_shell_77 : decode cX6_shell 77 = .ok (.goto 24, 3) := by decide +kernel
theorem dX6_shell_80 : decode cX6_shell 80 = .ok (.iload_n 3, 1) := by decide +kernel
theorem dX6_shell_81 : decode cX6_shell 81 = .ok (.iconst 5, 1) := by decide +kernel
theorem dX6_shell_82 : decode cX6_shell 82 = .ok (.if_icmp .ne 13, 3) := by decide +kernel
theorem dX6_shell_85 : decode cX6_shell 85 = .ok (.aload_n 0, 1) := by decide +kernel
theorem dX6_shell_86 : decode cX6_shell 86 = .ok (.getfield 43, 3) := by decide +kernel
theorem dX6_shell_89 : decode cX6_shell 89 = .ok (.iload 4, 2) := by decide +kernel
theorem dX6_shell_91 : decode cX6_shell 91 = .ok (.iaload, 1) := by decide +kernel
theorem dX6_shell_92 : decode cX6_shell 92 = .ok (.goto 9, 3) := by decide +kernel
theorem dX6_shell_95 : decode cX6_shell 95 = .ok (.aload_n 0, 1) := by decide +kernel
theorem dX6_shell_96 : decode cX6_shell 96 = .ok (.iload 4, 2) := by decide +kernel
theorem dX6_shell_98 : decode cX6_shell 98 = .ok (.invokevirtual 72, 3) := by decide +kernel
theorem dX6_shell_101 : decode cX6_shell 101 = .ok (.ireturn, 1) := by decide +kernel
theorem dX6_taken_0 : decode cX6_taken 0 = .ok (.aload_n 0, 1) := by decide +kernel
theorem dX6_taken_1 : decode cX6_taken 1 = .ok (.iload_n 1, 1) := by decide +kernel
theorem dX6_taken_2 : decode cX6_taken 2 = .ok (.invokevirtual 60, 3) := by decide +kernel
theorem dX6_taken_5 : decode cX6_taken 5 = .ok (.ifCond .eq 12, 3) := by decide +kernel
theorem dX6_taken_8 : decode cX6_taken 8 = .ok (.aload_n 0, 1) := by decide +kernel
theorem dX6_taken_9 : decode cX6_taken 9 = .ok (.getfield 30, 3) := by decide +kernel
theorem dX6_taken_12 : decode cX6_taken 12 = .ok (.iload_n 1, 1) := by decide +kernel
theorem dX6_taken_13 : decode cX6_taken 13 = .ok (.laload, 1) := by decide +kernel
theorem dX6_taken_14 : decode cX6_taken 14 = .ok (.goto 6, 3) := by decide +kernel
theorem dX6_taken_17 : decode cX6_taken 17 = .ok (.ldc2_w 75, 3) := by decide +kernel
theorem dX6_taken_20 : decode cX6_taken 20 = .ok (.lreturn, 1) := by decide +kernel
theorem dX6_kept_0 : decode cX6_kept 0 = .ok (.aload_n 0, 1) := by decide +kernel
theorem dX6_kept_1 : decode cX6_kept 1 = .ok (.iload_n 1, 1) := by decide +kernel
theorem dX6_kept_2 : decode cX6_kept 2 = .ok (.invokevirtual 60, 3) := by decide +kernel
theorem dX6_kept_5 : decode cX6_kept 5 = .ok (.ifCond .ne 5, 3) := by decide +kernel
theorem dX6_kept_8 : decode cX6_kept 8 = .ok (.lconst 1, 1) := by decide +kernel
theorem dX6_kept_9 : decode cX6_kept 9 = .ok (.lreturn, 1) := by decide +kernel
theorem dX6_kept_10 : decode cX6_kept 10 = .ok (.lconst 0, 1) := by decide +kernel
theorem dX6_kept_11 : decode cX6_kept 11 = .ok (.aload_n 0, 1) := by decide +kernel
theorem dX6_kept_12 : decode cX6_kept 12 = .ok (.getfield 30, 3) := by decide +kernel
theorem dX6_kept_15 : decode cX6_kept 15 = .ok (.iload_n 1, 1) := by decide +kernel
theorem dX6_kept_16 : decode cX6_kept 16 = .ok (.laload, 1) := by decide +kernel
theorem dX6_kept_17 : decode cX6_kept 17 = .ok (.lsub, 1) := by decide +kernel
theorem dX6_kept_18 : decode cX6_kept 18 = .ok (.lstore_n 2, 1) := by decide +kernel
theorem dX6_kept_19 : decode cX6_kept 19 = .ok (.iconst 0, 1) := by decide +kernel
theorem dX6_kept_20 : decode cX6_kept 20 = .ok (.istore 4, 2) := by decide +kernel
theorem dX6_kept_22 : decode cX6_kept 22 = .ok (.iload 4, 2) := by decide +kernel
theorem dX6_kept_24 : decode cX6_kept 24 = .ok (.aload_n 0, 1) := by decide +kernel
theorem dX6_kept_25 : decode cX6_kept 25 = .ok (.getfield 11, 3) := by decide +kernel
theorem dX6_kept_28 : decode cX6_kept 28 = .ok (.iload_n 1, 1) := by decide +kernel
theorem dX6_kept_29 : decode cX6_kept 29 = .ok (.iaload, 1) := by decide +kernel
theorem dX6_kept_30 : decode cX6_kept 30 = .ok (.if_icmp .ge 29, 3) := by decide +kernel
theorem dX6_kept_33 : decode cX6_kept 33 = .ok (.lload_n 2, 1) := by decide +kernel
theorem dX6_kept_34 : decode cX6_kept 34 = .ok (.aload_n 0, 1) := by decide +kernel
theorem dX6_kept_35 : decode cX6_kept 35 = .ok (.getfield 40, 3) := by decide +kernel
theorem dX6_kept_38 : decode cX6_kept 38 = .ok (.bipush 6, 2) := by decide +kernel
theorem dX6_kept_40 : decode cX6_kept 40 = .ok (.iload_n 1, 1) := by decide +kernel
theorem dX6_kept_41 : decode cX6_kept 41 = .ok (.imul, 1) := by decide +kernel
theorem dX6_kept_42 : decode cX6_kept 42 = .ok (.iload 4, 2) := by decide +kernel
theorem dX6_kept_44 : decode cX6_kept 44 = .ok (.iadd, 1) := by decide +kernel
theorem dX6_kept_45 : decode cX6_kept 45 = .ok (.iaload, 1) := by decide +kernel
theorem dX6_kept_46 : decode cX6_kept 46 = .ok (.sipush 200, 3) := by decide +kernel
theorem dX6_kept_49 : decode cX6_kept 49 = .ok (.isub, 1) := by decide +kernel
theorem dX6_kept_50 : decode cX6_kept 50 = .ok (.i2l, 1) := by decide +kernel
theorem dX6_kept_51 : decode cX6_kept 51 = .ok (.ladd, 1) := by decide +kernel
theorem dX6_kept_52 : decode cX6_kept 52 = .ok (.lstore_n 2, 1) := by decide +kernel
theorem dX6_kept_53 : decode cX6_kept 53 = .ok (.iinc 4 1, 3) := by decide +kernel
theorem dX6_kept_56 : decode cX6_kept 56 = .ok (.goto (-34), 3) := by decide +kernel
theorem dX6_kept_59 : decode cX6_kept 59 = .ok (.lload_n 2, 1) := by decide +kernel
theorem dX6_kept_60 : decode cX6_kept 60 = .ok (.lreturn, 1) := by decide +kernel
theorem dX6_init_0 : decode cX6_init 0 = .ok (.aload_n 0, 1) := by decide +kernel
theorem dX6_init_1 : decode cX6_init 1 = .ok (.invokespecial 77, 3) := by decide +kernel
theorem dX6_init_4 : decode cX6_init 4 = .ok (.aload_n 0, 1) := by decide +kernel
theorem dX6_init_5 : decode cX6_init 5 = .ok (.bipush 12, 2) := by decide +kernel
theorem dX6_init_7 : decode cX6_init 7 = .ok (.newarray .int, 2) := by decide +kernel
theorem dX6_init_9 : decode cX6_init 9 = .ok (.putfield 11, 3) := by decide +kernel
theorem dX6_init_12 : decode cX6_init 12 = .ok (.aload_n 0, 1) := by decide +kernel
theorem dX6_init_13 : decode cX6_init 13 = .ok (.bipush 12, 2) := by decide +kernel
theorem dX6_init_15 : decode cX6_init 15 = .ok (.newarray .int, 2) := by decide +kernel
theorem dX6_init_17 : decode cX6_init 17 = .ok (.putfield 15, 3) := by decide +kernel
theorem dX6_init_20 : decode cX6_init 20 = .ok (.aload_n 0, 1) := by decide +kernel
theorem dX6_init_21 : decode cX6_init 21 = .ok (.bipush 12, 2) := by decide +kernel
theorem dX6_init_23 : decode cX6_init 23 = .ok (.newarray .int, 2) := by decide +kernel
theorem dX6_init_25 : decode cX6_init 25 = .ok (.putfield 18, 3) := by decide +kernel
theorem dX6_init_28 : decode cX6_init 28 = .ok (.aload_n 0, 1) := by decide +kernel
theorem dX6_init_29 : decode cX6_init 29 = .ok (.bipush 12, 2) := by decide +kernel
theorem dX6_init_31 : decode cX6_init 31 = .ok (.newarray .int, 2) := by decide +kernel
theorem dX6_init_33 : decode cX6_init 33 = .ok (.putfield 21, 3) := by decide +kernel
theorem dX6_init_36 : decode cX6_init 36 = .ok (.aload_n 0, 1) := by decide +kernel
theorem dX6_init_37 : decode cX6_init 37 = .ok (.bipush 12, 2) := by decide +kernel
theorem dX6_init_39 : decode cX6_init 39 = .ok (.newarray .int, 2) := by decide +kernel
theorem dX6_init_41 : decode cX6_init 41 = .ok (.putfield 24, 3) := by decide +kernel
theorem dX6_init_44 : decode cX6_init 44 = .ok (.aload_n 0, 1) := by decide +kernel
theorem dX6_init_45 : decode cX6_init 45 = .ok (.bipush 12, 2) := by decide +kernel
theorem dX6_init_47 : decode cX6_init 47 = .ok (.newarray .int, 2) := by decide +kernel
theorem dX6_init_49 : decode cX6_init 49 = .ok (.putfield 27, 3) := by decide +kernel
theorem dX6_init_52 : decode cX6_init 52 = .ok (.aload_n 0, 1) := by decide +kernel
theorem dX6_init_53 : decode cX6_init 53 = .ok (.bipush 12, 2) := by decide +kernel
theorem dX6_init_55 : decode cX6_init 55 = .ok (.newarray .long, 2) := by decide +kernel
theorem dX6_init_57 : decode cX6_init 57 = .ok (.putfield 30, 3) := by decide +kernel
theorem dX6_init_60 : decode cX6_init 60 = .ok (.aload_n 0, 1) := by decide +kernel
theorem dX6_init_61 : decode cX6_init 61 = .ok (.bipush 12, 2) := by decide +kernel
theorem dX6_init_63 : decode cX6_init 63 = .ok (.newarray .int, 2) := by decide +kernel
theorem dX6_init_65 : decode cX6_init 65 = .ok (.putfield 34, 3) := by decide +kernel
theorem dX6_init_68 : decode cX6_init 68 = .ok (.aload_n 0, 1) := by decide +kernel
theorem dX6_init_69 : decode cX6_init 69 = .ok (.bipush 12, 2) := by decide +kernel
theorem dX6_init_71 : decode cX6_init 71 = .ok (.newarray .int, 2) := by decide +kernel
theorem dX6_init_73 : decode cX6_init 73 = .ok (.putfield 37, 3) := by decide +kernel
theorem dX6_init_76 : decode cX6_init 76 = .ok (.aload_n 0, 1) := by decide +kernel
theorem dX6_init_77 : decode cX6_init 77 = .ok (.bipush 72, 2) := by decide +kernel
theorem dX6_init_79 : decode cX6_init 79 = .ok (.newarray .int, 2) := by decide +kernel
theorem dX6_init_81 : decode cX6_init 81 = .ok (.putfield 40, 3) := by decide +kernel
theorem dX6_init_84 : decode cX6_init 84 = .ok (.aload_n 0, 1) := by decide +kernel
theorem dX6_init_85 : decode cX6_init 85 = .ok (.sipush 288, 3) := by decide +kernel
theorem dX6_init_88 : decode cX6_init 88 = .ok (.newarray .int, 2) := by decide +kernel
theorem dX6_init_90 : decode cX6_init 90 = .ok (.putfield 46, 3) := by decide +kernel
theorem dX6_init_93 : decode cX6_init 93 = .ok (.aload_n 0, 1) := by decide +kernel
theorem dX6_init_94 : decode cX6_init 94 = .ok (.bipush 72, 2) := by decide +kernel
theorem dX6_init_96 : decode cX6_init 96 = .ok (.newarray .int, 2) := by decide +kernel
theorem dX6_init_98 : decode cX6_init 98 = .ok (.putfield 43, 3) := by decide +kernel
theorem dX6_init_101 : decode cX6_init 101 = .ok (.aload_n 0, 1) := by decide +kernel
theorem dX6_init_102 : decode cX6_init 102 = .ok (.bipush 8, 2) := by decide +kernel
theorem dX6_init_104 : decode cX6_init 104 = .ok (.newarray .int, 2) := by decide +kernel
theorem dX6_init_106 : decode cX6_init 106 = .ok (.putfield 49, 3) := by decide +kernel
theorem dX6_init_109 : decode cX6_init 109 = .ok (.aload_n 0, 1) := by decide +kernel
theorem dX6_init_110 : decode cX6_init 110 = .ok (.iconst 3, 1) := by decide +kernel
theorem dX6_init_111 : decode cX6_init 111 = .ok (.newarray .int, 2) := by decide +kernel
theorem dX6_init_113 : decode cX6_init 113 = .ok (.putfield 83, 3) := by decide +kernel
theorem dX6_init_116 : decode cX6_init 116 = .ok (.aload_n 0, 1) := by decide +kernel
theorem dX6_init_117 : decode cX6_init 117 = .ok (.iconst 3, 1) := by decide +kernel
theorem dX6_init_118 : decode cX6_init 118 = .ok (.newarray .int, 2) := by decide +kernel
theorem dX6_init_120 : decode cX6_init 120 = .ok (.putfield 86, 3) := by decide +kernel
theorem dX6_init_123 : decode cX6_init 123 = .ok (.aload_n 0, 1) := by decide +kernel
theorem dX6_init_124 : decode cX6_init 124 = .ok (.iconst 3, 1) := by decide +kernel
theorem dX6_init_125 : decode cX6_init 125 = .ok (.newarray .int, 2) := by decide +kernel
theorem dX6_init_127 : decode cX6_init 127 = .ok (.putfield 89, 3) := by decide +kernel
theorem dX6_init_130 : decode cX6_init 130 = .ok (.aload_n 0, 1) := by decide +kernel
theorem dX6_init_131 : decode cX6_init 131 = .ok (.bipush 24, 2) := by decide +kernel
theorem dX6_init_133 : decode cX6_init 133 = .ok (.newarray .int, 2) := by decide +kernel
theorem dX6_init_135 : decode cX6_init 135 = .ok (.putfield 92, 3) := by decide +kernel
theorem dX6_init_138 : decode cX6_init 138 = .ok (.aload_n 0, 1) := by decide +kernel
theorem dX6_init_139 : decode cX6_init 139 = .ok (.bipush 24, 2) := by decide +kernel
theorem dX6_init_141 : decode cX6_init 141 = .ok (.newarray .int, 2) := by decide +kernel
theorem dX6_init_143 : decode cX6_init 143 = .ok (.putfield 95, 3) := by decide +kernel
theorem dX6_init_146 : decode cX6_init 146 = .ok (.aload_n 0, 1) := by decide +kernel
theorem dX6_init_147 : decode cX6_init 147 = .ok (.bipush 24, 2) := by decide +kernel
theorem dX6_init_149 : decode cX6_init 149 = .ok (.newarray .int, 2) := by decide +kernel
theorem dX6_init_151 : decode cX6_init 151 = .ok (.putfield 98, 3) := by decide +kernel
theorem dX6_init_154 : decode cX6_init 154 = .ok (.aload_n 0, 1) := by decide +kernel
theorem dX6_init_155 : decode cX6_init 155 = .ok (.bipush 12, 2) := by decide +kernel
theorem dX6_init_157 : decode cX6_init 157 = .ok (.newarray .int, 2) := by decide +kernel
theorem dX6_init_159 : decode cX6_init 159 = .ok (.putfield 101, 3) := by decide +kernel
theorem dX6_init_162 : decode cX6_init 162 = .ok (.aload_n 0, 1) := by decide +kernel
theorem dX6_init_163 : decode cX6_init 163 = .ok (.bipush 12, 2) := by decide +kernel
theorem dX6_init_165 : decode cX6_init 165 = .ok (.newarray .boolean, 2) := by decide +kernel
theorem dX6_init_167 : decode cX6_init 167 = .ok (.putfield 104, 3) := by decide +kernel
theorem dX6_init_170 : decode cX6_init 170 = .ok (.aload_n 0, 1) := by decide +kernel
theorem dX6_init_171 : decode cX6_init 171 = .ok (.bipush 12, 2) := by decide +kernel
theorem dX6_init_173 : decode cX6_init 173 = .ok (.newarray .int, 2) := by decide +kernel
theorem dX6_init_175 : decode cX6_init 175 = .ok (.putfield 108, 3) := by decide +kernel
theorem dX6_init_178 : decode cX6_init 178 = .ok (.aload_n 0, 1) := by decide +kernel
theorem dX6_init_179 : decode cX6_init 179 = .ok (.iconst 3, 1) := by decide +kernel
theorem dX6_init_180 : decode cX6_init 180 = .ok (.newarray .boolean, 2) := by decide +kernel
theorem dX6_init_182 : decode cX6_init 182 = .ok (.putfield 111, 3) := by decide +kernel
theorem dX6_init_185 : decode cX6_init 185 = .ok (.aload_n 0, 1) := by decide +kernel
theorem dX6_init_186 : decode cX6_init 186 = .ok (.iconst 3, 1) := by decide +kernel
theorem dX6_init_187 : decode cX6_init 187 = .ok (.newarray .int, 2) := by decide +kernel
theorem dX6_init_189 : decode cX6_init 189 = .ok (.putfield 114, 3) := by decide +kernel
theorem dX6_init_192 : decode cX6_init 192 = .ok (.aload_n 0, 1) := by decide +kernel
theorem dX6_init_193 : decode cX6_init 193 = .ok (.iconst 3, 1) := by decide +kernel
theorem dX6_init_194 : decode cX6_init 194 = .ok (.newarray .int, 2) := by decide +kernel
theorem dX6_init_196 : decode cX6_init 196 = .ok (.putfield 117, 3) := by decide +kernel
theorem dX6_init_199 : decode cX6_init 199 = .ok (.aload_n 0, 1) := by decide +kernel
theorem dX6_init_200 : decode cX6_init 200 = .ok (.iconst 3, 1) := by decide +kernel
theorem dX6_init_201 : decode cX6_init 201 = .ok (.newarray .int, 2) := by decide +kernel
theorem dX6_init_203 : decode cX6_init 203 = .ok (.putfield 120, 3) := by decide +kernel
theorem dX6_init_206 : decode cX6_init 206 = .ok (.aload_n 0, 1) := by decide +kernel
theorem dX6_init_207 : decode cX6_init 207 = .ok (.iconst 3, 1) := by decide +kernel
theorem dX6_init_208 : decode cX6_init 208 = .ok (.newarray .int, 2) := by decide +kernel
theorem dX6_init_210 : decode cX6_init 210 = .ok (.putfield 123, 3) := by decide +kernel
theorem dX6_init_213 : decode cX6_init 213 = .ok (.aload_n 0, 1) := by decide +kernel
theorem dX6_init_214 : decode cX6_init 214 = .ok (.bipush 100, 2) := by decide +kernel
theorem dX6_init_216 : decode cX6_init 216 = .ok (.newarray .int, 2) := by decide +kernel
theorem dX6_init_218 : decode cX6_init 218 = .ok (.putfield 126, 3) := by decide +kernel
theorem dX6_init_221 : decode cX6_init 221 = .ok (.aload_n 0, 1) := by decide +kernel
theorem dX6_init_222 : decode cX6_init 222 = .ok (.bipush 100, 2) := by decide +kernel
theorem dX6_init_224 : decode cX6_init 224 = .ok (.newarray .boolean, 2) := by decide +kernel
theorem dX6_init_226 : decode cX6_init 226 = .ok (.putfield 129, 3) := by decide +kernel
theorem dX6_init_229 : decode cX6_init 229 = .ok (.aload_n 0, 1) := by decide +kernel
theorem dX6_init_230 : decode cX6_init 230 = .ok (.bipush 100, 2) := by decide +kernel
theorem dX6_init_232 : decode cX6_init 232 = .ok (.newarray .boolean, 2) := by decide +kernel
theorem dX6_init_234 : decode cX6_init 234 = .ok (.putfield 132, 3) := by decide +kernel
theorem dX6_init_237 : decode cX6_init 237 = .ok (.aload_n 0, 1) := by decide +kernel
theorem dX6_init_238 : decode cX6_init 238 = .ok (.bipush 100, 2) := by decide +kernel
theorem dX6_init_240 : decode cX6_init 240 = .ok (.newarray .boolean, 2) := by decide +kernel
theorem dX6_init_242 : decode cX6_init 242 = .ok (.putfield 135, 3) := by decide +kernel
theorem dX6_init_245 : decode cX6_init 245 = .ok (.aload_n 0, 1) := by decide +kernel
theorem dX6_init_246 : decode cX6_init 246 = .ok (.bipush 100, 2) := by decide +kernel
theorem dX6_init_248 : decode cX6_init 248 = .ok (.newarray .boolean, 2) := by decide +kernel
theorem dX6_init_250 : decode cX6_init 250 = .ok (.putfield 138, 3) := by decide +kernel
theorem dX6_init_253 : decode cX6_init 253 = .ok (.aload_n 0, 1) := by decide +kernel
theorem dX6_init_254 : decode cX6_init 254 = .ok (.bipush 100, 2) := by decide +kernel
theorem dX6_init_256 : decode cX6_init 256 = .ok (.newarray .int, 2) := by decide +kernel
theorem dX6_init_258 : decode cX6_init 258 = .ok (.putfield 141, 3) := by decide +kernel
theorem dX6_init_261 : decode cX6_init 261 = .ok (.aload_n 0, 1) := by decide +kernel
theorem dX6_init_262 : decode cX6_init 262 = .ok (.bipush 7, 2) := by decide +kernel
theorem dX6_init_264 : decode cX6_init 264 = .ok (.newarray .int, 2) := by decide +kernel
theorem dX6_init_266 : decode cX6_init 266 = .ok (.putfield 144, 3) := by decide +kernel
theorem dX6_init_269 : decode cX6_init 269 = .ok (.aload_n 0, 1) := by decide +kernel
theorem dX6_init_270 : decode cX6_init 270 = .ok (.bipush 7, 2) := by decide +kernel
theorem dX6_init_272 : decode cX6_init 272 = .ok (.newarray .int, 2) := by decide +kernel
theorem dX6_init_274 : decode cX6_init 274 = .ok (.putfield 147, 3) := by decide +kernel
theorem dX6_init_277 : decode cX6_init 277 = .ok (.aload_n 0, 1) := by decide +kernel
theorem dX6_init_278 : decode cX6_init 278 = .ok (.sipush 128, 3) := by decide +kernel
theorem dX6_init_281 : decode cX6_init 281 = .ok (.newarray .int, 2) := by decide +kernel
theorem dX6_init_283 : decode cX6_init 283 = .ok (.putfield 150, 3) := by decide +kernel
theorem dX6_init_286 : decode cX6_init 286 = .ok (.iconst 0, 1) := by decide +kernel
theorem dX6_init_287 : decode cX6_init 287 = .ok (.istore_n 1, 1) := by decide +kernel
theorem dX6_init_288 : decode cX6_init 288 = .ok (.iload_n 1, 1) := by decide +kernel
theorem dX6_init_289 : decode cX6_init 289 = .ok (.iconst 3, 1) := by decide +kernel
theorem dX6_init_290 : decode cX6_init 290 = .ok (.if_icmp .ge 18, 3) := by decide +kernel
theorem dX6_init_293 : decode cX6_init 293 = .ok (.aload_n 0, 1) := by decide +kernel
theorem dX6_init_294 : decode cX6_init 294 = .ok (.getfield 83, 3) := by decide +kernel
theorem dX6_init_297 : decode cX6_init 297 = .ok (.iload_n 1, 1) := by decide +kernel
theorem dX6_init_298 : decode cX6_init 298 = .ok (.sipush 200, 3) := by decide +kernel
theorem dX6_init_301 : decode cX6_init 301 = .ok (.iastore, 1) := by decide +kernel
theorem dX6_init_302 : decode cX6_init 302 = .ok (.iinc 1 1, 3) := by decide +kernel
theorem dX6_init_305 : decode cX6_init 305 = .ok (.goto (-17), 3) := by decide +kernel
theorem dX6_init_308 : decode cX6_init 308 = .ok (.iconst 0, 1) := by decide +kernel
theorem dX6_init_309 : decode cX6_init 309 = .ok (.istore_n 1, 1) := by decide +kernel
theorem dX6_init_310 : decode cX6_init 310 = .ok (.iload_n 1, 1) := by decide +kernel
theorem dX6_init_311 : decode cX6_init 311 = .ok (.bipush 12, 2) := by decide +kernel
theorem dX6_init_313 : decode cX6_init 313 = .ok (.if_icmp .ge 23, 3) := by decide +kernel
theorem dX6_init_316 : decode cX6_init 316 = .ok (.aload_n 0, 1) := by decide +kernel
theorem dX6_init_317 : decode cX6_init 317 = .ok (.getfield 101, 3) := by decide +kernel
theorem dX6_init_320 : decode cX6_init 320 = .ok (.iload_n 1, 1) := by decide +kernel
theorem dX6_init_321 : decode cX6_init 321 = .ok (.iconst (-1), 1) := by decide +kernel
theorem dX6_init_322 : decode cX6_init 322 = .ok (.iastore, 1) := by decide +kernel
theorem dX6_init_323 : decode cX6_init 323 = .ok (.aload_n 0, 1) := by decide +kernel
theorem dX6_init_324 : decode cX6_init 324 = .ok (.getfield 104, 3) := by decide +kernel
theorem dX6_init_327 : decode cX6_init 327 = .ok (.iload_n 1, 1) := by decide +kernel
theorem dX6_init_328 : decode cX6_init 328 = .ok (.iconst 1, 1) := by decide +kernel
theorem dX6_init_329 : decode cX6_init 329 = .ok (.bastore, 1) := by decide +kernel
theorem dX6_init_330 : decode cX6_init 330 = .ok (.iinc 1 1, 3) := by decide +kernel
theorem dX6_init_333 : decode cX6_init 333 = .ok (.goto (-23), 3) := by decide +kernel
theorem dX6_init_336 : decode cX6_init 336 = .ok (.return_, 1) := by decide +kernel
theorem dX6_isFurnace_0 : decode cX6_isFurnace 0 = .ok (.iload_n 0, 1) := by decide +kernel
theorem dX6_isFurnace_1 : decode cX6_isFurnace 1 = .ok (.iconst 0, 1) := by decide +kernel
theorem dX6_isFurnace_2 : decode cX6_isFurnace 2 = .ok (.iconst 2, 1) := by decide +kernel
theorem dX6_isFurnace_3 : decode cX6_isFurnace 3 = .ok (.invokestatic 1, 3) := by decide +kernel
theorem dX6_isFurnace_6 : decode cX6_isFurnace 6 = .ok (.ireturn, 1) := by decide +kernel
theorem dX6_isPlace_0 : decode cX6_isPlace 0 = .ok (.iload_n 0, 1) := by decide +kernel
theorem dX6_isPlace_1 : decode cX6_isPlace 1 = .ok (.iconst 0, 1) := by decide +kernel
theorem dX6_isPlace_2 : decode cX6_isPlace 2 = .ok (.iconst 3, 1) := by decide +kernel
theorem dX6_isPlace_3 : decode cX6_isPlace 3 = .ok (.invokestatic 1, 3) := by decide +kernel
theorem dX6_isPlace_6 : decode cX6_isPlace 6 = .ok (.ireturn, 1) := by decide +kernel
theorem dX6_line_0 : decode cX6_line 0 = .ok (.iload_n 1, 1) := by decide +kernel
theorem dX6_line_1 : decode cX6_line 1 = .ok (.invokestatic 153, 3) := by decide +kernel
theorem dX6_line_4 : decode cX6_line 4 = .ok (.ifCond .eq 52, 3) := by decide +kernel
theorem dX6_line_7 : decode cX6_line 7 = .ok (.iload_n 2, 1) := by decide +kernel
theorem dX6_line_8 : decode cX6_line 8 = .ok (.iconst 0, 1) := by decide +kernel
theorem dX6_line_9 : decode cX6_line 9 = .ok (.iconst 3, 1) := by decide +kernel
theorem dX6_line_10 : decode cX6_line 10 = .ok (.invokestatic 1, 3) := by decide +kernel
theorem dX6_line_13 : decode cX6_line 13 = .ok (.ifCond .eq 43, 3) := by decide +kernel
theorem dX6_line_16 : decode cX6_line 16 = .ok (.iload_n 2, 1) := by decide +kernel
theorem dX6_line_17 : decode cX6_line 17 = .ok (.iconst 3, 1) := by decide +kernel
theorem dX6_line_18 : decode cX6_line 18 = .ok (.if_icmp .eq 16, 3) := by decide +kernel
theorem dX6_line_21 : decode cX6_line 21 = .ok (.iload_n 3, 1) := by decide +kernel
theorem dX6_line_22 : decode cX6_line 22 = .ok (.sipush 200, 3) := by decide +kernel
theorem dX6_line_25 : decode cX6_line 25 = .ok (.sipush 11000, 3) := by decide +kernel
theorem dX6_line_28 : decode cX6_line 28 = .ok (.invokestatic 1, 3) := by decide +kernel
theorem dX6_line_31 : decode cX6_line 31 = .ok (.ifCond .eq 25, 3) := by decide +kernel
theorem dX6_line_34 : decode cX6_line 34 = .ok (.iload 4, 2) := by decide +kernel
theorem dX6_line_36 : decode cX6_line 36 = .ok (.iconst 1, 1) := by decide +kernel
theorem dX6_line_37 : decode cX6_line 37 = .ok (.iload_n 2, 1) := by decide +kernel
theorem dX6_line_38 : decode cX6_line 38 = .ok (.ifCond .ne 9, 3) := by decide +kernel
theorem dX6_line_41 : decode cX6_line 41 = .ok (.sipush 1000, 3) := by decide +kernel
theorem dX6_line_44 : decode cX6_line 44 = .ok (.goto 6, 3) := by decide +kernel
theorem dX6_line_47 : decode cX6_line 47 = .ok (.sipush 500, 3) := by decide +kernel
theorem dX6_line_50 : decode cX6_line 50 = .ok (.invokestatic 1, 3) := by decide +kernel
theorem dX6_line_53 : decode cX6_line 53 = .ok (.ifCond .ne 6, 3) := by decide +kernel
theorem dX6_line_56 : decode cX6_line 56 = .ok (.bipush (-2), 2) := by decide +kernel
theorem dX6_line_58 : decode cX6_line 58 = .ok (.ireturn, 1) := by decide +kernel
theorem dX6_line_59 : decode cX6_line 59 = .ok (.aload_n 0, 1) := by decide +kernel
theorem dX6_line_60 : decode cX6_line 60 = .ok (.getfield 111, 3) := by decide +kernel
theorem dX6_line_63 : decode cX6_line 63 = .ok (.iload_n 1, 1) := by decide +kernel
theorem dX6_line_64 : decode cX6_line 64 = .ok (.baload, 1) := by decide +kernel
theorem dX6_line_65 : decode cX6_line 65 = .ok (.ifCond .eq 6, 3) := by decide +kernel
theorem dX6_line_68 : decode cX6_line 68 = .ok (.bipush (-3), 2) := by decide +kernel
theorem dX6_line_70 : decode cX6_line 70 = .ok (.ireturn, 1) := by decide +kernel
theorem dX6_line_71 : decode cX6_line 71 = .ok (.aload_n 0, 1) := by decide +kernel
theorem dX6_line_72 : decode cX6_line 72 = .ok (.getfield 89, 3) := by decide +kernel
theorem dX6_line_75 : decode cX6_line 75 = .ok (.iload_n 1, 1) := by decide +kernel
theorem dX6_line_76 : decode cX6_line 76 = .ok (.iaload, 1) := by decide +kernel
theorem dX6_line_77 : decode cX6_line 77 = .ok (.bipush 8, 2) := by decide +kernel
theorem dX6_line_79 : decode cX6_line 79 = .ok (.if_icmp .ne 6, 3) := by decide +kernel
theorem dX6_line_82 : decode cX6_line 82 = .ok (.bipush (-4), 2) := by decide +kernel
theorem dX6_line_84 : decode cX6_line 84 = .ok (.ireturn, 1) := by decide +kernel
theorem dX6_line_85 : decode cX6_line 85 = .ok (.bipush 8, 2) := by decide +kernel
theorem dX6_line_87 : decode cX6_line 87 = .ok (.iload_n 1, 1) := by decide +kernel
theorem dX6_line_88 : decode cX6_line 88 = .ok (.imul, 1) := by decide +kernel
theorem dX6_line_89 : decode cX6_line 89 = .ok (.aload_n 0, 1) := by decide +kernel
theorem dX6_line_90 : decode cX6_line 90 = .ok (.getfield 89, 3) := by decide +kernel
theorem dX6_line_93 : decode cX6_line 93 = .ok (.iload_n 1, 1) := by decide +kernel
theorem dX6_line_94 : decode cX6_line 94 = .ok (.iaload, 1) := by decide +kernel
theorem dX6_line_95 : decode cX6_line 95 = .ok (.iadd, 1) := by decide +kernel
theorem dX6_line_96 : decode cX6_line 96 = .ok (.istore 5, 2) := by decide +kernel
theorem dX6_line_98 : decode cX6_line 98 = .ok (.aload_n 0, 1) := by decide +kernel
theorem dX6_line_99 : decode cX6_line 99 = .ok (.getfield 92, 3) := by decide +kernel
theorem dX6_line_102 : decode cX6_line 102 = .ok (.iload 5, 2) := by decide +kernel
theorem dX6_line_104 : decode cX6_line 104 = .ok (.iload_n 2, 1) := by decide +kernel
theorem dX6_line_105 : decode cX6_line 105 = .ok (.iastore, 1) := by decide +kernel
theorem dX6_line_106 : decode cX6_line 106 = .ok (.aload_n 0, 1) := by decide +kernel
theorem dX6_line_107 : decode cX6_line 107 = .ok (.getfield 95, 3) := by decide +kernel
theorem dX6_line_110 : decode cX6_line 110 = .ok (.iload 5, 2) := by decide +kernel
theorem dX6_line_112 : decode cX6_line 112 = .ok (.iload_n 3, 1) := by decide +kernel
theorem dX6_line_113 : decode cX6_line 113 = .ok (.iastore, 1) := by decide +kernel
theorem dX6_line_114 : decode cX6_line 114 = .ok (.aload_n 0, 1) := by decide +kernel
theorem dX6_line_115 : decode cX6_line 115 = .ok (.getfield 98, 3) := by decide +kernel
theorem dX6_line_118 : decode cX6_line 118 = .ok (.iload 5, 2) := by decide +kernel
theorem dX6_line_120 : decode cX6_line 120 = .ok (.iload 4, 2) := by decide +kernel
theorem dX6_line_122 : decode cX6_line 122 = .ok (.iastore, 1) := by decide +kernel
theorem dX6_line_123 : decode cX6_line 123 = .ok (.aload_n 0, 1) := by decide +kernel
theorem dX6_line_124 : decode cX6_line 124 = .ok (.getfield 89, 3) := by decide +kernel
theorem dX6_line_127 : decode cX6_line 127 = .ok (.iload_n 1, 1) := by decide +kernel
theorem dX6_line_128 : decode cX6_line 128 = .ok (.dup2, 1) := by decide +kernel
theorem dX6_line_129 : decode cX6_line 129 = .ok (.iaload, 1) := by decide +kernel
theorem dX6_line_130 : decode cX6_line 130 = .ok (.iconst 1, 1) := by decide +kernel
theorem dX6_line_131 : decode cX6_line 131 = .ok (.iadd, 1) := by decide +kernel
theorem dX6_line_132 : decode cX6_line 132 = .ok (.iastore, 1) := by decide +kernel
theorem dX6_line_133 : decode cX6_line 133 = .ok (.aload_n 0, 1) := by decide +kernel
theorem dX6_line_134 : decode cX6_line 134 = .ok (.getfield 89, 3) := by decide +kernel
theorem dX6_line_137 : decode cX6_line 137 = .ok (.iload_n 1, 1) := by decide +kernel
theorem dX6_line_138 : decode cX6_line 138 = .ok (.iaload, 1) := by decide +kernel
theorem dX6_line_139 : decode cX6_line 139 = .ok (.ireturn, 1) := by decide +kernel
theorem dX6_clear_0 : decode cX6_clear 0 = .ok (.iload_n 1, 1) := by decide +kernel
theorem dX6_clear_1 : decode cX6_clear 1 = .ok (.invokestatic 153, 3) := by decide +kernel
theorem dX6_clear_4 : decode cX6_clear 4 = .ok (.ifCond .ne 6, 3) := by decide +kernel
theorem dX6_clear_7 : decode cX6_clear 7 = .ok (.bipush (-2), 2) := by decide +kernel
theorem dX6_clear_9 : decode cX6_clear 9 = .ok (.ireturn, 1) := by decide +kernel
theorem dX6_clear_10 : decode cX6_clear 10 = .ok (.aload_n 0, 1) := by decide +kernel
theorem dX6_clear_11 : decode cX6_clear 11 = .ok (.getfield 111, 3) := by decide +kernel
theorem dX6_clear_14 : decode cX6_clear 14 = .ok (.iload_n 1, 1) := by decide +kernel
theorem dX6_clear_15 : decode cX6_clear 15 = .ok (.baload, 1) := by decide +kernel
theorem dX6_clear_16 : decode cX6_clear 16 = .ok (.ifCond .eq 6, 3) := by decide +kernel
theorem dX6_clear_19 : decode cX6_clear 19 = .ok (.bipush (-3), 2) := by decide +kernel
theorem dX6_clear_21 : decode cX6_clear 21 = .ok (.ireturn, 1) := by decide +kernel
theorem dX6_clear_22 : decode cX6_clear 22 = .ok (.aload_n 0, 1) := by decide +kernel
theorem dX6_clear_23 : decode cX6_clear 23 = .ok (.getfield 89, 3) := by decide +kernel
theorem dX6_clear_26 : decode cX6_clear 26 = .ok (.iload_n 1, 1) := by decide +kernel
theorem dX6_clear_27 : decode cX6_clear 27 = .ok (.iaload, 1) := by decide +kernel
theorem dX6_clear_28 : decode cX6_clear 28 = .ok (.istore_n 2, 1) := by decide +kernel
theorem dX6_clear_29 : decode cX6_clear 29 = .ok (.aload_n 0, 1) := by decide +kernel
theorem dX6_clear_30 : decode cX6_clear 30 = .ok (.getfield 89, 3) := by decide +kernel
theorem dX6_clear_33 : decode cX6_clear 33 = .ok (.iload_n 1, 1) := by decide +kernel
theorem dX6_clear_34 : decode cX6_clear 34 = .ok (.iconst 0, 1) := by decide +kernel
theorem dX6_clear_35 : decode cX6_clear 35 = .ok (.iastore, 1) := by decide +kernel
theorem dX6_clear_36 : decode cX6_clear 36 = .ok (.iload_n 2, 1) := by decide +kernel
theorem dX6_clear_37 : decode cX6_clear 37 = .ok (.ireturn, 1) := by decide +kernel
theorem dX6_massOf_0 : decode cX6_massOf 0 = .ok (.iconst 0, 1) := by decide +kernel
theorem dX6_massOf_1 : decode cX6_massOf 1 = .ok (.istore_n 2, 1) := by decide +kernel
theorem dX6_massOf_2 : decode cX6_massOf 2 = .ok (.iconst 0, 1) := by decide +kernel
theorem dX6_massOf_3 : decode cX6_massOf 3 = .ok (.istore_n 3, 1) := by decide +kernel
theorem dX6_massOf_4 : decode cX6_massOf 4 = .ok (.iload_n 3, 1) := by decide +kernel
theorem dX6_massOf_5 : decode cX6_massOf 5 = .ok (.iconst 4, 1) := by decide +kernel
theorem dX6_massOf_6 : decode cX6_massOf 6 = .ok (.if_icmp .ge 45, 3) := by decide +kernel
theorem dX6_massOf_9 : decode cX6_massOf 9 = .ok (.iload_n 2, 1) := by decide +kernel
theorem dX6_massOf_10 : decode cX6_massOf 10 = .ok (.aload_n 0, 1) := by decide +kernel
theorem dX6_massOf_11 : decode cX6_massOf 11 = .ok (.getfield 101, 3) := by decide +kernel
theorem dX6_massOf_14 : decode cX6_massOf 14 = .ok (.iconst 4, 1) := by decide +kernel
theorem dX6_massOf_15 : decode cX6_massOf 15 = .ok (.iload_n 1, 1) := by decide +kernel
theorem dX6_massOf_16 : decode cX6_massOf 16 = .ok (.imul, 1) := by decide +kernel
theorem dX6_massOf_17 : decode cX6_massOf 17 = .ok (.iload_n 3, 1) := by decide +kernel
theorem dX6_massOf_18 : decode cX6_massOf 18 = .ok (.iadd, 1) := by decide +kernel
theorem dX6_massOf_19 : decode cX6_massOf 19 = .ok (.iaload, 1) := by decide +kernel
theorem dX6_massOf_20 : decode cX6_massOf 20 = .ok (.iconst (-1), 1) := by decide +kernel
theorem dX6_massOf_21 : decode cX6_massOf 21 = .ok (.if_icmp .ne 7, 3) := by decide +kernel
theorem dX6_massOf_24 : decode cX6_massOf 24 = .ok (.iconst 0, 1) := by decide +kernel
theorem dX6_massOf_25 : decode cX6_massOf 25 = .ok (.goto 18, 3) := by decide +kernel
end
section
theorem dX6_massOf_28 : decode cX6_massOf 28 = .ok (.aload_n 0, 1) := by decide +kernel
theorem dX6_massOf_29 : decode cX6_massOf 29 = .ok (.getfield 15, 3) := by decide +kernel
theorem dX6_massOf_32 : decode cX6_massOf 32 = .ok (.aload_n 0, 1) := by decide +kernel
theorem dX6_massOf_33 : decode cX6_massOf 33 = .ok (.getfield 101, 3) := by decide +kernel
theorem dX6_massOf_36 : decode cX6_massOf 36 = .ok (.iconst 4, 1) := by decide +kernel
theorem dX6_massOf_37 : decode cX6_massOf 37 = .ok (.iload_n 1, 1) := by decide +kernel
theorem dX6_massOf_38 : decode cX6_massOf 38 = .ok (.imul, 1) := by decide +kernel
theorem dX6_massOf_39 : decode cX6_massOf 39 = .ok (.iload_n 3, 1) := by decide +kernel
theorem dX6_massOf_40 : decode cX6_massOf 40 = .ok (.iadd, 1) := by decide +kernel
theorem dX6_massOf_41 : decode cX6_massOf 41 = .ok (.iaload, 1) := by decide +kernel
theorem dX6_massOf_42 : decode cX6_massOf 42 = .ok (.iaload, 1) := by decide +kernel
theorem dX6_massOf_43 : decode cX6_massOf 43 = .ok (.iadd, 1) := by decide +kernel
theorem dX6_massOf_44 : decode cX6_massOf 44 = .ok (.istore_n 2, 1) := by decide +kernel
theorem dX6_massOf_45 : decode cX6_massOf 45 = .ok (.iinc 3 1, 3) := by decide +kernel
theorem dX6_massOf_48 : decode cX6_massOf 48 = .ok (.goto (-44), 3) := by decide +kernel
theorem dX6_massOf_51 : decode cX6_massOf 51 = .ok (.iload_n 2, 1) := by decide +kernel
theorem dX6_massOf_52 : decode cX6_massOf 52 = .ok (.ireturn, 1) := by decide +kernel
theorem dX6_loadOf_0 : decode cX6_loadOf 0 = .ok (.iconst 0, 1) := by decide +kernel
theorem dX6_loadOf_1 : decode cX6_loadOf 1 = .ok (.istore_n 2, 1) := by decide +kernel
theorem dX6_loadOf_2 : decode cX6_loadOf 2 = .ok (.iconst 0, 1) := by decide +kernel
theorem dX6_loadOf_3 : decode cX6_loadOf 3 = .ok (.istore_n 3, 1) := by decide +kernel
theorem dX6_loadOf_4 : decode cX6_loadOf 4 = .ok (.iload_n 3, 1) := by decide +kernel
theorem dX6_loadOf_5 : decode cX6_loadOf 5 = .ok (.iconst 4, 1) := by decide +kernel
theorem dX6_loadOf_6 : decode cX6_loadOf 6 = .ok (.if_icmp .ge 31, 3) := by decide +kernel
theorem dX6_loadOf_9 : decode cX6_loadOf 9 = .ok (.iload_n 2, 1) := by decide +kernel
theorem dX6_loadOf_10 : decode cX6_loadOf 10 = .ok (.aload_n 0, 1) := by decide +kernel
theorem dX6_loadOf_11 : decode cX6_loadOf 11 = .ok (.getfield 101, 3) := by decide +kernel
theorem dX6_loadOf_14 : decode cX6_loadOf 14 = .ok (.iconst 4, 1) := by decide +kernel
theorem dX6_loadOf_15 : decode cX6_loadOf 15 = .ok (.iload_n 1, 1) := by decide +kernel
theorem dX6_loadOf_16 : decode cX6_loadOf 16 = .ok (.imul, 1) := by decide +kernel
theorem dX6_loadOf_17 : decode cX6_loadOf 17 = .ok (.iload_n 3, 1) := by decide +kernel
theorem dX6_loadOf_18 : decode cX6_loadOf 18 = .ok (.iadd, 1) := by decide +kernel
theorem dX6_loadOf_19 : decode cX6_loadOf 19 = .ok (.iaload, 1) := by decide +kernel
theorem dX6_loadOf_20 : decode cX6_loadOf 20 = .ok (.iconst (-1), 1) := by decide +kernel
theorem dX6_loadOf_21 : decode cX6_loadOf 21 = .ok (.if_icmp .ne 7, 3) := by decide +kernel
theorem dX6_loadOf_24 : decode cX6_loadOf 24 = .ok (.iconst 0, 1) := by decide +kernel
theorem dX6_loadOf_25 : decode cX6_loadOf 25 = .ok (.goto 4, 3) := by decide +kernel
theorem dX6_loadOf_28 : decode cX6_loadOf 28 = .ok (.iconst 1, 1) := by decide +kernel
theorem dX6_loadOf_29 : decode cX6_loadOf 29 = .ok (.iadd, 1) := by decide +kernel
theorem dX6_loadOf_30 : decode cX6_loadOf 30 = .ok (.istore_n 2, 1) := by decide +kernel
theorem dX6_loadOf_31 : decode cX6_loadOf 31 = .ok (.iinc 3 1, 3) := by decide +kernel
theorem dX6_loadOf_34 : decode cX6_loadOf 34 = .ok (.goto (-30), 3) := by decide +kernel
theorem dX6_loadOf_37 : decode cX6_loadOf 37 = .ok (.iload_n 2, 1) := by decide +kernel
theorem dX6_loadOf_38 : decode cX6_loadOf 38 = .ok (.ireturn, 1) := by decide +kernel
theorem dX6_load_0 : decode cX6_load 0 = .ok (.iload_n 1, 1) := by decide +kernel
theorem dX6_load_1 : decode cX6_load 1 = .ok (.invokestatic 153, 3) := by decide +kernel
theorem dX6_load_4 : decode cX6_load 4 = .ok (.ifCond .eq 18, 3) := by decide +kernel
theorem dX6_load_7 : decode cX6_load 7 = .ok (.iload_n 2, 1) := by decide +kernel
theorem dX6_load_8 : decode cX6_load 8 = .ok (.invokestatic 156, 3) := by decide +kernel
theorem dX6_load_11 : decode cX6_load 11 = .ok (.ifCond .eq 11, 3) := by decide +kernel
theorem dX6_load_14 : decode cX6_load 14 = .ok (.aload_n 0, 1) := by decide +kernel
theorem dX6_load_15 : decode cX6_load 15 = .ok (.iload_n 3, 1) := by decide +kernel
theorem dX6_load_16 : decode cX6_load 16 = .ok (.invokevirtual 60, 3) := by decide +kernel
theorem dX6_load_19 : decode cX6_load 19 = .ok (.ifCond .ne 6, 3) := by decide +kernel
theorem dX6_load_22 : decode cX6_load 22 = .ok (.bipush (-2), 2) := by decide +kernel
theorem dX6_load_24 : decode cX6_load 24 = .ok (.ireturn, 1) := by decide +kernel
theorem dX6_load_25 : decode cX6_load 25 = .ok (.aload_n 0, 1) := by decide +kernel
theorem dX6_load_26 : decode cX6_load 26 = .ok (.getfield 34, 3) := by decide +kernel
theorem dX6_load_29 : decode cX6_load 29 = .ok (.iload_n 3, 1) := by decide +kernel
theorem dX6_load_30 : decode cX6_load 30 = .ok (.iaload, 1) := by decide +kernel
theorem dX6_load_31 : decode cX6_load 31 = .ok (.iconst (-1), 1) := by decide +kernel
theorem dX6_load_32 : decode cX6_load 32 = .ok (.if_icmp .ne 26, 3) := by decide +kernel
theorem dX6_load_35 : decode cX6_load 35 = .ok (.aload_n 0, 1) := by decide +kernel
theorem dX6_load_36 : decode cX6_load 36 = .ok (.getfield 101, 3) := by decide +kernel
theorem dX6_load_39 : decode cX6_load 39 = .ok (.iconst 4, 1) := by decide +kernel
theorem dX6_load_40 : decode cX6_load 40 = .ok (.iload_n 1, 1) := by decide +kernel
theorem dX6_load_41 : decode cX6_load 41 = .ok (.imul, 1) := by decide +kernel
theorem dX6_load_42 : decode cX6_load 42 = .ok (.iload_n 2, 1) := by decide +kernel
theorem dX6_load_43 : decode cX6_load 43 = .ok (.iadd, 1) := by decide +kernel
theorem dX6_load_44 : decode cX6_load 44 = .ok (.iaload, 1) := by decide +kernel
theorem dX6_load_45 : decode cX6_load 45 = .ok (.iconst (-1), 1) := by decide +kernel
theorem dX6_load_46 : decode cX6_load 46 = .ok (.if_icmp .ne 12, 3) := by decide +kernel
theorem dX6_load_49 : decode cX6_load 49 = .ok (.aload_n 0, 1) := by decide +kernel
theorem dX6_load_50 : decode cX6_load 50 = .ok (.getfield 111, 3) := by decide +kernel
theorem dX6_load_53 : decode cX6_load 53 = .ok (.iload_n 1, 1) := by decide +kernel
theorem dX6_load_54 : decode cX6_load 54 = .ok (.baload, 1) := by decide +kernel
theorem dX6_load_55 : decode cX6_load 55 = .ok (.ifCond .eq 7, 3) := by decide +kernel
theorem dX6_load_58 : decode cX6_load 58 = .ok (.iconst 1, 1) := by decide +kernel
theorem dX6_load_59 : decode cX6_load 59 = .ok (.goto 4, 3) := by decide +kernel
theorem dX6_load_62 : decode cX6_load 62 = .ok (.iconst 0, 1) := by decide +kernel
theorem dX6_load_63 : decode cX6_load 63 = .ok (.istore 4, 2) := by decide +kernel
theorem dX6_load_65 : decode cX6_load 65 = .ok (.iload 4, 2) := by decide +kernel
theorem dX6_load_67 : decode cX6_load 67 = .ok (.ifCond .ne 21, 3) := by decide +kernel
theorem dX6_load_70 : decode cX6_load 70 = .ok (.aload_n 0, 1) := by decide +kernel
theorem dX6_load_71 : decode cX6_load 71 = .ok (.iload_n 1, 1) := by decide +kernel
theorem dX6_load_72 : decode cX6_load 72 = .ok (.invokevirtual 159, 3) := by decide +kernel
theorem dX6_load_75 : decode cX6_load 75 = .ok (.aload_n 0, 1) := by decide +kernel
theorem dX6_load_76 : decode cX6_load 76 = .ok (.getfield 15, 3) := by decide +kernel
theorem dX6_load_79 : decode cX6_load 79 = .ok (.iload_n 3, 1) := by decide +kernel
theorem dX6_load_80 : decode cX6_load 80 = .ok (.iaload, 1) := by decide +kernel
theorem dX6_load_81 : decode cX6_load 81 = .ok (.iadd, 1) := by decide +kernel
theorem dX6_load_82 : decode cX6_load 82 = .ok (.sipush 1000, 3) := by decide +kernel
theorem dX6_load_85 : decode cX6_load 85 = .ok (.if_icmp .le 6, 3) := by decide +kernel
theorem dX6_load_88 : decode cX6_load 88 = .ok (.bipush (-3), 2) := by decide +kernel
theorem dX6_load_90 : decode cX6_load 90 = .ok (.ireturn, 1) := by decide +kernel
theorem dX6_load_91 : decode cX6_load 91 = .ok (.aload_n 0, 1) := by decide +kernel
theorem dX6_load_92 : decode cX6_load 92 = .ok (.getfield 101, 3) := by decide +kernel
theorem dX6_load_95 : decode cX6_load 95 = .ok (.iconst 4, 1) := by decide +kernel
theorem dX6_load_96 : decode cX6_load 96 = .ok (.iload_n 1, 1) := by decide +kernel
theorem dX6_load_97 : decode cX6_load 97 = .ok (.imul, 1) := by decide +kernel
theorem dX6_load_98 : decode cX6_load 98 = .ok (.iload_n 2, 1) := by decide +kernel
theorem dX6_load_99 : decode cX6_load 99 = .ok (.iadd, 1) := by decide +kernel
theorem dX6_load_100 : decode cX6_load 100 = .ok (.iload_n 3, 1) := by decide +kernel
theorem dX6_load_101 : decode cX6_load 101 = .ok (.iastore, 1) := by decide +kernel
theorem dX6_load_102 : decode cX6_load 102 = .ok (.aload_n 0, 1) := by decide +kernel
theorem dX6_load_103 : decode cX6_load 103 = .ok (.getfield 34, 3) := by decide +kernel
theorem dX6_load_106 : decode cX6_load 106 = .ok (.iload_n 3, 1) := by decide +kernel
theorem dX6_load_107 : decode cX6_load 107 = .ok (.iload_n 1, 1) := by decide +kernel
theorem dX6_load_108 : decode cX6_load 108 = .ok (.iastore, 1) := by decide +kernel
theorem dX6_load_109 : decode cX6_load 109 = .ok (.iconst 1, 1) := by decide +kernel
theorem dX6_load_110 : decode cX6_load 110 = .ok (.ireturn, 1) := by decide +kernel
theorem dX6_unload_0 : decode cX6_unload 0 = .ok (.iload_n 1, 1) := by decide +kernel
theorem dX6_unload_1 : decode cX6_unload 1 = .ok (.invokestatic 153, 3) := by decide +kernel
theorem dX6_unload_4 : decode cX6_unload 4 = .ok (.ifCond .eq 10, 3) := by decide +kernel
theorem dX6_unload_7 : decode cX6_unload 7 = .ok (.iload_n 2, 1) := by decide +kernel
theorem dX6_unload_8 : decode cX6_unload 8 = .ok (.invokestatic 156, 3) := by decide +kernel
theorem dX6_unload_11 : decode cX6_unload 11 = .ok (.ifCond .ne 6, 3) := by decide +kernel
theorem dX6_unload_14 : decode cX6_unload 14 = .ok (.bipush (-2), 2) := by decide +kernel
theorem dX6_unload_16 : decode cX6_unload 16 = .ok (.ireturn, 1) := by decide +kernel
theorem dX6_unload_17 : decode cX6_unload 17 = .ok (.aload_n 0, 1) := by decide +kernel
theorem dX6_unload_18 : decode cX6_unload 18 = .ok (.getfield 101, 3) := by decide +kernel
theorem dX6_unload_21 : decode cX6_unload 21 = .ok (.iconst 4, 1) := by decide +kernel
theorem dX6_unload_22 : decode cX6_unload 22 = .ok (.iload_n 1, 1) := by decide +kernel
theorem dX6_unload_23 : decode cX6_unload 23 = .ok (.imul, 1) := by decide +kernel
theorem dX6_unload_24 : decode cX6_unload 24 = .ok (.iload_n 2, 1) := by decide +kernel
theorem dX6_unload_25 : decode cX6_unload 25 = .ok (.iadd, 1) := by decide +kernel
theorem dX6_unload_26 : decode cX6_unload 26 = .ok (.iaload, 1) := by decide +kernel
theorem dX6_unload_27 : decode cX6_unload 27 = .ok (.istore_n 3, 1) := by decide +kernel
theorem dX6_unload_28 : decode cX6_unload 28 = .ok (.iload_n 3, 1) := by decide +kernel
theorem dX6_unload_29 : decode cX6_unload 29 = .ok (.iconst (-1), 1) := by decide +kernel
theorem dX6_unload_30 : decode cX6_unload 30 = .ok (.if_icmp .eq 12, 3) := by decide +kernel
theorem dX6_unload_33 : decode cX6_unload 33 = .ok (.aload_n 0, 1) := by decide +kernel
theorem dX6_unload_34 : decode cX6_unload 34 = .ok (.getfield 111, 3) := by decide +kernel
theorem dX6_unload_37 : decode cX6_unload 37 = .ok (.iload_n 1, 1) := by decide +kernel
theorem dX6_unload_38 : decode cX6_unload 38 = .ok (.baload, 1) := by decide +kernel
theorem dX6_unload_39 : decode cX6_unload 39 = .ok (.ifCond .eq 6, 3) := by decide +kernel
theorem dX6_unload_42 : decode cX6_unload 42 = .ok (.bipush (-3), 2) := by decide +kernel
theorem dX6_unload_44 : decode cX6_unload 44 = .ok (.ireturn, 1) := by decide +kernel
theorem dX6_unload_45 : decode cX6_unload 45 = .ok (.aload_n 0, 1) := by decide +kernel
theorem dX6_unload_46 : decode cX6_unload 46 = .ok (.getfield 101, 3) := by decide +kernel
theorem dX6_unload_49 : decode cX6_unload 49 = .ok (.iconst 4, 1) := by decide +kernel
theorem dX6_unload_50 : decode cX6_unload 50 = .ok (.iload_n 1, 1) := by decide +kernel
theorem dX6_unload_51 : decode cX6_unload 51 = .ok (.imul, 1) := by decide +kernel
theorem dX6_unload_52 : decode cX6_unload 52 = .ok (.iload_n 2, 1) := by decide +kernel
theorem dX6_unload_53 : decode cX6_unload 53 = .ok (.iadd, 1) := by decide +kernel
theorem dX6_unload_54 : decode cX6_unload 54 = .ok (.iconst (-1), 1) := by decide +kernel
theorem dX6_unload_55 : decode cX6_unload 55 = .ok (.iastore, 1) := by decide +kernel
theorem dX6_unload_56 : decode cX6_unload 56 = .ok (.aload_n 0, 1) := by decide +kernel
theorem dX6_unload_57 : decode cX6_unload 57 = .ok (.getfield 34, 3) := by decide +kernel
theorem dX6_unload_60 : decode cX6_unload 60 = .ok (.iload_n 3, 1) := by decide +kernel
theorem dX6_unload_61 : decode cX6_unload 61 = .ok (.iconst (-1), 1) := by decide +kernel
theorem dX6_unload_62 : decode cX6_unload 62 = .ok (.iastore, 1) := by decide +kernel
theorem dX6_unload_63 : decode cX6_unload 63 = .ok (.iload_n 3, 1) := by decide +kernel
theorem dX6_unload_64 : decode cX6_unload 64 = .ok (.ireturn, 1) := by decide +kernel
theorem dX6_probe_0 : decode cX6_probe 0 = .ok (.iload_n 1, 1) := by decide +kernel
theorem dX6_probe_1 : decode cX6_probe 1 = .ok (.invokestatic 153, 3) := by decide +kernel
theorem dX6_probe_4 : decode cX6_probe 4 = .ok (.ifCond .eq 24, 3) := by decide +kernel
theorem dX6_probe_7 : decode cX6_probe 7 = .ok (.iload_n 2, 1) := by decide +kernel
theorem dX6_probe_8 : decode cX6_probe 8 = .ok (.invokestatic 156, 3) := by decide +kernel
theorem dX6_probe_11 : decode cX6_probe 11 = .ok (.ifCond .eq 17, 3) := by decide +kernel
theorem dX6_probe_14 : decode cX6_probe 14 = .ok (.iload 4, 2) := by decide +kernel
theorem dX6_probe_16 : decode cX6_probe 16 = .ok (.sipush (-500), 3) := by decide +kernel
theorem dX6_probe_19 : decode cX6_probe 19 = .ok (.sipush 500, 3) := by decide +kernel
theorem dX6_probe_22 : decode cX6_probe 22 = .ok (.invokestatic 1, 3) := by decide +kernel
theorem dX6_probe_25 : decode cX6_probe 25 = .ok (.ifCond .ne 6, 3) := by decide +kernel
theorem dX6_probe_28 : decode cX6_probe 28 = .ok (.bipush (-2), 2) := by decide +kernel
theorem dX6_probe_30 : decode cX6_probe 30 = .ok (.ireturn, 1) := by decide +kernel
theorem dX6_probe_31 : decode cX6_probe 31 = .ok (.aload_n 0, 1) := by decide +kernel
theorem dX6_probe_32 : decode cX6_probe 32 = .ok (.getfield 104, 3) := by decide +kernel
theorem dX6_probe_35 : decode cX6_probe 35 = .ok (.iconst 4, 1) := by decide +kernel
theorem dX6_probe_36 : decode cX6_probe 36 = .ok (.iload_n 1, 1) := by decide +kernel
theorem dX6_probe_37 : decode cX6_probe 37 = .ok (.imul, 1) := by decide +kernel
theorem dX6_probe_38 : decode cX6_probe 38 = .ok (.iload_n 2, 1) := by decide +kernel
theorem dX6_probe_39 : decode cX6_probe 39 = .ok (.iadd, 1) := by decide +kernel
theorem dX6_probe_40 : decode cX6_probe 40 = .ok (.iload_n 3, 1) := by decide +kernel
theorem dX6_probe_41 : decode cX6_probe 41 = .ok (.bastore, 1) := by decide +kernel
theorem dX6_probe_42 : decode cX6_probe 42 = .ok (.aload_n 0, 1) := by decide +kernel
theorem dX6_probe_43 : decode cX6_probe 43 = .ok (.getfield 108, 3) := by decide +kernel
theorem dX6_probe_46 : decode cX6_probe 46 = .ok (.iconst 4, 1) := by decide +kernel
theorem dX6_probe_47 : decode cX6_probe 47 = .ok (.iload_n 1, 1) := by decide +kernel
theorem dX6_probe_48 : decode cX6_probe 48 = .ok (.imul, 1) := by decide +kernel
theorem dX6_probe_49 : decode cX6_probe 49 = .ok (.iload_n 2, 1) := by decide +kernel
theorem dX6_probe_50 : decode cX6_probe 50 = .ok (.iadd, 1) := by decide +kernel
theorem dX6_probe_51 : decode cX6_probe 51 = .ok (.iload 4, 2) := by decide +kernel
theorem dX6_probe_53 : decode cX6_probe 53 = .ok (.iastore, 1) := by decide +kernel
theorem dX6_probe_54 : decode cX6_probe 54 = .ok (.iconst 1, 1) := by decide +kernel
theorem dX6_probe_55 : decode cX6_probe 55 = .ok (.ireturn, 1) := by decide +kernel
theorem dX6_run_0 : decode cX6_run 0 = .ok (.iload_n 1, 1) := by decide +kernel
theorem dX6_run_1 : decode cX6_run 1 = .ok (.invokestatic 153, 3) := by decide +kernel
theorem dX6_run_4 : decode cX6_run 4 = .ok (.ifCond .ne 6, 3) := by decide +kernel
theorem dX6_run_7 : decode cX6_run 7 = .ok (.bipush (-2), 2) := by decide +kernel
theorem dX6_run_9 : decode cX6_run 9 = .ok (.ireturn, 1) := by decide +kernel
theorem dX6_run_10 : decode cX6_run 10 = .ok (.aload_n 0, 1) := by decide +kernel
theorem dX6_run_11 : decode cX6_run 11 = .ok (.getfield 111, 3) := by decide +kernel
theorem dX6_run_14 : decode cX6_run 14 = .ok (.iload_n 1, 1) := by decide +kernel
theorem dX6_run_15 : decode cX6_run 15 = .ok (.baload, 1) := by decide +kernel
theorem dX6_run_16 : decode cX6_run 16 = .ok (.ifCond .ne 20, 3) := by decide +kernel
theorem dX6_run_19 : decode cX6_run 19 = .ok (.aload_n 0, 1) := by decide +kernel
theorem dX6_run_20 : decode cX6_run 20 = .ok (.getfield 89, 3) := by decide +kernel
theorem dX6_run_23 : decode cX6_run 23 = .ok (.iload_n 1, 1) := by decide +kernel
theorem dX6_run_24 : decode cX6_run 24 = .ok (.iaload, 1) := by decide +kernel
theorem dX6_run_25 : decode cX6_run 25 = .ok (.ifCond .eq 11, 3) := by decide +kernel
theorem dX6_run_28 : decode cX6_run 28 = .ok (.aload_n 0, 1) := by decide +kernel
theorem dX6_run_29 : decode cX6_run 29 = .ok (.iload_n 1, 1) := by decide +kernel
theorem dX6_run_30 : decode cX6_run 30 = .ok (.invokevirtual 162, 3) := by decide +kernel
theorem dX6_run_33 : decode cX6_run 33 = .ok (.ifCond .ne 6, 3) := by decide +kernel
theorem dX6_run_36 : decode cX6_run 36 = .ok (.bipush (-3), 2) := by decide +kernel
theorem dX6_run_38 : decode cX6_run 38 = .ok (.ireturn, 1) := by decide +kernel
theorem dX6_run_39 : decode cX6_run 39 = .ok (.aload_n 0, 1) := by decide +kernel
theorem dX6_run_40 : decode cX6_run 40 = .ok (.getfield 165, 3) := by decide +kernel
theorem dX6_run_43 : decode cX6_run 43 = .ok (.bipush 100, 2) := by decide +kernel
theorem dX6_run_45 : decode cX6_run 45 = .ok (.if_icmp .ne 6, 3) := by decide +kernel
theorem dX6_run_48 : decode cX6_run 48 = .ok (.bipush (-4), 2) := by decide +kernel
theorem dX6_run_50 : decode cX6_run 50 = .ok (.ireturn, 1) := by decide +kernel
theorem dX6_run_51 : decode cX6_run 51 = .ok (.aload_n 0, 1) := by decide +kernel
theorem dX6_run_52 : decode cX6_run 52 = .ok (.getfield 126, 3) := by decide +kernel
theorem dX6_run_55 : decode cX6_run 55 = .ok (.aload_n 0, 1) := by decide +kernel
theorem dX6_run_56 : decode cX6_run 56 = .ok (.getfield 165, 3) := by decide +kernel
theorem dX6_run_59 : decode cX6_run 59 = .ok (.iload_n 1, 1) := by decide +kernel
theorem dX6_run_60 : decode cX6_run 60 = .ok (.iastore, 1) := by decide +kernel
theorem dX6_run_61 : decode cX6_run 61 = .ok (.aload_n 0, 1) := by decide +kernel
theorem dX6_run_62 : decode cX6_run 62 = .ok (.getfield 111, 3) := by decide +kernel
theorem dX6_run_65 : decode cX6_run 65 = .ok (.iload_n 1, 1) := by decide +kernel
theorem dX6_run_66 : decode cX6_run 66 = .ok (.iconst 1, 1) := by decide +kernel
theorem dX6_run_67 : decode cX6_run 67 = .ok (.bastore, 1) := by decide +kernel
theorem dX6_run_68 : decode cX6_run 68 = .ok (.aload_n 0, 1) := by decide +kernel
theorem dX6_run_69 : decode cX6_run 69 = .ok (.getfield 114, 3) := by decide +kernel
theorem dX6_run_72 : decode cX6_run 72 = .ok (.iload_n 1, 1) := by decide +kernel
theorem dX6_run_73 : decode cX6_run 73 = .ok (.iconst 0, 1) := by decide +kernel
theorem dX6_run_74 : decode cX6_run 74 = .ok (.iastore, 1) := by decide +kernel
theorem dX6_run_75 : decode cX6_run 75 = .ok (.aload_n 0, 1) := by decide +kernel
theorem dX6_run_76 : decode cX6_run 76 = .ok (.getfield 117, 3) := by decide +kernel
theorem dX6_run_79 : decode cX6_run 79 = .ok (.iload_n 1, 1) := by decide +kernel
theorem dX6_run_80 : decode cX6_run 80 = .ok (.iconst 0, 1) := by decide +kernel
theorem dX6_run_81 : decode cX6_run 81 = .ok (.iastore, 1) := by decide +kernel
theorem dX6_run_82 : decode cX6_run 82 = .ok (.aload_n 0, 1) := by decide +kernel
theorem dX6_run_83 : decode cX6_run 83 = .ok (.getfield 120, 3) := by decide +kernel
theorem dX6_run_86 : decode cX6_run 86 = .ok (.iload_n 1, 1) := by decide +kernel
theorem dX6_run_87 : decode cX6_run 87 = .ok (.aload_n 0, 1) := by decide +kernel
theorem dX6_run_88 : decode cX6_run 88 = .ok (.getfield 165, 3) := by decide +kernel
theorem dX6_run_91 : decode cX6_run 91 = .ok (.iastore, 1) := by decide +kernel
theorem dX6_run_92 : decode cX6_run 92 = .ok (.iconst 0, 1) := by decide +kernel
theorem dX6_run_93 : decode cX6_run 93 = .ok (.istore_n 2, 1) := by decide +kernel
theorem dX6_run_94 : decode cX6_run 94 = .ok (.iload_n 2, 1) := by decide +kernel
theorem dX6_run_95 : decode cX6_run 95 = .ok (.iconst 4, 1) := by decide +kernel
theorem dX6_run_96 : decode cX6_run 96 = .ok (.if_icmp .ge 42, 3) := by decide +kernel
theorem dX6_run_99 : decode cX6_run 99 = .ok (.aload_n 0, 1) := by decide +kernel
theorem dX6_run_100 : decode cX6_run 100 = .ok (.getfield 101, 3) := by decide +kernel
theorem dX6_run_103 : decode cX6_run 103 = .ok (.iconst 4, 1) := by decide +kernel
theorem dX6_run_104 : decode cX6_run 104 = .ok (.iload_n 1, 1) := by decide +kernel
theorem dX6_run_105 : decode cX6_run 105 = .ok (.imul, 1) := by decide +kernel
theorem dX6_run_106 : decode cX6_run 106 = .ok (.iload_n 2, 1) := by decide +kernel
theorem dX6_run_107 : decode cX6_run 107 = .ok (.iadd, 1) := by decide +kernel
theorem dX6_run_108 : decode cX6_run 108 = .ok (.iaload, 1) := by decide +kernel
theorem dX6_run_109 : decode cX6_run 109 = .ok (.iconst (-1), 1) := by decide +kernel
theorem dX6_run_110 : decode cX6_run 110 = .ok (.if_icmp .eq 22, 3) := by decide +kernel
theorem dX6_run_113 : decode cX6_run 113 = .ok (.aload_n 0, 1) := by decide +kernel
theorem dX6_run_114 : decode cX6_run 114 = .ok (.getfield 37, 3) := by decide +kernel
theorem dX6_run_117 : decode cX6_run 117 = .ok (.aload_n 0, 1) := by decide +kernel
theorem dX6_run_118 : decode cX6_run 118 = .ok (.getfield 101, 3) := by decide +kernel
theorem dX6_run_121 : decode cX6_run 121 = .ok (.iconst 4, 1) := by decide +kernel
theorem dX6_run_122 : decode cX6_run 122 = .ok (.iload_n 1, 1) := by decide +kernel
theorem dX6_run_123 : decode cX6_run 123 = .ok (.imul, 1) := by decide +kernel
theorem dX6_run_124 : decode cX6_run 124 = .ok (.iload_n 2, 1) := by decide +kernel
theorem dX6_run_125 : decode cX6_run 125 = .ok (.iadd, 1) := by decide +kernel
theorem dX6_run_126 : decode cX6_run 126 = .ok (.iaload, 1) := by decide +kernel
theorem dX6_run_127 : decode cX6_run 127 = .ok (.aload_n 0, 1) := by decide +kernel
theorem dX6_run_128 : decode cX6_run 128 = .ok (.getfield 165, 3) := by decide +kernel
theorem dX6_run_131 : decode cX6_run 131 = .ok (.iastore, 1) := by decide +kernel
theorem dX6_run_132 : decode cX6_run 132 = .ok (.iinc 2 1, 3) := by decide +kernel
theorem dX6_run_135 : decode cX6_run 135 = .ok (.goto (-41), 3) := by decide +kernel
theorem dX6_run_138 : decode cX6_run 138 = .ok (.aload_n 0, 1) := by decide +kernel
theorem dX6_run_139 : decode cX6_run 139 = .ok (.dup, 1) := by decide +kernel
theorem dX6_run_140 : decode cX6_run 140 = .ok (.getfield 165, 3) := by decide +kernel
theorem dX6_run_143 : decode cX6_run 143 = .ok (.iconst 1, 1) := by decide +kernel
theorem dX6_run_144 : decode cX6_run 144 = .ok (.iadd, 1) := by decide +kernel
theorem dX6_run_145 : decode cX6_run 145 = .ok (.putfield 165, 3) := by decide +kernel
theorem dX6_run_148 : decode cX6_run 148 = .ok (.aload_n 0, 1) := by decide +kernel
theorem dX6_run_149 : decode cX6_run 149 = .ok (.getfield 165, 3) := by decide +kernel
theorem dX6_run_152 : decode cX6_run 152 = .ok (.iconst 1, 1) := by decide +kernel
theorem dX6_run_153 : decode cX6_run 153 = .ok (.isub, 1) := by decide +kernel
theorem dX6_run_154 : decode cX6_run 154 = .ok (.ireturn, 1) := by decide +kernel
theorem dX6_liveAt_0 : decode cX6_liveAt 0 = .ok (.iconst 0, 1) := by decide +kernel
theorem dX6_liveAt_1 : decode cX6_liveAt 1 = .ok (.istore_n 3, 1) := by decide +kernel
theorem dX6_liveAt_2 : decode cX6_liveAt 2 = .ok (.iconst 1, 1) := by decide +kernel
theorem dX6_liveAt_3 : decode cX6_liveAt 3 = .ok (.istore 4, 2) := by decide +kernel
theorem dX6_liveAt_5 : decode cX6_liveAt 5 = .ok (.iconst 4, 1) := by decide +kernel
theorem dX6_liveAt_6 : decode cX6_liveAt 6 = .ok (.iload_n 1, 1) := by decide +kernel
theorem dX6_liveAt_7 : decode cX6_liveAt 7 = .ok (.imul, 1) := by decide +kernel
theorem dX6_liveAt_8 : decode cX6_liveAt 8 = .ok (.istore 5, 2) := by decide +kernel
theorem dX6_liveAt_10 : decode cX6_liveAt 10 = .ok (.iload 5, 2) := by decide +kernel
theorem dX6_liveAt_12 : decode cX6_liveAt 12 = .ok (.iconst 4, 1) := by decide +kernel
theorem dX6_liveAt_13 : decode cX6_liveAt 13 = .ok (.iload_n 1, 1) := by decide +kernel
theorem dX6_liveAt_14 : decode cX6_liveAt 14 = .ok (.imul, 1) := by decide +kernel
theorem dX6_liveAt_15 : decode cX6_liveAt 15 = .ok (.iconst 4, 1) := by decide +kernel
theorem dX6_liveAt_16 : decode cX6_liveAt 16 = .ok (.iadd, 1) := by decide +kernel
theorem dX6_liveAt_17 : decode cX6_liveAt 17 = .ok (.if_icmp .ge 68, 3) := by decide +kernel
theorem dX6_liveAt_20 : decode cX6_liveAt 20 = .ok (.aload_n 0, 1) := by decide +kernel
theorem dX6_liveAt_21 : decode cX6_liveAt 21 = .ok (.getfield 104, 3) := by decide +kernel
theorem dX6_liveAt_24 : decode cX6_liveAt 24 = .ok (.iload 5, 2) := by decide +kernel
theorem dX6_liveAt_26 : decode cX6_liveAt 26 = .ok (.baload, 1) := by decide +kernel
theorem dX6_liveAt_27 : decode cX6_liveAt 27 = .ok (.ifCond .eq 52, 3) := by decide +kernel
theorem dX6_liveAt_30 : decode cX6_liveAt 30 = .ok (.aload_n 0, 1) := by decide +kernel
theorem dX6_liveAt_31 : decode cX6_liveAt 31 = .ok (.getfield 101, 3) := by decide +kernel
theorem dX6_liveAt_34 : decode cX6_liveAt 34 = .ok (.iload 5, 2) := by decide +kernel
theorem dX6_liveAt_36 : decode cX6_liveAt 36 = .ok (.iaload, 1) := by decide +kernel
theorem dX6_liveAt_37 : decode cX6_liveAt 37 = .ok (.iconst (-1), 1) := by decide +kernel
theorem dX6_liveAt_38 : decode cX6_liveAt 38 = .ok (.if_icmp .eq 41, 3) := by decide +kernel
theorem dX6_liveAt_41 : decode cX6_liveAt 41 = .ok (.iinc 3 1, 3) := by decide +kernel
theorem dX6_liveAt_44 : decode cX6_liveAt 44 = .ok (.iload 4, 2) := by decide +kernel
theorem dX6_liveAt_46 : decode cX6_liveAt 46 = .ok (.ifCond .eq 30, 3) := by decide +kernel
theorem dX6_liveAt_49 : decode cX6_liveAt 49 = .ok (.aload_n 0, 1) := by decide +kernel
theorem dX6_liveAt_50 : decode cX6_liveAt 50 = .ok (.aload_n 0, 1) := by decide +kernel
theorem dX6_liveAt_51 : decode cX6_liveAt 51 = .ok (.getfield 101, 3) := by decide +kernel
theorem dX6_liveAt_54 : decode cX6_liveAt 54 = .ok (.iload 5, 2) := by decide +kernel
theorem dX6_liveAt_56 : decode cX6_liveAt 56 = .ok (.iaload, 1) := by decide +kernel
theorem dX6_liveAt_57 : decode cX6_liveAt 57 = .ok (.invokevirtual 67, 3) := by decide +kernel
theorem dX6_liveAt_60 : decode cX6_liveAt 60 = .ok (.aload_n 0, 1) := by decide +kernel
theorem dX6_liveAt_61 : decode cX6_liveAt 61 = .ok (.getfield 108, 3) := by decide +kernel
theorem dX6_liveAt_64 : decode cX6_liveAt 64 = .ok (.iload 5, 2) := by decide +kernel
theorem dX6_liveAt_66 : decode cX6_liveAt 66 = .ok (.iaload, 1) := by decide +kernel
theorem dX6_liveAt_67 : decode cX6_liveAt 67 = .ok (.iadd, 1) := by decide +kernel
theorem dX6_liveAt_68 : decode cX6_liveAt 68 = .ok (.iload_n 2, 1) := by decide +kernel
theorem dX6_liveAt_69 : decode cX6_liveAt 69 = .ok (.if_icmp .lt 7, 3) := by decide +kernel
theorem dX6_liveAt_72 : decode cX6_liveAt 72 = .ok (.iconst 1, 1) := by decide +kernel
theorem dX6_liveAt_73 : decode cX6_liveAt 73 = .ok (.goto 4, 3) := by decide +kernel
theorem dX6_liveAt_76 : decode cX6_liveAt 76 = .ok (.iconst 0, 1) := by decide +kernel
theorem dX6_liveAt_77 : decode cX6_liveAt 77 = .ok (.istore 4, 2) := by decide +kernel
theorem dX6_liveAt_79 : decode cX6_liveAt 79 = .ok (.iinc 5 1, 3) := by decide +kernel
theorem dX6_liveAt_82 : decode cX6_liveAt 82 = .ok (.goto (-72), 3) := by decide +kernel
theorem dX6_liveAt_85 : decode cX6_liveAt 85 = .ok (.iload 4, 2) := by decide +kernel
theorem dX6_liveAt_87 : decode cX6_liveAt 87 = .ok (.ifCond .eq 7, 3) := by decide +kernel
theorem dX6_liveAt_90 : decode cX6_liveAt 90 = .ok (.iload_n 3, 1) := by decide +kernel
theorem dX6_liveAt_91 : decode cX6_liveAt 91 = .ok (.goto 4, 3) := by decide +kernel
theorem dX6_liveAt_94 : decode cX6_liveAt 94 = .ok (.iconst (-1), 1) := by decide +kernel
theorem dX6_liveAt_95 : decode cX6_liveAt 95 = .ok (.ireturn, 1) := by decide +kernel
theorem dX6_ticks_0 : decode cX6_ticks 0 = .ok (.bipush 8, 2) := by decide +kernel
theorem dX6_ticks_2 : decode cX6_ticks 2 = .ok (.iload_n 1, 1) := by decide +kernel
theorem dX6_ticks_3 : decode cX6_ticks 3 = .ok (.imul, 1) := by decide +kernel
theorem dX6_ticks_4 : decode cX6_ticks 4 = .ok (.aload_n 0, 1) := by decide +kernel
theorem dX6_ticks_5 : decode cX6_ticks 5 = .ok (.getfield 114, 3) := by decide +kernel
theorem dX6_ticks_8 : decode cX6_ticks 8 = .ok (.iload_n 1, 1) := by decide +kernel
theorem dX6_ticks_9 : decode cX6_ticks 9 = .ok (.iaload, 1) := by decide +kernel
theorem dX6_ticks_10 : decode cX6_ticks 10 = .ok (.iadd, 1) := by decide +kernel
theorem dX6_ticks_11 : decode cX6_ticks 11 = .ok (.istore_n 2, 1) := by decide +kernel
theorem dX6_ticks_12 : decode cX6_ticks 12 = .ok (.aload_n 0, 1) := by decide +kernel
theorem dX6_ticks_13 : decode cX6_ticks 13 = .ok (.getfield 95, 3) := by decide +kernel
theorem dX6_ticks_16 : decode cX6_ticks 16 = .ok (.iload_n 2, 1) := by decide +kernel
theorem dX6_ticks_17 : decode cX6_ticks 17 = .ok (.iaload, 1) := by decide +kernel
theorem dX6_ticks_18 : decode cX6_ticks 18 = .ok (.istore_n 3, 1) := by decide +kernel
theorem dX6_ticks_19 : decode cX6_ticks 19 = .ok (.aload_n 0, 1) := by decide +kernel
theorem dX6_ticks_20 : decode cX6_ticks 20 = .ok (.getfield 98, 3) := by decide +kernel
theorem dX6_ticks_23 : decode cX6_ticks 23 = .ok (.iload_n 2, 1) := by decide +kernel
theorem dX6_ticks_24 : decode cX6_ticks 24 = .ok (.iaload, 1) := by decide +kernel
theorem dX6_ticks_25 : decode cX6_ticks 25 = .ok (.istore 4, 2) := by decide +kernel
theorem dX6_ticks_27 : decode cX6_ticks 27 = .ok (.aload_n 0, 1) := by decide +kernel
theorem dX6_ticks_28 : decode cX6_ticks 28 = .ok (.getfield 92, 3) := by decide +kernel
theorem dX6_ticks_31 : decode cX6_ticks 31 = .ok (.iload_n 2, 1) := by decide +kernel
theorem dX6_ticks_32 : decode cX6_ticks 32 = .ok (.iaload, 1) := by decide +kernel
theorem dX6_ticks_33 : decode cX6_ticks 33 = .ok (.istore 5, 2) := by decide +kernel
theorem dX6_ticks_35 : decode cX6_ticks 35 = .ok (.iload 5, 2) := by decide +kernel
theorem dX6_ticks_37 : decode cX6_ticks 37 = .ok (.ifCond .ne 77, 3) := by decide +kernel
theorem dX6_ticks_40 : decode cX6_ticks 40 = .ok (.aload_n 0, 1) := by decide +kernel
theorem dX6_ticks_41 : decode cX6_ticks 41 = .ok (.getfield 83, 3) := by decide +kernel
theorem dX6_ticks_44 : decode cX6_ticks 44 = .ok (.iload_n 1, 1) := by decide +kernel
theorem dX6_ticks_45 : decode cX6_ticks 45 = .ok (.aload_n 0, 1) := by decide +kernel
theorem dX6_ticks_46 : decode cX6_ticks 46 = .ok (.getfield 83, 3) := by decide +kernel
theorem dX6_ticks_49 : decode cX6_ticks 49 = .ok (.iload_n 1, 1) := by decide +kernel
theorem dX6_ticks_50 : decode cX6_ticks 50 = .ok (.iaload, 1) := by decide +kernel
theorem dX6_ticks_51 : decode cX6_ticks 51 = .ok (.iload_n 3, 1) := by decide +kernel
theorem dX6_ticks_52 : decode cX6_ticks 52 = .ok (.if_icmp .ge 32, 3) := by decide +kernel
theorem dX6_ticks_55 : decode cX6_ticks 55 = .ok (.aload_n 0, 1) := by decide +kernel
theorem dX6_ticks_56 : decode cX6_ticks 56 = .ok (.getfield 83, 3) := by decide +kernel
theorem dX6_ticks_59 : decode cX6_ticks 59 = .ok (.iload_n 1, 1) := by decide +kernel
theorem dX6_ticks_60 : decode cX6_ticks 60 = .ok (.iaload, 1) := by decide +kernel
theorem dX6_ticks_61 : decode cX6_ticks 61 = .ok (.iload 4, 2) := by decide +kernel
theorem dX6_ticks_63 : decode cX6_ticks 63 = .ok (.iadd, 1) := by decide +kernel
theorem dX6_ticks_64 : decode cX6_ticks 64 = .ok (.iload_n 3, 1) := by decide +kernel
theorem dX6_ticks_65 : decode cX6_ticks 65 = .ok (.if_icmp .ge 15, 3) := by decide +kernel
theorem dX6_ticks_68 : decode cX6_ticks 68 = .ok (.aload_n 0, 1) := by decide +kernel
theorem dX6_ticks_69 : decode cX6_ticks 69 = .ok (.getfield 83, 3) := by decide +kernel
theorem dX6_ticks_72 : decode cX6_ticks 72 = .ok (.iload_n 1, 1) := by decide +kernel
theorem dX6_ticks_73 : decode cX6_ticks 73 = .ok (.iaload, 1) := by decide +kernel
theorem dX6_ticks_74 : decode cX6_ticks 74 = .ok (.iload 4, 2) := by decide +kernel
theorem dX6_ticks_76 : decode cX6_ticks 76 = .ok (.iadd, 1) := by decide +kernel
theorem dX6_ticks_77 : decode cX6_ticks 77 = .ok (.goto 33, 3) := by decide +kernel
theorem dX6_ticks_80 : decode cX6_ticks 80 = .ok (.iload_n 3, 1) := by decide +kernel
theorem dX6_ticks_81 : decode cX6_ticks 81 = .ok (.goto 29, 3) := by decide +kernel
theorem dX6_ticks_84 : decode cX6_ticks 84 = .ok (.aload_n 0, 1) := by decide +kernel
theorem dX6_ticks_85 : decode cX6_ticks 85 = .ok (.getfield 83, 3) := by decide +kernel
theorem dX6_ticks_88 : decode cX6_ticks 88 = .ok (.iload_n 1, 1) := by decide +kernel
theorem dX6_ticks_89 : decode cX6_ticks 89 = .ok (.iaload, 1) := by decide +kernel
theorem dX6_ticks_90 : decode cX6_ticks 90 = .ok (.iload 4, 2) := by decide +kernel
theorem dX6_ticks_92 : decode cX6_ticks 92 = .ok (.isub, 1) := by decide +kernel
theorem dX6_ticks_93 : decode cX6_ticks 93 = .ok (.iload_n 3, 1) := by decide +kernel
theorem dX6_ticks_94 : decode cX6_ticks 94 = .ok (.if_icmp .le 15, 3) := by decide +kernel
theorem dX6_ticks_97 : decode cX6_ticks 97 = .ok (.aload_n 0, 1) := by decide +kernel
theorem dX6_ticks_98 : decode cX6_ticks 98 = .ok (.getfield 83, 3) := by decide +kernel
theorem dX6_ticks_101 : decode cX6_ticks 101 = .ok (.iload_n 1, 1) := by decide +kernel
theorem dX6_ticks_102 : decode cX6_ticks 102 = .ok (.iaload, 1) := by decide +kernel
theorem dX6_ticks_103 : decode cX6_ticks 103 = .ok (.iload 4, 2) := by decide +kernel
theorem dX6_ticks_105 : decode cX6_ticks 105 = .ok (.isub, 1) := by decide +kernel
theorem dX6_ticks_106 : decode cX6_ticks 106 = .ok (.goto 4, 3) := by decide +kernel
theorem dX6_ticks_109 : decode cX6_ticks 109 = .ok (.iload_n 3, 1) := by decide +kernel
theorem dX6_ticks_110 : decode cX6_ticks 110 = .ok (.iastore, 1) := by decide +kernel
theorem dX6_ticks_111 : decode cX6_ticks 111 = .ok (.goto 16, 3) := by decide +kernel
theorem dX6_ticks_114 : decode cX6_ticks 114 = .ok (.iload 5, 2) := by decide +kernel
theorem dX6_ticks_116 : decode cX6_ticks 116 = .ok (.iconst 3, 1) := by decide +kernel
theorem dX6_ticks_117 : decode cX6_ticks 117 = .ok (.if_icmp .ge 10, 3) := by decide +kernel
theorem dX6_ticks_120 : decode cX6_ticks 120 = .ok (.aload_n 0, 1) := by decide +kernel
theorem dX6_ticks_121 : decode cX6_ticks 121 = .ok (.getfield 83, 3) := by decide +kernel
theorem dX6_ticks_124 : decode cX6_ticks 124 = .ok (.iload_n 1, 1) := by decide +kernel
theorem dX6_ticks_125 : decode cX6_ticks 125 = .ok (.iload_n 3, 1) := by decide +kernel
theorem dX6_ticks_126 : decode cX6_ticks 126 = .ok (.iastore, 1) := by decide +kernel
theorem dX6_ticks_127 : decode cX6_ticks 127 = .ok (.iconst 4, 1) := by decide +kernel
theorem dX6_ticks_128 : decode cX6_ticks 128 = .ok (.iload_n 1, 1) := by decide +kernel
theorem dX6_ticks_129 : decode cX6_ticks 129 = .ok (.imul, 1) := by decide +kernel
theorem dX6_ticks_130 : decode cX6_ticks 130 = .ok (.istore 6, 2) := by decide +kernel
theorem dX6_ticks_132 : decode cX6_ticks 132 = .ok (.iload 6, 2) := by decide +kernel
theorem dX6_ticks_134 : decode cX6_ticks 134 = .ok (.iconst 4, 1) := by decide +kernel
theorem dX6_ticks_135 : decode cX6_ticks 135 = .ok (.iload_n 1, 1) := by decide +kernel
theorem dX6_ticks_136 : decode cX6_ticks 136 = .ok (.imul, 1) := by decide +kernel
theorem dX6_ticks_137 : decode cX6_ticks 137 = .ok (.iconst 4, 1) := by decide +kernel
theorem dX6_ticks_138 : decode cX6_ticks 138 = .ok (.iadd, 1) := by decide +kernel
theorem dX6_ticks_139 : decode cX6_ticks 139 = .ok (.if_icmp .ge 44, 3) := by decide +kernel
theorem dX6_ticks_142 : decode cX6_ticks 142 = .ok (.aload_n 0, 1) := by decide +kernel
theorem dX6_ticks_143 : decode cX6_ticks 143 = .ok (.getfield 101, 3) := by decide +kernel
theorem dX6_ticks_146 : decode cX6_ticks 146 = .ok (.iload 6, 2) := by decide +kernel
theorem dX6_ticks_148 : decode cX6_ticks 148 = .ok (.iaload, 1) := by decide +kernel
theorem dX6_ticks_149 : decode cX6_ticks 149 = .ok (.iconst (-1), 1) := by decide +kernel
theorem dX6_ticks_150 : decode cX6_ticks 150 = .ok (.if_icmp .eq 27, 3) := by decide +kernel
theorem dX6_ticks_153 : decode cX6_ticks 153 = .ok (.aload_n 0, 1) := by decide +kernel
theorem dX6_ticks_154 : decode cX6_ticks 154 = .ok (.aload_n 0, 1) := by decide +kernel
theorem dX6_ticks_155 : decode cX6_ticks 155 = .ok (.getfield 101, 3) := by decide +kernel
theorem dX6_ticks_158 : decode cX6_ticks 158 = .ok (.iload 6, 2) := by decide +kernel
theorem dX6_ticks_160 : decode cX6_ticks 160 = .ok (.iaload, 1) := by decide +kernel
theorem dX6_ticks_161 : decode cX6_ticks 161 = .ok (.aload_n 0, 1) := by decide +kernel
theorem dX6_ticks_162 : decode cX6_ticks 162 = .ok (.getfield 83, 3) := by decide +kernel
theorem dX6_ticks_165 : decode cX6_ticks 165 = .ok (.iload_n 1, 1) := by decide +kernel
theorem dX6_ticks_166 : decode cX6_ticks 166 = .ok (.iaload, 1) := by decide +kernel
theorem dX6_ticks_167 : decode cX6_ticks 167 = .ok (.aload_n 0, 1) := by decide +kernel
theorem dX6_ticks_168 : decode cX6_ticks 168 = .ok (.getfield 86, 3) := by decide +kernel
theorem dX6_ticks_171 : decode cX6_ticks 171 = .ok (.iload_n 1, 1) := by decide +kernel
theorem dX6_ticks_172 : decode cX6_ticks 172 = .ok (.iaload, 1) := by decide +kernel
theorem dX6_ticks_173 : decode cX6_ticks 173 = .ok (.iadd, 1) := by decide +kernel
theorem dX6_ticks_174 : decode cX6_ticks 174 = .ok (.invokevirtual 64, 3) := by decide +kernel
theorem dX6_ticks_177 : decode cX6_ticks 177 = .ok (.iinc 6 1, 3) := by decide +kernel
theorem dX6_ticks_180 : decode cX6_ticks 180 = .ok (.goto (-48), 3) := by decide +kernel
theorem dX6_ticks_183 : decode cX6_ticks 183 = .ok (.aload_n 0, 1) := by decide +kernel
theorem dX6_ticks_184 : decode cX6_ticks 184 = .ok (.getfield 141, 3) := by decide +kernel
theorem dX6_ticks_187 : decode cX6_ticks 187 = .ok (.aload_n 0, 1) := by decide +kernel
theorem dX6_ticks_188 : decode cX6_ticks 188 = .ok (.getfield 120, 3) := by decide +kernel
theorem dX6_ticks_191 : decode cX6_ticks 191 = .ok (.iload_n 1, 1) := by decide +kernel
theorem dX6_ticks_192 : decode cX6_ticks 192 = .ok (.iaload, 1) := by decide +kernel
theorem dX6_ticks_193 : decode cX6_ticks 193 = .ok (.dup2, 1) := by decide +kernel
theorem dX6_ticks_194 : decode cX6_ticks 194 = .ok (.iaload, 1) := by decide +kernel
theorem dX6_ticks_195 : decode cX6_ticks 195 = .ok (.iconst 1, 1) := by decide +kernel
theorem dX6_ticks_196 : decode cX6_ticks 196 = .ok (.iadd, 1) := by decide +kernel
theorem dX6_ticks_197 : decode cX6_ticks 197 = .ok (.iastore, 1) := by decide +kernel
theorem dX6_ticks_198 : decode cX6_ticks 198 = .ok (.iload 5, 2) := by decide +kernel
theorem dX6_ticks_200 : decode cX6_ticks 200 = .ok (.ifCond .ne 17, 3) := by decide +kernel
theorem dX6_ticks_203 : decode cX6_ticks 203 = .ok (.aload_n 0, 1) := by decide +kernel
theorem dX6_ticks_204 : decode cX6_ticks 204 = .ok (.getfield 83, 3) := by decide +kernel
theorem dX6_ticks_207 : decode cX6_ticks 207 = .ok (.iload_n 1, 1) := by decide +kernel
theorem dX6_ticks_208 : decode cX6_ticks 208 = .ok (.iaload, 1) := by decide +kernel
theorem dX6_ticks_209 : decode cX6_ticks 209 = .ok (.iload_n 3, 1) := by decide +kernel
theorem dX6_ticks_210 : decode cX6_ticks 210 = .ok (.if_icmp .ne 7, 3) := by decide +kernel
theorem dX6_ticks_213 : decode cX6_ticks 213 = .ok (.iconst 1, 1) := by decide +kernel
theorem dX6_ticks_214 : decode cX6_ticks 214 = .ok (.goto 4, 3) := by decide +kernel
theorem dX6_ticks_217 : decode cX6_ticks 217 = .ok (.iconst 0, 1) := by decide +kernel
theorem dX6_ticks_218 : decode cX6_ticks 218 = .ok (.istore 6, 2) := by decide +kernel
theorem dX6_ticks_220 : decode cX6_ticks 220 = .ok (.iload 5, 2) := by decide +kernel
theorem dX6_ticks_222 : decode cX6_ticks 222 = .ok (.iconst 1, 1) := by decide +kernel
theorem dX6_ticks_223 : decode cX6_ticks 223 = .ok (.if_icmp .ne 81, 3) := by decide +kernel
theorem dX6_ticks_226 : decode cX6_ticks 226 = .ok (.aload_n 0, 1) := by decide +kernel
theorem dX6_ticks_227 : decode cX6_ticks 227 = .ok (.iload_n 1, 1) := by decide +kernel
theorem dX6_ticks_228 : decode cX6_ticks 228 = .ok (.iload_n 3, 1) := by decide +kernel
theorem dX6_ticks_229 : decode cX6_ticks 229 = .ok (.bipush 100, 2) := by decide +kernel
theorem dX6_ticks_231 : decode cX6_ticks 231 = .ok (.isub, 1) := by decide +kernel
theorem dX6_ticks_232 : decode cX6_ticks 232 = .ok (.invokevirtual 168, 3) := by decide +kernel
theorem dX6_ticks_235 : decode cX6_ticks 235 = .ok (.istore 7, 2) := by decide +kernel
theorem dX6_ticks_237 : decode cX6_ticks 237 = .ok (.aload_n 0, 1) := by decide +kernel
theorem dX6_ticks_238 : decode cX6_ticks 238 = .ok (.getfield 117, 3) := by decide +kernel
theorem dX6_ticks_241 : decode cX6_ticks 241 = .ok (.iload_n 1, 1) := by decide +kernel
theorem dX6_ticks_242 : decode cX6_ticks 242 = .ok (.dup2, 1) := by decide +kernel
theorem dX6_ticks_243 : decode cX6_ticks 243 = .ok (.iaload, 1) := by decide +kernel
theorem dX6_ticks_244 : decode cX6_ticks 244 = .ok (.iload 7, 2) := by decide +kernel
theorem dX6_ticks_246 : decode cX6_ticks 246 = .ok (.ifCond .le 7, 3) := by decide +kernel
theorem dX6_ticks_249 : decode cX6_ticks 249 = .ok (.iconst 1, 1) := by decide +kernel
theorem dX6_ticks_250 : decode cX6_ticks 250 = .ok (.goto 4, 3) := by decide +kernel
theorem dX6_ticks_253 : decode cX6_ticks 253 = .ok (.iconst 0, 1) := by decide +kernel
theorem dX6_ticks_254 : decode cX6_ticks 254 = .ok (.iadd, 1) := by decide +kernel
theorem dX6_ticks_255 : decode cX6_ticks 255 = .ok (.iastore, 1) := by decide +kernel
theorem dX6_ticks_256 : decode cX6_ticks 256 = .ok (.aload_n 0, 1) := by decide +kernel
theorem dX6_ticks_257 : decode cX6_ticks 257 = .ok (.getfield 135, 3) := by decide +kernel
theorem dX6_ticks_260 : decode cX6_ticks 260 = .ok (.aload_n 0, 1) := by decide +kernel
theorem dX6_ticks_261 : decode cX6_ticks 261 = .ok (.getfield 120, 3) := by decide +kernel
theorem dX6_ticks_264 : decode cX6_ticks 264 = .ok (.iload_n 1, 1) := by decide +kernel
theorem dX6_ticks_265 : decode cX6_ticks 265 = .ok (.iaload, 1) := by decide +kernel
theorem dX6_ticks_266 : decode cX6_ticks 266 = .ok (.aload_n 0, 1) := by decide +kernel
theorem dX6_ticks_267 : decode cX6_ticks 267 = .ok (.getfield 135, 3) := by decide +kernel
theorem dX6_ticks_270 : decode cX6_ticks 270 = .ok (.aload_n 0, 1) := by decide +kernel
theorem dX6_ticks_271 : decode cX6_ticks 271 = .ok (.getfield 120, 3) := by decide +kernel
theorem dX6_ticks_274 : decode cX6_ticks 274 = .ok (.iload_n 1, 1) := by decide +kernel
theorem dX6_ticks_275 : decode cX6_ticks 275 = .ok (.iaload, 1) := by decide +kernel
theorem dX6_ticks_276 : decode cX6_ticks 276 = .ok (.baload, 1) := by decide +kernel
theorem dX6_ticks_277 : decode cX6_ticks 277 = .ok (.ifCond .ne 18, 3) := by decide +kernel
theorem dX6_ticks_280 : decode cX6_ticks 280 = .ok (.iload 7, 2) := by decide +kernel
theorem dX6_ticks_282 : decode cX6_ticks 282 = .ok (.iconst 1, 1) := by decide +kernel
theorem dX6_ticks_283 : decode cX6_ticks 283 = .ok (.if_icmp .ne 16, 3) := by decide +kernel
theorem dX6_ticks_286 : decode cX6_ticks 286 = .ok (.aload_n 0, 1) := by decide +kernel
theorem dX6_ticks_287 : decode cX6_ticks 287 = .ok (.iload_n 1, 1) := by decide +kernel
theorem dX6_ticks_288 : decode cX6_ticks 288 = .ok (.invokevirtual 162, 3) := by decide +kernel
theorem dX6_ticks_291 : decode cX6_ticks 291 = .ok (.iconst 1, 1) := by decide +kernel
theorem dX6_ticks_292 : decode cX6_ticks 292 = .ok (.if_icmp .le 7, 3) := by decide +kernel
theorem dX6_ticks_295 : decode cX6_ticks 295 = .ok (.iconst 1, 1) := by decide +kernel
theorem dX6_ticks_296 : decode cX6_ticks 296 = .ok (.goto 4, 3) := by decide +kernel
theorem dX6_ticks_299 : decode cX6_ticks 299 = .ok (.iconst 0, 1) := by decide +kernel
theorem dX6_ticks_300 : decode cX6_ticks 300 = .ok (.bastore, 1) := by decide +kernel
theorem dX6_ticks_301 : decode cX6_ticks 301 = .ok (.goto 19, 3) := by decide +kernel
theorem dX6_ticks_304 : decode cX6_ticks 304 = .ok (.iload 5, 2) := by decide +kernel
theorem dX6_ticks_306 : decode cX6_ticks 306 = .ok (.iconst 1, 1) := by decide +kernel
theorem dX6_ticks_307 : decode cX6_ticks 307 = .ok (.if_icmp .le 13, 3) := by decide +kernel
theorem dX6_ticks_310 : decode cX6_ticks 310 = .ok (.aload_n 0, 1) := by decide +kernel
theorem dX6_ticks_311 : decode cX6_ticks 311 = .ok (.getfield 117, 3) := by decide +kernel
theorem dX6_ticks_314 : decode cX6_ticks 314 = .ok (.iload_n 1, 1) := by decide +kernel
theorem dX6_ticks_315 : decode cX6_ticks 315 = .ok (.dup2, 1) := by decide +kernel
theorem dX6_ticks_316 : decode cX6_ticks 316 = .ok (.iaload, 1) := by decide +kernel
theorem dX6_ticks_317 : decode cX6_ticks 317 = .ok (.iconst 1, 1) := by decide +kernel
theorem dX6_ticks_318 : decode cX6_ticks 318 = .ok (.iadd, 1) := by decide +kernel
theorem dX6_ticks_319 : decode cX6_ticks 319 = .ok (.iastore, 1) := by decide +kernel
theorem dX6_ticks_320 : decode cX6_ticks 320 = .ok (.iload 6, 2) := by decide +kernel
theorem dX6_ticks_322 : decode cX6_ticks 322 = .ok (.ifCond .ne 19, 3) := by decide +kernel
theorem dX6_ticks_325 : decode cX6_ticks 325 = .ok (.iload 5, 2) := by decide +kernel
theorem dX6_ticks_327 : decode cX6_ticks 327 = .ok (.ifCond .le 18, 3) := by decide +kernel
theorem dX6_ticks_330 : decode cX6_ticks 330 = .ok (.aload_n 0, 1) := by decide +kernel
theorem dX6_ticks_331 : decode cX6_ticks 331 = .ok (.getfield 117, 3) := by decide +kernel
theorem dX6_ticks_334 : decode cX6_ticks 334 = .ok (.iload_n 1, 1) := by decide +kernel
theorem dX6_ticks_335 : decode cX6_ticks 335 = .ok (.iaload, 1) := by decide +kernel
theorem dX6_ticks_336 : decode cX6_ticks 336 = .ok (.iload 4, 2) := by decide +kernel
theorem dX6_ticks_338 : decode cX6_ticks 338 = .ok (.if_icmp .ne 7, 3) := by decide +kernel
theorem dX6_ticks_341 : decode cX6_ticks 341 = .ok (.iconst 1, 1) := by decide +kernel
theorem dX6_ticks_342 : decode cX6_ticks 342 = .ok (.goto 4, 3) := by decide +kernel
theorem dX6_ticks_345 : decode cX6_ticks 345 = .ok (.iconst 0, 1) := by decide +kernel
theorem dX6_ticks_346 : decode cX6_ticks 346 = .ok (.istore 6, 2) := by decide +kernel
theorem dX6_ticks_348 : decode cX6_ticks 348 = .ok (.iload 6, 2) := by decide +kernel
theorem dX6_ticks_350 : decode cX6_ticks 350 = .ok (.ifCond .eq 66, 3) := by decide +kernel
theorem dX6_ticks_353 : decode cX6_ticks 353 = .ok (.aload_n 0, 1) := by decide +kernel
theorem dX6_ticks_354 : decode cX6_ticks 354 = .ok (.getfield 114, 3) := by decide +kernel
theorem dX6_ticks_357 : decode cX6_ticks 357 = .ok (.iload_n 1, 1) := by decide +kernel
theorem dX6_ticks_358 : decode cX6_ticks 358 = .ok (.dup2, 1) := by decide +kernel
theorem dX6_ticks_359 : decode cX6_ticks 359 = .ok (.iaload, 1) := by decide +kernel
theorem dX6_ticks_360 : decode cX6_ticks 360 = .ok (.iconst 1, 1) := by decide +kernel
theorem dX6_ticks_361 : decode cX6_ticks 361 = .ok (.iadd, 1) := by decide +kernel
theorem dX6_ticks_362 : decode cX6_ticks 362 = .ok (.iastore, 1) := by decide +kernel
theorem dX6_ticks_363 : decode cX6_ticks 363 = .ok (.aload_n 0, 1) := by decide +kernel
theorem dX6_ticks_364 : decode cX6_ticks 364 = .ok (.getfield 117, 3) := by decide +kernel
theorem dX6_ticks_367 : decode cX6_ticks 367 = .ok (.iload_n 1, 1) := by decide +kernel
theorem dX6_ticks_368 : decode cX6_ticks 368 = .ok (.iconst 0, 1) := by decide +kernel
theorem dX6_ticks_369 : decode cX6_ticks 369 = .ok (.iastore, 1) := by decide +kernel
theorem dX6_ticks_370 : decode cX6_ticks 370 = .ok (.aload_n 0, 1) := by decide +kernel
theorem dX6_ticks_371 : decode cX6_ticks 371 = .ok (.getfield 114, 3) := by decide +kernel
theorem dX6_ticks_374 : decode cX6_ticks 374 = .ok (.iload_n 1, 1) := by decide +kernel
theorem dX6_ticks_375 : decode cX6_ticks 375 = .ok (.iaload, 1) := by decide +kernel
theorem dX6_ticks_376 : decode cX6_ticks 376 = .ok (.aload_n 0, 1) := by decide +kernel
theorem dX6_ticks_377 : decode cX6_ticks 377 = .ok (.getfield 89, 3) := by decide +kernel
theorem dX6_ticks_380 : decode cX6_ticks 380 = .ok (.iload_n 1, 1) := by decide +kernel
theorem dX6_ticks_381 : decode cX6_ticks 381 = .ok (.iaload, 1) := by decide +kernel
theorem dX6_ticks_382 : decode cX6_ticks 382 = .ok (.if_icmp .ne 34, 3) := by decide +kernel
theorem dX6_ticks_385 : decode cX6_ticks 385 = .ok (.aload_n 0, 1) := by decide +kernel
theorem dX6_ticks_386 : decode cX6_ticks 386 = .ok (.getfield 111, 3) := by decide +kernel
theorem dX6_ticks_389 : decode cX6_ticks 389 = .ok (.iload_n 1, 1) := by decide +kernel
theorem dX6_ticks_390 : decode cX6_ticks 390 = .ok (.iconst 0, 1) := by decide +kernel
theorem dX6_ticks_391 : decode cX6_ticks 391 = .ok (.bastore, 1) := by decide +kernel
theorem dX6_ticks_392 : decode cX6_ticks 392 = .ok (.aload_n 0, 1) := by decide +kernel
theorem dX6_ticks_393 : decode cX6_ticks 393 = .ok (.getfield 129, 3) := by decide +kernel
theorem dX6_ticks_396 : decode cX6_ticks 396 = .ok (.aload_n 0, 1) := by decide +kernel
theorem dX6_ticks_397 : decode cX6_ticks 397 = .ok (.getfield 120, 3) := by decide +kernel
theorem dX6_ticks_400 : decode cX6_ticks 400 = .ok (.iload_n 1, 1) := by decide +kernel
theorem dX6_ticks_401 : decode cX6_ticks 401 = .ok (.iaload, 1) := by decide +kernel
theorem dX6_ticks_402 : decode cX6_ticks 402 = .ok (.iconst 1, 1) := by decide +kernel
theorem dX6_ticks_403 : decode cX6_ticks 403 = .ok (.bastore, 1) := by decide +kernel
theorem dX6_ticks_404 : decode cX6_ticks 404 = .ok (.aload_n 0, 1) := by decide +kernel
theorem dX6_ticks_405 : decode cX6_ticks 405 = .ok (.getfield 132, 3) := by decide +kernel
theorem dX6_ticks_408 : decode cX6_ticks 408 = .ok (.aload_n 0, 1) := by decide +kernel
theorem dX6_ticks_409 : decode cX6_ticks 409 = .ok (.getfield 120, 3) := by decide +kernel
theorem dX6_ticks_412 : decode cX6_ticks 412 = .ok (.iload_n 1, 1) := by decide +kernel
theorem dX6_ticks_413 : decode cX6_ticks 413 = .ok (.iaload, 1) := by decide +kernel
theorem dX6_ticks_414 : decode cX6_ticks 414 = .ok (.iconst 1, 1) := by decide +kernel
theorem dX6_ticks_415 : decode cX6_ticks 415 = .ok (.bastore, 1) := by decide +kernel
theorem dX6_ticks_416 : decode cX6_ticks 416 = .ok (.return_, 1) := by decide +kernel
theorem dX6_running_0 : decode cX6_running 0 = .ok (.iconst 0, 1) := by decide +kernel
theorem dX6_running_1 : decode cX6_running 1 = .ok (.istore_n 1, 1) := by decide +kernel
theorem dX6_running_2 : decode cX6_running 2 = .ok (.iconst 0, 1) := by decide +kernel
theorem dX6_running_3 : decode cX6_running 3 = .ok (.istore_n 2, 1) := by decide +kernel
theorem dX6_running_4 : decode cX6_running 4 = .ok (.iload_n 2, 1) := by decide +kernel
theorem dX6_running_5 : decode cX6_running 5 = .ok (.iconst 3, 1) := by decide +kernel
theorem dX6_running_6 : decode cX6_running 6 = .ok (.if_icmp .ge 26, 3) := by decide +kernel
theorem dX6_running_9 : decode cX6_running 9 = .ok (.iload_n 1, 1) := by decide +kernel
theorem dX6_running_10 : decode cX6_running 10 = .ok (.aload_n 0, 1) := by decide +kernel
theorem dX6_running_11 : decode cX6_running 11 = .ok (.getfield 111, 3) := by decide +kernel
theorem dX6_running_14 : decode cX6_running 14 = .ok (.iload_n 2, 1) := by decide +kernel
theorem dX6_running_15 : decode cX6_running 15 = .ok (.baload, 1) := by decide +kernel
theorem dX6_running_16 : decode cX6_running 16 = .ok (.ifCond .eq 7, 3) := by decide +kernel
theorem dX6_running_19 : decode cX6_running 19 = .ok (.iconst 1, 1) := by decide +kernel
theorem dX6_running_20 : decode cX6_running 20 = .ok (.goto 4, 3) := by decide +kernel
theorem dX6_running_23 : decode cX6_running 23 = .ok (.iconst 0, 1) := by decide +kernel
theorem dX6_running_24 : decode cX6_running 24 = .ok (.iadd, 1) := by decide +kernel
theorem dX6_running_25 : decode cX6_running 25 = .ok (.istore_n 1, 1) := by decide +kernel
theorem dX6_running_26 : decode cX6_running 26 = .ok (.iinc 2 1, 3) := by decide +kernel
theorem dX6_running_29 : decode cX6_running 29 = .ok (.goto (-25), 3) := by decide +kernel
theorem dX6_running_32 : decode cX6_running 32 = .ok (.iload_n 1, 1) := by decide +kernel
theorem dX6_running_33 : decode cX6_running 33 = .ok (.ireturn, 1) := by decide +kernel
theorem dX6_tick_0 : decode cX6_tick 0 = .ok (.iload_n 1, 1) := by decide +kernel
theorem dX6_tick_1 : decode cX6_tick 1 = .ok (.iconst 1, 1) := by decide +kernel
theorem dX6_tick_2 : decode cX6_tick 2 = .ok (.sipush 200, 3) := by decide +kernel
theorem dX6_tick_5 : decode cX6_tick 5 = .ok (.invokestatic 1, 3) := by decide +kernel
theorem dX6_tick_8 : decode cX6_tick 8 = .ok (.ifCond .ne 6, 3) := by decide +kernel
theorem dX6_tick_11 : decode cX6_tick 11 = .ok (.bipush (-2), 2) := by decide +kernel
theorem dX6_tick_13 : decode cX6_tick 13 = .ok (.ireturn, 1) := by decide +kernel
theorem dX6_tick_14 : decode cX6_tick 14 = .ok (.iconst 0, 1) := by decide +kernel
theorem dX6_tick_15 : decode cX6_tick 15 = .ok (.istore_n 2, 1) := by decide +kernel
theorem dX6_tick_16 : decode cX6_tick 16 = .ok (.iload_n 2, 1) := by decide +kernel
theorem dX6_tick_17 : decode cX6_tick 17 = .ok (.iload_n 1, 1) := by decide +kernel
theorem dX6_tick_18 : decode cX6_tick 18 = .ok (.if_icmp .ge 36, 3) := by decide +kernel
theorem dX6_tick_21 : decode cX6_tick 21 = .ok (.iconst 0, 1) := by decide +kernel
theorem dX6_tick_22 : decode cX6_tick 22 = .ok (.istore_n 3, 1) := by decide +kernel
theorem dX6_tick_23 : decode cX6_tick 23 = .ok (.iload_n 3, 1) := by decide +kernel
theorem dX6_tick_24 : decode cX6_tick 24 = .ok (.iconst 3, 1) := by decide +kernel
theorem dX6_tick_25 : decode cX6_tick 25 = .ok (.if_icmp .ge 23, 3) := by decide +kernel
theorem dX6_tick_28 : decode cX6_tick 28 = .ok (.aload_n 0, 1) := by decide +kernel
theorem dX6_tick_29 : decode cX6_tick 29 = .ok (.getfield 111, 3) := by decide +kernel
theorem dX6_tick_32 : decode cX6_tick 32 = .ok (.iload_n 3, 1) := by decide +kernel
theorem dX6_tick_33 : decode cX6_tick 33 = .ok (.baload, 1) := by decide +kernel
theorem dX6_tick_34 : decode cX6_tick 34 = .ok (.ifCond .eq 8, 3) := by decide +kernel
theorem dX6_tick_37 : decode cX6_tick 37 = .ok (.aload_n 0, 1) := by decide +kernel
theorem dX6_tick_38 : decode cX6_tick 38 = .ok (.iload_n 3, 1) := by decide +kernel
theorem dX6_tick_39 : decode cX6_tick 39 = .ok (.invokevirtual 172, 3) := by decide +kernel
theorem dX6_tick_42 : decode cX6_tick 42 = .ok (.iinc 3 1, 3) := by decide +kernel
theorem dX6_tick_45 : decode cX6_tick 45 = .ok (.goto (-22), 3) := by decide +kernel
theorem dX6_tick_48 : decode cX6_tick 48 = .ok (.iinc 2 1, 3) := by decide +kernel
theorem dX6_tick_51 : decode cX6_tick 51 = .ok (.goto (-35), 3) := by decide +kernel
theorem dX6_tick_54 : decode cX6_tick 54 = .ok (.aload_n 0, 1) := by decide +kernel
theorem dX6_tick_55 : decode cX6_tick 55 = .ok (.invokevirtual 176, 3) := by decide +kernel
theorem dX6_tick_58 : decode cX6_tick 58 = .ok (.ireturn, 1) := by decide +kernel
theorem dX6_stop_0 : decode cX6_stop 0 = .ok (.iload_n 1, 1) := by decide +kernel
theorem dX6_stop_1 : decode cX6_stop 1 = .ok (.invokestatic 153, 3) := by decide +kernel
theorem dX6_stop_4 : decode cX6_stop 4 = .ok (.ifCond .ne 6, 3) := by decide +kernel
theorem dX6_stop_7 : decode cX6_stop 7 = .ok (.bipush (-2), 2) := by decide +kernel
theorem dX6_stop_9 : decode cX6_stop 9 = .ok (.ireturn, 1) := by decide +kernel
theorem dX6_stop_10 : decode cX6_stop 10 = .ok (.aload_n 0, 1) := by decide +kernel
theorem dX6_stop_11 : decode cX6_stop 11 = .ok (.getfield 111, 3) := by decide +kernel
theorem dX6_stop_14 : decode cX6_stop 14 = .ok (.iload_n 1, 1) := by decide +kernel
theorem dX6_stop_15 : decode cX6_stop 15 = .ok (.baload, 1) := by decide +kernel
theorem dX6_stop_16 : decode cX6_stop 16 = .ok (.ifCond .ne 6, 3) := by decide +kernel
theorem dX6_stop_19 : decode cX6_stop 19 = .ok (.bipush (-3), 2) := by decide +kernel
theorem dX6_stop_21 : decode cX6_stop 21 = .ok (.ireturn, 1) := by decide +kernel
theorem dX6_stop_22 : decode cX6_stop 22 = .ok (.aload_n 0, 1) := by decide +kernel
theorem dX6_stop_23 : decode cX6_stop 23 = .ok (.getfield 111, 3) := by decide +kernel
theorem dX6_stop_26 : decode cX6_stop 26 = .ok (.iload_n 1, 1) := by decide +kernel
theorem dX6_stop_27 : decode cX6_stop 27 = .ok (.iconst 0, 1) := by decide +kernel
theorem dX6_stop_28 : decode cX6_stop 28 = .ok (.bastore, 1) := by decide +kernel
theorem dX6_stop_29 : decode cX6_stop 29 = .ok (.aload_n 0, 1) := by decide +kernel
theorem dX6_stop_30 : decode cX6_stop 30 = .ok (.getfield 129, 3) := by decide +kernel
theorem dX6_stop_33 : decode cX6_stop 33 = .ok (.aload_n 0, 1) := by decide +kernel
theorem dX6_stop_34 : decode cX6_stop 34 = .ok (.getfield 120, 3) := by decide +kernel
theorem dX6_stop_37 : decode cX6_stop 37 = .ok (.iload_n 1, 1) := by decide +kernel
theorem dX6_stop_38 : decode cX6_stop 38 = .ok (.iaload, 1) := by decide +kernel
theorem dX6_stop_39 : decode cX6_stop 39 = .ok (.iconst 1, 1) := by decide +kernel
theorem dX6_stop_40 : decode cX6_stop 40 = .ok (.bastore, 1) := by decide +kernel
theorem dX6_stop_41 : decode cX6_stop 41 = .ok (.aload_n 0, 1) := by decide +kernel
theorem dX6_stop_42 : decode cX6_stop 42 = .ok (.getfield 114, 3) := by decide +kernel
theorem dX6_stop_45 : decode cX6_stop 45 = .ok (.iload_n 1, 1) := by decide +kernel
theorem dX6_stop_46 : decode cX6_stop 46 = .ok (.iaload, 1) := by decide +kernel
theorem dX6_stop_47 : decode cX6_stop 47 = .ok (.ireturn, 1) := by decide +kernel
theorem dX6_survey_0 : decode cX6_survey 0 = .ok (.iload_n 1, 1) := by decide +kernel
theorem dX6_survey_1 : decode cX6_survey 1 = .ok (.invokestatic 153, 3) := by decide +kernel
theorem dX6_survey_4 : decode cX6_survey 4 = .ok (.ifCond .eq 16, 3) := by decide +kernel
theorem dX6_survey_7 : decode cX6_survey 7 = .ok (.iload_n 2, 1) := by decide +kernel
theorem dX6_survey_8 : decode cX6_survey 8 = .ok (.sipush (-500), 3) := by decide +kernel
theorem dX6_survey_11 : decode cX6_survey 11 = .ok (.sipush 500, 3) := by decide +kernel
theorem dX6_survey_14 : decode cX6_survey 14 = .ok (.invokestatic 1, 3) := by decide +kernel
theorem dX6_survey_17 : decode cX6_survey 17 = .ok (.ifCond .ne 6, 3) := by decide +kernel
theorem dX6_survey_20 : decode cX6_survey 20 = .ok (.bipush (-2), 2) := by decide +kernel
theorem dX6_survey_22 : decode cX6_survey 22 = .ok (.ireturn, 1) := by decide +kernel
theorem dX6_survey_23 : decode cX6_survey 23 = .ok (.aload_n 0, 1) := by decide +kernel
theorem dX6_survey_24 : decode cX6_survey 24 = .ok (.getfield 111, 3) := by decide +kernel
theorem dX6_survey_27 : decode cX6_survey 27 = .ok (.iload_n 1, 1) := by decide +kernel
theorem dX6_survey_28 : decode cX6_survey 28 = .ok (.baload, 1) := by decide +kernel
theorem dX6_survey_29 : decode cX6_survey 29 = .ok (.ifCond .eq 6, 3) := by decide +kernel
theorem dX6_survey_32 : decode cX6_survey 32 = .ok (.bipush (-3), 2) := by decide +kernel
theorem dX6_survey_34 : decode cX6_survey 34 = .ok (.ireturn, 1) := by decide +kernel
theorem dX6_survey_35 : decode cX6_survey 35 = .ok (.iconst 0, 1) := by decide +kernel
theorem dX6_survey_36 : decode cX6_survey 36 = .ok (.istore_n 3, 1) := by decide +kernel
theorem dX6_survey_37 : decode cX6_survey 37 = .ok (.aload_n 0, 1) := by decide +kernel
theorem dX6_survey_38 : decode cX6_survey 38 = .ok (.getfield 123, 3) := by decide +kernel
theorem dX6_survey_41 : decode cX6_survey 41 = .ok (.iload_n 1, 1) := by decide +kernel
theorem dX6_survey_42 : decode cX6_survey 42 = .ok (.iaload, 1) := by decide +kernel
theorem dX6_survey_43 : decode cX6_survey 43 = .ok (.istore 4, 2) := by decide +kernel
theorem dX6_survey_45 : decode cX6_survey 45 = .ok (.iload 4, 2) := by decide +kernel
theorem dX6_survey_47 : decode cX6_survey 47 = .ok (.aload_n 0, 1) := by decide +kernel
theorem dX6_survey_48 : decode cX6_survey 48 = .ok (.getfield 165, 3) := by decide +kernel
theorem dX6_survey_51 : decode cX6_survey 51 = .ok (.if_icmp .ge 41, 3) := by decide +kernel
theorem dX6_survey_54 : decode cX6_survey 54 = .ok (.aload_n 0, 1) := by decide +kernel
theorem dX6_survey_55 : decode cX6_survey 55 = .ok (.getfield 86, 3) := by decide +kernel
theorem dX6_survey_58 : decode cX6_survey 58 = .ok (.iload_n 1, 1) := by decide +kernel
theorem dX6_survey_59 : decode cX6_survey 59 = .ok (.iaload, 1) := by decide +kernel
theorem dX6_survey_60 : decode cX6_survey 60 = .ok (.iload_n 2, 1) := by decide +kernel
theorem dX6_survey_61 : decode cX6_survey 61 = .ok (.if_icmp .eq 31, 3) := by decide +kernel
theorem dX6_survey_64 : decode cX6_survey 64 = .ok (.aload_n 0, 1) := by decide +kernel
theorem dX6_survey_65 : decode cX6_survey 65 = .ok (.getfield 126, 3) := by decide +kernel
theorem dX6_survey_68 : decode cX6_survey 68 = .ok (.iload 4, 2) := by decide +kernel
theorem dX6_survey_70 : decode cX6_survey 70 = .ok (.iaload, 1) := by decide +kernel
theorem dX6_survey_71 : decode cX6_survey 71 = .ok (.iload_n 1, 1) := by decide +kernel
theorem dX6_survey_72 : decode cX6_survey 72 = .ok (.if_icmp .ne 14, 3) := by decide +kernel
theorem dX6_survey_75 : decode cX6_survey 75 = .ok (.aload_n 0, 1) := by decide +kernel
theorem dX6_survey_76 : decode cX6_survey 76 = .ok (.getfield 138, 3) := by decide +kernel
theorem dX6_survey_79 : decode cX6_survey 79 = .ok (.iload 4, 2) := by decide +kernel
theorem dX6_survey_81 : decode cX6_survey 81 = .ok (.iconst 1, 1) := by decide +kernel
theorem dX6_survey_82 : decode cX6_survey 82 = .ok (.bastore, 1) := by decide +kernel
theorem dX6_survey_83 : decode cX6_survey 83 = .ok (.iinc 3 1, 3) := by decide +kernel
theorem dX6_survey_86 : decode cX6_survey 86 = .ok (.iinc 4 1, 3) := by decide +kernel
theorem dX6_survey_89 : decode cX6_survey 89 = .ok (.goto (-44), 3) := by decide +kernel
theorem dX6_survey_92 : decode cX6_survey 92 = .ok (.aload_n 0, 1) := by decide +kernel
theorem dX6_survey_93 : decode cX6_survey 93 = .ok (.getfield 86, 3) := by decide +kernel
theorem dX6_survey_96 : decode cX6_survey 96 = .ok (.iload_n 1, 1) := by decide +kernel
theorem dX6_survey_97 : decode cX6_survey 97 = .ok (.iload_n 2, 1) := by decide +kernel
theorem dX6_survey_98 : decode cX6_survey 98 = .ok (.iastore, 1) := by decide +kernel
theorem dX6_survey_99 : decode cX6_survey 99 = .ok (.aload_n 0, 1) := by decide +kernel
theorem dX6_survey_100 : decode cX6_survey 100 = .ok (.getfield 123, 3) := by decide +kernel
theorem dX6_survey_103 : decode cX6_survey 103 = .ok (.iload_n 1, 1) := by decide +kernel
theorem dX6_survey_104 : decode cX6_survey 104 = .ok (.aload_n 0, 1) := by decide +kernel
theorem dX6_survey_105 : decode cX6_survey 105 = .ok (.getfield 165, 3) := by decide +kernel
theorem dX6_survey_108 : decode cX6_survey 108 = .ok (.iastore, 1) := by decide +kernel
theorem dX6_survey_109 : decode cX6_survey 109 = .ok (.iload_n 3, 1) := by decide +kernel
theorem dX6_survey_110 : decode cX6_survey 110 = .ok (.ireturn, 1) := by decide +kernel
theorem dX6_about_0 : decode cX6_about 0 = .ok (.iload_n 1, 1) := by decide +kernel
theorem dX6_about_1 : decode cX6_about 1 = .ok (.invokestatic 153, 3) := by decide +kernel
theorem dX6_about_4 : decode cX6_about 4 = .ok (.ifCond .ne 6, 3) := by decide +kernel
theorem dX6_about_7 : decode cX6_about 7 = .ok (.bipush (-2), 2) := by decide +kernel
theorem dX6_about_9 : decode cX6_about 9 = .ok (.ireturn, 1) := by decide +kernel
theorem dX6_about_10 : decode cX6_about 10 = .ok (.iload_n 2, 1) := by decide +kernel
theorem dX6_about_11 : decode cX6_about 11 = .ok (.tableswitch 123 0 6 #[41, 48, 55, 70, 90, 110, 116], 41) := by decide +kernel
theorem dX6_about_52 : decode cX6_about 52 = .ok (.aload_n 0, 1) := by decide +kernel
theorem dX6_about_53 : decode cX6_about 53 = .ok (.getfield 83, 3) := by decide +kernel
theorem dX6_about_56 : decode cX6_about 56 = .ok (.iload_n 1, 1) := by decide +kernel
theorem dX6_about_57 : decode cX6_about 57 = .ok (.iaload, 1) := by decide +kernel
theorem dX6_about_58 : decode cX6_about 58 = .ok (.ireturn, 1) := by decide +kernel
theorem dX6_about_59 : decode cX6_about 59 = .ok (.aload_n 0, 1) := by decide +kernel
theorem dX6_about_60 : decode cX6_about 60 = .ok (.getfield 86, 3) := by decide +kernel
theorem dX6_about_63 : decode cX6_about 63 = .ok (.iload_n 1, 1) := by decide +kernel
theorem dX6_about_64 : decode cX6_about 64 = .ok (.iaload, 1) := by decide +kernel
theorem dX6_about_65 : decode cX6_about 65 = .ok (.ireturn, 1) := by decide +kernel
theorem dX6_about_66 : decode cX6_about 66 = .ok (.aload_n 0, 1) := by decide +kernel
theorem dX6_about_67 : decode cX6_about 67 = .ok (.getfield 111, 3) := by decide +kernel
theorem dX6_about_70 : decode cX6_about 70 = .ok (.iload_n 1, 1) := by decide +kernel
theorem dX6_about_71 : decode cX6_about 71 = .ok (.baload, 1) := by decide +kernel
theorem dX6_about_72 : decode cX6_about 72 = .ok (.ifCond .eq 7, 3) := by decide +kernel
theorem dX6_about_75 : decode cX6_about 75 = .ok (.iconst 1, 1) := by decide +kernel
theorem dX6_about_76 : decode cX6_about 76 = .ok (.goto 4, 3) := by decide +kernel
theorem dX6_about_79 : decode cX6_about 79 = .ok (.iconst 0, 1) := by decide +kernel
theorem dX6_about_80 : decode cX6_about 80 = .ok (.ireturn, 1) := by decide +kernel
theorem dX6_about_81 : decode cX6_about 81 = .ok (.aload_n 0, 1) := by decide +kernel
theorem dX6_about_82 : decode cX6_about 82 = .ok (.getfield 111, 3) := by decide +kernel
theorem dX6_about_85 : decode cX6_about 85 = .ok (.iload_n 1, 1) := by decide +kernel
theorem dX6_about_86 : decode cX6_about 86 = .ok (.baload, 1) := by decide +kernel
theorem dX6_about_87 : decode cX6_about 87 = .ok (.ifCond .eq 12, 3) := by decide +kernel
theorem dX6_about_90 : decode cX6_about 90 = .ok (.aload_n 0, 1) := by decide +kernel
theorem dX6_about_91 : decode cX6_about 91 = .ok (.getfield 114, 3) := by decide +kernel
theorem dX6_about_94 : decode cX6_about 94 = .ok (.iload_n 1, 1) := by decide +kernel
theorem dX6_about_95 : decode cX6_about 95 = .ok (.iaload, 1) := by decide +kernel
theorem dX6_about_96 : decode cX6_about 96 = .ok (.goto 4, 3) := by decide +kernel
theorem dX6_about_99 : decode cX6_about 99 = .ok (.iconst (-1), 1) := by decide +kernel
theorem dX6_about_100 : decode cX6_about 100 = .ok (.ireturn, 1) := by decide +kernel
theorem dX6_about_101 : decode cX6_about 101 = .ok (.aload_n 0, 1) := by decide +kernel
theorem dX6_about_102 : decode cX6_about 102 = .ok (.getfield 111, 3) := by decide +kernel
theorem dX6_about_105 : decode cX6_about 105 = .ok (.iload_n 1, 1) := by decide +kernel
theorem dX6_about_106 : decode cX6_about 106 = .ok (.baload, 1) := by decide +kernel
theorem dX6_about_107 : decode cX6_about 107 = .ok (.ifCond .eq 12, 3) := by decide +kernel
theorem dX6_about_110 : decode cX6_about 110 = .ok (.aload_n 0, 1) := by decide +kernel
theorem dX6_about_111 : decode cX6_about 111 = .ok (.getfield 117, 3) := by decide +kernel
theorem dX6_about_114 : decode cX6_about 114 = .ok (.iload_n 1, 1) := by decide +kernel
theorem dX6_about_115 : decode cX6_about 115 = .ok (.iaload, 1) := by decide +kernel
theorem dX6_about_116 : decode cX6_about 116 = .ok (.goto 4, 3) := by decide +kernel
theorem dX6_about_119 : decode cX6_about 119 = .ok (.iconst 0, 1) := by decide +kernel
theorem dX6_about_120 : decode cX6_about 120 = .ok (.ireturn, 1) := by decide +kernel
theorem dX6_about_121 : decode cX6_about 121 = .ok (.aload_n 0, 1) := by decide +kernel
theorem dX6_about_122 : decode cX6_about 122 = .ok (.iload_n 1, 1) := by decide +kernel
theorem dX6_about_123 : decode cX6_about 123 = .ok (.invokevirtual 159, 3) := by decide +kernel
theorem dX6_about_126 : decode cX6_about 126 = .ok (.ireturn, 1) := by decide +kernel
theorem dX6_about_127 : decode cX6_about 127 = .ok (.aload_n 0, 1) := by decide +kernel
theorem dX6_about_128 : decode cX6_about 128 = .ok (.getfield 89, 3) := by decide +kernel
theorem dX6_about_131 : decode cX6_about 131 = .ok (.iload_n 1, 1) := by decide +kernel
theorem dX6_about_132 : decode cX6_about 132 = .ok (.iaload, 1) := by decide +kernel
theorem dX6_about_133 : decode cX6_about 133 = .ok (.ireturn, 1) := by decide +kernel
theorem dX6_about_134 : decode cX6_about 134 = .ok (.bipush (-2), 2) := by decide +kernel
theorem dX6_about_136 : decode cX6_about 136 = .ok (.ireturn, 1) := by decide +kernel
theorem dX6_isWell_0 : decode cX6_isWell 0 = .ok (.aload_n 0, 1) := by decide +kernel
theorem dX6_isWell_1 : decode cX6_isWell 1 = .ok (.getfield 132, 3) := by decide +kernel
theorem dX6_isWell_4 : decode cX6_isWell 4 = .ok (.iload_n 1, 1) := by decide +kernel
theorem dX6_isWell_5 : decode cX6_isWell 5 = .ok (.baload, 1) := by decide +kernel
theorem dX6_isWell_6 : decode cX6_isWell 6 = .ok (.ifCond .eq 16, 3) := by decide +kernel
theorem dX6_isWell_9 : decode cX6_isWell 9 = .ok (.aload_n 0, 1) := by decide +kernel
theorem dX6_isWell_10 : decode cX6_isWell 10 = .ok (.getfield 135, 3) := by decide +kernel
theorem dX6_isWell_13 : decode cX6_isWell 13 = .ok (.iload_n 1, 1) := by decide +kernel
theorem dX6_isWell_14 : decode cX6_isWell 14 = .ok (.baload, 1) := by decide +kernel
theorem dX6_isWell_15 : decode cX6_isWell 15 = .ok (.ifCond .ne 7, 3) := by decide +kernel
theorem dX6_isWell_18 : decode cX6_isWell 18 = .ok (.iconst 1, 1) := by decide +kernel
theorem dX6_isWell_19 : decode cX6_isWell 19 = .ok (.goto 4, 3) := by decide +kernel
theorem dX6_isWell_22 : decode cX6_isWell 22 = .ok (.iconst 0, 1) := by decide +kernel
theorem dX6_isWell_23 : decode cX6_isWell 23 = .ok (.ireturn, 1) := by decide +kernel
theorem dX6_runAt_0 : decode cX6_runAt 0 = .ok (.iload_n 1, 1) := by decide +kernel
theorem dX6_runAt_1 : decode cX6_runAt 1 = .ok (.ifCond .lt 12, 3) := by decide +kernel
theorem dX6_runAt_4 : decode cX6_runAt 4 = .ok (.iload_n 2, 1) := by decide +kernel
theorem dX6_runAt_5 : decode cX6_runAt 5 = .ok (.iconst 0, 1) := by decide +kernel
theorem dX6_runAt_6 : decode cX6_runAt 6 = .ok (.iconst 4, 1) := by decide +kernel
theorem dX6_runAt_7 : decode cX6_runAt 7 = .ok (.invokestatic 1, 3) := by decide +kernel
theorem dX6_runAt_10 : decode cX6_runAt 10 = .ok (.ifCond .ne 6, 3) := by decide +kernel
theorem dX6_runAt_13 : decode cX6_runAt 13 = .ok (.bipush (-2), 2) := by decide +kernel
theorem dX6_runAt_15 : decode cX6_runAt 15 = .ok (.ireturn, 1) := by decide +kernel
theorem dX6_runAt_16 : decode cX6_runAt 16 = .ok (.iload_n 1, 1) := by decide +kernel
theorem dX6_runAt_17 : decode cX6_runAt 17 = .ok (.aload_n 0, 1) := by decide +kernel
theorem dX6_runAt_18 : decode cX6_runAt 18 = .ok (.getfield 165, 3) := by decide +kernel
theorem dX6_runAt_21 : decode cX6_runAt 21 = .ok (.if_icmp .lt 5, 3) := by decide +kernel
theorem dX6_runAt_24 : decode cX6_runAt 24 = .ok (.iconst (-1), 1) := by decide +kernel
theorem dX6_runAt_25 : decode cX6_runAt 25 = .ok (.ireturn, 1) := by decide +kernel
theorem dX6_runAt_26 : decode cX6_runAt 26 = .ok (.iload_n 2, 1) := by decide +kernel
theorem dX6_runAt_27 : decode cX6_runAt 27 = .ok (.ifCond .ne 10, 3) := by decide +kernel
theorem dX6_runAt_30 : decode cX6_runAt 30 = .ok (.aload_n 0, 1) := by decide +kernel
theorem dX6_runAt_31 : decode cX6_runAt 31 = .ok (.getfield 126, 3) := by decide +kernel
theorem dX6_runAt_34 : decode cX6_runAt 34 = .ok (.iload_n 1, 1) := by decide +kernel
theorem dX6_runAt_35 : decode cX6_runAt 35 = .ok (.iaload, 1) := by decide +kernel
theorem dX6_runAt_36 : decode cX6_runAt 36 = .ok (.ireturn, 1) := by decide +kernel
theorem dX6_runAt_37 : decode cX6_runAt 37 = .ok (.iload_n 2, 1) := by decide +kernel
theorem dX6_runAt_38 : decode cX6_runAt 38 = .ok (.iconst 4, 1) := by decide +kernel
theorem dX6_runAt_39 : decode cX6_runAt 39 = .ok (.if_icmp .ne 10, 3) := by decide +kernel
theorem dX6_runAt_42 : decode cX6_runAt 42 = .ok (.aload_n 0, 1) := by decide +kernel
theorem dX6_runAt_43 : decode cX6_runAt 43 = .ok (.getfield 141, 3) := by decide +kernel
theorem dX6_runAt_46 : decode cX6_runAt 46 = .ok (.iload_n 1, 1) := by decide +kernel
theorem dX6_runAt_47 : decode cX6_runAt 47 = .ok (.iaload, 1) := by decide +kernel
theorem dX6_runAt_48 : decode cX6_runAt 48 = .ok (.ireturn, 1) := by decide +kernel
theorem dX6_runAt_49 : decode cX6_runAt 49 = .ok (.iload_n 2, 1) := by decide +kernel
theorem dX6_runAt_50 : decode cX6_runAt 50 = .ok (.iconst 1, 1) := by decide +kernel
theorem dX6_runAt_51 : decode cX6_runAt 51 = .ok (.if_icmp .ne 15, 3) := by decide +kernel
theorem dX6_runAt_54 : decode cX6_runAt 54 = .ok (.aload_n 0, 1) := by decide +kernel
theorem dX6_runAt_55 : decode cX6_runAt 55 = .ok (.getfield 129, 3) := by decide +kernel
theorem dX6_runAt_58 : decode cX6_runAt 58 = .ok (.iload_n 1, 1) := by decide +kernel
theorem dX6_runAt_59 : decode cX6_runAt 59 = .ok (.baload, 1) := by decide +kernel
theorem dX6_runAt_60 : decode cX6_runAt 60 = .ok (.ifCond .eq 35, 3) := by decide +kernel
theorem dX6_runAt_63 : decode cX6_runAt 63 = .ok (.goto 28, 3) := by decide +kernel
theorem dX6_runAt_66 : decode cX6_runAt 66 = .ok (.iload_n 2, 1) := by decide +kernel
theorem dX6_runAt_67 : decode cX6_runAt 67 = .ok (.iconst 2, 1) := by decide +kernel
theorem dX6_runAt_68 : decode cX6_runAt 68 = .ok (.if_icmp .ne 14, 3) := by decide +kernel
theorem dX6_runAt_71 : decode cX6_runAt 71 = .ok (.aload_n 0, 1) := by decide +kernel
theorem dX6_runAt_72 : decode cX6_runAt 72 = .ok (.iload_n 1, 1) := by decide +kernel
theorem dX6_runAt_73 : decode cX6_runAt 73 = .ok (.invokevirtual 180, 3) := by decide +kernel
theorem dX6_runAt_76 : decode cX6_runAt 76 = .ok (.ifCond .eq 19, 3) := by decide +kernel
theorem dX6_runAt_79 : decode cX6_runAt 79 = .ok (.goto 12, 3) := by decide +kernel
theorem dX6_runAt_82 : decode cX6_runAt 82 = .ok (.aload_n 0, 1) := by decide +kernel
theorem dX6_runAt_83 : decode cX6_runAt 83 = .ok (.getfield 138, 3) := by decide +kernel
theorem dX6_runAt_86 : decode cX6_runAt 86 = .ok (.iload_n 1, 1) := by decide +kernel
theorem dX6_runAt_87 : decode cX6_runAt 87 = .ok (.baload, 1) := by decide +kernel
theorem dX6_runAt_88 : decode cX6_runAt 88 = .ok (.ifCond .eq 7, 3) := by decide +kernel
theorem dX6_runAt_91 : decode cX6_runAt 91 = .ok (.iconst 1, 1) := by decide +kernel
theorem dX6_runAt_92 : decode cX6_runAt 92 = .ok (.goto 4, 3) := by decide +kernel
theorem dX6_runAt_95 : decode cX6_runAt 95 = .ok (.iconst 0, 1) := by decide +kernel
theorem dX6_runAt_96 : decode cX6_runAt 96 = .ok (.ireturn, 1) := by decide +kernel
theorem dX6_paper_0 : decode cX6_paper 0 = .ok (.aload_n 0, 1) := by decide +kernel
theorem dX6_paper_1 : decode cX6_paper 1 = .ok (.iload_n 1, 1) := by decide +kernel
theorem dX6_paper_2 : decode cX6_paper 2 = .ok (.invokevirtual 60, 3) := by decide +kernel
theorem dX6_paper_5 : decode cX6_paper 5 = .ok (.ifCond .eq 8, 3) := by decide +kernel
theorem dX6_paper_8 : decode cX6_paper 8 = .ok (.iload_n 2, 1) := by decide +kernel
theorem dX6_paper_9 : decode cX6_paper 9 = .ok (.iload_n 3, 1) := by decide +kernel
theorem dX6_paper_10 : decode cX6_paper 10 = .ok (.if_icmp .le 6, 3) := by decide +kernel
theorem dX6_paper_13 : decode cX6_paper 13 = .ok (.bipush (-2), 2) := by decide +kernel
theorem dX6_paper_15 : decode cX6_paper 15 = .ok (.ireturn, 1) := by decide +kernel
theorem dX6_paper_16 : decode cX6_paper 16 = .ok (.aload_n 0, 1) := by decide +kernel
theorem dX6_paper_17 : decode cX6_paper 17 = .ok (.getfield 37, 3) := by decide +kernel
theorem dX6_paper_20 : decode cX6_paper 20 = .ok (.iload_n 1, 1) := by decide +kernel
theorem dX6_paper_21 : decode cX6_paper 21 = .ok (.iaload, 1) := by decide +kernel
theorem dX6_paper_22 : decode cX6_paper 22 = .ok (.istore 4, 2) := by decide +kernel
theorem dX6_paper_24 : decode cX6_paper 24 = .ok (.iload 4, 2) := by decide +kernel
theorem dX6_paper_26 : decode cX6_paper 26 = .ok (.iconst (-1), 1) := by decide +kernel
theorem dX6_paper_27 : decode cX6_paper 27 = .ok (.if_icmp .ne 6, 3) := by decide +kernel
theorem dX6_paper_30 : decode cX6_paper 30 = .ok (.bipush (-10), 2) := by decide +kernel
theorem dX6_paper_32 : decode cX6_paper 32 = .ok (.ireturn, 1) := by decide +kernel
theorem dX6_paper_33 : decode cX6_paper 33 = .ok (.aload_n 0, 1) := by decide +kernel
theorem dX6_paper_34 : decode cX6_paper 34 = .ok (.getfield 138, 3) := by decide +kernel
theorem dX6_paper_37 : decode cX6_paper 37 = .ok (.iload 4, 2) := by decide +kernel
theorem dX6_paper_39 : decode cX6_paper 39 = .ok (.baload, 1) := by decide +kernel
theorem dX6_paper_40 : decode cX6_paper 40 = .ok (.ifCond .eq 6, 3) := by decide +kernel
theorem dX6_paper_43 : decode cX6_paper 43 = .ok (.bipush (-11), 2) := by decide +kernel
theorem dX6_paper_45 : decode cX6_paper 45 = .ok (.ireturn, 1) := by decide +kernel
theorem dX6_paper_46 : decode cX6_paper 46 = .ok (.aload_n 0, 1) := by decide +kernel
theorem dX6_paper_47 : decode cX6_paper 47 = .ok (.iload 4, 2) := by decide +kernel
theorem dX6_paper_49 : decode cX6_paper 49 = .ok (.invokevirtual 180, 3) := by decide +kernel
theorem dX6_paper_52 : decode cX6_paper 52 = .ok (.ifCond .ne 6, 3) := by decide +kernel
theorem dX6_paper_55 : decode cX6_paper 55 = .ok (.bipush (-12), 2) := by decide +kernel
theorem dX6_paper_57 : decode cX6_paper 57 = .ok (.ireturn, 1) := by decide +kernel
theorem dX6_paper_58 : decode cX6_paper 58 = .ok (.aload_n 0, 1) := by decide +kernel
theorem dX6_paper_59 : decode cX6_paper 59 = .ok (.bipush 6, 2) := by decide +kernel
theorem dX6_paper_61 : decode cX6_paper 61 = .ok (.iload_n 1, 1) := by decide +kernel
theorem dX6_paper_62 : decode cX6_paper 62 = .ok (.imul, 1) := by decide +kernel
theorem dX6_paper_63 : decode cX6_paper 63 = .ok (.invokevirtual 72, 3) := by decide +kernel
theorem dX6_paper_66 : decode cX6_paper 66 = .ok (.iload_n 2, 1) := by decide +kernel
theorem dX6_paper_67 : decode cX6_paper 67 = .ok (.iload_n 3, 1) := by decide +kernel
theorem dX6_paper_68 : decode cX6_paper 68 = .ok (.invokestatic 1, 3) := by decide +kernel
theorem dX6_paper_71 : decode cX6_paper 71 = .ok (.ifCond .ne 6, 3) := by decide +kernel
theorem dX6_paper_74 : decode cX6_paper 74 = .ok (.bipush (-13), 2) := by decide +kernel
theorem dX6_paper_76 : decode cX6_paper 76 = .ok (.ireturn, 1) := by decide +kernel
theorem dX6_paper_77 : decode cX6_paper 77 = .ok (.aload_n 0, 1) := by decide +kernel
theorem dX6_paper_78 : decode cX6_paper 78 = .ok (.getfield 40, 3) := by decide +kernel
theorem dX6_paper_81 : decode cX6_paper 81 = .ok (.bipush 6, 2) := by decide +kernel
theorem dX6_paper_83 : decode cX6_paper 83 = .ok (.iload_n 1, 1) := by decide +kernel
theorem dX6_paper_84 : decode cX6_paper 84 = .ok (.imul, 1) := by decide +kernel
theorem dX6_paper_85 : decode cX6_paper 85 = .ok (.iaload, 1) := by decide +kernel
theorem dX6_paper_86 : decode cX6_paper 86 = .ok (.sipush 500, 3) := by decide +kernel
theorem dX6_paper_89 : decode cX6_paper 89 = .ok (.if_icmp .le 8, 3) := by decide +kernel
theorem dX6_paper_92 : decode cX6_paper 92 = .ok (.bipush (-14), 2) := by decide +kernel
theorem dX6_paper_94 : decode cX6_paper 94 = .ok (.goto 4, 3) := by decide +kernel
theorem dX6_paper_97 : decode cX6_paper 97 = .ok (.iconst 1, 1) := by decide +kernel
theorem dX6_paper_98 : decode cX6_paper 98 = .ok (.ireturn, 1) := by decide +kernel
theorem dX6_job_0 : decode cX6_job 0 = .ok (.iload_n 1, 1) := by decide +kernel
theorem dX6_job_1 : decode cX6_job 1 = .ok (.iconst 1, 1) := by decide +kernel
theorem dX6_job_2 : decode cX6_job 2 = .ok (.sipush 1000, 3) := by decide +kernel
theorem dX6_job_5 : decode cX6_job 5 = .ok (.invokestatic 1, 3) := by decide +kernel
theorem dX6_job_8 : decode cX6_job 8 = .ok (.ifCond .eq 14, 3) := by decide +kernel
theorem dX6_job_11 : decode cX6_job 11 = .ok (.iload_n 2, 1) := by decide +kernel
theorem dX6_job_12 : decode cX6_job 12 = .ok (.iconst 0, 1) := by decide +kernel
theorem dX6_job_13 : decode cX6_job 13 = .ok (.sipush 10000, 3) := by decide +kernel
theorem dX6_job_16 : decode cX6_job 16 = .ok (.invokestatic 1, 3) := by decide +kernel
theorem dX6_job_19 : decode cX6_job 19 = .ok (.ifCond .ne 6, 3) := by decide +kernel
theorem dX6_job_22 : decode cX6_job 22 = .ok (.bipush (-2), 2) := by decide +kernel
theorem dX6_job_24 : decode cX6_job 24 = .ok (.ireturn, 1) := by decide +kernel
theorem dX6_job_25 : decode cX6_job 25 = .ok (.aload_n 0, 1) := by decide +kernel
theorem dX6_job_26 : decode cX6_job 26 = .ok (.getfield 183, 3) := by decide +kernel
theorem dX6_job_29 : decode cX6_job 29 = .ok (.bipush 7, 2) := by decide +kernel
theorem dX6_job_31 : decode cX6_job 31 = .ok (.if_icmp .ne 6, 3) := by decide +kernel
theorem dX6_job_34 : decode cX6_job 34 = .ok (.bipush (-4), 2) := by decide +kernel
theorem dX6_job_36 : decode cX6_job 36 = .ok (.ireturn, 1) := by decide +kernel
theorem dX6_job_37 : decode cX6_job 37 = .ok (.aload_n 0, 1) := by decide +kernel
theorem dX6_job_38 : decode cX6_job 38 = .ok (.getfield 144, 3) := by decide +kernel
theorem dX6_job_41 : decode cX6_job 41 = .ok (.aload_n 0, 1) := by decide +kernel
theorem dX6_job_42 : decode cX6_job 42 = .ok (.getfield 183, 3) := by decide +kernel
theorem dX6_job_45 : decode cX6_job 45 = .ok (.iload_n 1, 1) := by decide +kernel
theorem dX6_job_46 : decode cX6_job 46 = .ok (.iastore, 1) := by decide +kernel
theorem dX6_job_47 : decode cX6_job 47 = .ok (.aload_n 0, 1) := by decide +kernel
theorem dX6_job_48 : decode cX6_job 48 = .ok (.getfield 147, 3) := by decide +kernel
theorem dX6_job_51 : decode cX6_job 51 = .ok (.aload_n 0, 1) := by decide +kernel
theorem dX6_job_52 : decode cX6_job 52 = .ok (.getfield 183, 3) := by decide +kernel
theorem dX6_job_55 : decode cX6_job 55 = .ok (.iload_n 2, 1) := by decide +kernel
theorem dX6_job_56 : decode cX6_job 56 = .ok (.iastore, 1) := by decide +kernel
theorem dX6_job_57 : decode cX6_job 57 = .ok (.aload_n 0, 1) := by decide +kernel
theorem dX6_job_58 : decode cX6_job 58 = .ok (.dup, 1) := by decide +kernel
theorem dX6_job_59 : decode cX6_job 59 = .ok (.getfield 183, 3) := by decide +kernel
theorem dX6_job_62 : decode cX6_job 62 = .ok (.iconst 1, 1) := by decide +kernel
theorem dX6_job_63 : decode cX6_job 63 = .ok (.iadd, 1) := by decide +kernel
theorem dX6_job_64 : decode cX6_job 64 = .ok (.putfield 183, 3) := by decide +kernel
theorem dX6_job_67 : decode cX6_job 67 = .ok (.aload_n 0, 1) := by decide +kernel
theorem dX6_job_68 : decode cX6_job 68 = .ok (.getfield 183, 3) := by decide +kernel
theorem dX6_job_71 : decode cX6_job 71 = .ok (.iconst 1, 1) := by decide +kernel
theorem dX6_job_72 : decode cX6_job 72 = .ok (.isub, 1) := by decide +kernel
theorem dX6_job_73 : decode cX6_job 73 = .ok (.ireturn, 1) := by decide +kernel
theorem dX6_clearJobs_0 : decode cX6_clearJobs 0 = .ok (.aload_n 0, 1) := by decide +kernel
theorem dX6_clearJobs_1 : decode cX6_clearJobs 1 = .ok (.getfield 183, 3) := by decide +kernel
theorem dX6_clearJobs_4 : decode cX6_clearJobs 4 = .ok (.istore_n 1, 1) := by decide +kernel
theorem dX6_clearJobs_5 : decode cX6_clearJobs 5 = .ok (.aload_n 0, 1) := by decide +kernel
theorem dX6_clearJobs_6 : decode cX6_clearJobs 6 = .ok (.iconst 0, 1) := by decide +kernel
theorem dX6_clearJobs_7 : decode cX6_clearJobs 7 = .ok (.putfield 183, 3) := by decide +kernel
theorem dX6_clearJobs_10 : decode cX6_clearJobs 10 = .ok (.iload_n 1, 1) := by decide +kernel
theorem dX6_clearJobs_11 : decode cX6_clearJobs 11 = .ok (.ireturn, 1) := by decide +kernel
theorem dX6_lateBy_0 : decode cX6_lateBy 0 = .ok (.aload_n 0, 1) := by decide +kernel
theorem dX6_lateBy_1 : decode cX6_lateBy 1 = .ok (.getfield 144, 3) := by decide +kernel
theorem dX6_lateBy_4 : decode cX6_lateBy 4 = .ok (.iload_n 2, 1) := by decide +kernel
theorem dX6_lateBy_5 : decode cX6_lateBy 5 = .ok (.iaload, 1) := by decide +kernel
theorem dX6_lateBy_6 : decode cX6_lateBy 6 = .ok (.istore_n 3, 1) := by decide +kernel
theorem dX6_lateBy_7 : decode cX6_lateBy 7 = .ok (.iconst 0, 1) := by decide +kernel
theorem dX6_lateBy_8 : decode cX6_lateBy 8 = .ok (.istore 4, 2) := by decide +kernel
theorem dX6_lateBy_10 : decode cX6_lateBy 10 = .ok (.iload 4, 2) := by decide +kernel
theorem dX6_lateBy_12 : decode cX6_lateBy 12 = .ok (.aload_n 0, 1) := by decide +kernel
theorem dX6_lateBy_13 : decode cX6_lateBy 13 = .ok (.getfield 183, 3) := by decide +kernel
theorem dX6_lateBy_16 : decode cX6_lateBy 16 = .ok (.if_icmp .ge 33, 3) := by decide +kernel
theorem dX6_lateBy_19 : decode cX6_lateBy 19 = .ok (.iload_n 3, 1) := by decide +kernel
theorem dX6_lateBy_20 : decode cX6_lateBy 20 = .ok (.iload_n 1, 1) := by decide +kernel
theorem dX6_lateBy_21 : decode cX6_lateBy 21 = .ok (.iload 4, 2) := by decide +kernel
theorem dX6_lateBy_23 : decode cX6_lateBy 23 = .ok (.ishr, 1) := by decide +kernel
theorem dX6_lateBy_24 : decode cX6_lateBy 24 = .ok (.iconst 1, 1) := by decide +kernel
theorem dX6_lateBy_25 : decode cX6_lateBy 25 = .ok (.iand, 1) := by decide +kernel
theorem dX6_lateBy_26 : decode cX6_lateBy 26 = .ok (.iconst 1, 1) := by decide +kernel
theorem dX6_lateBy_27 : decode cX6_lateBy 27 = .ok (.if_icmp .ne 13, 3) := by decide +kernel
theorem dX6_lateBy_30 : decode cX6_lateBy 30 = .ok (.aload_n 0, 1) := by decide +kernel
theorem dX6_lateBy_31 : decode cX6_lateBy 31 = .ok (.getfield 144, 3) := by decide +kernel
theorem dX6_lateBy_34 : decode cX6_lateBy 34 = .ok (.iload 4, 2) := by decide +kernel
theorem dX6_lateBy_36 : decode cX6_lateBy 36 = .ok (.iaload, 1) := by decide +kernel
theorem dX6_lateBy_37 : decode cX6_lateBy 37 = .ok (.goto 4, 3) := by decide +kernel
theorem dX6_lateBy_40 : decode cX6_lateBy 40 = .ok (.iconst 0, 1) := by decide +kernel
theorem dX6_lateBy_41 : decode cX6_lateBy 41 = .ok (.iadd, 1) := by decide +kernel
theorem dX6_lateBy_42 : decode cX6_lateBy 42 = .ok (.istore_n 3, 1) := by decide +kernel
theorem dX6_lateBy_43 : decode cX6_lateBy 43 = .ok (.iinc 4 1, 3) := by decide +kernel
theorem dX6_lateBy_46 : decode cX6_lateBy 46 = .ok (.goto (-36), 3) := by decide +kernel
end
section
theorem dX6_lateBy_49 : decode cX6_lateBy 49 = .ok (.iload_n 3, 1) := by decide +kernel
theorem dX6_lateBy_50 : decode cX6_lateBy 50 = .ok (.aload_n 0, 1) := by decide +kernel
theorem dX6_lateBy_51 : decode cX6_lateBy 51 = .ok (.getfield 147, 3) := by decide +kernel
theorem dX6_lateBy_54 : decode cX6_lateBy 54 = .ok (.iload_n 2, 1) := by decide +kernel
theorem dX6_lateBy_55 : decode cX6_lateBy 55 = .ok (.iaload, 1) := by decide +kernel
theorem dX6_lateBy_56 : decode cX6_lateBy 56 = .ok (.if_icmp .le 14, 3) := by decide +kernel
theorem dX6_lateBy_59 : decode cX6_lateBy 59 = .ok (.iload_n 3, 1) := by decide +kernel
theorem dX6_lateBy_60 : decode cX6_lateBy 60 = .ok (.aload_n 0, 1) := by decide +kernel
theorem dX6_lateBy_61 : decode cX6_lateBy 61 = .ok (.getfield 147, 3) := by decide +kernel
theorem dX6_lateBy_64 : decode cX6_lateBy 64 = .ok (.iload_n 2, 1) := by decide +kernel
theorem dX6_lateBy_65 : decode cX6_lateBy 65 = .ok (.iaload, 1) := by decide +kernel
theorem dX6_lateBy_66 : decode cX6_lateBy 66 = .ok (.isub, 1) := by decide +kernel
theorem dX6_lateBy_67 : decode cX6_lateBy 67 = .ok (.goto 4, 3) := by decide +kernel
theorem dX6_lateBy_70 : decode cX6_lateBy 70 = .ok (.iconst 0, 1) := by decide +kernel
theorem dX6_lateBy_71 : decode cX6_lateBy 71 = .ok (.ireturn, 1) := by decide +kernel
theorem dX6_weigh_0 : decode cX6_weigh 0 = .ok (.iconst 1, 1) := by decide +kernel
theorem dX6_weigh_1 : decode cX6_weigh 1 = .ok (.aload_n 0, 1) := by decide +kernel
theorem dX6_weigh_2 : decode cX6_weigh 2 = .ok (.getfield 183, 3) := by decide +kernel
theorem dX6_weigh_5 : decode cX6_weigh 5 = .ok (.ishl, 1) := by decide +kernel
theorem dX6_weigh_6 : decode cX6_weigh 6 = .ok (.iconst 1, 1) := by decide +kernel
theorem dX6_weigh_7 : decode cX6_weigh 7 = .ok (.isub, 1) := by decide +kernel
theorem dX6_weigh_8 : decode cX6_weigh 8 = .ok (.istore_n 1, 1) := by decide +kernel
theorem dX6_weigh_9 : decode cX6_weigh 9 = .ok (.iload_n 1, 1) := by decide +kernel
theorem dX6_weigh_10 : decode cX6_weigh 10 = .ok (.istore_n 2, 1) := by decide +kernel
theorem dX6_weigh_11 : decode cX6_weigh 11 = .ok (.iload_n 2, 1) := by decide +kernel
theorem dX6_weigh_12 : decode cX6_weigh 12 = .ok (.ifCond .lt 103, 3) := by decide +kernel
theorem dX6_weigh_15 : decode cX6_weigh 15 = .ok (.aload_n 0, 1) := by decide +kernel
theorem dX6_weigh_16 : decode cX6_weigh 16 = .ok (.getfield 150, 3) := by decide +kernel
theorem dX6_weigh_19 : decode cX6_weigh 19 = .ok (.iload_n 2, 1) := by decide +kernel
theorem dX6_weigh_20 : decode cX6_weigh 20 = .ok (.iload_n 2, 1) := by decide +kernel
theorem dX6_weigh_21 : decode cX6_weigh 21 = .ok (.iload_n 1, 1) := by decide +kernel
theorem dX6_weigh_22 : decode cX6_weigh 22 = .ok (.if_icmp .ne 7, 3) := by decide +kernel
theorem dX6_weigh_25 : decode cX6_weigh 25 = .ok (.iconst 0, 1) := by decide +kernel
theorem dX6_weigh_26 : decode cX6_weigh 26 = .ok (.goto 5, 3) := by decide +kernel
theorem dX6_weigh_29 : decode cX6_weigh 29 = .ok (.ldc 186, 2) := by decide +kernel
theorem dX6_weigh_31 : decode cX6_weigh 31 = .ok (.iastore, 1) := by decide +kernel
theorem dX6_weigh_32 : decode cX6_weigh 32 = .ok (.iconst 0, 1) := by decide +kernel
theorem dX6_weigh_33 : decode cX6_weigh 33 = .ok (.istore_n 3, 1) := by decide +kernel
theorem dX6_weigh_34 : decode cX6_weigh 34 = .ok (.iload_n 3, 1) := by decide +kernel
theorem dX6_weigh_35 : decode cX6_weigh 35 = .ok (.aload_n 0, 1) := by decide +kernel
theorem dX6_weigh_36 : decode cX6_weigh 36 = .ok (.getfield 183, 3) := by decide +kernel
theorem dX6_weigh_39 : decode cX6_weigh 39 = .ok (.if_icmp .ge 70, 3) := by decide +kernel
theorem dX6_weigh_42 : decode cX6_weigh 42 = .ok (.iload_n 2, 1) := by decide +kernel
theorem dX6_weigh_43 : decode cX6_weigh 43 = .ok (.iload_n 3, 1) := by decide +kernel
theorem dX6_weigh_44 : decode cX6_weigh 44 = .ok (.ishr, 1) := by decide +kernel
theorem dX6_weigh_45 : decode cX6_weigh 45 = .ok (.iconst 1, 1) := by decide +kernel
theorem dX6_weigh_46 : decode cX6_weigh 46 = .ok (.iand, 1) := by decide +kernel
theorem dX6_weigh_47 : decode cX6_weigh 47 = .ok (.iconst 1, 1) := by decide +kernel
theorem dX6_weigh_48 : decode cX6_weigh 48 = .ok (.if_icmp .ne 8, 3) := by decide +kernel
theorem dX6_weigh_51 : decode cX6_weigh 51 = .ok (.ldc 186, 2) := by decide +kernel
theorem dX6_weigh_53 : decode cX6_weigh 53 = .ok (.goto 20, 3) := by decide +kernel
theorem dX6_weigh_56 : decode cX6_weigh 56 = .ok (.aload_n 0, 1) := by decide +kernel
theorem dX6_weigh_57 : decode cX6_weigh 57 = .ok (.iload_n 2, 1) := by decide +kernel
theorem dX6_weigh_58 : decode cX6_weigh 58 = .ok (.iload_n 3, 1) := by decide +kernel
theorem dX6_weigh_59 : decode cX6_weigh 59 = .ok (.invokevirtual 187, 3) := by decide +kernel
theorem dX6_weigh_62 : decode cX6_weigh 62 = .ok (.aload_n 0, 1) := by decide +kernel
theorem dX6_weigh_63 : decode cX6_weigh 63 = .ok (.getfield 150, 3) := by decide +kernel
theorem dX6_weigh_66 : decode cX6_weigh 66 = .ok (.iload_n 2, 1) := by decide +kernel
theorem dX6_weigh_67 : decode cX6_weigh 67 = .ok (.iconst 1, 1) := by decide +kernel
theorem dX6_weigh_68 : decode cX6_weigh 68 = .ok (.iload_n 3, 1) := by decide +kernel
theorem dX6_weigh_69 : decode cX6_weigh 69 = .ok (.ishl, 1) := by decide +kernel
theorem dX6_weigh_70 : decode cX6_weigh 70 = .ok (.ior, 1) := by decide +kernel
theorem dX6_weigh_71 : decode cX6_weigh 71 = .ok (.iaload, 1) := by decide +kernel
theorem dX6_weigh_72 : decode cX6_weigh 72 = .ok (.iadd, 1) := by decide +kernel
theorem dX6_weigh_73 : decode cX6_weigh 73 = .ok (.istore 4, 2) := by decide +kernel
theorem dX6_weigh_75 : decode cX6_weigh 75 = .ok (.aload_n 0, 1) := by decide +kernel
theorem dX6_weigh_76 : decode cX6_weigh 76 = .ok (.getfield 150, 3) := by decide +kernel
theorem dX6_weigh_79 : decode cX6_weigh 79 = .ok (.iload_n 2, 1) := by decide +kernel
theorem dX6_weigh_80 : decode cX6_weigh 80 = .ok (.iload 4, 2) := by decide +kernel
theorem dX6_weigh_82 : decode cX6_weigh 82 = .ok (.aload_n 0, 1) := by decide +kernel
theorem dX6_weigh_83 : decode cX6_weigh 83 = .ok (.getfield 150, 3) := by decide +kernel
theorem dX6_weigh_86 : decode cX6_weigh 86 = .ok (.iload_n 2, 1) := by decide +kernel
theorem dX6_weigh_87 : decode cX6_weigh 87 = .ok (.iaload, 1) := by decide +kernel
theorem dX6_weigh_88 : decode cX6_weigh 88 = .ok (.if_icmp .ge 8, 3) := by decide +kernel
theorem dX6_weigh_91 : decode cX6_weigh 91 = .ok (.iload 4, 2) := by decide +kernel
theorem dX6_weigh_93 : decode cX6_weigh 93 = .ok (.goto 9, 3) := by decide +kernel
theorem dX6_weigh_96 : decode cX6_weigh 96 = .ok (.aload_n 0, 1) := by decide +kernel
theorem dX6_weigh_97 : decode cX6_weigh 97 = .ok (.getfield 150, 3) := by decide +kernel
theorem dX6_weigh_100 : decode cX6_weigh 100 = .ok (.iload_n 2, 1) := by decide +kernel
theorem dX6_weigh_101 : decode cX6_weigh 101 = .ok (.iaload, 1) := by decide +kernel
theorem dX6_weigh_102 : decode cX6_weigh 102 = .ok (.iastore, 1) := by decide +kernel
theorem dX6_weigh_103 : decode cX6_weigh 103 = .ok (.iinc 3 1, 3) := by decide +kernel
theorem dX6_weigh_106 : decode cX6_weigh 106 = .ok (.goto (-72), 3) := by decide +kernel
theorem dX6_weigh_109 : decode cX6_weigh 109 = .ok (.iinc 2 (-1), 3) := by decide +kernel
theorem dX6_weigh_112 : decode cX6_weigh 112 = .ok (.goto (-101), 3) := by decide +kernel
theorem dX6_weigh_115 : decode cX6_weigh 115 = .ok (.return_, 1) := by decide +kernel
theorem dX6_lateness_0 : decode cX6_lateness 0 = .ok (.aload_n 0, 1) := by decide +kernel
theorem dX6_lateness_1 : decode cX6_lateness 1 = .ok (.invokevirtual 190, 3) := by decide +kernel
theorem dX6_lateness_4 : decode cX6_lateness 4 = .ok (.aload_n 0, 1) := by decide +kernel
theorem dX6_lateness_5 : decode cX6_lateness 5 = .ok (.getfield 150, 3) := by decide +kernel
theorem dX6_lateness_8 : decode cX6_lateness 8 = .ok (.iconst 0, 1) := by decide +kernel
theorem dX6_lateness_9 : decode cX6_lateness 9 = .ok (.iaload, 1) := by decide +kernel
theorem dX6_lateness_10 : decode cX6_lateness 10 = .ok (.ireturn, 1) := by decide +kernel
theorem dX6_order_0 : decode cX6_order 0 = .ok (.iload_n 1, 1) := by decide +kernel
theorem dX6_order_1 : decode cX6_order 1 = .ok (.iconst 0, 1) := by decide +kernel
theorem dX6_order_2 : decode cX6_order 2 = .ok (.aload_n 0, 1) := by decide +kernel
theorem dX6_order_3 : decode cX6_order 3 = .ok (.getfield 183, 3) := by decide +kernel
theorem dX6_order_6 : decode cX6_order 6 = .ok (.iconst 1, 1) := by decide +kernel
theorem dX6_order_7 : decode cX6_order 7 = .ok (.isub, 1) := by decide +kernel
theorem dX6_order_8 : decode cX6_order 8 = .ok (.invokestatic 1, 3) := by decide +kernel
theorem dX6_order_11 : decode cX6_order 11 = .ok (.ifCond .ne 5, 3) := by decide +kernel
theorem dX6_order_14 : decode cX6_order 14 = .ok (.iconst (-1), 1) := by decide +kernel
theorem dX6_order_15 : decode cX6_order 15 = .ok (.ireturn, 1) := by decide +kernel
theorem dX6_order_16 : decode cX6_order 16 = .ok (.aload_n 0, 1) := by decide +kernel
theorem dX6_order_17 : decode cX6_order 17 = .ok (.invokevirtual 190, 3) := by decide +kernel
theorem dX6_order_20 : decode cX6_order 20 = .ok (.iconst 0, 1) := by decide +kernel
theorem dX6_order_21 : decode cX6_order 21 = .ok (.istore_n 2, 1) := by decide +kernel
theorem dX6_order_22 : decode cX6_order 22 = .ok (.iconst (-1), 1) := by decide +kernel
theorem dX6_order_23 : decode cX6_order 23 = .ok (.istore_n 3, 1) := by decide +kernel
theorem dX6_order_24 : decode cX6_order 24 = .ok (.iconst 0, 1) := by decide +kernel
theorem dX6_order_25 : decode cX6_order 25 = .ok (.istore 4, 2) := by decide +kernel
theorem dX6_order_27 : decode cX6_order 27 = .ok (.iload 4, 2) := by decide +kernel
theorem dX6_order_29 : decode cX6_order 29 = .ok (.iload_n 1, 1) := by decide +kernel
theorem dX6_order_30 : decode cX6_order 30 = .ok (.if_icmp .gt 58, 3) := by decide +kernel
theorem dX6_order_33 : decode cX6_order 33 = .ok (.iconst 0, 1) := by decide +kernel
theorem dX6_order_34 : decode cX6_order 34 = .ok (.istore_n 3, 1) := by decide +kernel
theorem dX6_order_35 : decode cX6_order 35 = .ok (.iload_n 2, 1) := by decide +kernel
theorem dX6_order_36 : decode cX6_order 36 = .ok (.iload_n 3, 1) := by decide +kernel
theorem dX6_order_37 : decode cX6_order 37 = .ok (.ishr, 1) := by decide +kernel
theorem dX6_order_38 : decode cX6_order 38 = .ok (.iconst 1, 1) := by decide +kernel
theorem dX6_order_39 : decode cX6_order 39 = .ok (.iand, 1) := by decide +kernel
theorem dX6_order_40 : decode cX6_order 40 = .ok (.iconst 1, 1) := by decide +kernel
theorem dX6_order_41 : decode cX6_order 41 = .ok (.if_icmp .eq 29, 3) := by decide +kernel
theorem dX6_order_44 : decode cX6_order 44 = .ok (.aload_n 0, 1) := by decide +kernel
theorem dX6_order_45 : decode cX6_order 45 = .ok (.iload_n 2, 1) := by decide +kernel
theorem dX6_order_46 : decode cX6_order 46 = .ok (.iload_n 3, 1) := by decide +kernel
theorem dX6_order_47 : decode cX6_order 47 = .ok (.invokevirtual 187, 3) := by decide +kernel
theorem dX6_order_50 : decode cX6_order 50 = .ok (.aload_n 0, 1) := by decide +kernel
theorem dX6_order_51 : decode cX6_order 51 = .ok (.getfield 150, 3) := by decide +kernel
theorem dX6_order_54 : decode cX6_order 54 = .ok (.iload_n 2, 1) := by decide +kernel
theorem dX6_order_55 : decode cX6_order 55 = .ok (.iconst 1, 1) := by decide +kernel
theorem dX6_order_56 : decode cX6_order 56 = .ok (.iload_n 3, 1) := by decide +kernel
theorem dX6_order_57 : decode cX6_order 57 = .ok (.ishl, 1) := by decide +kernel
theorem dX6_order_58 : decode cX6_order 58 = .ok (.ior, 1) := by decide +kernel
theorem dX6_order_59 : decode cX6_order 59 = .ok (.iaload, 1) := by decide +kernel
theorem dX6_order_60 : decode cX6_order 60 = .ok (.iadd, 1) := by decide +kernel
theorem dX6_order_61 : decode cX6_order 61 = .ok (.aload_n 0, 1) := by decide +kernel
theorem dX6_order_62 : decode cX6_order 62 = .ok (.getfield 150, 3) := by decide +kernel
theorem dX6_order_65 : decode cX6_order 65 = .ok (.iload_n 2, 1) := by decide +kernel
theorem dX6_order_66 : decode cX6_order 66 = .ok (.iaload, 1) := by decide +kernel
theorem dX6_order_67 : decode cX6_order 67 = .ok (.if_icmp .eq 9, 3) := by decide +kernel
theorem dX6_order_70 : decode cX6_order 70 = .ok (.iinc 3 1, 3) := by decide +kernel
theorem dX6_order_73 : decode cX6_order 73 = .ok (.goto (-38), 3) := by decide +kernel
theorem dX6_order_76 : decode cX6_order 76 = .ok (.iload_n 2, 1) := by decide +kernel
theorem dX6_order_77 : decode cX6_order 77 = .ok (.iconst 1, 1) := by decide +kernel
theorem dX6_order_78 : decode cX6_order 78 = .ok (.iload_n 3, 1) := by decide +kernel
theorem dX6_order_79 : decode cX6_order 79 = .ok (.ishl, 1) := by decide +kernel
theorem dX6_order_80 : decode cX6_order 80 = .ok (.ior, 1) := by decide +kernel
theorem dX6_order_81 : decode cX6_order 81 = .ok (.istore_n 2, 1) := by decide +kernel
theorem dX6_order_82 : decode cX6_order 82 = .ok (.iinc 4 1, 3) := by decide +kernel
theorem dX6_order_85 : decode cX6_order 85 = .ok (.goto (-58), 3) := by decide +kernel
theorem dX6_order_88 : decode cX6_order 88 = .ok (.iload_n 3, 1) := by decide +kernel
theorem dX6_order_89 : decode cX6_order 89 = .ok (.ireturn, 1) := by decide +kernel
theorem dX6_count_0 : decode cX6_count 0 = .ok (.iload_n 1, 1) := by decide +kernel
theorem dX6_count_1 : decode cX6_count 1 = .ok (.iconst 0, 1) := by decide +kernel
theorem dX6_count_2 : decode cX6_count 2 = .ok (.iconst 4, 1) := by decide +kernel
theorem dX6_count_3 : decode cX6_count 3 = .ok (.invokestatic 1, 3) := by decide +kernel
theorem dX6_count_6 : decode cX6_count 6 = .ok (.ifCond .ne 6, 3) := by decide +kernel
theorem dX6_count_9 : decode cX6_count 9 = .ok (.bipush (-2), 2) := by decide +kernel
theorem dX6_count_11 : decode cX6_count 11 = .ok (.ireturn, 1) := by decide +kernel
theorem dX6_count_12 : decode cX6_count 12 = .ok (.iconst 0, 1) := by decide +kernel
theorem dX6_count_13 : decode cX6_count 13 = .ok (.istore_n 2, 1) := by decide +kernel
theorem dX6_count_14 : decode cX6_count 14 = .ok (.iconst 0, 1) := by decide +kernel
theorem dX6_count_15 : decode cX6_count 15 = .ok (.istore_n 3, 1) := by decide +kernel
theorem dX6_count_16 : decode cX6_count 16 = .ok (.iload_n 3, 1) := by decide +kernel
theorem dX6_count_17 : decode cX6_count 17 = .ok (.aload_n 0, 1) := by decide +kernel
theorem dX6_count_18 : decode cX6_count 18 = .ok (.getfield 165, 3) := by decide +kernel
theorem dX6_count_21 : decode cX6_count 21 = .ok (.if_icmp .ge 26, 3) := by decide +kernel
theorem dX6_count_24 : decode cX6_count 24 = .ok (.iload_n 2, 1) := by decide +kernel
theorem dX6_count_25 : decode cX6_count 25 = .ok (.aload_n 0, 1) := by decide +kernel
theorem dX6_count_26 : decode cX6_count 26 = .ok (.getfield 138, 3) := by decide +kernel
theorem dX6_count_29 : decode cX6_count 29 = .ok (.iload_n 3, 1) := by decide +kernel
theorem dX6_count_30 : decode cX6_count 30 = .ok (.baload, 1) := by decide +kernel
theorem dX6_count_31 : decode cX6_count 31 = .ok (.ifCond .eq 7, 3) := by decide +kernel
theorem dX6_count_34 : decode cX6_count 34 = .ok (.iconst 1, 1) := by decide +kernel
theorem dX6_count_35 : decode cX6_count 35 = .ok (.goto 4, 3) := by decide +kernel
theorem dX6_count_38 : decode cX6_count 38 = .ok (.iconst 0, 1) := by decide +kernel
theorem dX6_count_39 : decode cX6_count 39 = .ok (.iadd, 1) := by decide +kernel
theorem dX6_count_40 : decode cX6_count 40 = .ok (.istore_n 2, 1) := by decide +kernel
theorem dX6_count_41 : decode cX6_count 41 = .ok (.iinc 3 1, 3) := by decide +kernel
theorem dX6_count_44 : decode cX6_count 44 = .ok (.goto (-28), 3) := by decide +kernel
theorem dX6_count_47 : decode cX6_count 47 = .ok (.iload_n 1, 1) := by decide +kernel
theorem dX6_count_48 : decode cX6_count 48 = .ok (.ifCond .ne 10, 3) := by decide +kernel
theorem dX6_count_51 : decode cX6_count 51 = .ok (.aload_n 0, 1) := by decide +kernel
theorem dX6_count_52 : decode cX6_count 52 = .ok (.getfield 7, 3) := by decide +kernel
theorem dX6_count_55 : decode cX6_count 55 = .ok (.goto 40, 3) := by decide +kernel
theorem dX6_count_58 : decode cX6_count 58 = .ok (.iload_n 1, 1) := by decide +kernel
theorem dX6_count_59 : decode cX6_count 59 = .ok (.iconst 1, 1) := by decide +kernel
theorem dX6_count_60 : decode cX6_count 60 = .ok (.if_icmp .ne 10, 3) := by decide +kernel
theorem dX6_count_63 : decode cX6_count 63 = .ok (.aload_n 0, 1) := by decide +kernel
theorem dX6_count_64 : decode cX6_count 64 = .ok (.getfield 165, 3) := by decide +kernel
theorem dX6_count_67 : decode cX6_count 67 = .ok (.goto 28, 3) := by decide +kernel
theorem dX6_count_70 : decode cX6_count 70 = .ok (.iload_n 1, 1) := by decide +kernel
theorem dX6_count_71 : decode cX6_count 71 = .ok (.iconst 2, 1) := by decide +kernel
theorem dX6_count_72 : decode cX6_count 72 = .ok (.if_icmp .ne 10, 3) := by decide +kernel
theorem dX6_count_75 : decode cX6_count 75 = .ok (.aload_n 0, 1) := by decide +kernel
theorem dX6_count_76 : decode cX6_count 76 = .ok (.invokevirtual 176, 3) := by decide +kernel
theorem dX6_count_79 : decode cX6_count 79 = .ok (.goto 16, 3) := by decide +kernel
theorem dX6_count_82 : decode cX6_count 82 = .ok (.iload_n 1, 1) := by decide +kernel
theorem dX6_count_83 : decode cX6_count 83 = .ok (.iconst 3, 1) := by decide +kernel
theorem dX6_count_84 : decode cX6_count 84 = .ok (.if_icmp .ne 10, 3) := by decide +kernel
theorem dX6_count_87 : decode cX6_count 87 = .ok (.aload_n 0, 1) := by decide +kernel
theorem dX6_count_88 : decode cX6_count 88 = .ok (.getfield 183, 3) := by decide +kernel
theorem dX6_count_91 : decode cX6_count 91 = .ok (.goto 4, 3) := by decide +kernel
theorem dX6_count_94 : decode cX6_count 94 = .ok (.iload_n 2, 1) := by decide +kernel
theorem dX6_count_95 : decode cX6_count 95 = .ok (.ireturn, 1) := by decide +kernel
theorem dX6_digest_0 : decode cX6_digest 0 = .ok (.ldc2_w 193, 3) := by decide +kernel
theorem dX6_digest_3 : decode cX6_digest 3 = .ok (.lstore_n 1, 1) := by decide +kernel
theorem dX6_digest_4 : decode cX6_digest 4 = .ok (.iconst 0, 1) := by decide +kernel
theorem dX6_digest_5 : decode cX6_digest 5 = .ok (.istore_n 3, 1) := by decide +kernel
theorem dX6_digest_6 : decode cX6_digest 6 = .ok (.iload_n 3, 1) := by decide +kernel
theorem dX6_digest_7 : decode cX6_digest 7 = .ok (.iconst 5, 1) := by decide +kernel
theorem dX6_digest_8 : decode cX6_digest 8 = .ok (.if_icmp .ge 22, 3) := by decide +kernel
theorem dX6_digest_11 : decode cX6_digest 11 = .ok (.ldc2_w 195, 3) := by decide +kernel
theorem dX6_digest_14 : decode cX6_digest 14 = .ok (.lload_n 1, 1) := by decide +kernel
theorem dX6_digest_15 : decode cX6_digest 15 = .ok (.lmul, 1) := by decide +kernel
theorem dX6_digest_16 : decode cX6_digest 16 = .ok (.aload_n 0, 1) := by decide +kernel
theorem dX6_digest_17 : decode cX6_digest 17 = .ok (.iload_n 3, 1) := by decide +kernel
theorem dX6_digest_18 : decode cX6_digest 18 = .ok (.invokevirtual 197, 3) := by decide +kernel
theorem dX6_digest_21 : decode cX6_digest 21 = .ok (.i2l, 1) := by decide +kernel
theorem dX6_digest_22 : decode cX6_digest 22 = .ok (.ladd, 1) := by decide +kernel
theorem dX6_digest_23 : decode cX6_digest 23 = .ok (.lstore_n 1, 1) := by decide +kernel
theorem dX6_digest_24 : decode cX6_digest 24 = .ok (.iinc 3 1, 3) := by decide +kernel
theorem dX6_digest_27 : decode cX6_digest 27 = .ok (.goto (-21), 3) := by decide +kernel
theorem dX6_digest_30 : decode cX6_digest 30 = .ok (.iconst 0, 1) := by decide +kernel
theorem dX6_digest_31 : decode cX6_digest 31 = .ok (.istore_n 3, 1) := by decide +kernel
theorem dX6_digest_32 : decode cX6_digest 32 = .ok (.iload_n 3, 1) := by decide +kernel
theorem dX6_digest_33 : decode cX6_digest 33 = .ok (.aload_n 0, 1) := by decide +kernel
theorem dX6_digest_34 : decode cX6_digest 34 = .ok (.getfield 7, 3) := by decide +kernel
theorem dX6_digest_37 : decode cX6_digest 37 = .ok (.if_icmp .ge 75, 3) := by decide +kernel
theorem dX6_digest_40 : decode cX6_digest 40 = .ok (.ldc2_w 195, 3) := by decide +kernel
theorem dX6_digest_43 : decode cX6_digest 43 = .ok (.lload_n 1, 1) := by decide +kernel
theorem dX6_digest_44 : decode cX6_digest 44 = .ok (.lmul, 1) := by decide +kernel
theorem dX6_digest_45 : decode cX6_digest 45 = .ok (.aload_n 0, 1) := by decide +kernel
theorem dX6_digest_46 : decode cX6_digest 46 = .ok (.getfield 30, 3) := by decide +kernel
theorem dX6_digest_49 : decode cX6_digest 49 = .ok (.iload_n 3, 1) := by decide +kernel
theorem dX6_digest_50 : decode cX6_digest 50 = .ok (.laload, 1) := by decide +kernel
theorem dX6_digest_51 : decode cX6_digest 51 = .ok (.ladd, 1) := by decide +kernel
theorem dX6_digest_52 : decode cX6_digest 52 = .ok (.lstore_n 1, 1) := by decide +kernel
theorem dX6_digest_53 : decode cX6_digest 53 = .ok (.iconst 0, 1) := by decide +kernel
theorem dX6_digest_54 : decode cX6_digest 54 = .ok (.istore 4, 2) := by decide +kernel
theorem dX6_digest_56 : decode cX6_digest 56 = .ok (.iload 4, 2) := by decide +kernel
theorem dX6_digest_58 : decode cX6_digest 58 = .ok (.aload_n 0, 1) := by decide +kernel
theorem dX6_digest_59 : decode cX6_digest 59 = .ok (.getfield 11, 3) := by decide +kernel
theorem dX6_digest_62 : decode cX6_digest 62 = .ok (.iload_n 3, 1) := by decide +kernel
theorem dX6_digest_63 : decode cX6_digest 63 = .ok (.iaload, 1) := by decide +kernel
theorem dX6_digest_64 : decode cX6_digest 64 = .ok (.if_icmp .ge 42, 3) := by decide +kernel
theorem dX6_digest_67 : decode cX6_digest 67 = .ok (.iconst 0, 1) := by decide +kernel
theorem dX6_digest_68 : decode cX6_digest 68 = .ok (.istore 5, 2) := by decide +kernel
theorem dX6_digest_70 : decode cX6_digest 70 = .ok (.iload 5, 2) := by decide +kernel
theorem dX6_digest_72 : decode cX6_digest 72 = .ok (.bipush 7, 2) := by decide +kernel
theorem dX6_digest_74 : decode cX6_digest 74 = .ok (.if_icmp .ge 26, 3) := by decide +kernel
theorem dX6_digest_77 : decode cX6_digest 77 = .ok (.ldc2_w 195, 3) := by decide +kernel
theorem dX6_digest_80 : decode cX6_digest 80 = .ok (.lload_n 1, 1) := by decide +kernel
theorem dX6_digest_81 : decode cX6_digest 81 = .ok (.lmul, 1) := by decide +kernel
theorem dX6_digest_82 : decode cX6_digest 82 = .ok (.aload_n 0, 1) := by decide +kernel
theorem dX6_digest_83 : decode cX6_digest 83 = .ok (.iload_n 3, 1) := by decide +kernel
theorem dX6_digest_84 : decode cX6_digest 84 = .ok (.iload 4, 2) := by decide +kernel
theorem dX6_digest_86 : decode cX6_digest 86 = .ok (.iload 5, 2) := by decide +kernel
theorem dX6_digest_88 : decode cX6_digest 88 = .ok (.invokevirtual 200, 3) := by decide +kernel
theorem dX6_digest_91 : decode cX6_digest 91 = .ok (.i2l, 1) := by decide +kernel
theorem dX6_digest_92 : decode cX6_digest 92 = .ok (.ladd, 1) := by decide +kernel
theorem dX6_digest_93 : decode cX6_digest 93 = .ok (.lstore_n 1, 1) := by decide +kernel
theorem dX6_digest_94 : decode cX6_digest 94 = .ok (.iinc 5 1, 3) := by decide +kernel
theorem dX6_digest_97 : decode cX6_digest 97 = .ok (.goto (-27), 3) := by decide +kernel
theorem dX6_digest_100 : decode cX6_digest 100 = .ok (.iinc 4 1, 3) := by decide +kernel
theorem dX6_digest_103 : decode cX6_digest 103 = .ok (.goto (-47), 3) := by decide +kernel
theorem dX6_digest_106 : decode cX6_digest 106 = .ok (.iinc 3 1, 3) := by decide +kernel
theorem dX6_digest_109 : decode cX6_digest 109 = .ok (.goto (-77), 3) := by decide +kernel
theorem dX6_digest_112 : decode cX6_digest 112 = .ok (.iconst 0, 1) := by decide +kernel
theorem dX6_digest_113 : decode cX6_digest 113 = .ok (.istore_n 3, 1) := by decide +kernel
theorem dX6_digest_114 : decode cX6_digest 114 = .ok (.iload_n 3, 1) := by decide +kernel
theorem dX6_digest_115 : decode cX6_digest 115 = .ok (.iconst 3, 1) := by decide +kernel
theorem dX6_digest_116 : decode cX6_digest 116 = .ok (.if_icmp .ge 40, 3) := by decide +kernel
theorem dX6_digest_119 : decode cX6_digest 119 = .ok (.iconst 0, 1) := by decide +kernel
theorem dX6_digest_120 : decode cX6_digest 120 = .ok (.istore 4, 2) := by decide +kernel
theorem dX6_digest_122 : decode cX6_digest 122 = .ok (.iload 4, 2) := by decide +kernel
theorem dX6_digest_124 : decode cX6_digest 124 = .ok (.bipush 7, 2) := by decide +kernel
theorem dX6_digest_126 : decode cX6_digest 126 = .ok (.if_icmp .ge 24, 3) := by decide +kernel
theorem dX6_digest_129 : decode cX6_digest 129 = .ok (.ldc2_w 195, 3) := by decide +kernel
theorem dX6_digest_132 : decode cX6_digest 132 = .ok (.lload_n 1, 1) := by decide +kernel
theorem dX6_digest_133 : decode cX6_digest 133 = .ok (.lmul, 1) := by decide +kernel
theorem dX6_digest_134 : decode cX6_digest 134 = .ok (.aload_n 0, 1) := by decide +kernel
theorem dX6_digest_135 : decode cX6_digest 135 = .ok (.iload_n 3, 1) := by decide +kernel
theorem dX6_digest_136 : decode cX6_digest 136 = .ok (.iload 4, 2) := by decide +kernel
theorem dX6_digest_138 : decode cX6_digest 138 = .ok (.invokevirtual 204, 3) := by decide +kernel
theorem dX6_digest_141 : decode cX6_digest 141 = .ok (.i2l, 1) := by decide +kernel
theorem dX6_digest_142 : decode cX6_digest 142 = .ok (.ladd, 1) := by decide +kernel
theorem dX6_digest_143 : decode cX6_digest 143 = .ok (.lstore_n 1, 1) := by decide +kernel
theorem dX6_digest_144 : decode cX6_digest 144 = .ok (.iinc 4 1, 3) := by decide +kernel
theorem dX6_digest_147 : decode cX6_digest 147 = .ok (.goto (-25), 3) := by decide +kernel
theorem dX6_digest_150 : decode cX6_digest 150 = .ok (.iinc 3 1, 3) := by decide +kernel
theorem dX6_digest_153 : decode cX6_digest 153 = .ok (.goto (-39), 3) := by decide +kernel
theorem dX6_digest_156 : decode cX6_digest 156 = .ok (.iconst 0, 1) := by decide +kernel
theorem dX6_digest_157 : decode cX6_digest 157 = .ok (.istore_n 3, 1) := by decide +kernel
theorem dX6_digest_158 : decode cX6_digest 158 = .ok (.iload_n 3, 1) := by decide +kernel
theorem dX6_digest_159 : decode cX6_digest 159 = .ok (.aload_n 0, 1) := by decide +kernel
theorem dX6_digest_160 : decode cX6_digest 160 = .ok (.getfield 165, 3) := by decide +kernel
theorem dX6_digest_163 : decode cX6_digest 163 = .ok (.if_icmp .ge 39, 3) := by decide +kernel
theorem dX6_digest_166 : decode cX6_digest 166 = .ok (.iconst 0, 1) := by decide +kernel
theorem dX6_digest_167 : decode cX6_digest 167 = .ok (.istore 4, 2) := by decide +kernel
theorem dX6_digest_169 : decode cX6_digest 169 = .ok (.iload 4, 2) := by decide +kernel
theorem dX6_digest_171 : decode cX6_digest 171 = .ok (.iconst 5, 1) := by decide +kernel
theorem dX6_digest_172 : decode cX6_digest 172 = .ok (.if_icmp .ge 24, 3) := by decide +kernel
theorem dX6_digest_175 : decode cX6_digest 175 = .ok (.ldc2_w 195, 3) := by decide +kernel
theorem dX6_digest_178 : decode cX6_digest 178 = .ok (.lload_n 1, 1) := by decide +kernel
theorem dX6_digest_179 : decode cX6_digest 179 = .ok (.lmul, 1) := by decide +kernel
theorem dX6_digest_180 : decode cX6_digest 180 = .ok (.aload_n 0, 1) := by decide +kernel
theorem dX6_digest_181 : decode cX6_digest 181 = .ok (.iload_n 3, 1) := by decide +kernel
theorem dX6_digest_182 : decode cX6_digest 182 = .ok (.iload 4, 2) := by decide +kernel
theorem dX6_digest_184 : decode cX6_digest 184 = .ok (.invokevirtual 207, 3) := by decide +kernel
theorem dX6_digest_187 : decode cX6_digest 187 = .ok (.i2l, 1) := by decide +kernel
theorem dX6_digest_188 : decode cX6_digest 188 = .ok (.ladd, 1) := by decide +kernel
theorem dX6_digest_189 : decode cX6_digest 189 = .ok (.lstore_n 1, 1) := by decide +kernel
theorem dX6_digest_190 : decode cX6_digest 190 = .ok (.iinc 4 1, 3) := by decide +kernel
theorem dX6_digest_193 : decode cX6_digest 193 = .ok (.goto (-24), 3) := by decide +kernel
theorem dX6_digest_196 : decode cX6_digest 196 = .ok (.iinc 3 1, 3) := by decide +kernel
theorem dX6_digest_199 : decode cX6_digest 199 = .ok (.goto (-41), 3) := by decide +kernel
theorem dX6_digest_202 : decode cX6_digest 202 = .ok (.lload_n 1, 1) := by decide +kernel
theorem dX6_digest_203 : decode cX6_digest 203 = .ok (.lreturn, 1) := by decide +kernel
theorem dL_law_0 : decode cL_law 0 = .ok (.new 7, 3) := by decide +kernel
theorem dL_law_3 : decode cL_law 3 = .ok (.dup, 1) := by decide +kernel
theorem dL_law_4 : decode cL_law 4 = .ok (.invokespecial 9, 3) := by decide +kernel
theorem dL_law_7 : decode cL_law 7 = .ok (.astore_n 1, 1) := by decide +kernel
theorem dL_law_8 : decode cL_law 8 = .ok (.new 10, 3) := by decide +kernel
theorem dL_law_11 : decode cL_law 11 = .ok (.dup, 1) := by decide +kernel
theorem dL_law_12 : decode cL_law 12 = .ok (.invokespecial 12, 3) := by decide +kernel
theorem dL_law_15 : decode cL_law 15 = .ok (.astore_n 2, 1) := by decide +kernel
theorem dL_law_16 : decode cL_law 16 = .ok (.iconst 0, 1) := by decide +kernel
theorem dL_law_17 : decode cL_law 17 = .ok (.istore_n 3, 1) := by decide +kernel
theorem dL_law_18 : decode cL_law 18 = .ok (.iload_n 3, 1) := by decide +kernel
theorem dL_law_19 : decode cL_law 19 = .ok (.aload_n 0, 1) := by decide +kernel
theorem dL_law_20 : decode cL_law 20 = .ok (.arraylength, 1) := by decide +kernel
theorem dL_law_21 : decode cL_law 21 = .ok (.bipush 7, 2) := by decide +kernel
theorem dL_law_23 : decode cL_law 23 = .ok (.isub, 1) := by decide +kernel
theorem dL_law_24 : decode cL_law 24 = .ok (.if_icmp .gt 882, 3) := by decide +kernel
theorem dL_law_27 : decode cL_law 27 = .ok (.aload_n 0, 1) := by decide +kernel
theorem dL_law_28 : decode cL_law 28 = .ok (.iload_n 3, 1) := by decide +kernel
theorem dL_law_29 : decode cL_law 29 = .ok (.iaload, 1) := by decide +kernel
theorem dL_law_30 : decode cL_law 30 = .ok (.bipush 31, 2) := by decide +kernel
theorem dL_law_32 : decode cL_law 32 = .ok (.iand, 1) := by decide +kernel
theorem dL_law_33 : decode cL_law 33 = .ok (.tableswitch 867 0 22 #[107, 182, 225, 268, 292, 316, 369, 392, 435, 468, 537, 560, 583, 606, 639, 672, 705, 748, 781, 794, 807, 830, 853], 107) := by decide +kernel
theorem dL_law_140 : decode cL_law 140 = .ok (.aload_n 1, 1) := by decide +kernel
theorem dL_law_141 : decode cL_law 141 = .ok (.aload_n 0, 1) := by decide +kernel
theorem dL_law_142 : decode cL_law 142 = .ok (.iload_n 3, 1) := by decide +kernel
theorem dL_law_143 : decode cL_law 143 = .ok (.iconst 1, 1) := by decide +kernel
theorem dL_law_144 : decode cL_law 144 = .ok (.iadd, 1) := by decide +kernel
theorem dL_law_145 : decode cL_law 145 = .ok (.iaload, 1) := by decide +kernel
theorem dL_law_146 : decode cL_law 146 = .ok (.aload_n 0, 1) := by decide +kernel
theorem dL_law_147 : decode cL_law 147 = .ok (.iload_n 3, 1) := by decide +kernel
theorem dL_law_148 : decode cL_law 148 = .ok (.iconst 2, 1) := by decide +kernel
theorem dL_law_149 : decode cL_law 149 = .ok (.iadd, 1) := by decide +kernel
theorem dL_law_150 : decode cL_law 150 = .ok (.iaload, 1) := by decide +kernel
theorem dL_law_151 : decode cL_law 151 = .ok (.aload_n 0, 1) := by decide +kernel
theorem dL_law_152 : decode cL_law 152 = .ok (.iload_n 3, 1) := by decide +kernel
theorem dL_law_153 : decode cL_law 153 = .ok (.iconst 3, 1) := by decide +kernel
theorem dL_law_154 : decode cL_law 154 = .ok (.iadd, 1) := by decide +kernel
theorem dL_law_155 : decode cL_law 155 = .ok (.iaload, 1) := by decide +kernel
theorem dL_law_156 : decode cL_law 156 = .ok (.aload_n 0, 1) := by decide +kernel
theorem dL_law_157 : decode cL_law 157 = .ok (.iload_n 3, 1) := by decide +kernel
theorem dL_law_158 : decode cL_law 158 = .ok (.iconst 4, 1) := by decide +kernel
theorem dL_law_159 : decode cL_law 159 = .ok (.iadd, 1) := by decide +kernel
theorem dL_law_160 : decode cL_law 160 = .ok (.iaload, 1) := by decide +kernel
theorem dL_law_161 : decode cL_law 161 = .ok (.aload_n 0, 1) := by decide +kernel
theorem dL_law_162 : decode cL_law 162 = .ok (.iload_n 3, 1) := by decide +kernel
theorem dL_law_163 : decode cL_law 163 = .ok (.iconst 5, 1) := by decide +kernel
theorem dL_law_164 : decode cL_law 164 = .ok (.iadd, 1) := by decide +kernel
theorem dL_law_165 : decode cL_law 165 = .ok (.iaload, 1) := by decide +kernel
theorem dL_law_166 : decode cL_law 166 = .ok (.aload_n 0, 1) := by decide +kernel
theorem dL_law_167 : decode cL_law 167 = .ok (.iload_n 3, 1) := by decide +kernel
theorem dL_law_168 : decode cL_law 168 = .ok (.bipush 6, 2) := by decide +kernel
theorem dL_law_170 : decode cL_law 170 = .ok (.iadd, 1) := by decide +kernel
theorem dL_law_171 : decode cL_law 171 = .ok (.iaload, 1) := by decide +kernel
theorem dL_law_172 : decode cL_law 172 = .ok (.invokevirtual 13, 3) := by decide +kernel
theorem dL_law_175 : decode cL_law 175 = .ok (.aload_n 2, 1) := by decide +kernel
theorem dL_law_176 : decode cL_law 176 = .ok (.aload_n 0, 1) := by decide +kernel
theorem dL_law_177 : decode cL_law 177 = .ok (.iload_n 3, 1) := by decide +kernel
theorem dL_law_178 : decode cL_law 178 = .ok (.iconst 1, 1) := by decide +kernel
theorem dL_law_179 : decode cL_law 179 = .ok (.iadd, 1) := by decide +kernel
theorem dL_law_180 : decode cL_law 180 = .ok (.iaload, 1) := by decide +kernel
theorem dL_law_181 : decode cL_law 181 = .ok (.aload_n 0, 1) := by decide +kernel
theorem dL_law_182 : decode cL_law 182 = .ok (.iload_n 3, 1) := by decide +kernel
theorem dL_law_183 : decode cL_law 183 = .ok (.iconst 2, 1) := by decide +kernel
theorem dL_law_184 : decode cL_law 184 = .ok (.iadd, 1) := by decide +kernel
theorem dL_law_185 : decode cL_law 185 = .ok (.iaload, 1) := by decide +kernel
theorem dL_law_186 : decode cL_law 186 = .ok (.aload_n 0, 1) := by decide +kernel
theorem dL_law_187 : decode cL_law 187 = .ok (.iload_n 3, 1) := by decide +kernel
theorem dL_law_188 : decode cL_law 188 = .ok (.iconst 3, 1) := by decide +kernel
theorem dL_law_189 : decode cL_law 189 = .ok (.iadd, 1) := by decide +kernel
theorem dL_law_190 : decode cL_law 190 = .ok (.iaload, 1) := by decide +kernel
theorem dL_law_191 : decode cL_law 191 = .ok (.aload_n 0, 1) := by decide +kernel
theorem dL_law_192 : decode cL_law 192 = .ok (.iload_n 3, 1) := by decide +kernel
theorem dL_law_193 : decode cL_law 193 = .ok (.iconst 4, 1) := by decide +kernel
theorem dL_law_194 : decode cL_law 194 = .ok (.iadd, 1) := by decide +kernel
theorem dL_law_195 : decode cL_law 195 = .ok (.iaload, 1) := by decide +kernel
theorem dL_law_196 : decode cL_law 196 = .ok (.aload_n 0, 1) := by decide +kernel
theorem dL_law_197 : decode cL_law 197 = .ok (.iload_n 3, 1) := by decide +kernel
theorem dL_law_198 : decode cL_law 198 = .ok (.iconst 5, 1) := by decide +kernel
theorem dL_law_199 : decode cL_law 199 = .ok (.iadd, 1) := by decide +kernel
theorem dL_law_200 : decode cL_law 200 = .ok (.iaload, 1) := by decide +kernel
theorem dL_law_201 : decode cL_law 201 = .ok (.aload_n 0, 1) := by decide +kernel
theorem dL_law_202 : decode cL_law 202 = .ok (.iload_n 3, 1) := by decide +kernel
theorem dL_law_203 : decode cL_law 203 = .ok (.bipush 6, 2) := by decide +kernel
theorem dL_law_205 : decode cL_law 205 = .ok (.iadd, 1) := by decide +kernel
theorem dL_law_206 : decode cL_law 206 = .ok (.iaload, 1) := by decide +kernel
theorem dL_law_207 : decode cL_law 207 = .ok (.invokevirtual 17, 3) := by decide +kernel
theorem dL_law_210 : decode cL_law 210 = .ok (.if_icmp .eq 690, 3) := by decide +kernel
theorem dL_law_213 : decode cL_law 213 = .ok (.iconst 0, 1) := by decide +kernel
theorem dL_law_214 : decode cL_law 214 = .ok (.ireturn, 1) := by decide +kernel
theorem dL_law_215 : decode cL_law 215 = .ok (.aload_n 1, 1) := by decide +kernel
theorem dL_law_216 : decode cL_law 216 = .ok (.aload_n 0, 1) := by decide +kernel
theorem dL_law_217 : decode cL_law 217 = .ok (.iload_n 3, 1) := by decide +kernel
theorem dL_law_218 : decode cL_law 218 = .ok (.iconst 1, 1) := by decide +kernel
theorem dL_law_219 : decode cL_law 219 = .ok (.iadd, 1) := by decide +kernel
theorem dL_law_220 : decode cL_law 220 = .ok (.iaload, 1) := by decide +kernel
theorem dL_law_221 : decode cL_law 221 = .ok (.aload_n 0, 1) := by decide +kernel
theorem dL_law_222 : decode cL_law 222 = .ok (.iload_n 3, 1) := by decide +kernel
theorem dL_law_223 : decode cL_law 223 = .ok (.iconst 2, 1) := by decide +kernel
theorem dL_law_224 : decode cL_law 224 = .ok (.iadd, 1) := by decide +kernel
theorem dL_law_225 : decode cL_law 225 = .ok (.iaload, 1) := by decide +kernel
theorem dL_law_226 : decode cL_law 226 = .ok (.aload_n 0, 1) := by decide +kernel
theorem dL_law_227 : decode cL_law 227 = .ok (.iload_n 3, 1) := by decide +kernel
theorem dL_law_228 : decode cL_law 228 = .ok (.iconst 3, 1) := by decide +kernel
theorem dL_law_229 : decode cL_law 229 = .ok (.iadd, 1) := by decide +kernel
theorem dL_law_230 : decode cL_law 230 = .ok (.iaload, 1) := by decide +kernel
theorem dL_law_231 : decode cL_law 231 = .ok (.invokevirtual 18, 3) := by decide +kernel
theorem dL_law_234 : decode cL_law 234 = .ok (.aload_n 2, 1) := by decide +kernel
theorem dL_law_235 : decode cL_law 235 = .ok (.aload_n 0, 1) := by decide +kernel
theorem dL_law_236 : decode cL_law 236 = .ok (.iload_n 3, 1) := by decide +kernel
theorem dL_law_237 : decode cL_law 237 = .ok (.iconst 1, 1) := by decide +kernel
theorem dL_law_238 : decode cL_law 238 = .ok (.iadd, 1) := by decide +kernel
theorem dL_law_239 : decode cL_law 239 = .ok (.iaload, 1) := by decide +kernel
theorem dL_law_240 : decode cL_law 240 = .ok (.aload_n 0, 1) := by decide +kernel
theorem dL_law_241 : decode cL_law 241 = .ok (.iload_n 3, 1) := by decide +kernel
theorem dL_law_242 : decode cL_law 242 = .ok (.iconst 2, 1) := by decide +kernel
theorem dL_law_243 : decode cL_law 243 = .ok (.iadd, 1) := by decide +kernel
theorem dL_law_244 : decode cL_law 244 = .ok (.iaload, 1) := by decide +kernel
theorem dL_law_245 : decode cL_law 245 = .ok (.aload_n 0, 1) := by decide +kernel
theorem dL_law_246 : decode cL_law 246 = .ok (.iload_n 3, 1) := by decide +kernel
theorem dL_law_247 : decode cL_law 247 = .ok (.iconst 3, 1) := by decide +kernel
theorem dL_law_248 : decode cL_law 248 = .ok (.iadd, 1) := by decide +kernel
theorem dL_law_249 : decode cL_law 249 = .ok (.iaload, 1) := by decide +kernel
theorem dL_law_250 : decode cL_law 250 = .ok (.invokevirtual 22, 3) := by decide +kernel
theorem dL_law_253 : decode cL_law 253 = .ok (.if_icmp .eq 647, 3) := by decide +kernel
theorem dL_law_256 : decode cL_law 256 = .ok (.iconst 0, 1) := by decide +kernel
theorem dL_law_257 : decode cL_law 257 = .ok (.ireturn, 1) := by decide +kernel
theorem dL_law_258 : decode cL_law 258 = .ok (.aload_n 1, 1) := by decide +kernel
theorem dL_law_259 : decode cL_law 259 = .ok (.aload_n 0, 1) := by decide +kernel
theorem dL_law_260 : decode cL_law 260 = .ok (.iload_n 3, 1) := by decide +kernel
theorem dL_law_261 : decode cL_law 261 = .ok (.iconst 1, 1) := by decide +kernel
theorem dL_law_262 : decode cL_law 262 = .ok (.iadd, 1) := by decide +kernel
theorem dL_law_263 : decode cL_law 263 = .ok (.iaload, 1) := by decide +kernel
theorem dL_law_264 : decode cL_law 264 = .ok (.aload_n 0, 1) := by decide +kernel
theorem dL_law_265 : decode cL_law 265 = .ok (.iload_n 3, 1) := by decide +kernel
theorem dL_law_266 : decode cL_law 266 = .ok (.iconst 2, 1) := by decide +kernel
theorem dL_law_267 : decode cL_law 267 = .ok (.iadd, 1) := by decide +kernel
theorem dL_law_268 : decode cL_law 268 = .ok (.iaload, 1) := by decide +kernel
theorem dL_law_269 : decode cL_law 269 = .ok (.aload_n 0, 1) := by decide +kernel
theorem dL_law_270 : decode cL_law 270 = .ok (.iload_n 3, 1) := by decide +kernel
theorem dL_law_271 : decode cL_law 271 = .ok (.iconst 3, 1) := by decide +kernel
theorem dL_law_272 : decode cL_law 272 = .ok (.iadd, 1) := by decide +kernel
theorem dL_law_273 : decode cL_law 273 = .ok (.iaload, 1) := by decide +kernel
theorem dL_law_274 : decode cL_law 274 = .ok (.invokevirtual 23, 3) := by decide +kernel
theorem dL_law_277 : decode cL_law 277 = .ok (.aload_n 2, 1) := by decide +kernel
theorem dL_law_278 : decode cL_law 278 = .ok (.aload_n 0, 1) := by decide +kernel
theorem dL_law_279 : decode cL_law 279 = .ok (.iload_n 3, 1) := by decide +kernel
theorem dL_law_280 : decode cL_law 280 = .ok (.iconst 1, 1) := by decide +kernel
theorem dL_law_281 : decode cL_law 281 = .ok (.iadd, 1) := by decide +kernel
theorem dL_law_282 : decode cL_law 282 = .ok (.iaload, 1) := by decide +kernel
theorem dL_law_283 : decode cL_law 283 = .ok (.aload_n 0, 1) := by decide +kernel
theorem dL_law_284 : decode cL_law 284 = .ok (.iload_n 3, 1) := by decide +kernel
theorem dL_law_285 : decode cL_law 285 = .ok (.iconst 2, 1) := by decide +kernel
theorem dL_law_286 : decode cL_law 286 = .ok (.iadd, 1) := by decide +kernel
theorem dL_law_287 : decode cL_law 287 = .ok (.iaload, 1) := by decide +kernel
theorem dL_law_288 : decode cL_law 288 = .ok (.aload_n 0, 1) := by decide +kernel
theorem dL_law_289 : decode cL_law 289 = .ok (.iload_n 3, 1) := by decide +kernel
theorem dL_law_290 : decode cL_law 290 = .ok (.iconst 3, 1) := by decide +kernel
theorem dL_law_291 : decode cL_law 291 = .ok (.iadd, 1) := by decide +kernel
theorem dL_law_292 : decode cL_law 292 = .ok (.iaload, 1) := by decide +kernel
theorem dL_law_293 : decode cL_law 293 = .ok (.invokevirtual 26, 3) := by decide +kernel
theorem dL_law_296 : decode cL_law 296 = .ok (.if_icmp .eq 604, 3) := by decide +kernel
theorem dL_law_299 : decode cL_law 299 = .ok (.iconst 0, 1) := by decide +kernel
theorem dL_law_300 : decode cL_law 300 = .ok (.ireturn, 1) := by decide +kernel
theorem dL_law_301 : decode cL_law 301 = .ok (.aload_n 1, 1) := by decide +kernel
theorem dL_law_302 : decode cL_law 302 = .ok (.aload_n 0, 1) := by decide +kernel
theorem dL_law_303 : decode cL_law 303 = .ok (.iload_n 3, 1) := by decide +kernel
theorem dL_law_304 : decode cL_law 304 = .ok (.iconst 1, 1) := by decide +kernel
theorem dL_law_305 : decode cL_law 305 = .ok (.iadd, 1) := by decide +kernel
theorem dL_law_306 : decode cL_law 306 = .ok (.iaload, 1) := by decide +kernel
theorem dL_law_307 : decode cL_law 307 = .ok (.invokevirtual 27, 3) := by decide +kernel
theorem dL_law_310 : decode cL_law 310 = .ok (.aload_n 2, 1) := by decide +kernel
theorem dL_law_311 : decode cL_law 311 = .ok (.aload_n 0, 1) := by decide +kernel
theorem dL_law_312 : decode cL_law 312 = .ok (.iload_n 3, 1) := by decide +kernel
theorem dL_law_313 : decode cL_law 313 = .ok (.iconst 1, 1) := by decide +kernel
theorem dL_law_314 : decode cL_law 314 = .ok (.iadd, 1) := by decide +kernel
theorem dL_law_315 : decode cL_law 315 = .ok (.iaload, 1) := by decide +kernel
theorem dL_law_316 : decode cL_law 316 = .ok (.invokevirtual 31, 3) := by decide +kernel
theorem dL_law_319 : decode cL_law 319 = .ok (.lcmp, 1) := by decide +kernel
theorem dL_law_320 : decode cL_law 320 = .ok (.ifCond .eq 580, 3) := by decide +kernel
theorem dL_law_323 : decode cL_law 323 = .ok (.iconst 0, 1) := by decide +kernel
theorem dL_law_324 : decode cL_law 324 = .ok (.ireturn, 1) := by decide +kernel
theorem dL_law_325 : decode cL_law 325 = .ok (.aload_n 1, 1) := by decide +kernel
theorem dL_law_326 : decode cL_law 326 = .ok (.aload_n 0, 1) := by decide +kernel
theorem dL_law_327 : decode cL_law 327 = .ok (.iload_n 3, 1) := by decide +kernel
theorem dL_law_328 : decode cL_law 328 = .ok (.iconst 1, 1) := by decide +kernel
theorem dL_law_329 : decode cL_law 329 = .ok (.iadd, 1) := by decide +kernel
theorem dL_law_330 : decode cL_law 330 = .ok (.iaload, 1) := by decide +kernel
theorem dL_law_331 : decode cL_law 331 = .ok (.invokevirtual 32, 3) := by decide +kernel
theorem dL_law_334 : decode cL_law 334 = .ok (.aload_n 2, 1) := by decide +kernel
theorem dL_law_335 : decode cL_law 335 = .ok (.aload_n 0, 1) := by decide +kernel
theorem dL_law_336 : decode cL_law 336 = .ok (.iload_n 3, 1) := by decide +kernel
theorem dL_law_337 : decode cL_law 337 = .ok (.iconst 1, 1) := by decide +kernel
theorem dL_law_338 : decode cL_law 338 = .ok (.iadd, 1) := by decide +kernel
theorem dL_law_339 : decode cL_law 339 = .ok (.iaload, 1) := by decide +kernel
theorem dL_law_340 : decode cL_law 340 = .ok (.invokevirtual 35, 3) := by decide +kernel
theorem dL_law_343 : decode cL_law 343 = .ok (.lcmp, 1) := by decide +kernel
theorem dL_law_344 : decode cL_law 344 = .ok (.ifCond .eq 556, 3) := by decide +kernel
theorem dL_law_347 : decode cL_law 347 = .ok (.iconst 0, 1) := by decide +kernel
theorem dL_law_348 : decode cL_law 348 = .ok (.ireturn, 1) := by decide +kernel
theorem dL_law_349 : decode cL_law 349 = .ok (.aload_n 1, 1) := by decide +kernel
theorem dL_law_350 : decode cL_law 350 = .ok (.aload_n 0, 1) := by decide +kernel
theorem dL_law_351 : decode cL_law 351 = .ok (.iload_n 3, 1) := by decide +kernel
theorem dL_law_352 : decode cL_law 352 = .ok (.iconst 1, 1) := by decide +kernel
theorem dL_law_353 : decode cL_law 353 = .ok (.iadd, 1) := by decide +kernel
theorem dL_law_354 : decode cL_law 354 = .ok (.iaload, 1) := by decide +kernel
theorem dL_law_355 : decode cL_law 355 = .ok (.aload_n 0, 1) := by decide +kernel
theorem dL_law_356 : decode cL_law 356 = .ok (.iload_n 3, 1) := by decide +kernel
theorem dL_law_357 : decode cL_law 357 = .ok (.iconst 2, 1) := by decide +kernel
theorem dL_law_358 : decode cL_law 358 = .ok (.iadd, 1) := by decide +kernel
theorem dL_law_359 : decode cL_law 359 = .ok (.iaload, 1) := by decide +kernel
theorem dL_law_360 : decode cL_law 360 = .ok (.aload_n 0, 1) := by decide +kernel
theorem dL_law_361 : decode cL_law 361 = .ok (.iload_n 3, 1) := by decide +kernel
theorem dL_law_362 : decode cL_law 362 = .ok (.iconst 3, 1) := by decide +kernel
theorem dL_law_363 : decode cL_law 363 = .ok (.iadd, 1) := by decide +kernel
theorem dL_law_364 : decode cL_law 364 = .ok (.iaload, 1) := by decide +kernel
theorem dL_law_365 : decode cL_law 365 = .ok (.aload_n 0, 1) := by decide +kernel
theorem dL_law_366 : decode cL_law 366 = .ok (.iload_n 3, 1) := by decide +kernel
theorem dL_law_367 : decode cL_law 367 = .ok (.iconst 4, 1) := by decide +kernel
theorem dL_law_368 : decode cL_law 368 = .ok (.iadd, 1) := by decide +kernel
theorem dL_law_369 : decode cL_law 369 = .ok (.iaload, 1) := by decide +kernel
theorem dL_law_370 : decode cL_law 370 = .ok (.invokevirtual 36, 3) := by decide +kernel
theorem dL_law_373 : decode cL_law 373 = .ok (.aload_n 2, 1) := by decide +kernel
theorem dL_law_374 : decode cL_law 374 = .ok (.aload_n 0, 1) := by decide +kernel
theorem dL_law_375 : decode cL_law 375 = .ok (.iload_n 3, 1) := by decide +kernel
theorem dL_law_376 : decode cL_law 376 = .ok (.iconst 1, 1) := by decide +kernel
theorem dL_law_377 : decode cL_law 377 = .ok (.iadd, 1) := by decide +kernel
theorem dL_law_378 : decode cL_law 378 = .ok (.iaload, 1) := by decide +kernel
theorem dL_law_379 : decode cL_law 379 = .ok (.aload_n 0, 1) := by decide +kernel
theorem dL_law_380 : decode cL_law 380 = .ok (.iload_n 3, 1) := by decide +kernel
theorem dL_law_381 : decode cL_law 381 = .ok (.iconst 2, 1) := by decide +kernel
theorem dL_law_382 : decode cL_law 382 = .ok (.iadd, 1) := by decide +kernel
theorem dL_law_383 : decode cL_law 383 = .ok (.iaload, 1) := by decide +kernel
theorem dL_law_384 : decode cL_law 384 = .ok (.aload_n 0, 1) := by decide +kernel
theorem dL_law_385 : decode cL_law 385 = .ok (.iload_n 3, 1) := by decide +kernel
theorem dL_law_386 : decode cL_law 386 = .ok (.iconst 3, 1) := by decide +kernel
theorem dL_law_387 : decode cL_law 387 = .ok (.iadd, 1) := by decide +kernel
theorem dL_law_388 : decode cL_law 388 = .ok (.iaload, 1) := by decide +kernel
theorem dL_law_389 : decode cL_law 389 = .ok (.aload_n 0, 1) := by decide +kernel
theorem dL_law_390 : decode cL_law 390 = .ok (.iload_n 3, 1) := by decide +kernel
theorem dL_law_391 : decode cL_law 391 = .ok (.iconst 4, 1) := by decide +kernel
theorem dL_law_392 : decode cL_law 392 = .ok (.iadd, 1) := by decide +kernel
theorem dL_law_393 : decode cL_law 393 = .ok (.iaload, 1) := by decide +kernel
theorem dL_law_394 : decode cL_law 394 = .ok (.invokevirtual 40, 3) := by decide +kernel
theorem dL_law_397 : decode cL_law 397 = .ok (.if_icmp .eq 503, 3) := by decide +kernel
theorem dL_law_400 : decode cL_law 400 = .ok (.iconst 0, 1) := by decide +kernel
theorem dL_law_401 : decode cL_law 401 = .ok (.ireturn, 1) := by decide +kernel
theorem dL_law_402 : decode cL_law 402 = .ok (.aload_n 1, 1) := by decide +kernel
theorem dL_law_403 : decode cL_law 403 = .ok (.aload_n 0, 1) := by decide +kernel
theorem dL_law_404 : decode cL_law 404 = .ok (.iload_n 3, 1) := by decide +kernel
theorem dL_law_405 : decode cL_law 405 = .ok (.iconst 1, 1) := by decide +kernel
theorem dL_law_406 : decode cL_law 406 = .ok (.iadd, 1) := by decide +kernel
theorem dL_law_407 : decode cL_law 407 = .ok (.iaload, 1) := by decide +kernel
theorem dL_law_408 : decode cL_law 408 = .ok (.invokevirtual 41, 3) := by decide +kernel
theorem dL_law_411 : decode cL_law 411 = .ok (.aload_n 2, 1) := by decide +kernel
theorem dL_law_412 : decode cL_law 412 = .ok (.aload_n 0, 1) := by decide +kernel
theorem dL_law_413 : decode cL_law 413 = .ok (.iload_n 3, 1) := by decide +kernel
theorem dL_law_414 : decode cL_law 414 = .ok (.iconst 1, 1) := by decide +kernel
theorem dL_law_415 : decode cL_law 415 = .ok (.iadd, 1) := by decide +kernel
theorem dL_law_416 : decode cL_law 416 = .ok (.iaload, 1) := by decide +kernel
theorem dL_law_417 : decode cL_law 417 = .ok (.invokevirtual 45, 3) := by decide +kernel
theorem dL_law_420 : decode cL_law 420 = .ok (.if_icmp .eq 480, 3) := by decide +kernel
theorem dL_law_423 : decode cL_law 423 = .ok (.iconst 0, 1) := by decide +kernel
theorem dL_law_424 : decode cL_law 424 = .ok (.ireturn, 1) := by decide +kernel
theorem dL_law_425 : decode cL_law 425 = .ok (.aload_n 1, 1) := by decide +kernel
theorem dL_law_426 : decode cL_law 426 = .ok (.aload_n 0, 1) := by decide +kernel
theorem dL_law_427 : decode cL_law 427 = .ok (.iload_n 3, 1) := by decide +kernel
theorem dL_law_428 : decode cL_law 428 = .ok (.iconst 1, 1) := by decide +kernel
theorem dL_law_429 : decode cL_law 429 = .ok (.iadd, 1) := by decide +kernel
theorem dL_law_430 : decode cL_law 430 = .ok (.iaload, 1) := by decide +kernel
theorem dL_law_431 : decode cL_law 431 = .ok (.aload_n 0, 1) := by decide +kernel
theorem dL_law_432 : decode cL_law 432 = .ok (.iload_n 3, 1) := by decide +kernel
theorem dL_law_433 : decode cL_law 433 = .ok (.iconst 2, 1) := by decide +kernel
theorem dL_law_434 : decode cL_law 434 = .ok (.iadd, 1) := by decide +kernel
theorem dL_law_435 : decode cL_law 435 = .ok (.iaload, 1) := by decide +kernel
theorem dL_law_436 : decode cL_law 436 = .ok (.aload_n 0, 1) := by decide +kernel
theorem dL_law_437 : decode cL_law 437 = .ok (.iload_n 3, 1) := by decide +kernel
theorem dL_law_438 : decode cL_law 438 = .ok (.iconst 3, 1) := by decide +kernel
theorem dL_law_439 : decode cL_law 439 = .ok (.iadd, 1) := by decide +kernel
theorem dL_law_440 : decode cL_law 440 = .ok (.iaload, 1) := by decide +kernel
theorem dL_law_441 : decode cL_law 441 = .ok (.invokevirtual 46, 3) := by decide +kernel
theorem dL_law_444 : decode cL_law 444 = .ok (.aload_n 2, 1) := by decide +kernel
theorem dL_law_445 : decode cL_law 445 = .ok (.aload_n 0, 1) := by decide +kernel
theorem dL_law_446 : decode cL_law 446 = .ok (.iload_n 3, 1) := by decide +kernel
theorem dL_law_447 : decode cL_law 447 = .ok (.iconst 1, 1) := by decide +kernel
theorem dL_law_448 : decode cL_law 448 = .ok (.iadd, 1) := by decide +kernel
theorem dL_law_449 : decode cL_law 449 = .ok (.iaload, 1) := by decide +kernel
theorem dL_law_450 : decode cL_law 450 = .ok (.aload_n 0, 1) := by decide +kernel
theorem dL_law_451 : decode cL_law 451 = .ok (.iload_n 3, 1) := by decide +kernel
theorem dL_law_452 : decode cL_law 452 = .ok (.iconst 2, 1) := by decide +kernel
theorem dL_law_453 : decode cL_law 453 = .ok (.iadd, 1) := by decide +kernel
theorem dL_law_454 : decode cL_law 454 = .ok (.iaload, 1) := by decide +kernel
theorem dL_law_455 : decode cL_law 455 = .ok (.aload_n 0, 1) := by decide +kernel
theorem dL_law_456 : decode cL_law 456 = .ok (.iload_n 3, 1) := by decide +kernel
theorem dL_law_457 : decode cL_law 457 = .ok (.iconst 3, 1) := by decide +kernel
theorem dL_law_458 : decode cL_law 458 = .ok (.iadd, 1) := by decide +kernel
theorem dL_law_459 : decode cL_law 459 = .ok (.iaload, 1) := by decide +kernel
theorem dL_law_460 : decode cL_law 460 = .ok (.invokevirtual 49, 3) := by decide +kernel
theorem dL_law_463 : decode cL_law 463 = .ok (.if_icmp .eq 437, 3) := by decide +kernel
theorem dL_law_466 : decode cL_law 466 = .ok (.iconst 0, 1) := by decide +kernel
theorem dL_law_467 : decode cL_law 467 = .ok (.ireturn, 1) := by decide +kernel
theorem dL_law_468 : decode cL_law 468 = .ok (.aload_n 1, 1) := by decide +kernel
theorem dL_law_469 : decode cL_law 469 = .ok (.aload_n 0, 1) := by decide +kernel
theorem dL_law_470 : decode cL_law 470 = .ok (.iload_n 3, 1) := by decide +kernel
theorem dL_law_471 : decode cL_law 471 = .ok (.iconst 1, 1) := by decide +kernel
theorem dL_law_472 : decode cL_law 472 = .ok (.iadd, 1) := by decide +kernel
theorem dL_law_473 : decode cL_law 473 = .ok (.iaload, 1) := by decide +kernel
theorem dL_law_474 : decode cL_law 474 = .ok (.aload_n 0, 1) := by decide +kernel
theorem dL_law_475 : decode cL_law 475 = .ok (.iload_n 3, 1) := by decide +kernel
theorem dL_law_476 : decode cL_law 476 = .ok (.iconst 2, 1) := by decide +kernel
theorem dL_law_477 : decode cL_law 477 = .ok (.iadd, 1) := by decide +kernel
theorem dL_law_478 : decode cL_law 478 = .ok (.iaload, 1) := by decide +kernel
theorem dL_law_479 : decode cL_law 479 = .ok (.invokevirtual 50, 3) := by decide +kernel
theorem dL_law_482 : decode cL_law 482 = .ok (.aload_n 2, 1) := by decide +kernel
theorem dL_law_483 : decode cL_law 483 = .ok (.aload_n 0, 1) := by decide +kernel
theorem dL_law_484 : decode cL_law 484 = .ok (.iload_n 3, 1) := by decide +kernel
theorem dL_law_485 : decode cL_law 485 = .ok (.iconst 1, 1) := by decide +kernel
theorem dL_law_486 : decode cL_law 486 = .ok (.iadd, 1) := by decide +kernel
theorem dL_law_487 : decode cL_law 487 = .ok (.iaload, 1) := by decide +kernel
theorem dL_law_488 : decode cL_law 488 = .ok (.aload_n 0, 1) := by decide +kernel
theorem dL_law_489 : decode cL_law 489 = .ok (.iload_n 3, 1) := by decide +kernel
theorem dL_law_490 : decode cL_law 490 = .ok (.iconst 2, 1) := by decide +kernel
theorem dL_law_491 : decode cL_law 491 = .ok (.iadd, 1) := by decide +kernel
theorem dL_law_492 : decode cL_law 492 = .ok (.iaload, 1) := by decide +kernel
theorem dL_law_493 : decode cL_law 493 = .ok (.invokevirtual 54, 3) := by decide +kernel
theorem dL_law_496 : decode cL_law 496 = .ok (.if_icmp .eq 404, 3) := by decide +kernel
theorem dL_law_499 : decode cL_law 499 = .ok (.iconst 0, 1) := by decide +kernel
theorem dL_law_500 : decode cL_law 500 = .ok (.ireturn, 1) := by decide +kernel
theorem dL_law_501 : decode cL_law 501 = .ok (.aload_n 1, 1) := by decide +kernel
theorem dL_law_502 : decode cL_law 502 = .ok (.aload_n 0, 1) := by decide +kernel
theorem dL_law_503 : decode cL_law 503 = .ok (.iload_n 3, 1) := by decide +kernel
theorem dL_law_504 : decode cL_law 504 = .ok (.iconst 1, 1) := by decide +kernel
theorem dL_law_505 : decode cL_law 505 = .ok (.iadd, 1) := by decide +kernel
theorem dL_law_506 : decode cL_law 506 = .ok (.iaload, 1) := by decide +kernel
theorem dL_law_507 : decode cL_law 507 = .ok (.aload_n 0, 1) := by decide +kernel
theorem dL_law_508 : decode cL_law 508 = .ok (.iload_n 3, 1) := by decide +kernel
theorem dL_law_509 : decode cL_law 509 = .ok (.iconst 2, 1) := by decide +kernel
theorem dL_law_510 : decode cL_law 510 = .ok (.iadd, 1) := by decide +kernel
theorem dL_law_511 : decode cL_law 511 = .ok (.iaload, 1) := by decide +kernel
theorem dL_law_512 : decode cL_law 512 = .ok (.aload_n 0, 1) := by decide +kernel
theorem dL_law_513 : decode cL_law 513 = .ok (.iload_n 3, 1) := by decide +kernel
theorem dL_law_514 : decode cL_law 514 = .ok (.iconst 3, 1) := by decide +kernel
theorem dL_law_515 : decode cL_law 515 = .ok (.iadd, 1) := by decide +kernel
theorem dL_law_516 : decode cL_law 516 = .ok (.iaload, 1) := by decide +kernel
theorem dL_law_517 : decode cL_law 517 = .ok (.ifCond .eq 7, 3) := by decide +kernel
theorem dL_law_520 : decode cL_law 520 = .ok (.iconst 1, 1) := by decide +kernel
theorem dL_law_521 : decode cL_law 521 = .ok (.goto 4, 3) := by decide +kernel
theorem dL_law_524 : decode cL_law 524 = .ok (.iconst 0, 1) := by decide +kernel
theorem dL_law_525 : decode cL_law 525 = .ok (.aload_n 0, 1) := by decide +kernel
theorem dL_law_526 : decode cL_law 526 = .ok (.iload_n 3, 1) := by decide +kernel
theorem dL_law_527 : decode cL_law 527 = .ok (.iconst 4, 1) := by decide +kernel
theorem dL_law_528 : decode cL_law 528 = .ok (.iadd, 1) := by decide +kernel
theorem dL_law_529 : decode cL_law 529 = .ok (.iaload, 1) := by decide +kernel
theorem dL_law_530 : decode cL_law 530 = .ok (.invokevirtual 55, 3) := by decide +kernel
theorem dL_law_533 : decode cL_law 533 = .ok (.aload_n 2, 1) := by decide +kernel
theorem dL_law_534 : decode cL_law 534 = .ok (.aload_n 0, 1) := by decide +kernel
theorem dL_law_535 : decode cL_law 535 = .ok (.iload_n 3, 1) := by decide +kernel
theorem dL_law_536 : decode cL_law 536 = .ok (.iconst 1, 1) := by decide +kernel
theorem dL_law_537 : decode cL_law 537 = .ok (.iadd, 1) := by decide +kernel
theorem dL_law_538 : decode cL_law 538 = .ok (.iaload, 1) := by decide +kernel
theorem dL_law_539 : decode cL_law 539 = .ok (.aload_n 0, 1) := by decide +kernel
theorem dL_law_540 : decode cL_law 540 = .ok (.iload_n 3, 1) := by decide +kernel
theorem dL_law_541 : decode cL_law 541 = .ok (.iconst 2, 1) := by decide +kernel
theorem dL_law_542 : decode cL_law 542 = .ok (.iadd, 1) := by decide +kernel
theorem dL_law_543 : decode cL_law 543 = .ok (.iaload, 1) := by decide +kernel
theorem dL_law_544 : decode cL_law 544 = .ok (.aload_n 0, 1) := by decide +kernel
theorem dL_law_545 : decode cL_law 545 = .ok (.iload_n 3, 1) := by decide +kernel
theorem dL_law_546 : decode cL_law 546 = .ok (.iconst 3, 1) := by decide +kernel
theorem dL_law_547 : decode cL_law 547 = .ok (.iadd, 1) := by decide +kernel
theorem dL_law_548 : decode cL_law 548 = .ok (.iaload, 1) := by decide +kernel
theorem dL_law_549 : decode cL_law 549 = .ok (.ifCond .eq 7, 3) := by decide +kernel
theorem dL_law_552 : decode cL_law 552 = .ok (.iconst 1, 1) := by decide +kernel
theorem dL_law_553 : decode cL_law 553 = .ok (.goto 4, 3) := by decide +kernel
theorem dL_law_556 : decode cL_law 556 = .ok (.iconst 0, 1) := by decide +kernel
theorem dL_law_557 : decode cL_law 557 = .ok (.aload_n 0, 1) := by decide +kernel
theorem dL_law_558 : decode cL_law 558 = .ok (.iload_n 3, 1) := by decide +kernel
theorem dL_law_559 : decode cL_law 559 = .ok (.iconst 4, 1) := by decide +kernel
theorem dL_law_560 : decode cL_law 560 = .ok (.iadd, 1) := by decide +kernel
theorem dL_law_561 : decode cL_law 561 = .ok (.iaload, 1) := by decide +kernel
theorem dL_law_562 : decode cL_law 562 = .ok (.invokevirtual 59, 3) := by decide +kernel
theorem dL_law_565 : decode cL_law 565 = .ok (.if_icmp .eq 335, 3) := by decide +kernel
theorem dL_law_568 : decode cL_law 568 = .ok (.iconst 0, 1) := by decide +kernel
theorem dL_law_569 : decode cL_law 569 = .ok (.ireturn, 1) := by decide +kernel
theorem dL_law_570 : decode cL_law 570 = .ok (.aload_n 1, 1) := by decide +kernel
theorem dL_law_571 : decode cL_law 571 = .ok (.aload_n 0, 1) := by decide +kernel
theorem dL_law_572 : decode cL_law 572 = .ok (.iload_n 3, 1) := by decide +kernel
theorem dL_law_573 : decode cL_law 573 = .ok (.iconst 1, 1) := by decide +kernel
theorem dL_law_574 : decode cL_law 574 = .ok (.iadd, 1) := by decide +kernel
theorem dL_law_575 : decode cL_law 575 = .ok (.iaload, 1) := by decide +kernel
theorem dL_law_576 : decode cL_law 576 = .ok (.invokevirtual 60, 3) := by decide +kernel
theorem dL_law_579 : decode cL_law 579 = .ok (.aload_n 2, 1) := by decide +kernel
theorem dL_law_580 : decode cL_law 580 = .ok (.aload_n 0, 1) := by decide +kernel
theorem dL_law_581 : decode cL_law 581 = .ok (.iload_n 3, 1) := by decide +kernel
theorem dL_law_582 : decode cL_law 582 = .ok (.iconst 1, 1) := by decide +kernel
theorem dL_law_583 : decode cL_law 583 = .ok (.iadd, 1) := by decide +kernel
theorem dL_law_584 : decode cL_law 584 = .ok (.iaload, 1) := by decide +kernel
theorem dL_law_585 : decode cL_law 585 = .ok (.invokevirtual 63, 3) := by decide +kernel
theorem dL_law_588 : decode cL_law 588 = .ok (.if_icmp .eq 312, 3) := by decide +kernel
theorem dL_law_591 : decode cL_law 591 = .ok (.iconst 0, 1) := by decide +kernel
theorem dL_law_592 : decode cL_law 592 = .ok (.ireturn, 1) := by decide +kernel
theorem dL_law_593 : decode cL_law 593 = .ok (.aload_n 1, 1) := by decide +kernel
theorem dL_law_594 : decode cL_law 594 = .ok (.aload_n 0, 1) := by decide +kernel
theorem dL_law_595 : decode cL_law 595 = .ok (.iload_n 3, 1) := by decide +kernel
theorem dL_law_596 : decode cL_law 596 = .ok (.iconst 1, 1) := by decide +kernel
theorem dL_law_597 : decode cL_law 597 = .ok (.iadd, 1) := by decide +kernel
theorem dL_law_598 : decode cL_law 598 = .ok (.iaload, 1) := by decide +kernel
theorem dL_law_599 : decode cL_law 599 = .ok (.invokevirtual 64, 3) := by decide +kernel
theorem dL_law_602 : decode cL_law 602 = .ok (.aload_n 2, 1) := by decide +kernel
theorem dL_law_603 : decode cL_law 603 = .ok (.aload_n 0, 1) := by decide +kernel
theorem dL_law_604 : decode cL_law 604 = .ok (.iload_n 3, 1) := by decide +kernel
theorem dL_law_605 : decode cL_law 605 = .ok (.iconst 1, 1) := by decide +kernel
theorem dL_law_606 : decode cL_law 606 = .ok (.iadd, 1) := by decide +kernel
theorem dL_law_607 : decode cL_law 607 = .ok (.iaload, 1) := by decide +kernel
theorem dL_law_608 : decode cL_law 608 = .ok (.invokevirtual 67, 3) := by decide +kernel
theorem dL_law_611 : decode cL_law 611 = .ok (.if_icmp .eq 289, 3) := by decide +kernel
theorem dL_law_614 : decode cL_law 614 = .ok (.iconst 0, 1) := by decide +kernel
theorem dL_law_615 : decode cL_law 615 = .ok (.ireturn, 1) := by decide +kernel
theorem dL_law_616 : decode cL_law 616 = .ok (.aload_n 1, 1) := by decide +kernel
theorem dL_law_617 : decode cL_law 617 = .ok (.aload_n 0, 1) := by decide +kernel
theorem dL_law_618 : decode cL_law 618 = .ok (.iload_n 3, 1) := by decide +kernel
theorem dL_law_619 : decode cL_law 619 = .ok (.iconst 1, 1) := by decide +kernel
theorem dL_law_620 : decode cL_law 620 = .ok (.iadd, 1) := by decide +kernel
theorem dL_law_621 : decode cL_law 621 = .ok (.iaload, 1) := by decide +kernel
theorem dL_law_622 : decode cL_law 622 = .ok (.invokevirtual 68, 3) := by decide +kernel
theorem dL_law_625 : decode cL_law 625 = .ok (.aload_n 2, 1) := by decide +kernel
theorem dL_law_626 : decode cL_law 626 = .ok (.aload_n 0, 1) := by decide +kernel
theorem dL_law_627 : decode cL_law 627 = .ok (.iload_n 3, 1) := by decide +kernel
theorem dL_law_628 : decode cL_law 628 = .ok (.iconst 1, 1) := by decide +kernel
theorem dL_law_629 : decode cL_law 629 = .ok (.iadd, 1) := by decide +kernel
theorem dL_law_630 : decode cL_law 630 = .ok (.iaload, 1) := by decide +kernel
theorem dL_law_631 : decode cL_law 631 = .ok (.invokevirtual 71, 3) := by decide +kernel
theorem dL_law_634 : decode cL_law 634 = .ok (.if_icmp .eq 266, 3) := by decide +kernel
theorem dL_law_637 : decode cL_law 637 = .ok (.iconst 0, 1) := by decide +kernel
theorem dL_law_638 : decode cL_law 638 = .ok (.ireturn, 1) := by decide +kernel
theorem dL_law_639 : decode cL_law 639 = .ok (.aload_n 1, 1) := by decide +kernel
theorem dL_law_640 : decode cL_law 640 = .ok (.aload_n 0, 1) := by decide +kernel
theorem dL_law_641 : decode cL_law 641 = .ok (.iload_n 3, 1) := by decide +kernel
theorem dL_law_642 : decode cL_law 642 = .ok (.iconst 1, 1) := by decide +kernel
theorem dL_law_643 : decode cL_law 643 = .ok (.iadd, 1) := by decide +kernel
theorem dL_law_644 : decode cL_law 644 = .ok (.iaload, 1) := by decide +kernel
theorem dL_law_645 : decode cL_law 645 = .ok (.aload_n 0, 1) := by decide +kernel
theorem dL_law_646 : decode cL_law 646 = .ok (.iload_n 3, 1) := by decide +kernel
theorem dL_law_647 : decode cL_law 647 = .ok (.iconst 2, 1) := by decide +kernel
theorem dL_law_648 : decode cL_law 648 = .ok (.iadd, 1) := by decide +kernel
theorem dL_law_649 : decode cL_law 649 = .ok (.iaload, 1) := by decide +kernel
theorem dL_law_650 : decode cL_law 650 = .ok (.invokevirtual 72, 3) := by decide +kernel
theorem dL_law_653 : decode cL_law 653 = .ok (.aload_n 2, 1) := by decide +kernel
theorem dL_law_654 : decode cL_law 654 = .ok (.aload_n 0, 1) := by decide +kernel
theorem dL_law_655 : decode cL_law 655 = .ok (.iload_n 3, 1) := by decide +kernel
theorem dL_law_656 : decode cL_law 656 = .ok (.iconst 1, 1) := by decide +kernel
theorem dL_law_657 : decode cL_law 657 = .ok (.iadd, 1) := by decide +kernel
theorem dL_law_658 : decode cL_law 658 = .ok (.iaload, 1) := by decide +kernel
theorem dL_law_659 : decode cL_law 659 = .ok (.aload_n 0, 1) := by decide +kernel
theorem dL_law_660 : decode cL_law 660 = .ok (.iload_n 3, 1) := by decide +kernel
theorem dL_law_661 : decode cL_law 661 = .ok (.iconst 2, 1) := by decide +kernel
theorem dL_law_662 : decode cL_law 662 = .ok (.iadd, 1) := by decide +kernel
theorem dL_law_663 : decode cL_law 663 = .ok (.iaload, 1) := by decide +kernel
theorem dL_law_664 : decode cL_law 664 = .ok (.invokevirtual 75, 3) := by decide +kernel
theorem dL_law_667 : decode cL_law 667 = .ok (.if_icmp .eq 233, 3) := by decide +kernel
theorem dL_law_670 : decode cL_law 670 = .ok (.iconst 0, 1) := by decide +kernel
theorem dL_law_671 : decode cL_law 671 = .ok (.ireturn, 1) := by decide +kernel
theorem dL_law_672 : decode cL_law 672 = .ok (.aload_n 1, 1) := by decide +kernel
theorem dL_law_673 : decode cL_law 673 = .ok (.aload_n 0, 1) := by decide +kernel
theorem dL_law_674 : decode cL_law 674 = .ok (.iload_n 3, 1) := by decide +kernel
theorem dL_law_675 : decode cL_law 675 = .ok (.iconst 1, 1) := by decide +kernel
theorem dL_law_676 : decode cL_law 676 = .ok (.iadd, 1) := by decide +kernel
theorem dL_law_677 : decode cL_law 677 = .ok (.iaload, 1) := by decide +kernel
theorem dL_law_678 : decode cL_law 678 = .ok (.aload_n 0, 1) := by decide +kernel
theorem dL_law_679 : decode cL_law 679 = .ok (.iload_n 3, 1) := by decide +kernel
theorem dL_law_680 : decode cL_law 680 = .ok (.iconst 2, 1) := by decide +kernel
theorem dL_law_681 : decode cL_law 681 = .ok (.iadd, 1) := by decide +kernel
theorem dL_law_682 : decode cL_law 682 = .ok (.iaload, 1) := by decide +kernel
theorem dL_law_683 : decode cL_law 683 = .ok (.invokevirtual 76, 3) := by decide +kernel
theorem dL_law_686 : decode cL_law 686 = .ok (.aload_n 2, 1) := by decide +kernel
theorem dL_law_687 : decode cL_law 687 = .ok (.aload_n 0, 1) := by decide +kernel
theorem dL_law_688 : decode cL_law 688 = .ok (.iload_n 3, 1) := by decide +kernel
theorem dL_law_689 : decode cL_law 689 = .ok (.iconst 1, 1) := by decide +kernel
theorem dL_law_690 : decode cL_law 690 = .ok (.iadd, 1) := by decide +kernel
theorem dL_law_691 : decode cL_law 691 = .ok (.iaload, 1) := by decide +kernel
theorem dL_law_692 : decode cL_law 692 = .ok (.aload_n 0, 1) := by decide +kernel
theorem dL_law_693 : decode cL_law 693 = .ok (.iload_n 3, 1) := by decide +kernel
theorem dL_law_694 : decode cL_law 694 = .ok (.iconst 2, 1) := by decide +kernel
theorem dL_law_695 : decode cL_law 695 = .ok (.iadd, 1) := by decide +kernel
theorem dL_law_696 : decode cL_law 696 = .ok (.iaload, 1) := by decide +kernel
theorem dL_law_697 : decode cL_law 697 = .ok (.invokevirtual 79, 3) := by decide +kernel
theorem dL_law_700 : decode cL_law 700 = .ok (.if_icmp .eq 200, 3) := by decide +kernel
theorem dL_law_703 : decode cL_law 703 = .ok (.iconst 0, 1) := by decide +kernel
theorem dL_law_704 : decode cL_law 704 = .ok (.ireturn, 1) := by decide +kernel
theorem dL_law_705 : decode cL_law 705 = .ok (.aload_n 1, 1) := by decide +kernel
theorem dL_law_706 : decode cL_law 706 = .ok (.aload_n 0, 1) := by decide +kernel
theorem dL_law_707 : decode cL_law 707 = .ok (.iload_n 3, 1) := by decide +kernel
theorem dL_law_708 : decode cL_law 708 = .ok (.iconst 1, 1) := by decide +kernel
theorem dL_law_709 : decode cL_law 709 = .ok (.iadd, 1) := by decide +kernel
theorem dL_law_710 : decode cL_law 710 = .ok (.iaload, 1) := by decide +kernel
theorem dL_law_711 : decode cL_law 711 = .ok (.aload_n 0, 1) := by decide +kernel
theorem dL_law_712 : decode cL_law 712 = .ok (.iload_n 3, 1) := by decide +kernel
theorem dL_law_713 : decode cL_law 713 = .ok (.iconst 2, 1) := by decide +kernel
theorem dL_law_714 : decode cL_law 714 = .ok (.iadd, 1) := by decide +kernel
theorem dL_law_715 : decode cL_law 715 = .ok (.iaload, 1) := by decide +kernel
theorem dL_law_716 : decode cL_law 716 = .ok (.invokevirtual 80, 3) := by decide +kernel
theorem dL_law_719 : decode cL_law 719 = .ok (.aload_n 2, 1) := by decide +kernel
theorem dL_law_720 : decode cL_law 720 = .ok (.aload_n 0, 1) := by decide +kernel
theorem dL_law_721 : decode cL_law 721 = .ok (.iload_n 3, 1) := by decide +kernel
theorem dL_law_722 : decode cL_law 722 = .ok (.iconst 1, 1) := by decide +kernel
theorem dL_law_723 : decode cL_law 723 = .ok (.iadd, 1) := by decide +kernel
theorem dL_law_724 : decode cL_law 724 = .ok (.iaload, 1) := by decide +kernel
theorem dL_law_725 : decode cL_law 725 = .ok (.aload_n 0, 1) := by decide +kernel
theorem dL_law_726 : decode cL_law 726 = .ok (.iload_n 3, 1) := by decide +kernel
theorem dL_law_727 : decode cL_law 727 = .ok (.iconst 2, 1) := by decide +kernel
theorem dL_law_728 : decode cL_law 728 = .ok (.iadd, 1) := by decide +kernel
theorem dL_law_729 : decode cL_law 729 = .ok (.iaload, 1) := by decide +kernel
theorem dL_law_730 : decode cL_law 730 = .ok (.invokevirtual 83, 3) := by decide +kernel
theorem dL_law_733 : decode cL_law 733 = .ok (.if_icmp .eq 167, 3) := by decide +kernel
theorem dL_law_736 : decode cL_law 736 = .ok (.iconst 0, 1) := by decide +kernel
theorem dL_law_737 : decode cL_law 737 = .ok (.ireturn, 1) := by decide +kernel
theorem dL_law_738 : decode cL_law 738 = .ok (.aload_n 1, 1) := by decide +kernel
theorem dL_law_739 : decode cL_law 739 = .ok (.aload_n 0, 1) := by decide +kernel
theorem dL_law_740 : decode cL_law 740 = .ok (.iload_n 3, 1) := by decide +kernel
theorem dL_law_741 : decode cL_law 741 = .ok (.iconst 1, 1) := by decide +kernel
theorem dL_law_742 : decode cL_law 742 = .ok (.iadd, 1) := by decide +kernel
theorem dL_law_743 : decode cL_law 743 = .ok (.iaload, 1) := by decide +kernel
theorem dL_law_744 : decode cL_law 744 = .ok (.aload_n 0, 1) := by decide +kernel
theorem dL_law_745 : decode cL_law 745 = .ok (.iload_n 3, 1) := by decide +kernel
theorem dL_law_746 : decode cL_law 746 = .ok (.iconst 2, 1) := by decide +kernel
theorem dL_law_747 : decode cL_law 747 = .ok (.iadd, 1) := by decide +kernel
theorem dL_law_748 : decode cL_law 748 = .ok (.iaload, 1) := by decide +kernel
theorem dL_law_749 : decode cL_law 749 = .ok (.aload_n 0, 1) := by decide +kernel
theorem dL_law_750 : decode cL_law 750 = .ok (.iload_n 3, 1) := by decide +kernel
theorem dL_law_751 : decode cL_law 751 = .ok (.iconst 3, 1) := by decide +kernel
theorem dL_law_752 : decode cL_law 752 = .ok (.iadd, 1) := by decide +kernel
theorem dL_law_753 : decode cL_law 753 = .ok (.iaload, 1) := by decide +kernel
theorem dL_law_754 : decode cL_law 754 = .ok (.invokevirtual 84, 3) := by decide +kernel
theorem dL_law_757 : decode cL_law 757 = .ok (.aload_n 2, 1) := by decide +kernel
theorem dL_law_758 : decode cL_law 758 = .ok (.aload_n 0, 1) := by decide +kernel
theorem dL_law_759 : decode cL_law 759 = .ok (.iload_n 3, 1) := by decide +kernel
theorem dL_law_760 : decode cL_law 760 = .ok (.iconst 1, 1) := by decide +kernel
theorem dL_law_761 : decode cL_law 761 = .ok (.iadd, 1) := by decide +kernel
theorem dL_law_762 : decode cL_law 762 = .ok (.iaload, 1) := by decide +kernel
theorem dL_law_763 : decode cL_law 763 = .ok (.aload_n 0, 1) := by decide +kernel
theorem dL_law_764 : decode cL_law 764 = .ok (.iload_n 3, 1) := by decide +kernel
theorem dL_law_765 : decode cL_law 765 = .ok (.iconst 2, 1) := by decide +kernel
theorem dL_law_766 : decode cL_law 766 = .ok (.iadd, 1) := by decide +kernel
theorem dL_law_767 : decode cL_law 767 = .ok (.iaload, 1) := by decide +kernel
theorem dL_law_768 : decode cL_law 768 = .ok (.aload_n 0, 1) := by decide +kernel
theorem dL_law_769 : decode cL_law 769 = .ok (.iload_n 3, 1) := by decide +kernel
theorem dL_law_770 : decode cL_law 770 = .ok (.iconst 3, 1) := by decide +kernel
theorem dL_law_771 : decode cL_law 771 = .ok (.iadd, 1) := by decide +kernel
theorem dL_law_772 : decode cL_law 772 = .ok (.iaload, 1) := by decide +kernel
theorem dL_law_773 : decode cL_law 773 = .ok (.invokevirtual 87, 3) := by decide +kernel
theorem dL_law_776 : decode cL_law 776 = .ok (.if_icmp .eq 124, 3) := by decide +kernel
theorem dL_law_779 : decode cL_law 779 = .ok (.iconst 0, 1) := by decide +kernel
theorem dL_law_780 : decode cL_law 780 = .ok (.ireturn, 1) := by decide +kernel
theorem dL_law_781 : decode cL_law 781 = .ok (.aload_n 1, 1) := by decide +kernel
theorem dL_law_782 : decode cL_law 782 = .ok (.aload_n 0, 1) := by decide +kernel
theorem dL_law_783 : decode cL_law 783 = .ok (.iload_n 3, 1) := by decide +kernel
theorem dL_law_784 : decode cL_law 784 = .ok (.iconst 1, 1) := by decide +kernel
theorem dL_law_785 : decode cL_law 785 = .ok (.iadd, 1) := by decide +kernel
theorem dL_law_786 : decode cL_law 786 = .ok (.iaload, 1) := by decide +kernel
theorem dL_law_787 : decode cL_law 787 = .ok (.aload_n 0, 1) := by decide +kernel
theorem dL_law_788 : decode cL_law 788 = .ok (.iload_n 3, 1) := by decide +kernel
theorem dL_law_789 : decode cL_law 789 = .ok (.iconst 2, 1) := by decide +kernel
theorem dL_law_790 : decode cL_law 790 = .ok (.iadd, 1) := by decide +kernel
theorem dL_law_791 : decode cL_law 791 = .ok (.iaload, 1) := by decide +kernel
theorem dL_law_792 : decode cL_law 792 = .ok (.invokevirtual 88, 3) := by decide +kernel
theorem dL_law_795 : decode cL_law 795 = .ok (.aload_n 2, 1) := by decide +kernel
theorem dL_law_796 : decode cL_law 796 = .ok (.aload_n 0, 1) := by decide +kernel
theorem dL_law_797 : decode cL_law 797 = .ok (.iload_n 3, 1) := by decide +kernel
theorem dL_law_798 : decode cL_law 798 = .ok (.iconst 1, 1) := by decide +kernel
theorem dL_law_799 : decode cL_law 799 = .ok (.iadd, 1) := by decide +kernel
theorem dL_law_800 : decode cL_law 800 = .ok (.iaload, 1) := by decide +kernel
theorem dL_law_801 : decode cL_law 801 = .ok (.aload_n 0, 1) := by decide +kernel
theorem dL_law_802 : decode cL_law 802 = .ok (.iload_n 3, 1) := by decide +kernel
theorem dL_law_803 : decode cL_law 803 = .ok (.iconst 2, 1) := by decide +kernel
theorem dL_law_804 : decode cL_law 804 = .ok (.iadd, 1) := by decide +kernel
theorem dL_law_805 : decode cL_law 805 = .ok (.iaload, 1) := by decide +kernel
theorem dL_law_806 : decode cL_law 806 = .ok (.invokevirtual 91, 3) := by decide +kernel
theorem dL_law_809 : decode cL_law 809 = .ok (.if_icmp .eq 91, 3) := by decide +kernel
theorem dL_law_812 : decode cL_law 812 = .ok (.iconst 0, 1) := by decide +kernel
theorem dL_law_813 : decode cL_law 813 = .ok (.ireturn, 1) := by decide +kernel
theorem dL_law_814 : decode cL_law 814 = .ok (.aload_n 1, 1) := by decide +kernel
theorem dL_law_815 : decode cL_law 815 = .ok (.invokevirtual 92, 3) := by decide +kernel
theorem dL_law_818 : decode cL_law 818 = .ok (.aload_n 2, 1) := by decide +kernel
theorem dL_law_819 : decode cL_law 819 = .ok (.invokevirtual 96, 3) := by decide +kernel
theorem dL_law_822 : decode cL_law 822 = .ok (.if_icmp .eq 78, 3) := by decide +kernel
theorem dL_law_825 : decode cL_law 825 = .ok (.iconst 0, 1) := by decide +kernel
theorem dL_law_826 : decode cL_law 826 = .ok (.ireturn, 1) := by decide +kernel
theorem dL_law_827 : decode cL_law 827 = .ok (.aload_n 1, 1) := by decide +kernel
theorem dL_law_828 : decode cL_law 828 = .ok (.invokevirtual 97, 3) := by decide +kernel
theorem dL_law_831 : decode cL_law 831 = .ok (.aload_n 2, 1) := by decide +kernel
theorem dL_law_832 : decode cL_law 832 = .ok (.invokevirtual 100, 3) := by decide +kernel
theorem dL_law_835 : decode cL_law 835 = .ok (.if_icmp .eq 65, 3) := by decide +kernel
theorem dL_law_838 : decode cL_law 838 = .ok (.iconst 0, 1) := by decide +kernel
theorem dL_law_839 : decode cL_law 839 = .ok (.ireturn, 1) := by decide +kernel
theorem dL_law_840 : decode cL_law 840 = .ok (.aload_n 1, 1) := by decide +kernel
theorem dL_law_841 : decode cL_law 841 = .ok (.aload_n 0, 1) := by decide +kernel
theorem dL_law_842 : decode cL_law 842 = .ok (.iload_n 3, 1) := by decide +kernel
theorem dL_law_843 : decode cL_law 843 = .ok (.iconst 1, 1) := by decide +kernel
theorem dL_law_844 : decode cL_law 844 = .ok (.iadd, 1) := by decide +kernel
theorem dL_law_845 : decode cL_law 845 = .ok (.iaload, 1) := by decide +kernel
theorem dL_law_846 : decode cL_law 846 = .ok (.invokevirtual 101, 3) := by decide +kernel
theorem dL_law_849 : decode cL_law 849 = .ok (.aload_n 2, 1) := by decide +kernel
theorem dL_law_850 : decode cL_law 850 = .ok (.aload_n 0, 1) := by decide +kernel
theorem dL_law_851 : decode cL_law 851 = .ok (.iload_n 3, 1) := by decide +kernel
theorem dL_law_852 : decode cL_law 852 = .ok (.iconst 1, 1) := by decide +kernel
theorem dL_law_853 : decode cL_law 853 = .ok (.iadd, 1) := by decide +kernel
theorem dL_law_854 : decode cL_law 854 = .ok (.iaload, 1) := by decide +kernel
theorem dL_law_855 : decode cL_law 855 = .ok (.invokevirtual 104, 3) := by decide +kernel
theorem dL_law_858 : decode cL_law 858 = .ok (.if_icmp .eq 42, 3) := by decide +kernel
theorem dL_law_861 : decode cL_law 861 = .ok (.iconst 0, 1) := by decide +kernel
theorem dL_law_862 : decode cL_law 862 = .ok (.ireturn, 1) := by decide +kernel
theorem dL_law_863 : decode cL_law 863 = .ok (.aload_n 1, 1) := by decide +kernel
theorem dL_law_864 : decode cL_law 864 = .ok (.aload_n 0, 1) := by decide +kernel
theorem dL_law_865 : decode cL_law 865 = .ok (.iload_n 3, 1) := by decide +kernel
theorem dL_law_866 : decode cL_law 866 = .ok (.iconst 1, 1) := by decide +kernel
theorem dL_law_867 : decode cL_law 867 = .ok (.iadd, 1) := by decide +kernel
theorem dL_law_868 : decode cL_law 868 = .ok (.iaload, 1) := by decide +kernel
theorem dL_law_869 : decode cL_law 869 = .ok (.invokevirtual 105, 3) := by decide +kernel
theorem dL_law_872 : decode cL_law 872 = .ok (.aload_n 2, 1) := by decide +kernel
theorem dL_law_873 : decode cL_law 873 = .ok (.aload_n 0, 1) := by decide +kernel
theorem dL_law_874 : decode cL_law 874 = .ok (.iload_n 3, 1) := by decide +kernel
theorem dL_law_875 : decode cL_law 875 = .ok (.iconst 1, 1) := by decide +kernel
theorem dL_law_876 : decode cL_law 876 = .ok (.iadd, 1) := by decide +kernel
theorem dL_law_877 : decode cL_law 877 = .ok (.iaload, 1) := by decide +kernel
theorem dL_law_878 : decode cL_law 878 = .ok (.invokevirtual 108, 3) := by decide +kernel
theorem dL_law_881 : decode cL_law 881 = .ok (.if_icmp .eq 19, 3) := by decide +kernel
theorem dL_law_884 : decode cL_law 884 = .ok (.iconst 0, 1) := by decide +kernel
theorem dL_law_885 : decode cL_law 885 = .ok (.ireturn, 1) := by decide +kernel
theorem dL_law_886 : decode cL_law 886 = .ok (.aload_n 1, 1) := by decide +kernel
theorem dL_law_887 : decode cL_law 887 = .ok (.invokevirtual 109, 3) := by decide +kernel
theorem dL_law_890 : decode cL_law 890 = .ok (.aload_n 2, 1) := by decide +kernel
theorem dL_law_891 : decode cL_law 891 = .ok (.invokevirtual 113, 3) := by decide +kernel
theorem dL_law_894 : decode cL_law 894 = .ok (.lcmp, 1) := by decide +kernel
theorem dL_law_895 : decode cL_law 895 = .ok (.ifCond .eq 5, 3) := by decide +kernel
theorem dL_law_898 : decode cL_law 898 = .ok (.iconst 0, 1) := by decide +kernel
theorem dL_law_899 : decode cL_law 899 = .ok (.ireturn, 1) := by decide +kernel
theorem dL_law_900 : decode cL_law 900 = .ok (.iinc 3 7, 3) := by decide +kernel
theorem dL_law_903 : decode cL_law 903 = .ok (.goto (-885), 3) := by decide +kernel
theorem dL_law_906 : decode cL_law 906 = .ok (.iconst 1, 1) := by decide +kernel
theorem dL_law_907 : decode cL_law 907 = .ok (.ireturn, 1) := by decide +kernel
end
section
/-! contracts that name answer and memory -/
def hg_Det (al : Bool) (y : MethodName) (d : Md_) (as : List V_) (M : Me_) (v : Option V_) (M' : Me_) : Prop := ∀ Q : Option V_ → Me_ → Prop, Q v M' → hg_Ok al y d as M Q
section HDet
variable {d : Md_} {al : Bool} {sh0 : SH_} {Q : Option V_ → Me_ → Prop} {bc bs : Nat} {pc n : Nat} {ls : List (Option V_)} {rest stk : List V_} {M M' : Me_} {y : MethodName} {dy : Md_} {al' : Bool} {as : List V_} {k i len c idx na : Nat} {v : Option V_} {host : String} {Q' : Option V_ → Me_ → Prop}
theorem hg_callVd (hOk : hg_Det al' y dy (hv_r (some (k, i)) :: as) M v M') (hd : decode (md_cc d) pc = .ok (.invokevirtual idx, 3)) (hn : pc + 3 = n) (hl : Cond.methodLink (md_own d) idx y ∈ gtbl) (hL : hy_L y dy na) (hV : hy_V y c) (hk : kd_ k = .inl c) (hs : M.2.2.2 k i = some len) (hrm : hg_rm d dy) (hb : md_mc dy ≤ bc ∧ md_ms dy ≤ bs) (hlen : as.length = na) (hstk : stk = as.reverse ++ hv_r (some (k, i)) :: rest) (hc8 : (rest.map hv_cat).sum ≤ 8) (hal : hg_al al al' sh0 M rest ls)
    (kk : hg_G d al sh0 Q (bc - md_mc dy) (bs - md_ms dy) n ls (v.toList ++ rest) M') : hg_G d al sh0 Q bc bs pc ls stk M :=
  hg_callV hd hn hl hL hV hk hs hrm hc8 hb hal hlen hstk (hOk (fun v' M'' => v' = v ∧ M'' = M') ⟨rfl, rfl⟩) (fun v' M'' h => by rw [h.1, h.2]; exact kk)
theorem hg_callSd (hOk : hg_Det al' y dy as M v M') (hd : decode (md_cc d) pc = .ok (.invokestatic idx, 3)) (hn : pc + 3 = n) (hl : Cond.methodLink (md_own d) idx y ∈ gtbl) (hL : hy_L y dy na) (hV : Cond.static y ∈ gtbl) (hrm : hg_rm d dy) (hb : md_mc dy ≤ bc ∧ md_ms dy ≤ bs) (hlen : as.length = na) (hstk : stk = as.reverse ++ rest) (hc8 : (rest.map hv_cat).sum ≤ 8) (hal : hg_al al al' sh0 M rest ls)
    (kk : hg_G d al sh0 Q (bc - md_mc dy) (bs - md_ms dy) n ls (v.toList ++ rest) M') : hg_G d al sh0 Q bc bs pc ls stk M :=
  hg_callS hd hn hl hL hV hrm hc8 hb hal hlen hstk (hOk (fun v' M'' => v' = v ∧ M'' = M') ⟨rfl, rfl⟩) (fun v' M'' h => by rw [h.1, h.2]; exact kk)
theorem hg_callSNd (hOk : hg_Det al' y dy as M v M') (hd : decode (md_cc d) pc = .ok (.invokestatic idx, 3)) (hn : pc + 3 = n) (hl : ∀ D U, hm_K D U → va_Nw (.methodLinkNest (md_own d) idx y host) U) (hL : hy_L y dy na) (hV : Cond.static y ∈ gtbl) (hrm : hg_rm d dy) (hb : md_mc dy ≤ bc ∧ md_ms dy ≤ bs) (hlen : as.length = na) (hstk : stk = as.reverse ++ rest) (hc8 : (rest.map hv_cat).sum ≤ 8) (hal : hg_al al al' sh0 M rest ls)
    (kk : hg_G d al sh0 Q (bc - md_mc dy) (bs - md_ms dy) n ls (v.toList ++ rest) M') : hg_G d al sh0 Q bc bs pc ls stk M :=
  hg_callSN hd hn hl hL hV hrm hc8 hb hal hlen hstk (hOk (fun v' M'' => v' = v ∧ M'' = M') ⟨rfl, rfl⟩) (fun v' M'' h => by rw [h.1, h.2]; exact kk)
theorem hg_callId (hOk : hg_Det al' y dy (hv_r (some (k, i)) :: as) M v M') (hd : decode (md_cc d) pc = .ok (.invokespecial idx, 3)) (hn : pc + 3 = n) (hl : Cond.methodLink (md_own d) idx y ∈ gtbl) (hL : hy_L y dy na) (hy1 : y.name = "<init>") (hret : md_ret dy = none) (hV : Cond.instanceMethod y ∈ gtbl) (hrm : hg_rm d dy) (hb : md_mc dy ≤ bc ∧ md_ms dy ≤ bs) (hlen : as.length = na) (hstk : stk = as.reverse ++ hv_r (some (k, i)) :: rest) (hc8 : (rest.map hv_cat).sum ≤ 8) (hal : hg_al al al' sh0 M rest ls)
    (kk : hg_G d al sh0 Q (bc - md_mc dy) (bs - md_ms dy) n ls (v.toList ++ rest) M') : hg_G d al sh0 Q bc bs pc ls stk M :=
  hg_callI hd hn hl hL hy1 hret hV hrm hc8 hb hal hlen hstk (hOk (fun v' M'' => v' = v ∧ M'' = M') ⟨rfl, rfl⟩) (fun v' M'' h => by rw [h.1, h.2]; exact kk)
theorem hg_callINd (hOk : hg_Det al' y dy (hv_r (some (k, i)) :: as) M v M') (hd : decode (md_cc d) pc = .ok (.invokespecial idx, 3)) (hn : pc + 3 = n) (hl : ∀ D U, hm_K D U → va_Nw (.methodLinkNest (md_own d) idx y host) U) (hL : hy_L y dy na) (hy1 : y.name = "<init>") (hret : md_ret dy = none) (hV : Cond.instanceMethod y ∈ gtbl) (hrm : hg_rm d dy) (hb : md_mc dy ≤ bc ∧ md_ms dy ≤ bs) (hlen : as.length = na) (hstk : stk = as.reverse ++ hv_r (some (k, i)) :: rest) (hc8 : (rest.map hv_cat).sum ≤ 8) (hal : hg_al al al' sh0 M rest ls)
    (kk : hg_G d al sh0 Q (bc - md_mc dy) (bs - md_ms dy) n ls (v.toList ++ rest) M') : hg_G d al sh0 Q bc bs pc ls stk M :=
  hg_callIN hd hn hl hL hy1 hret hV hrm hc8 hb hal hlen hstk (hOk (fun v' M'' => v' = v ∧ M'' = M') ⟨rfl, rfl⟩) (fun v' M'' h => by rw [h.1, h.2]; exact kk)
theorem hg_callVp (hOk : hg_Ok al' y dy (hv_r (some (k, i)) :: as) M Q') (hd : decode (md_cc d) pc = .ok (.invokevirtual idx, 3)) (hn : pc + 3 = n) (hl : Cond.methodLink (md_own d) idx y ∈ gtbl) (hL : hy_L y dy na) (hV : hy_V y c) (hk : kd_ k = .inl c) (hs : M.2.2.2 k i = some len) (hrm : hg_rm d dy) (hb : md_mc dy ≤ bc ∧ md_ms dy ≤ bs) (hlen : as.length = na) (hstk : stk = as.reverse ++ hv_r (some (k, i)) :: rest) (hc8 : (rest.map hv_cat).sum ≤ 8) (hal : hg_al al al' sh0 M rest ls)
    (kk : ∀ v M', Q' v M' → hg_G d al sh0 Q (bc - md_mc dy) (bs - md_ms dy) n ls (v.toList ++ rest) M') : hg_G d al sh0 Q bc bs pc ls stk M :=
  hg_callV hd hn hl hL hV hk hs hrm hc8 hb hal hlen hstk hOk kk
theorem hg_topI {x z : Int32} {st : List V_} (h : x = z) (kk : hg_G d al sh0 Q bc bs pc ls (hv_i z :: st) M) : hg_G d al sh0 Q bc bs pc ls (hv_i x :: st) M := h ▸ kk
end HDet
/-- a number between two others: 1, else 0 -/
def z_in (x a b : Int32) : Int32 := if a ≤ x ∧ x ≤ b then 1 else 0
theorem i32_nle {a b : Int32} : ¬ a ≤ b ↔ b < a := by rw [Int32.le_iff_toInt_le, Int32.lt_iff_toInt_lt]; omega
theorem i32_nlt {a b : Int32} : ¬ a < b ↔ b ≤ a := by rw [Int32.le_iff_toInt_le, Int32.lt_iff_toInt_lt]; omega
theorem z_in_lt {x a b : Int32} (h : x < a) : z_in x a b = 0 := if_neg (fun q => i32_nle.mpr h q.1)
theorem z_in_gt {x a b : Int32} (h : b < x) : z_in x a b = 0 := if_neg (fun q => i32_nle.mpr h q.2)
theorem z_in_ok {x a b : Int32} (h1 : ¬ x < a) (h2 : ¬ b < x) : z_in x a b = 1 := if_pos ⟨i32_nlt.mp h1, i32_nlt.mp h2⟩
theorem z_in_01 (x a b : Int32) : z_in x a b = 0 ∨ z_in x a b = 1 := by
  unfold z_in
  split
  · exact Or.inr rfl
  · exact Or.inl rfl
theorem z_in_ne {x a b : Int32} (h : ¬ z_in x a b = 0) : a ≤ x ∧ x ≤ b := by
  unfold z_in at h
  split at h
  · assumption
  · exact absurd rfl h
theorem z_in_1 {x a b : Int32} (h : ¬ z_in x a b = 0) : z_in x a b = 1 := (z_in_01 x a b).resolve_left h
end
section
/-! fewer locals -/
def hl_le : List (Option V_) → List (Option V_) → Prop
  | [], _ => True
  | none :: r, _ :: r' => hl_le r r'
  | none :: r, [] => hl_le r []
  | some v :: r, x :: r' => x = some v ∧ hl_le r r'
  | some _ :: _, [] => False
theorem hl_le_ok : ∀ {ls' ls : List (Option V_)}, hl_le ls' ls → ∀ {j : Nat} {v : V_}, ls'[j]? = some (some v) → ls[j]? = some (some v)
  | [], _, _, j, v, h => by simp at h
  | none :: r, x :: r', hl, 0, v, h => by simp at h
  | none :: r, x :: r', hl, j + 1, v, h => by
    rw [List.getElem?_cons_succ] at h ⊢
    exact hl_le_ok (ls' := r) hl h
  | none :: r, [], hl, 0, v, h => by simp at h
  | none :: r, [], hl, j + 1, v, h => by
    rw [List.getElem?_cons_succ] at h
    have := hl_le_ok (ls' := r) (ls := []) hl h
    simp at this
  | some w :: r, x :: r', hl, 0, v, h => by
    simp only [List.getElem?_cons_zero] at h ⊢
    rw [hl.1]; exact h
  | some w :: r, x :: r', hl, j + 1, v, h => by
    rw [List.getElem?_cons_succ] at h ⊢
    exact hl_le_ok (ls' := r) hl.2 h
  | some w :: r, [], hl, _, v, h => False.elim hl
theorem hg_ls {d : Md_} {al : Bool} {sh0 : SH_} {Q : Option V_ → Me_ → Prop} {bc bs pc : Nat} {ls ls' : List (Option V_)} {st : List V_} {M : Me_} (kk : hg_G d al sh0 Q bc bs pc ls' st M) (h : hl_le ls' ls) : hg_G d al sh0 Q bc bs pc ls st M := by
  intro p l e R s m args below meth c D ad0 ad base H locs cells slots arr X Y
  refine kk p l e R s m args below meth c D ad0 ad base H locs cells slots arr X ⟨Y.1, Y.2.1, Y.2.2.1, Y.2.2.2.1, Y.2.2.2.2.1, Y.2.2.2.2.2.1, ?_⟩
  have hl := Y.2.2.2.2.2.2
  refine ⟨hl.1, hl.2.1, fun q hq => hl.2.2 q ?_⟩
  obtain ⟨j, v, h1, h2⟩ := hl_mem.mp hq
  exact hl_mem.mpr ⟨j, v, hl_le_ok h h1, h2⟩
theorem hg_iincI {d : Md_} {al : Bool} {sh0 : SH_} {Q : Option V_ → Me_ → Prop} {bc bs pc n : Nat} {ls : List (Option V_)} {st : List V_} {M : Me_} (c : Int32) {k : Nat} {z : Int} {x : Int32} (hd : decode (md_cc d) pc = .ok (.iinc k z, 3)) (hn : pc + 3 = n) (hl : ls[k]? = some (some (hv_i x))) (hv : Int32.ofInt z = c) (hi : k < md_nL d) (hz : hl_nl ls k = true) {ls' : List (Option V_)} (he : ls.set k (some (hv_i (x + c))) = ls') (kk : hg_G d al sh0 Q bc bs n ls' st M) : hg_G d al sh0 Q bc bs pc ls st M :=
  hg_iinc hd hn hl (by rw [hv]) hi hz he kk
theorem u_3_k {α : Type} {X : Nat → Nat → Nat → α} {k i f k' i' f' : Nat} {x : α} (h : k' ≠ k) : u_3 X k i f x k' i' f' = X k' i' f' := if_neg (fun q => h q.1)
end
section
/-! the reference: its arrays -/
def mo_len (j : Nat) : Nat := match j with
  | 1 => 12 | 2 => 12 | 3 => 12 | 4 => 12 | 5 => 12 | 6 => 12 | 7 => 12 | 8 => 12 | 9 => 12
  | 10 => 72 | 11 => 288 | 12 => 72 | 13 => 8 | 14 => 3 | 15 => 3 | 16 => 3 | 17 => 24 | 18 => 24 | 19 => 24
  | 20 => 12 | 21 => 12 | 22 => 12 | 23 => 3 | 24 => 3 | 25 => 3 | 26 => 3 | 27 => 3
  | 29 => 100 | 30 => 100 | 31 => 100 | 32 => 100 | 33 => 100 | 34 => 100 | 36 => 7 | 37 => 7 | 38 => 128
  | _ => 0
def mo_ (mr : MR_) (sh : SH_) : Prop := sh 7 0 = some 39 ∧ ∀ j, mo_len j ≠ 0 → mr 7 0 j = some (30 + j, 0) ∧ sh (30 + j) 0 = some (mo_len j)
theorem mo_s {mr : MR_} {sh : SH_} (h : mo_ mr sh) : sh 7 0 = some 39 := h.1
theorem mo_r {mr : MR_} {sh : SH_} (h : mo_ mr sh) (j : Nat) (hj : mo_len j ≠ 0) : mr 7 0 j = some (30 + j, 0) := (h.2 j hj).1
theorem mo_a {mr : MR_} {sh : SH_} (h : mo_ mr sh) (j : Nat) (hj : mo_len j ≠ 0) : sh (30 + j) 0 = some (mo_len j) := (h.2 j hj).2
set_option maxHeartbeats 4000000 in
set_option maxRecDepth 100000 in
theorem c_X6_in (x a b : Int32) (M : Me_) : hg_Det false yX6_in md_X6_in [hv_i x, hv_i a, hv_i b] M (some (hv_i (z_in x a b))) M := by
  intro Q hQ
  refine hg_intro rfl rfl rfl (Nat.le_of_ble_eq_true rfl) rfl ?_
  refine hg_iload_n (n := 1) dX6_in_0 rfl rfl ?_
  refine hg_iload_n (n := 2) dX6_in_1 rfl rfl ?_
  refine hg_icmp_lt (n := 5) (tgt := 14) dX6_in_2 rfl (by decide) (fun h2 => ?_) (fun h2 => ?_)
  · refine hg_iconst (n := 15) (v := 0) dX6_in_14 rfl (by decide) ?_
    refine hg_zreturn dX6_in_15 rfl (by decide) ?_
    rw [z_in_lt h2] at hQ
    exact hQ
  · refine hg_iload_n (n := 6) dX6_in_5 rfl rfl ?_
    refine hg_iload_n (n := 7) dX6_in_6 rfl rfl ?_
    refine hg_icmp_gt (n := 10) (tgt := 14) dX6_in_7 rfl (by decide) (fun h7 => ?_) (fun h7 => ?_)
    · refine hg_iconst (n := 15) (v := 0) dX6_in_14 rfl (by decide) ?_
      refine hg_zreturn dX6_in_15 rfl (by decide) ?_
      rw [z_in_gt h7] at hQ
      exact hQ
    · refine hg_iconst (n := 11) (v := 1) dX6_in_10 rfl (by decide) ?_
      refine hg_goto (tgt := 15) dX6_in_11 (by decide) ?_
      refine hg_zreturn dX6_in_15 rfl (by decide) ?_
      rw [z_in_ok h2 h7] at hQ
      exact hQ

def tu_n (X : MI_) (s f : Nat) (c : Int32) : Int32 := if X 41 0 (4 * s + f) < c then X 41 0 (4 * s + f) else c
def tu_m (X : MI_) (s f t : Nat) (c : Int32) : MI_ := u_3 (u_3 X 41 0 (4 * s + f) (X 41 0 (4 * s + f) - tu_n X s f c)) 41 0 (4 * s + t) (u_3 X 41 0 (4 * s + f) (X 41 0 (4 * s + f) - tu_n X s f c) 41 0 (4 * s + t) + tu_n X s f c)
set_option maxHeartbeats 4000000 in
set_option maxRecDepth 100000 in
theorem c_X6_turn {mi : MI_} {ml : ML_} {mr : MR_} {sh : SH_} (hM : mo_ mr sh) (s f t : Nat) (hs : s < 72) (hf : f < 4) (ht : t < 4) (c : Int32) : hg_Det false yX6_turn md_X6_turn [hv_r (some (7, 0)), hv_i (nI s), hv_i (nI f), hv_i (nI t), hv_i c] (mi, ml, mr, sh) (some (hv_i (tu_n mi s f c))) (tu_m mi s f t c, ml, mr, sh) := by
  intro Q hQ
  refine hg_intro rfl rfl rfl (Nat.le_of_ble_eq_true rfl) rfl ?_
  have seg : ∀ x, x = tu_n mi s f c → hg_G md_X6_turn false sh Q 0 0 30 [some (hv_r (some (7, 0))), some (hv_i (nI s)), some (hv_i (nI f)), some (hv_i (nI t)), some (hv_i c), none] [hv_i x] (mi, ml, mr, sh) := by
    rintro _ rfl
    refine hg_istore (n := 32) dX6_turn_30 rfl (by decide) rfl rfl ?_
    refine hg_aload_n (n := 33) dX6_turn_32 rfl rfl ?_
    refine hg_getR (n := 36) (r := some (41, 0)) dX6_turn_33 rfl fl_X6_46 rfl rfl (mo_s hM) (mo_r hM 11 (by decide)) ?_
    refine hg_iconst (n := 37) (v := 4) dX6_turn_36 rfl (by decide) ?_
    refine hg_iload_n (n := 38) dX6_turn_37 rfl rfl ?_
    refine hg_imulN (n := 39) (4) (s) dX6_turn_38 rfl ?_
    refine hg_iload_n (n := 40) dX6_turn_39 rfl rfl ?_
    refine hg_iaddN (n := 41) (4 * s) (f) dX6_turn_40 rfl ?_
    refine hg_dup2 (n := 42) dX6_turn_41 rfl rfl rfl ?_
    refine hg_iaload (n := 43) (len := 288) ((4 * s) + f) dX6_turn_42 rfl (by decide) rfl (mo_a hM 11 (by decide)) rfl (by omega) (by decide) ?_
    refine hg_iload (n := 45) dX6_turn_43 rfl rfl ?_
    refine hg_isub (n := 46) dX6_turn_45 rfl ?_
    refine hg_iastore (n := 47) (len := 288) ((4 * s) + f) dX6_turn_46 rfl (by decide) rfl (mo_a hM 11 (by decide)) rfl (by omega) (by decide) ?_
    refine hg_aload_n (n := 48) dX6_turn_47 rfl rfl ?_
    refine hg_getR (n := 51) (r := some (41, 0)) dX6_turn_48 rfl fl_X6_46 rfl rfl (mo_s hM) (mo_r hM 11 (by decide)) ?_
    refine hg_iconst (n := 52) (v := 4) dX6_turn_51 rfl (by decide) ?_
    refine hg_iload_n (n := 53) dX6_turn_52 rfl rfl ?_
    refine hg_imulN (n := 54) (4) (s) dX6_turn_53 rfl ?_
    refine hg_iload_n (n := 55) dX6_turn_54 rfl rfl ?_
    refine hg_iaddN (n := 56) (4 * s) (t) dX6_turn_55 rfl ?_
    refine hg_dup2 (n := 57) dX6_turn_56 rfl rfl rfl ?_
    refine hg_iaload (n := 58) (len := 288) ((4 * s) + t) dX6_turn_57 rfl (by decide) rfl (mo_a hM 11 (by decide)) rfl (by omega) (by decide) ?_
    refine hg_iload (n := 60) dX6_turn_58 rfl rfl ?_
    refine hg_iadd (n := 61) dX6_turn_60 rfl ?_
    refine hg_iastore (n := 62) (len := 288) ((4 * s) + t) dX6_turn_61 rfl (by decide) rfl (mo_a hM 11 (by decide)) rfl (by omega) (by decide) ?_
    refine hg_iload (n := 64) dX6_turn_62 rfl rfl ?_
    refine hg_ireturn dX6_turn_64 rfl ?_
    exact hQ
  refine hg_aload_n (n := 1) dX6_turn_0 rfl rfl ?_
  refine hg_getR (n := 4) (r := some (41, 0)) dX6_turn_1 rfl fl_X6_46 rfl rfl (mo_s hM) (mo_r hM 11 (by decide)) ?_
  refine hg_iconst (n := 5) (v := 4) dX6_turn_4 rfl (by decide) ?_
  refine hg_iload_n (n := 6) dX6_turn_5 rfl rfl ?_
  refine hg_imulN (n := 7) (4) (s) dX6_turn_6 rfl ?_
  refine hg_iload_n (n := 8) dX6_turn_7 rfl rfl ?_
  refine hg_iaddN (n := 9) (4 * s) (f) dX6_turn_8 rfl ?_
  refine hg_iaload (n := 10) (len := 288) ((4 * s) + f) dX6_turn_9 rfl (by decide) rfl (mo_a hM 11 (by decide)) rfl (by omega) (by decide) ?_
  refine hg_iload (n := 12) dX6_turn_10 rfl rfl ?_
  refine hg_icmp_ge (n := 15) (tgt := 28) dX6_turn_12 rfl (by decide) (fun h12 => ?_) (fun h12 => ?_)
  · refine hg_iload (n := 30) dX6_turn_28 rfl rfl ?_
    exact seg _ (if_neg (fun q => i32_nle.mpr q h12)).symm
  · refine hg_aload_n (n := 16) dX6_turn_15 rfl rfl ?_
    refine hg_getR (n := 19) (r := some (41, 0)) dX6_turn_16 rfl fl_X6_46 rfl rfl (mo_s hM) (mo_r hM 11 (by decide)) ?_
    refine hg_iconst (n := 20) (v := 4) dX6_turn_19 rfl (by decide) ?_
    refine hg_iload_n (n := 21) dX6_turn_20 rfl rfl ?_
    refine hg_imulN (n := 22) (4) (s) dX6_turn_21 rfl ?_
    refine hg_iload_n (n := 23) dX6_turn_22 rfl rfl ?_
    refine hg_iaddN (n := 24) (4 * s) (f) dX6_turn_23 rfl ?_
    refine hg_iaload (n := 25) (len := 288) ((4 * s) + f) dX6_turn_24 rfl (by decide) rfl (mo_a hM 11 (by decide)) rfl (by omega) (by decide) ?_
    refine hg_goto (tgt := 30) dX6_turn_25 (by decide) ?_
    exact seg _ (if_pos (i32_nle.mp h12)).symm
end
section
set_option maxHeartbeats 4000000 in
set_option maxRecDepth 100000 in
theorem c_X6_isPart {mi : MI_} {ml : ML_} {mr : MR_} {sh : SH_} (hM : mo_ mr sh) (x : Int32) : hg_Det false yX6_isPart md_X6_isPart [hv_r (some (7, 0)), hv_i x] (mi, ml, mr, sh) (some (hv_i (z_in x 0 (mi 7 0 0 - 1)))) (mi, ml, mr, sh) := by
  intro Q hQ
  refine hg_intro rfl rfl rfl (Nat.le_of_ble_eq_true rfl) rfl ?_
  refine hg_iload_n (n := 1) dX6_isPart_0 rfl rfl ?_
  refine hg_iconst (n := 2) (v := 0) dX6_isPart_1 rfl (by decide) ?_
  refine hg_aload_n (n := 3) dX6_isPart_2 rfl rfl ?_
  refine hg_getI (n := 6) dX6_isPart_3 rfl fl_X6_7 rfl rfl (mo_s hM) ?_
  refine hg_iconst (n := 7) (v := 1) dX6_isPart_6 rfl (by decide) ?_
  refine hg_isub (n := 8) dX6_isPart_7 rfl ?_
  refine hg_callSd (n := 11) (c_X6_in _ _ _ _) dX6_isPart_8 rfl mk_X6_1 yl_X6_in ys_X6_in (by decide) (by decide) rfl rfl (Nat.le_of_ble_eq_true rfl) (fun h => by cases h) ?_
  refine hg_zreturn dX6_isPart_11 rfl (z_in_01 _ _ _) ?_
  exact hQ

set_option maxHeartbeats 4000000 in
set_option maxRecDepth 100000 in
theorem c_X6_isFurnace (x : Int32) (M : Me_) : hg_Det false yX6_isFurnace md_X6_isFurnace [hv_i x] M (some (hv_i (z_in x 0 2))) M := by
  intro Q hQ
  refine hg_intro rfl rfl rfl (Nat.le_of_ble_eq_true rfl) rfl ?_
  refine hg_iload_n (n := 1) dX6_isFurnace_0 rfl rfl ?_
  refine hg_iconst (n := 2) (v := 0) dX6_isFurnace_1 rfl (by decide) ?_
  refine hg_iconst (n := 3) (v := 2) dX6_isFurnace_2 rfl (by decide) ?_
  refine hg_callSd (n := 6) (c_X6_in _ _ _ _) dX6_isFurnace_3 rfl mk_X6_1 yl_X6_in ys_X6_in (by decide) (by decide) rfl rfl (Nat.le_of_ble_eq_true rfl) (fun h => by cases h) ?_
  refine hg_zreturn dX6_isFurnace_6 rfl (z_in_01 _ _ _) ?_
  exact hQ

set_option maxHeartbeats 4000000 in
set_option maxRecDepth 100000 in
theorem c_X6_isPlace (x : Int32) (M : Me_) : hg_Det false yX6_isPlace md_X6_isPlace [hv_i x] M (some (hv_i (z_in x 0 3))) M := by
  intro Q hQ
  refine hg_intro rfl rfl rfl (Nat.le_of_ble_eq_true rfl) rfl ?_
  refine hg_iload_n (n := 1) dX6_isPlace_0 rfl rfl ?_
  refine hg_iconst (n := 2) (v := 0) dX6_isPlace_1 rfl (by decide) ?_
  refine hg_iconst (n := 3) (v := 3) dX6_isPlace_2 rfl (by decide) ?_
  refine hg_callSd (n := 6) (c_X6_in _ _ _ _) dX6_isPlace_3 rfl mk_X6_1 yl_X6_in ys_X6_in (by decide) (by decide) rfl rfl (Nat.le_of_ble_eq_true rfl) (fun h => by cases h) ?_
  refine hg_zreturn dX6_isPlace_6 rfl (z_in_01 _ _ _) ?_
  exact hQ

def ch_a (X : MI_) (p s : Nat) : MI_ :=
  if X 40 0 s ≤ 7300 then
    (if X 40 0 s < 5500 then
      (if X 40 0 s < 3000 then
        (if (X 41 0 (4 * s) + X 41 0 (4 * s + 3)) * (3000 - X 40 0 s) / 2600 - X 41 0 (4 * s + 3) ≤ 0 then X
        else tu_m X s 0 3 ((X 41 0 (4 * s) + X 41 0 (4 * s + 3)) * (3000 - X 40 0 s) / 2600 - X 41 0 (4 * s + 3)))
      else tu_m X s 0 2 (X 36 0 p))
    else tu_m X s 0 1 (X 35 0 p))
  else tu_m (tu_m (tu_m X s 1 0 ((X 40 0 s - 7300) / 10)) s 2 0 ((X 40 0 s - 7300) / 10 - tu_n X s 1 ((X 40 0 s - 7300) / 10))) s 3 0 ((X 40 0 s - 7300) / 10 - tu_n X s 1 ((X 40 0 s - 7300) / 10) - tu_n (tu_m X s 1 0 ((X 40 0 s - 7300) / 10)) s 2 ((X 40 0 s - 7300) / 10 - tu_n X s 1 ((X 40 0 s - 7300) / 10)))
def ch_b (X : MI_) (s : Nat) (w : Int32) : MI_ :=
  if z_in w 1500 6500 = 0 then X else if X 41 0 (4 * s + 3) ≤ 0 then X else u_3 X 42 0 s (X 42 0 s + (w - 1500) / 100)
def ch_c (X : MI_) (s : Nat) : MI_ := if X 41 0 (4 * s) ≤ 500 then u_3 X 42 0 s (X 42 0 s) else u_3 X 42 0 s 0
def ch_m (X : MI_) (p s : Nat) : MI_ := ch_c (ch_b (ch_a X p s) s (X 40 0 s)) s
set_option maxHeartbeats 4000000 in
set_option maxRecDepth 100000 in
theorem c_X6_change {mi : MI_} {ml : ML_} {mr : MR_} {sh : SH_} (hM : mo_ mr sh) (p s : Nat) (hp : p < 12) (hs : s < 72) : hg_Det false yX6_change md_X6_change [hv_r (some (7, 0)), hv_i (nI p), hv_i (nI s)] (mi, ml, mr, sh) none (ch_m mi p s, ml, mr, sh) := by
  intro Q hQ
  refine hg_intro rfl rfl rfl (Nat.le_of_ble_eq_true rfl) rfl ?_
  have s3 : ∀ X, X = ch_b (ch_a mi p s) s (mi 40 0 s) → hg_G md_X6_change false sh Q 0 0 228 [some (hv_r (some (7, 0))), some (hv_i (nI p)), some (hv_i (nI s)), some (hv_i (mi 40 0 s)), none, none, none] [] (X, ml, mr, sh) := by
    intro X hX
    refine hg_aload_n (n := 229) dX6_change_228 rfl rfl ?_
    refine hg_getR (n := 232) (r := some (42, 0)) dX6_change_229 rfl fl_X6_43 rfl rfl (mo_s hM) (mo_r hM 12 (by decide)) ?_
    refine hg_iload_n (n := 233) dX6_change_232 rfl rfl ?_
    refine hg_aload_n (n := 234) dX6_change_233 rfl rfl ?_
    refine hg_getR (n := 237) (r := some (41, 0)) dX6_change_234 rfl fl_X6_46 rfl rfl (mo_s hM) (mo_r hM 11 (by decide)) ?_
    refine hg_iconst (n := 238) (v := 4) dX6_change_237 rfl (by decide) ?_
    refine hg_iload_n (n := 239) dX6_change_238 rfl rfl ?_
    refine hg_imulN (n := 240) (4) (s) dX6_change_239 rfl ?_
    refine hg_iaload (n := 241) (len := 288) (4 * s) dX6_change_240 rfl (by decide) rfl (mo_a hM 11 (by decide)) rfl (by omega) (by decide) ?_
    refine hg_sipush (n := 244) (v := 500) dX6_change_241 rfl (by decide) ?_
    refine hg_icmp_le (n := 247) (tgt := 251) dX6_change_244 rfl (by decide) (fun h244 => ?_) (fun h244 => ?_)
    · refine hg_aload_n (n := 252) dX6_change_251 rfl rfl ?_
      refine hg_getR (n := 255) (r := some (42, 0)) dX6_change_252 rfl fl_X6_43 rfl rfl (mo_s hM) (mo_r hM 12 (by decide)) ?_
      refine hg_iload_n (n := 256) dX6_change_255 rfl rfl ?_
      refine hg_iaload (n := 257) (len := 72) (s) dX6_change_256 rfl (by decide) rfl (mo_a hM 12 (by decide)) rfl (by omega) (by decide) ?_
      refine hg_iastore (n := 258) (len := 72) (s) dX6_change_257 rfl (by decide) rfl (mo_a hM 12 (by decide)) rfl (by omega) (by decide) ?_
      refine hg_return dX6_change_258 rfl ?_
      have e : ch_m mi p s = ch_c X s := by rw [hX]; rfl
      rw [e] at hQ
      unfold ch_c at hQ
      rw [if_pos h244] at hQ
      exact hQ
    · refine hg_iconst (n := 248) (v := 0) dX6_change_247 rfl (by decide) ?_
      refine hg_goto (tgt := 257) dX6_change_248 (by decide) ?_
      refine hg_iastore (n := 258) (len := 72) (s) dX6_change_257 rfl (by decide) rfl (mo_a hM 12 (by decide)) rfl (by omega) (by decide) ?_
      refine hg_return dX6_change_258 rfl ?_
      have e : ch_m mi p s = ch_c X s := by rw [hX]; rfl
      rw [e] at hQ
      unfold ch_c at hQ
      rw [if_neg h244] at hQ
      exact hQ
  have s2 : ∀ X, X = ch_a mi p s → hg_G md_X6_change false sh Q 0 0 185 [some (hv_r (some (7, 0))), some (hv_i (nI p)), some (hv_i (nI s)), some (hv_i (mi 40 0 s)), none, none, none] [] (X, ml, mr, sh) := by
    intro X hX
    subst hX
    refine hg_iload_n (n := 186) dX6_change_185 rfl rfl ?_
    refine hg_sipush (n := 189) (v := 1500) dX6_change_186 rfl (by decide) ?_
    refine hg_sipush (n := 192) (v := 6500) dX6_change_189 rfl (by decide) ?_
    refine hg_callSd (n := 195) (c_X6_in _ _ _ _) dX6_change_192 rfl mk_X6_1 yl_X6_in ys_X6_in (by decide) (by decide) rfl rfl (Nat.le_of_ble_eq_true rfl) (fun h => by cases h) ?_
    refine hg_if_eq (n := 198) (tgt := 228) dX6_change_195 rfl (by decide) (fun h195 => ?_) (fun h195 => ?_)
    · exact s3 _ (by unfold ch_b; rw [if_pos h195])
    · refine hg_aload_n (n := 199) dX6_change_198 rfl rfl ?_
      refine hg_getR (n := 202) (r := some (41, 0)) dX6_change_199 rfl fl_X6_46 rfl rfl (mo_s hM) (mo_r hM 11 (by decide)) ?_
      refine hg_iconst (n := 203) (v := 4) dX6_change_202 rfl (by decide) ?_
      refine hg_iload_n (n := 204) dX6_change_203 rfl rfl ?_
      refine hg_imulN (n := 205) (4) (s) dX6_change_204 rfl ?_
      refine hg_iconst (n := 206) (v := 3) dX6_change_205 rfl (by decide) ?_
      refine hg_iaddN (n := 207) (4 * s) (3) dX6_change_206 rfl ?_
      refine hg_iaload (n := 208) (len := 288) ((4 * s) + 3) dX6_change_207 rfl (by decide) rfl (mo_a hM 11 (by decide)) rfl (by omega) (by decide) ?_
      refine hg_if_le (n := 211) (tgt := 228) dX6_change_208 rfl (by decide) (fun h208 => ?_) (fun h208 => ?_)
      · exact s3 _ (by unfold ch_b; rw [if_neg h195, if_pos h208])
      · refine hg_aload_n (n := 212) dX6_change_211 rfl rfl ?_
        refine hg_getR (n := 215) (r := some (42, 0)) dX6_change_212 rfl fl_X6_43 rfl rfl (mo_s hM) (mo_r hM 12 (by decide)) ?_
        refine hg_iload_n (n := 216) dX6_change_215 rfl rfl ?_
        refine hg_dup2 (n := 217) dX6_change_216 rfl rfl rfl ?_
        refine hg_iaload (n := 218) (len := 72) (s) dX6_change_217 rfl (by decide) rfl (mo_a hM 12 (by decide)) rfl (by omega) (by decide) ?_
        refine hg_iload_n (n := 219) dX6_change_218 rfl rfl ?_
        refine hg_sipush (n := 222) (v := 1500) dX6_change_219 rfl (by decide) ?_
        refine hg_isub (n := 223) dX6_change_222 rfl ?_
        refine hg_bipush (n := 225) (v := 100) dX6_change_223 rfl (by decide) ?_
        refine hg_idiv (n := 226) dX6_change_225 rfl (by decide) ?_
        refine hg_iadd (n := 227) dX6_change_226 rfl ?_
        refine hg_iastore (n := 228) (len := 72) (s) dX6_change_227 rfl (by decide) rfl (mo_a hM 12 (by decide)) rfl (by omega) (by decide) ?_
        exact s3 _ (by unfold ch_b; rw [if_neg h195, if_neg h208])
  refine hg_aload_n (n := 1) dX6_change_0 rfl rfl ?_
  refine hg_getR (n := 4) (r := some (40, 0)) dX6_change_1 rfl fl_X6_40 rfl rfl (mo_s hM) (mo_r hM 10 (by decide)) ?_
  refine hg_iload_n (n := 5) dX6_change_4 rfl rfl ?_
  refine hg_iaload (n := 6) (len := 72) (s) dX6_change_5 rfl (by decide) rfl (mo_a hM 10 (by decide)) rfl (by omega) (by decide) ?_
  refine hg_istore_n (n := 7) dX6_change_6 rfl (by decide) rfl rfl ?_
  refine hg_iload_n (n := 8) dX6_change_7 rfl rfl ?_
  refine hg_sipush (n := 11) (v := 7300) dX6_change_8 rfl (by decide) ?_
  refine hg_icmp_le (n := 14) (tgt := 69) dX6_change_11 rfl (by decide) (fun h11 => ?_) (fun h11 => ?_)
  · refine hg_iload_n (n := 70) dX6_change_69 rfl rfl ?_
    refine hg_sipush (n := 73) (v := 5500) dX6_change_70 rfl (by decide) ?_
    refine hg_icmp_lt (n := 76) (tgt := 94) dX6_change_73 rfl (by decide) (fun h73 => ?_) (fun h73 => ?_)
    · refine hg_iload_n (n := 95) dX6_change_94 rfl rfl ?_
      refine hg_sipush (n := 98) (v := 3000) dX6_change_95 rfl (by decide) ?_
      refine hg_icmp_lt (n := 101) (tgt := 119) dX6_change_98 rfl (by decide) (fun h98 => ?_) (fun h98 => ?_)
      · refine hg_aload_n (n := 120) dX6_change_119 rfl rfl ?_
        refine hg_getR (n := 123) (r := some (41, 0)) dX6_change_120 rfl fl_X6_46 rfl rfl (mo_s hM) (mo_r hM 11 (by decide)) ?_
        refine hg_iconst (n := 124) (v := 4) dX6_change_123 rfl (by decide) ?_
        refine hg_iload_n (n := 125) dX6_change_124 rfl rfl ?_
        refine hg_imulN (n := 126) (4) (s) dX6_change_125 rfl ?_
        refine hg_iaload (n := 127) (len := 288) (4 * s) dX6_change_126 rfl (by decide) rfl (mo_a hM 11 (by decide)) rfl (by omega) (by decide) ?_
        refine hg_aload_n (n := 128) dX6_change_127 rfl rfl ?_
        refine hg_getR (n := 131) (r := some (41, 0)) dX6_change_128 rfl fl_X6_46 rfl rfl (mo_s hM) (mo_r hM 11 (by decide)) ?_
        refine hg_iconst (n := 132) (v := 4) dX6_change_131 rfl (by decide) ?_
        refine hg_iload_n (n := 133) dX6_change_132 rfl rfl ?_
        refine hg_imulN (n := 134) (4) (s) dX6_change_133 rfl ?_
        refine hg_iconst (n := 135) (v := 3) dX6_change_134 rfl (by decide) ?_
        refine hg_iaddN (n := 136) (4 * s) (3) dX6_change_135 rfl ?_
        refine hg_iaload (n := 137) (len := 288) ((4 * s) + 3) dX6_change_136 rfl (by decide) rfl (mo_a hM 11 (by decide)) rfl (by omega) (by decide) ?_
        refine hg_iadd (n := 138) dX6_change_137 rfl ?_
        refine hg_sipush (n := 141) (v := 3000) dX6_change_138 rfl (by decide) ?_
        refine hg_iload_n (n := 142) dX6_change_141 rfl rfl ?_
        refine hg_isub (n := 143) dX6_change_142 rfl ?_
        refine hg_imul (n := 144) dX6_change_143 rfl ?_
        refine hg_sipush (n := 147) (v := 2600) dX6_change_144 rfl (by decide) ?_
        refine hg_idiv (n := 148) dX6_change_147 rfl (by decide) ?_
        refine hg_istore (n := 150) dX6_change_148 rfl (by decide) rfl rfl ?_
        refine hg_iload (n := 152) dX6_change_150 rfl rfl ?_
        refine hg_aload_n (n := 153) dX6_change_152 rfl rfl ?_
        refine hg_getR (n := 156) (r := some (41, 0)) dX6_change_153 rfl fl_X6_46 rfl rfl (mo_s hM) (mo_r hM 11 (by decide)) ?_
        refine hg_iconst (n := 157) (v := 4) dX6_change_156 rfl (by decide) ?_
        refine hg_iload_n (n := 158) dX6_change_157 rfl rfl ?_
        refine hg_imulN (n := 159) (4) (s) dX6_change_158 rfl ?_
        refine hg_iconst (n := 160) (v := 3) dX6_change_159 rfl (by decide) ?_
        refine hg_iaddN (n := 161) (4 * s) (3) dX6_change_160 rfl ?_
        refine hg_iaload (n := 162) (len := 288) ((4 * s) + 3) dX6_change_161 rfl (by decide) rfl (mo_a hM 11 (by decide)) rfl (by omega) (by decide) ?_
        refine hg_isub (n := 163) dX6_change_162 rfl ?_
        refine hg_istore (n := 165) dX6_change_163 rfl (by decide) rfl rfl ?_
        refine hg_iload (n := 167) dX6_change_165 rfl rfl ?_
        refine hg_if_le (n := 170) (tgt := 182) dX6_change_167 rfl (by decide) (fun h167 => ?_) (fun h167 => ?_)
        · refine hg_iconst (n := 183) (v := 0) dX6_change_182 rfl (by decide) ?_
          refine hg_istore (n := 185) dX6_change_183 rfl (by decide) rfl rfl ?_
          exact hg_ls (s2 _ (by unfold ch_a; rw [if_pos h11, if_pos h73, if_pos h98, if_pos h167])) ⟨rfl, rfl, rfl, rfl, trivial⟩
        · refine hg_aload_n (n := 171) dX6_change_170 rfl rfl ?_
          refine hg_iload_n (n := 172) dX6_change_171 rfl rfl ?_
          refine hg_iconst (n := 173) (v := 0) dX6_change_172 rfl (by decide) ?_
          refine hg_iconst (n := 174) (v := 3) dX6_change_173 rfl (by decide) ?_
          refine hg_iload (n := 176) dX6_change_174 rfl rfl ?_
          refine hg_callVd (n := 179) (c_X6_turn hM (s) (0) (3) (by omega) (by decide) (by decide) _) dX6_change_176 rfl mk_X6_56 yl_X6_turn yv_X6_turn rfl (mo_s hM) (by decide) (by decide) rfl rfl (Nat.le_of_ble_eq_true rfl) (fun h => by cases h) ?_
          refine hg_goto (tgt := 183) dX6_change_179 (by decide) ?_
          refine hg_istore (n := 185) dX6_change_183 rfl (by decide) rfl rfl ?_
          exact hg_ls (s2 _ (by unfold ch_a; rw [if_pos h11, if_pos h73, if_pos h98, if_neg h167])) ⟨rfl, rfl, rfl, rfl, trivial⟩
      · refine hg_aload_n (n := 102) dX6_change_101 rfl rfl ?_
        refine hg_iload_n (n := 103) dX6_change_102 rfl rfl ?_
        refine hg_iconst (n := 104) (v := 0) dX6_change_103 rfl (by decide) ?_
        refine hg_iconst (n := 105) (v := 2) dX6_change_104 rfl (by decide) ?_
        refine hg_aload_n (n := 106) dX6_change_105 rfl rfl ?_
        refine hg_getR (n := 109) (r := some (36, 0)) dX6_change_106 rfl fl_X6_27 rfl rfl (mo_s hM) (mo_r hM 6 (by decide)) ?_
        refine hg_iload_n (n := 110) dX6_change_109 rfl rfl ?_
        refine hg_iaload (n := 111) (len := 12) (p) dX6_change_110 rfl (by decide) rfl (mo_a hM 6 (by decide)) rfl (by omega) (by decide) ?_
        refine hg_callVd (n := 114) (c_X6_turn hM (s) (0) (2) (by omega) (by decide) (by decide) _) dX6_change_111 rfl mk_X6_56 yl_X6_turn yv_X6_turn rfl (mo_s hM) (by decide) (by decide) rfl rfl (Nat.le_of_ble_eq_true rfl) (fun h => by cases h) ?_
        refine hg_istore (n := 116) dX6_change_114 rfl (by decide) rfl rfl ?_
        refine hg_goto (tgt := 185) dX6_change_116 (by decide) ?_
        exact hg_ls (s2 _ (by unfold ch_a; rw [if_pos h11, if_pos h73, if_neg h98])) ⟨rfl, rfl, rfl, rfl, trivial⟩
    · refine hg_aload_n (n := 77) dX6_change_76 rfl rfl ?_
      refine hg_iload_n (n := 78) dX6_change_77 rfl rfl ?_
      refine hg_iconst (n := 79) (v := 0) dX6_change_78 rfl (by decide) ?_
      refine hg_iconst (n := 80) (v := 1) dX6_change_79 rfl (by decide) ?_
      refine hg_aload_n (n := 81) dX6_change_80 rfl rfl ?_
      refine hg_getR (n := 84) (r := some (35, 0)) dX6_change_81 rfl fl_X6_24 rfl rfl (mo_s hM) (mo_r hM 5 (by decide)) ?_
      refine hg_iload_n (n := 85) dX6_change_84 rfl rfl ?_
      refine hg_iaload (n := 86) (len := 12) (p) dX6_change_85 rfl (by decide) rfl (mo_a hM 5 (by decide)) rfl (by omega) (by decide) ?_
      refine hg_callVd (n := 89) (c_X6_turn hM (s) (0) (1) (by omega) (by decide) (by decide) _) dX6_change_86 rfl mk_X6_56 yl_X6_turn yv_X6_turn rfl (mo_s hM) (by decide) (by decide) rfl rfl (Nat.le_of_ble_eq_true rfl) (fun h => by cases h) ?_
      refine hg_istore (n := 91) dX6_change_89 rfl (by decide) rfl rfl ?_
      refine hg_goto (tgt := 185) dX6_change_91 (by decide) ?_
      exact hg_ls (s2 _ (by unfold ch_a; rw [if_pos h11, if_neg h73])) ⟨rfl, rfl, rfl, rfl, trivial⟩
  · refine hg_iload_n (n := 15) dX6_change_14 rfl rfl ?_
    refine hg_sipush (n := 18) (v := 7300) dX6_change_15 rfl (by decide) ?_
    refine hg_isub (n := 19) dX6_change_18 rfl ?_
    refine hg_bipush (n := 21) (v := 10) dX6_change_19 rfl (by decide) ?_
    refine hg_idiv (n := 22) dX6_change_21 rfl (by decide) ?_
    refine hg_istore (n := 24) dX6_change_22 rfl (by decide) rfl rfl ?_
    refine hg_iload (n := 26) dX6_change_24 rfl rfl ?_
    refine hg_aload_n (n := 27) dX6_change_26 rfl rfl ?_
    refine hg_iload_n (n := 28) dX6_change_27 rfl rfl ?_
    refine hg_iconst (n := 29) (v := 1) dX6_change_28 rfl (by decide) ?_
    refine hg_iconst (n := 30) (v := 0) dX6_change_29 rfl (by decide) ?_
    refine hg_iload (n := 32) dX6_change_30 rfl rfl ?_
    refine hg_callVd (n := 35) (c_X6_turn hM (s) (1) (0) (by omega) (by decide) (by decide) _) dX6_change_32 rfl mk_X6_56 yl_X6_turn yv_X6_turn rfl (mo_s hM) (by decide) (by decide) rfl rfl (Nat.le_of_ble_eq_true rfl) (fun h => by cases h) ?_
    refine hg_isub (n := 36) dX6_change_35 rfl ?_
    refine hg_istore (n := 38) dX6_change_36 rfl (by decide) rfl rfl ?_
    refine hg_iload (n := 40) dX6_change_38 rfl rfl ?_
    refine hg_aload_n (n := 41) dX6_change_40 rfl rfl ?_
    refine hg_iload_n (n := 42) dX6_change_41 rfl rfl ?_
    refine hg_iconst (n := 43) (v := 2) dX6_change_42 rfl (by decide) ?_
    refine hg_iconst (n := 44) (v := 0) dX6_change_43 rfl (by decide) ?_
    refine hg_iload (n := 46) dX6_change_44 rfl rfl ?_
    refine hg_callVd (n := 49) (c_X6_turn hM (s) (2) (0) (by omega) (by decide) (by decide) _) dX6_change_46 rfl mk_X6_56 yl_X6_turn yv_X6_turn rfl (mo_s hM) (by decide) (by decide) rfl rfl (Nat.le_of_ble_eq_true rfl) (fun h => by cases h) ?_
    refine hg_isub (n := 50) dX6_change_49 rfl ?_
    refine hg_istore (n := 52) dX6_change_50 rfl (by decide) rfl rfl ?_
    refine hg_iload (n := 54) dX6_change_52 rfl rfl ?_
    refine hg_aload_n (n := 55) dX6_change_54 rfl rfl ?_
    refine hg_iload_n (n := 56) dX6_change_55 rfl rfl ?_
    refine hg_iconst (n := 57) (v := 3) dX6_change_56 rfl (by decide) ?_
    refine hg_iconst (n := 58) (v := 0) dX6_change_57 rfl (by decide) ?_
    refine hg_iload (n := 60) dX6_change_58 rfl rfl ?_
    refine hg_callVd (n := 63) (c_X6_turn hM (s) (3) (0) (by omega) (by decide) (by decide) _) dX6_change_60 rfl mk_X6_56 yl_X6_turn yv_X6_turn rfl (mo_s hM) (by decide) (by decide) rfl rfl (Nat.le_of_ble_eq_true rfl) (fun h => by cases h) ?_
    refine hg_isub (n := 64) dX6_change_63 rfl ?_
    refine hg_istore (n := 66) dX6_change_64 rfl (by decide) rfl rfl ?_
    refine hg_goto (tgt := 185) dX6_change_66 (by decide) ?_
    exact hg_ls (s2 _ (by unfold ch_a; rw [if_neg h11])) ⟨rfl, rfl, rfl, rfl, trivial⟩

def ha_ (X : MI_) (s : Nat) : Int32 := (200 * X 41 0 (4 * s) + 250 * X 41 0 (4 * s + 1) + 450 * X 41 0 (4 * s + 2) + (800 - (if 400 ≤ X 42 0 s / 50 then 400 else X 42 0 s / 50)) * X 41 0 (4 * s + 3)) / 1000
set_option maxHeartbeats 4000000 in
set_option maxRecDepth 100000 in
theorem c_X6_hardness {mi : MI_} {ml : ML_} {mr : MR_} {sh : SH_} (hM : mo_ mr sh) (s : Nat) (hs : s < 72) : hg_Det false yX6_hardness md_X6_hardness [hv_r (some (7, 0)), hv_i (nI s)] (mi, ml, mr, sh) (some (hv_i (ha_ mi s))) (mi, ml, mr, sh) := by
  intro Q hQ
  refine hg_intro rfl rfl rfl (Nat.le_of_ble_eq_true rfl) rfl ?_
  have s1 : ∀ x, x = (if 400 ≤ mi 42 0 s / 50 then 400 else mi 42 0 s / 50) → hg_G md_X6_hardness false sh Q 0 0 30 [some (hv_r (some (7, 0))), some (hv_i (nI s)), none, none] [hv_i x] (mi, ml, mr, sh) := by
    intro x hx
    subst hx
    refine hg_istore_n (n := 31) dX6_hardness_30 rfl (by decide) rfl rfl ?_
    refine hg_sipush (n := 34) (v := 800) dX6_hardness_31 rfl (by decide) ?_
    refine hg_iload_n (n := 35) dX6_hardness_34 rfl rfl ?_
    refine hg_isub (n := 36) dX6_hardness_35 rfl ?_
    refine hg_istore_n (n := 37) dX6_hardness_36 rfl (by decide) rfl rfl ?_
    refine hg_sipush (n := 40) (v := 200) dX6_hardness_37 rfl (by decide) ?_
    refine hg_aload_n (n := 41) dX6_hardness_40 rfl rfl ?_
    refine hg_getR (n := 44) (r := some (41, 0)) dX6_hardness_41 rfl fl_X6_46 rfl rfl (mo_s hM) (mo_r hM 11 (by decide)) ?_
    refine hg_iconst (n := 45) (v := 4) dX6_hardness_44 rfl (by decide) ?_
    refine hg_iload_n (n := 46) dX6_hardness_45 rfl rfl ?_
    refine hg_imulN (n := 47) (4) (s) dX6_hardness_46 rfl ?_
    refine hg_iaload (n := 48) (len := 288) (4 * s) dX6_hardness_47 rfl (by decide) rfl (mo_a hM 11 (by decide)) rfl (by omega) (by decide) ?_
    refine hg_imul (n := 49) dX6_hardness_48 rfl ?_
    refine hg_sipush (n := 52) (v := 250) dX6_hardness_49 rfl (by decide) ?_
    refine hg_aload_n (n := 53) dX6_hardness_52 rfl rfl ?_
    refine hg_getR (n := 56) (r := some (41, 0)) dX6_hardness_53 rfl fl_X6_46 rfl rfl (mo_s hM) (mo_r hM 11 (by decide)) ?_
    refine hg_iconst (n := 57) (v := 4) dX6_hardness_56 rfl (by decide) ?_
    refine hg_iload_n (n := 58) dX6_hardness_57 rfl rfl ?_
    refine hg_imulN (n := 59) (4) (s) dX6_hardness_58 rfl ?_
    refine hg_iconst (n := 60) (v := 1) dX6_hardness_59 rfl (by decide) ?_
    refine hg_iaddN (n := 61) (4 * s) (1) dX6_hardness_60 rfl ?_
    refine hg_iaload (n := 62) (len := 288) ((4 * s) + 1) dX6_hardness_61 rfl (by decide) rfl (mo_a hM 11 (by decide)) rfl (by omega) (by decide) ?_
    refine hg_imul (n := 63) dX6_hardness_62 rfl ?_
    refine hg_iadd (n := 64) dX6_hardness_63 rfl ?_
    refine hg_sipush (n := 67) (v := 450) dX6_hardness_64 rfl (by decide) ?_
    refine hg_aload_n (n := 68) dX6_hardness_67 rfl rfl ?_
    refine hg_getR (n := 71) (r := some (41, 0)) dX6_hardness_68 rfl fl_X6_46 rfl rfl (mo_s hM) (mo_r hM 11 (by decide)) ?_
    refine hg_iconst (n := 72) (v := 4) dX6_hardness_71 rfl (by decide) ?_
    refine hg_iload_n (n := 73) dX6_hardness_72 rfl rfl ?_
    refine hg_imulN (n := 74) (4) (s) dX6_hardness_73 rfl ?_
    refine hg_iconst (n := 75) (v := 2) dX6_hardness_74 rfl (by decide) ?_
    refine hg_iaddN (n := 76) (4 * s) (2) dX6_hardness_75 rfl ?_
    refine hg_iaload (n := 77) (len := 288) ((4 * s) + 2) dX6_hardness_76 rfl (by decide) rfl (mo_a hM 11 (by decide)) rfl (by omega) (by decide) ?_
    refine hg_imul (n := 78) dX6_hardness_77 rfl ?_
    refine hg_iadd (n := 79) dX6_hardness_78 rfl ?_
    refine hg_iload_n (n := 80) dX6_hardness_79 rfl rfl ?_
    refine hg_aload_n (n := 81) dX6_hardness_80 rfl rfl ?_
    refine hg_getR (n := 84) (r := some (41, 0)) dX6_hardness_81 rfl fl_X6_46 rfl rfl (mo_s hM) (mo_r hM 11 (by decide)) ?_
    refine hg_iconst (n := 85) (v := 4) dX6_hardness_84 rfl (by decide) ?_
    refine hg_iload_n (n := 86) dX6_hardness_85 rfl rfl ?_
    refine hg_imulN (n := 87) (4) (s) dX6_hardness_86 rfl ?_
    refine hg_iconst (n := 88) (v := 3) dX6_hardness_87 rfl (by decide) ?_
    refine hg_iaddN (n := 89) (4 * s) (3) dX6_hardness_88 rfl ?_
    refine hg_iaload (n := 90) (len := 288) ((4 * s) + 3) dX6_hardness_89 rfl (by decide) rfl (mo_a hM 11 (by decide)) rfl (by omega) (by decide) ?_
    refine hg_imul (n := 91) dX6_hardness_90 rfl ?_
    refine hg_iadd (n := 92) dX6_hardness_91 rfl ?_
    refine hg_sipush (n := 95) (v := 1000) dX6_hardness_92 rfl (by decide) ?_
    refine hg_idiv (n := 96) dX6_hardness_95 rfl (by decide) ?_
    refine hg_ireturn dX6_hardness_96 rfl ?_
    exact hQ
  refine hg_aload_n (n := 1) dX6_hardness_0 rfl rfl ?_
  refine hg_getR (n := 4) (r := some (42, 0)) dX6_hardness_1 rfl fl_X6_43 rfl rfl (mo_s hM) (mo_r hM 12 (by decide)) ?_
  refine hg_iload_n (n := 5) dX6_hardness_4 rfl rfl ?_
  refine hg_iaload (n := 6) (len := 72) (s) dX6_hardness_5 rfl (by decide) rfl (mo_a hM 12 (by decide)) rfl (by omega) (by decide) ?_
  refine hg_bipush (n := 8) (v := 50) dX6_hardness_6 rfl (by decide) ?_
  refine hg_idiv (n := 9) dX6_hardness_8 rfl (by decide) ?_
  refine hg_sipush (n := 12) (v := 400) dX6_hardness_9 rfl (by decide) ?_
  refine hg_icmp_ge (n := 15) (tgt := 27) dX6_hardness_12 rfl (by decide) (fun h12 => ?_) (fun h12 => ?_)
  · refine hg_sipush (n := 30) (v := 400) dX6_hardness_27 rfl (by decide) ?_
    exact s1 _ (by rw [if_pos h12])
  · refine hg_aload_n (n := 16) dX6_hardness_15 rfl rfl ?_
    refine hg_getR (n := 19) (r := some (42, 0)) dX6_hardness_16 rfl fl_X6_43 rfl rfl (mo_s hM) (mo_r hM 12 (by decide)) ?_
    refine hg_iload_n (n := 20) dX6_hardness_19 rfl rfl ?_
    refine hg_iaload (n := 21) (len := 72) (s) dX6_hardness_20 rfl (by decide) rfl (mo_a hM 12 (by decide)) rfl (by omega) (by decide) ?_
    refine hg_bipush (n := 23) (v := 50) dX6_hardness_21 rfl (by decide) ?_
    refine hg_idiv (n := 24) dX6_hardness_23 rfl (by decide) ?_
    refine hg_goto (tgt := 30) dX6_hardness_24 (by decide) ?_
    exact s1 _ (by rw [if_neg h12])

set_option maxHeartbeats 4000000 in
set_option maxRecDepth 100000 in
theorem c_X6_innermost {mi : MI_} {ml : ML_} {mr : MR_} {sh : SH_} (hM : mo_ mr sh) (p n : Nat) (hp : p < 12) (hn : mi 31 0 p = nI n) (h1 : 1 ≤ n) (h6 : n ≤ 6) : hg_Det false yX6_innermost md_X6_innermost [hv_r (some (7, 0)), hv_i (nI p)] (mi, ml, mr, sh) (some (hv_i (mi 40 0 (6 * p + n - 1)))) (mi, ml, mr, sh) := by
  intro Q hQ
  refine hg_intro rfl rfl rfl (Nat.le_of_ble_eq_true rfl) rfl ?_
  refine hg_aload_n (n := 1) dX6_innermost_0 rfl rfl ?_
  refine hg_getR (n := 4) (r := some (40, 0)) dX6_innermost_1 rfl fl_X6_40 rfl rfl (mo_s hM) (mo_r hM 10 (by decide)) ?_
  refine hg_bipush (n := 6) (v := 6) dX6_innermost_4 rfl (by decide) ?_
  refine hg_iload_n (n := 7) dX6_innermost_6 rfl rfl ?_
  refine hg_imulN (n := 8) (6) (p) dX6_innermost_7 rfl ?_
  refine hg_aload_n (n := 9) dX6_innermost_8 rfl rfl ?_
  refine hg_getR (n := 12) (r := some (31, 0)) dX6_innermost_9 rfl fl_X6_11 rfl rfl (mo_s hM) (mo_r hM 1 (by decide)) ?_
  refine hg_iload_n (n := 13) dX6_innermost_12 rfl rfl ?_
  refine hg_ialoadN (n := 14) (len := 12) (n) (p) dX6_innermost_13 rfl (by decide) rfl (mo_a hM 1 (by decide)) rfl (by omega) (by decide) hn ?_
  refine hg_iaddN (n := 15) (6 * p) (n) dX6_innermost_14 rfl ?_
  refine hg_iconst (n := 16) (v := 1) dX6_innermost_15 rfl (by decide) ?_
  refine hg_isubN (n := 17) ((6 * p) + n) (1) dX6_innermost_16 rfl (by omega) ?_
  refine hg_iaload (n := 18) (len := 72) (((6 * p) + n) - 1) dX6_innermost_17 rfl (by decide) rfl (mo_a hM 10 (by decide)) rfl (by omega) (by decide) ?_
  refine hg_ireturn dX6_innermost_18 rfl ?_
  exact hQ
end
section
/-- a row of an array anew: places lo .. lo + cnt - 1 hold f -/
def m_seg (X : MI_) (k lo cnt : Nat) (f : Nat → Int32) : MI_ := fun k' i' j => if k' = k ∧ i' = 0 ∧ lo ≤ j ∧ j < lo + cnt then f j else X k' i' j
theorem m_seg_0 (X : MI_) (k lo : Nat) (f : Nat → Int32) : m_seg X k lo 0 f = X := by
  funext k' i' j
  unfold m_seg
  rw [if_neg (by omega)]
theorem m_seg_s (X : MI_) (k lo cnt : Nat) (f : Nat → Int32) {j : Nat} {x : Int32} (hj : j = lo + cnt) (hx : x = f j) : u_3 (m_seg X k lo cnt f) k 0 j x = m_seg X k lo (cnt + 1) f := by
  subst hj hx
  funext k' i' j
  unfold u_3 m_seg
  by_cases h1 : k' = k ∧ i' = 0
  · obtain ⟨rfl, rfl⟩ := h1
    by_cases h2 : j = lo + cnt
    · subst h2
      rw [if_pos ⟨rfl, rfl, rfl⟩, if_pos ⟨rfl, rfl, by omega, by omega⟩]
    · rw [if_neg (fun q => h2 q.2.2)]
      by_cases h3 : lo ≤ j ∧ j < lo + cnt
      · rw [if_pos ⟨rfl, rfl, h3.1, h3.2⟩, if_pos ⟨rfl, rfl, h3.1, by omega⟩]
      · rw [if_neg (fun q => h3 q.2.2), if_neg (fun q => h3 ⟨q.2.2.1, by omega⟩)]
  · rw [if_neg (fun q => h1 ⟨q.1, q.2.1⟩), if_neg (fun q => h1 ⟨q.1, q.2.1⟩), if_neg (fun q => h1 ⟨q.1, q.2.1⟩)]
theorem m_seg_ne (X : MI_) (k lo cnt : Nat) (f : Nat → Int32) {k' i' j : Nat} (h : k' ≠ k) : m_seg X k lo cnt f k' i' j = X k' i' j := if_neg (fun q => h q.1)
theorem m_seg_in (X : MI_) (k lo cnt : Nat) (f : Nat → Int32) {j : Nat} (h : lo ≤ j) (h2 : j < lo + cnt) : m_seg X k lo cnt f k 0 j = f j := if_pos ⟨rfl, rfl, h, h2⟩
theorem m_seg_out (X : MI_) (k lo cnt : Nat) (f : Nat → Int32) {i j : Nat} (h : j < lo ∨ lo + cnt ≤ j) : m_seg X k lo cnt f k i j = X k i j := if_neg (fun q => by omega)
theorem u_3_ne {α : Type} (X : Nat → Nat → Nat → α) {k i f k' i' f' : Nat} (x : α) (h : ¬ (k' = k ∧ i' = i ∧ f' = f)) : u_3 X k i f x k' i' f' = X k' i' f' := if_neg h
theorem u_3_eq {α : Type} (X : Nat → Nat → Nat → α) {k i f : Nat} (x : α) : u_3 X k i f x k i f = x := if_pos ⟨rfl, rfl, rfl⟩
/-- what flows into the shell i of the part p -/
def fl_ (X : MI_) (p n : Nat) (g : Int32) (i : Nat) : Int32 := if i = 0 then (g - X 40 0 (6 * p)) * X 34 0 p / 1000 else if i < n then (X 40 0 (6 * p + i - 1) - X 40 0 (6 * p + i)) * X 33 0 p / 1000 else 0
def wa_ (X : MI_) (p n : Nat) (g : Int32) (j : Nat) : Int32 := X 40 0 j + (fl_ X p n g (j - 6 * p) - fl_ X p n g (j - 6 * p + 1))
def ch_l (X : MI_) (p : Nat) : Nat → MI_
  | 0 => X
  | i + 1 => ch_m (ch_l X p i) p (6 * p + i)
def st_w (X : MI_) (p n : Nat) (g : Int32) : MI_ := m_seg (m_seg X 43 0 (n + 1) (fl_ X p n g)) 40 (6 * p) n (wa_ X p n g)
def st_m (X : MI_) (p n : Nat) (g : Int32) : MI_ := ch_l (st_w X p n g) p n
def st_l (X : MI_) (T : ML_) (p n : Nat) (g : Int32) : ML_ := u_3 T 37 0 p (T 37 0 p + (fl_ X p n g 0).toInt64)
set_option maxHeartbeats 4000000 in
set_option maxRecDepth 100000 in
theorem c_X6_steps {mi : MI_} {ml : ML_} {mr : MR_} {sh : SH_} (hM : mo_ mr sh) (p n : Nat) (g : Int32) (hp : p < 12) (hn : mi 31 0 p = nI n) (h1 : 1 ≤ n) (h6 : n ≤ 6) : hg_Det false yX6_steps md_X6_steps [hv_r (some (7, 0)), hv_i (nI p), hv_i g] (mi, ml, mr, sh) none (st_m mi p n g, st_l mi ml p n g, mr, sh) := by
  intro Q hQ
  refine hg_intro rfl rfl rfl (Nat.le_of_ble_eq_true rfl) rfl ?_
  have l3 : ∀ m i, i + m = n → hg_G md_X6_steps false sh Q 0 0 169 [some (hv_r (some (7, 0))), some (hv_i (nI p)), some (hv_i g), some (hv_i (nI (6 * p))), some (hv_i (nI n)), some (hv_i (nI i))] [] (ch_l (st_w mi p n g) p i, st_l mi ml p n g, mr, sh) := by
    intro m
    induction m with
    | zero =>
      intro i hi
      refine hg_iload (n := 171) dX6_steps_169 rfl rfl ?_
      refine hg_iload (n := 173) dX6_steps_171 rfl rfl ?_
      refine hg_icmp_geN (n := 176) (tgt := 191) (i) (n) dX6_steps_173 rfl (by decide) (by omega) (by omega) (fun h173 => ?_) (fun h173 => ?_)
      · refine hg_return dX6_steps_191 rfl ?_
        have e := show i = n by omega
        subst e
        exact hQ
      · exact absurd h173 (by omega)
    | succ m ih =>
      intro i hi
      refine hg_iload (n := 171) dX6_steps_169 rfl rfl ?_
      refine hg_iload (n := 173) dX6_steps_171 rfl rfl ?_
      refine hg_icmp_geN (n := 176) (tgt := 191) (i) (n) dX6_steps_173 rfl (by decide) (by omega) (by omega) (fun h173 => ?_) (fun h173 => ?_)
      · exact absurd h173 (by omega)
      · refine hg_aload_n (n := 177) dX6_steps_176 rfl rfl ?_
        refine hg_iload_n (n := 178) dX6_steps_177 rfl rfl ?_
        refine hg_iload_n (n := 179) dX6_steps_178 rfl rfl ?_
        refine hg_iload (n := 181) dX6_steps_179 rfl rfl ?_
        refine hg_iaddN (n := 182) (6 * p) (i) dX6_steps_181 rfl ?_
        refine hg_callVd (n := 185) (c_X6_change hM (p) ((6 * p) + i) (by omega) (by omega)) dX6_steps_182 rfl mk_X6_52 yl_X6_change yv_X6_change rfl (mo_s hM) (by decide) (by decide) rfl rfl (Nat.le_of_ble_eq_true rfl) (fun h => by cases h) ?_
        refine hg_iincN (n := 188) (i) 1 dX6_steps_185 rfl rfl (by decide) (by decide) rfl rfl ?_
        refine hg_goto (tgt := 169) dX6_steps_188 (by decide) ?_
        exact ih (i + 1) (by omega)
  have l2 : ∀ m i, i + m = n → hg_G md_X6_steps false sh Q 0 0 108 [some (hv_r (some (7, 0))), some (hv_i (nI p)), some (hv_i g), some (hv_i (nI (6 * p))), some (hv_i (nI n)), some (hv_i (nI i))] [] (m_seg (m_seg mi 43 0 (n + 1) (fl_ mi p n g)) 40 (6 * p) i (wa_ mi p n g), ml, mr, sh) := by
    intro m
    induction m with
    | zero =>
      intro i hi
      refine hg_iload (n := 110) dX6_steps_108 rfl rfl ?_
      refine hg_iload (n := 112) dX6_steps_110 rfl rfl ?_
      refine hg_icmp_geN (n := 115) (tgt := 150) (i) (n) dX6_steps_112 rfl (by decide) (by omega) (by omega) (fun h112 => ?_) (fun h112 => ?_)
      · refine hg_aload_n (n := 151) dX6_steps_150 rfl rfl ?_
        refine hg_getR (n := 154) (r := some (37, 0)) dX6_steps_151 rfl fl_X6_30 rfl rfl (mo_s hM) (mo_r hM 7 (by decide)) ?_
        refine hg_iload_n (n := 155) dX6_steps_154 rfl rfl ?_
        refine hg_dup2 (n := 156) dX6_steps_155 rfl rfl rfl ?_
        refine hg_laload (n := 157) (len := 12) (p) dX6_steps_156 rfl (by decide) rfl (mo_a hM 7 (by decide)) rfl (by omega) (by decide) ?_
        refine hg_aload_n (n := 158) dX6_steps_157 rfl rfl ?_
        refine hg_getR (n := 161) (r := some (43, 0)) dX6_steps_158 rfl fl_X6_49 rfl rfl (mo_s hM) (mo_r hM 13 (by decide)) ?_
        refine hg_iconst (n := 162) (v := 0) dX6_steps_161 rfl (by decide) ?_
        refine hg_iaload (n := 163) (len := 8) (0) dX6_steps_162 rfl (by decide) rfl (mo_a hM 13 (by decide)) rfl (by omega) (by decide) ?_
        refine hg_i2l (n := 164) dX6_steps_163 rfl ?_
        refine hg_ladd (n := 165) dX6_steps_164 rfl ?_
        refine hg_lastore (n := 166) (len := 12) (p) dX6_steps_165 rfl (by decide) rfl (mo_a hM 7 (by decide)) rfl (by omega) (by decide) ?_
        refine hg_iconst (n := 167) (v := 0) dX6_steps_166 rfl (by decide) ?_
        refine hg_istore (n := 169) dX6_steps_167 rfl (by decide) rfl rfl ?_
        have e := show i = n by omega
        subst e
        refine hg_memo ?_ (l3 i 0 (by omega))
        show (_, _, mr, sh) = (_, _, mr, sh)
        unfold st_l
        rw [m_seg_ne _ _ _ _ _ (by decide), m_seg_in _ _ _ _ _ (by omega) (by omega)]
        rfl
      · exact absurd h112 (by omega)
    | succ m ih =>
      intro i hi
      refine hg_iload (n := 110) dX6_steps_108 rfl rfl ?_
      refine hg_iload (n := 112) dX6_steps_110 rfl rfl ?_
      refine hg_icmp_geN (n := 115) (tgt := 150) (i) (n) dX6_steps_112 rfl (by decide) (by omega) (by omega) (fun h112 => ?_) (fun h112 => ?_)
      · exact absurd h112 (by omega)
      · refine hg_aload_n (n := 116) dX6_steps_115 rfl rfl ?_
        refine hg_getR (n := 119) (r := some (40, 0)) dX6_steps_116 rfl fl_X6_40 rfl rfl (mo_s hM) (mo_r hM 10 (by decide)) ?_
        refine hg_iload_n (n := 120) dX6_steps_119 rfl rfl ?_
        refine hg_iload (n := 122) dX6_steps_120 rfl rfl ?_
        refine hg_iaddN (n := 123) (6 * p) (i) dX6_steps_122 rfl ?_
        refine hg_dup2 (n := 124) dX6_steps_123 rfl rfl rfl ?_
        refine hg_iaload (n := 125) (len := 72) ((6 * p) + i) dX6_steps_124 rfl (by decide) rfl (mo_a hM 10 (by decide)) rfl (by omega) (by decide) ?_
        refine hg_aload_n (n := 126) dX6_steps_125 rfl rfl ?_
        refine hg_getR (n := 129) (r := some (43, 0)) dX6_steps_126 rfl fl_X6_49 rfl rfl (mo_s hM) (mo_r hM 13 (by decide)) ?_
        refine hg_iload (n := 131) dX6_steps_129 rfl rfl ?_
        refine hg_iaload (n := 132) (len := 8) (i) dX6_steps_131 rfl (by decide) rfl (mo_a hM 13 (by decide)) rfl (by omega) (by decide) ?_
        refine hg_aload_n (n := 133) dX6_steps_132 rfl rfl ?_
        refine hg_getR (n := 136) (r := some (43, 0)) dX6_steps_133 rfl fl_X6_49 rfl rfl (mo_s hM) (mo_r hM 13 (by decide)) ?_
        refine hg_iload (n := 138) dX6_steps_136 rfl rfl ?_
        refine hg_iconst (n := 139) (v := 1) dX6_steps_138 rfl (by decide) ?_
        refine hg_iaddN (n := 140) (i) (1) dX6_steps_139 rfl ?_
        refine hg_iaload (n := 141) (len := 8) (i + 1) dX6_steps_140 rfl (by decide) rfl (mo_a hM 13 (by decide)) rfl (by omega) (by decide) ?_
        refine hg_isub (n := 142) dX6_steps_141 rfl ?_
        refine hg_iadd (n := 143) dX6_steps_142 rfl ?_
        refine hg_iastore (n := 144) (len := 72) ((6 * p) + i) dX6_steps_143 rfl (by decide) rfl (mo_a hM 10 (by decide)) rfl (by omega) (by decide) ?_
        refine hg_iincN (n := 147) (i) 1 dX6_steps_144 rfl rfl (by decide) (by decide) rfl rfl ?_
        refine hg_goto (tgt := 108) dX6_steps_147 (by decide) ?_
        refine hg_memo ?_ (ih (i + 1) (by omega))
        rw [m_seg_s _ _ _ _ _ rfl ?_]
        rw [m_seg_out _ _ _ _ _ (Or.inr (Nat.le_refl _)), m_seg_ne _ _ _ _ _ (by decide), m_seg_ne _ _ _ _ _ (by decide), m_seg_in _ _ _ _ _ (by omega) (by omega), m_seg_ne _ _ _ _ _ (by decide), m_seg_in _ _ _ _ _ (by omega) (by omega)]
        unfold wa_
        rw [show 6 * p + i - 6 * p = i by omega]
  have l1 : ∀ m i, i + 1 + m = n → hg_G md_X6_steps false sh Q 0 0 41 [some (hv_r (some (7, 0))), some (hv_i (nI p)), some (hv_i g), some (hv_i (nI (6 * p))), some (hv_i (nI n)), some (hv_i (nI i))] [] (m_seg mi 43 0 (i + 1) (fl_ mi p n g), ml, mr, sh) := by
    intro m
    induction m with
    | zero =>
      intro i hi
      refine hg_iload (n := 43) dX6_steps_41 rfl rfl ?_
      refine hg_iconst (n := 44) (v := 1) dX6_steps_43 rfl (by decide) ?_
      refine hg_iaddN (n := 45) (i) (1) dX6_steps_44 rfl ?_
      refine hg_iload (n := 47) dX6_steps_45 rfl rfl ?_
      refine hg_icmp_geN (n := 50) (tgt := 97) (i + 1) (n) dX6_steps_47 rfl (by decide) (by omega) (by omega) (fun h47 => ?_) (fun h47 => ?_)
      · refine hg_aload_n (n := 98) dX6_steps_97 rfl rfl ?_
        refine hg_getR (n := 101) (r := some (43, 0)) dX6_steps_98 rfl fl_X6_49 rfl rfl (mo_s hM) (mo_r hM 13 (by decide)) ?_
        refine hg_iload (n := 103) dX6_steps_101 rfl rfl ?_
        refine hg_iconst (n := 104) (v := 0) dX6_steps_103 rfl (by decide) ?_
        refine hg_iastore (n := 105) (len := 8) (n) dX6_steps_104 rfl (by decide) rfl (mo_a hM 13 (by decide)) rfl (by omega) (by decide) ?_
        refine hg_iconst (n := 106) (v := 0) dX6_steps_105 rfl (by decide) ?_
        refine hg_istore (n := 108) dX6_steps_106 rfl (by decide) rfl rfl ?_
        have e := show n = i + 1 by omega
        subst e
        refine hg_memo ?_ (l2 (i + 1) 0 (by omega))
        rw [m_seg_s _ _ _ _ _ (by omega) (by unfold fl_; rw [if_neg (by omega), if_neg (by omega)])]
        rw [m_seg_0]
      · exact absurd h47 (by omega)
    | succ m ih =>
      intro i hi
      refine hg_iload (n := 43) dX6_steps_41 rfl rfl ?_
      refine hg_iconst (n := 44) (v := 1) dX6_steps_43 rfl (by decide) ?_
      refine hg_iaddN (n := 45) (i) (1) dX6_steps_44 rfl ?_
      refine hg_iload (n := 47) dX6_steps_45 rfl rfl ?_
      refine hg_icmp_geN (n := 50) (tgt := 97) (i + 1) (n) dX6_steps_47 rfl (by decide) (by omega) (by omega) (fun h47 => ?_) (fun h47 => ?_)
      · exact absurd h47 (by omega)
      · refine hg_aload_n (n := 51) dX6_steps_50 rfl rfl ?_
        refine hg_getR (n := 54) (r := some (43, 0)) dX6_steps_51 rfl fl_X6_49 rfl rfl (mo_s hM) (mo_r hM 13 (by decide)) ?_
        refine hg_iload (n := 56) dX6_steps_54 rfl rfl ?_
        refine hg_iconst (n := 57) (v := 1) dX6_steps_56 rfl (by decide) ?_
        refine hg_iaddN (n := 58) (i) (1) dX6_steps_57 rfl ?_
        refine hg_aload_n (n := 59) dX6_steps_58 rfl rfl ?_
        refine hg_getR (n := 62) (r := some (40, 0)) dX6_steps_59 rfl fl_X6_40 rfl rfl (mo_s hM) (mo_r hM 10 (by decide)) ?_
        refine hg_iload_n (n := 63) dX6_steps_62 rfl rfl ?_
        refine hg_iload (n := 65) dX6_steps_63 rfl rfl ?_
        refine hg_iaddN (n := 66) (6 * p) (i) dX6_steps_65 rfl ?_
        refine hg_iaload (n := 67) (len := 72) ((6 * p) + i) dX6_steps_66 rfl (by decide) rfl (mo_a hM 10 (by decide)) rfl (by omega) (by decide) ?_
        refine hg_aload_n (n := 68) dX6_steps_67 rfl rfl ?_
        refine hg_getR (n := 71) (r := some (40, 0)) dX6_steps_68 rfl fl_X6_40 rfl rfl (mo_s hM) (mo_r hM 10 (by decide)) ?_
        refine hg_iload_n (n := 72) dX6_steps_71 rfl rfl ?_
        refine hg_iload (n := 74) dX6_steps_72 rfl rfl ?_
        refine hg_iaddN (n := 75) (6 * p) (i) dX6_steps_74 rfl ?_
        refine hg_iconst (n := 76) (v := 1) dX6_steps_75 rfl (by decide) ?_
        refine hg_iaddN (n := 77) ((6 * p) + i) (1) dX6_steps_76 rfl ?_
        refine hg_iaload (n := 78) (len := 72) (((6 * p) + i) + 1) dX6_steps_77 rfl (by decide) rfl (mo_a hM 10 (by decide)) rfl (by omega) (by decide) ?_
        refine hg_isub (n := 79) dX6_steps_78 rfl ?_
        refine hg_aload_n (n := 80) dX6_steps_79 rfl rfl ?_
        refine hg_getR (n := 83) (r := some (33, 0)) dX6_steps_80 rfl fl_X6_18 rfl rfl (mo_s hM) (mo_r hM 3 (by decide)) ?_
        refine hg_iload_n (n := 84) dX6_steps_83 rfl rfl ?_
        refine hg_iaload (n := 85) (len := 12) (p) dX6_steps_84 rfl (by decide) rfl (mo_a hM 3 (by decide)) rfl (by omega) (by decide) ?_
        refine hg_imul (n := 86) dX6_steps_85 rfl ?_
        refine hg_sipush (n := 89) (v := 1000) dX6_steps_86 rfl (by decide) ?_
        refine hg_idiv (n := 90) dX6_steps_89 rfl (by decide) ?_
        refine hg_iastore (n := 91) (len := 8) (i + 1) dX6_steps_90 rfl (by decide) rfl (mo_a hM 13 (by decide)) rfl (by omega) (by decide) ?_
        refine hg_iincN (n := 94) (i) 1 dX6_steps_91 rfl rfl (by decide) (by decide) rfl rfl ?_
        refine hg_goto (tgt := 41) dX6_steps_94 (by decide) ?_
        refine hg_memo ?_ (ih (i + 1) (by omega))
        rw [m_seg_s _ _ _ _ _ (by omega) ?_]
        rw [m_seg_ne _ _ _ _ _ (by decide), m_seg_ne _ _ _ _ _ (by decide), m_seg_ne _ _ _ _ _ (by decide)]
        unfold fl_
        rw [if_neg (by omega), if_pos (by omega)]
        rfl
  refine hg_bipush (n := 2) (v := 6) dX6_steps_0 rfl (by decide) ?_
  refine hg_iload_n (n := 3) dX6_steps_2 rfl rfl ?_
  refine hg_imulN (n := 4) (6) (p) dX6_steps_3 rfl ?_
  refine hg_istore_n (n := 5) dX6_steps_4 rfl (by decide) rfl rfl ?_
  refine hg_aload_n (n := 6) dX6_steps_5 rfl rfl ?_
  refine hg_getR (n := 9) (r := some (31, 0)) dX6_steps_6 rfl fl_X6_11 rfl rfl (mo_s hM) (mo_r hM 1 (by decide)) ?_
  refine hg_iload_n (n := 10) dX6_steps_9 rfl rfl ?_
  refine hg_ialoadN (n := 11) (len := 12) (n) (p) dX6_steps_10 rfl (by decide) rfl (mo_a hM 1 (by decide)) rfl (by omega) (by decide) hn ?_
  refine hg_istore (n := 13) dX6_steps_11 rfl (by decide) rfl rfl ?_
  refine hg_aload_n (n := 14) dX6_steps_13 rfl rfl ?_
  refine hg_getR (n := 17) (r := some (43, 0)) dX6_steps_14 rfl fl_X6_49 rfl rfl (mo_s hM) (mo_r hM 13 (by decide)) ?_
  refine hg_iconst (n := 18) (v := 0) dX6_steps_17 rfl (by decide) ?_
  refine hg_iload_n (n := 19) dX6_steps_18 rfl rfl ?_
  refine hg_aload_n (n := 20) dX6_steps_19 rfl rfl ?_
  refine hg_getR (n := 23) (r := some (40, 0)) dX6_steps_20 rfl fl_X6_40 rfl rfl (mo_s hM) (mo_r hM 10 (by decide)) ?_
  refine hg_iload_n (n := 24) dX6_steps_23 rfl rfl ?_
  refine hg_iaload (n := 25) (len := 72) (6 * p) dX6_steps_24 rfl (by decide) rfl (mo_a hM 10 (by decide)) rfl (by omega) (by decide) ?_
  refine hg_isub (n := 26) dX6_steps_25 rfl ?_
  refine hg_aload_n (n := 27) dX6_steps_26 rfl rfl ?_
  refine hg_getR (n := 30) (r := some (34, 0)) dX6_steps_27 rfl fl_X6_21 rfl rfl (mo_s hM) (mo_r hM 4 (by decide)) ?_
  refine hg_iload_n (n := 31) dX6_steps_30 rfl rfl ?_
  refine hg_iaload (n := 32) (len := 12) (p) dX6_steps_31 rfl (by decide) rfl (mo_a hM 4 (by decide)) rfl (by omega) (by decide) ?_
  refine hg_imul (n := 33) dX6_steps_32 rfl ?_
  refine hg_sipush (n := 36) (v := 1000) dX6_steps_33 rfl (by decide) ?_
  refine hg_idiv (n := 37) dX6_steps_36 rfl (by decide) ?_
  refine hg_iastore (n := 38) (len := 8) (0) dX6_steps_37 rfl (by decide) rfl (mo_a hM 13 (by decide)) rfl (by omega) (by decide) ?_
  refine hg_iconst (n := 39) (v := 0) dX6_steps_38 rfl (by decide) ?_
  refine hg_istore (n := 41) dX6_steps_39 rfl (by decide) rfl rfl ?_
  refine hg_memo ?_ (l1 (n - 1) 0 (by omega))
  rw [← m_seg_0 mi 43 0 (fl_ mi p n g), m_seg_s _ _ _ _ _ rfl ?_, m_seg_0]
  rw [m_seg_0]
  unfold fl_
  rw [if_pos rfl]
end
section
/-! what the steps leave alone -/
theorem tu_m_k {X : MI_} {s f t : Nat} {c : Int32} {k i j : Nat} (h : k ≠ 41) : tu_m X s f t c k i j = X k i j := by
  unfold tu_m
  rw [u_3_ne _ _ (fun q => h q.1), u_3_ne _ _ (fun q => h q.1)]
theorem ch_a_k {X : MI_} {p s : Nat} {k i j : Nat} (h : k ≠ 41) : ch_a X p s k i j = X k i j := by
  unfold ch_a
  split
  · split
    · split
      · split
        · rfl
        · exact tu_m_k h
      · exact tu_m_k h
    · exact tu_m_k h
  · rw [tu_m_k h, tu_m_k h, tu_m_k h]
theorem ch_b_k {X : MI_} {s : Nat} {w : Int32} {k i j : Nat} (h : k ≠ 42) : ch_b X s w k i j = X k i j := by
  unfold ch_b
  split
  · rfl
  · split
    · rfl
    · exact u_3_ne _ _ (fun q => h q.1)
theorem ch_c_k {X : MI_} {s : Nat} {k i j : Nat} (h : k ≠ 42) : ch_c X s k i j = X k i j := by
  unfold ch_c
  split <;> exact u_3_ne _ _ (fun q => h q.1)
theorem ch_m_k {X : MI_} {p s : Nat} {k i j : Nat} (h1 : k ≠ 41) (h2 : k ≠ 42) : ch_m X p s k i j = X k i j := by
  unfold ch_m
  rw [ch_c_k h2, ch_b_k h2, ch_a_k h1]
theorem ch_l_k {X : MI_} {p : Nat} {k i j : Nat} (h1 : k ≠ 41) (h2 : k ≠ 42) : ∀ n, ch_l X p n k i j = X k i j
  | 0 => rfl
  | n + 1 => by rw [ch_l, ch_m_k h1 h2, ch_l_k h1 h2 n]
theorem st_m_k {X : MI_} {p n : Nat} {g : Int32} {k i j : Nat} (h : k ≠ 40 ∧ k ≠ 41 ∧ k ≠ 42 ∧ k ≠ 43) : st_m X p n g k i j = X k i j := by
  unfold st_m st_w
  rw [ch_l_k h.2.1 h.2.2.1, m_seg_ne _ _ _ _ _ h.1, m_seg_ne _ _ _ _ _ h.2.2.2]
/-- many steps of one part -/
def sn_ (X : MI_) (T : ML_) (p n : Nat) (g : Int32) : Nat → MI_ × ML_
  | 0 => (X, T)
  | k + 1 => (st_m (sn_ X T p n g k).1 p n g, st_l (sn_ X T p n g k).1 (sn_ X T p n g k).2 p n g)
theorem sn_k {X : MI_} {T : ML_} {p n : Nat} {g : Int32} {k i j : Nat} (h : k ≠ 40 ∧ k ≠ 41 ∧ k ≠ 42 ∧ k ≠ 43) : ∀ c, (sn_ X T p n g c).1 k i j = X k i j
  | 0 => rfl
  | c + 1 => by rw [sn_]; exact (st_m_k h).trans (sn_k h c)
theorem z_ix {x : Int32} {n : Nat} (hn : n < 2 ^ 31) (h : ¬ z_in x 0 (nI n - 1) = 0) : ∃ j, j < n ∧ x = nI j := by
  obtain ⟨h1, h2⟩ := z_in_ne h
  have h3 : ¬ x < 0 := i32_nlt.mpr h1
  obtain ⟨j, hj, rfl⟩ := nI_of h3
  refine ⟨j, ?_, rfl⟩
  cases n with
  | zero =>
    exfalso
    rw [Int32.le_iff_toInt_le] at h2
    rw [nI_toInt hj] at h2
    have : (nI 0 - 1 : Int32).toInt = -1 := by decide
    omega
  | succ n =>
    rw [nI_pred] at h2
    have := (nI_leI hj (by omega)).mp h2
    omega
theorem z_ix2 {n j : Nat} (hn : n < 2 ^ 31) (h : j < n) : z_in (nI j) 0 (nI n - 1) = 1 := by
  unfold z_in
  cases n with
  | zero => omega
  | succ n =>
    rw [nI_pred, if_pos ⟨nI_pos' (by omega), (nI_leI (by omega) (by omega)).mpr (by omega)⟩]
/-- a number between two, as a natural -/
theorem z_nat {x : Int32} {a b : Nat} (ha : a < 2 ^ 31) (hb : b < 2 ^ 31) (h : ¬ z_in x (nI a) (nI b) = 0) : ∃ j, a ≤ j ∧ j ≤ b ∧ x = nI j := by
  obtain ⟨h1, h2⟩ := z_in_ne h
  rw [Int32.le_iff_toInt_le] at h1 h2
  rw [nI_toInt ha] at h1
  rw [nI_toInt hb] at h2
  have h3 : ¬ x < 0 := by
    rw [Int32.lt_iff_toInt_lt]
    have : (0 : Int32).toInt = 0 := by decide
    omega
  obtain ⟨j, hj, rfl⟩ := nI_of h3
  rw [nI_toInt hj] at h1 h2
  exact ⟨j, by omega, by omega, rfl⟩
theorem z_nat2 {j a b : Nat} (hb : b < 2 ^ 31) (h1 : a ≤ j) (h2 : j ≤ b) : z_in (nI j) (nI a) (nI b) = 1 := by
  unfold z_in
  rw [if_pos ⟨(nI_leI (by omega) (by omega)).mpr h1, (nI_leI (by omega) (by omega)).mpr h2⟩]
theorem z_nat3 {j a b : Nat} (hb : b < 2 ^ 31) (h1 : a ≤ j) (h2 : j ≤ b) : ¬ z_in (nI j) (nI a) (nI b) = 0 := by
  rw [z_nat2 hb h1 h2]; decide
section HNat2
variable {d : Md_} {al : Bool} {sh0 : SH_} {Q : Option V_ → Me_ → Prop} {bc bs : Nat} {pc n : Nat} {ls : List (Option V_)} {st : List V_} {M : Me_}
theorem hg_if_eqN (a : Nat) {off : Int} {tgt : Nat} (hd : decode (md_cc d) pc = .ok (.ifCond .eq off, 3)) (hn : pc + 3 = n) (ht : (pc : Int) + off = (tgt : Int)) (ha : a < 2 ^ 31) (kt : a = 0 → hg_G d al sh0 Q bc bs tgt ls st M) (kf : a ≠ 0 → hg_G d al sh0 Q bc bs n ls st M) : hg_G d al sh0 Q bc bs pc ls (hv_i (nI a) :: st) M :=
  hg_if_eq hd hn ht (fun h => kt ((nI_eq ha (by decide : (0 : Nat) < 2 ^ 31)).mp h)) (fun h => kf (fun q => h (by rw [q]; rfl)))
theorem hg_if_neN (a : Nat) {off : Int} {tgt : Nat} (hd : decode (md_cc d) pc = .ok (.ifCond .ne off, 3)) (hn : pc + 3 = n) (ht : (pc : Int) + off = (tgt : Int)) (ha : a < 2 ^ 31) (kt : a ≠ 0 → hg_G d al sh0 Q bc bs tgt ls st M) (kf : a = 0 → hg_G d al sh0 Q bc bs n ls st M) : hg_G d al sh0 Q bc bs pc ls (hv_i (nI a) :: st) M :=
  hg_if_ne hd hn ht (fun h => kt (fun q => h (by rw [q]; rfl))) (fun h => kf ((nI_eq ha (by decide : (0 : Nat) < 2 ^ 31)).mp h))
theorem hg_if_leN (a : Nat) {off : Int} {tgt : Nat} (hd : decode (md_cc d) pc = .ok (.ifCond .le off, 3)) (hn : pc + 3 = n) (ht : (pc : Int) + off = (tgt : Int)) (ha : a < 2 ^ 31) (kt : a = 0 → hg_G d al sh0 Q bc bs tgt ls st M) (kf : 0 < a → hg_G d al sh0 Q bc bs n ls st M) : hg_G d al sh0 Q bc bs pc ls (hv_i (nI a) :: st) M :=
  hg_if_le hd hn ht (fun h => kt (by have := (nI_leI ha (by decide : (0 : Nat) < 2 ^ 31)).mp h; omega)) (fun h => kf (Nat.pos_of_ne_zero (fun q => h (by rw [q]; decide))))
theorem hg_if_ltN (a : Nat) {off : Int} {tgt : Nat} (hd : decode (md_cc d) pc = .ok (.ifCond .lt off, 3)) (hn : pc + 3 = n) (ha : a < 2 ^ 31) (kf : hg_G d al sh0 Q bc bs n ls st M) (ht : (pc : Int) + off = (tgt : Int)) : hg_G d al sh0 Q bc bs pc ls (hv_i (nI a) :: st) M :=
  hg_if_lt hd hn ht (fun h => absurd h (nI_pos ha)) (fun _ => kf)
end HNat2
end
section
set_option maxHeartbeats 4000000 in
set_option maxRecDepth 100000 in
theorem c_X6_step_b {mi : MI_} {ml : ML_} {mr : MR_} {sh : SH_} (hM : mo_ mr sh) (x g z : Int32) (hb : z_in x 0 (mi 7 0 0 - 1) = 0 ∨ z_in g (-1000) 12000 = 0 ∨ z_in z 1 200 = 0) : hg_Det false yX6_step md_X6_step [hv_r (some (7, 0)), hv_i x, hv_i g, hv_i z] (mi, ml, mr, sh) (some (hv_i (-2))) (mi, ml, mr, sh) := by
  intro Q hQ
  refine hg_intro rfl rfl rfl (Nat.le_of_ble_eq_true rfl) rfl ?_
  refine hg_aload_n (n := 1) dX6_step_0 rfl rfl ?_
  refine hg_iload_n (n := 2) dX6_step_1 rfl rfl ?_
  refine hg_callVd (n := 5) (c_X6_isPart hM _) dX6_step_2 rfl mk_X6_60 yl_X6_isPart yv_X6_isPart rfl (mo_s hM) (by decide) (by decide) rfl rfl (Nat.le_of_ble_eq_true rfl) (fun h => by cases h) ?_
  refine hg_if_eq (n := 8) (tgt := 32) dX6_step_5 rfl (by decide) (fun h5 => ?_) (fun h5 => ?_)
  · refine hg_bipush (n := 34) (v := -2) dX6_step_32 rfl (by decide) ?_
    refine hg_ireturn dX6_step_34 rfl ?_
    exact hQ
  · refine hg_iload_n (n := 9) dX6_step_8 rfl rfl ?_
    refine hg_sipush (n := 12) (v := -1000) dX6_step_9 rfl (by decide) ?_
    refine hg_sipush (n := 15) (v := 12000) dX6_step_12 rfl (by decide) ?_
    refine hg_callSd (n := 18) (c_X6_in _ _ _ _) dX6_step_15 rfl mk_X6_1 yl_X6_in ys_X6_in (by decide) (by decide) rfl rfl (Nat.le_of_ble_eq_true rfl) (fun h => by cases h) ?_
    refine hg_if_eq (n := 21) (tgt := 32) dX6_step_18 rfl (by decide) (fun h18 => ?_) (fun h18 => ?_)
    · refine hg_bipush (n := 34) (v := -2) dX6_step_32 rfl (by decide) ?_
      refine hg_ireturn dX6_step_34 rfl ?_
      exact hQ
    · refine hg_iload_n (n := 22) dX6_step_21 rfl rfl ?_
      refine hg_iconst (n := 23) (v := 1) dX6_step_22 rfl (by decide) ?_
      refine hg_sipush (n := 26) (v := 200) dX6_step_23 rfl (by decide) ?_
      refine hg_callSd (n := 29) (c_X6_in _ _ _ _) dX6_step_26 rfl mk_X6_1 yl_X6_in ys_X6_in (by decide) (by decide) rfl rfl (Nat.le_of_ble_eq_true rfl) (fun h => by cases h) ?_
      refine hg_if_ne (n := 32) (tgt := 35) dX6_step_29 rfl (by decide) (fun h29 => ?_) (fun h29 => ?_)
      · exact absurd hb (by simp [h5, h18, h29])
      · refine hg_bipush (n := 34) (v := -2) dX6_step_32 rfl (by decide) ?_
        refine hg_ireturn dX6_step_34 rfl ?_
        exact hQ

set_option maxHeartbeats 4000000 in
set_option maxRecDepth 100000 in
theorem c_X6_step_n {mi : MI_} {ml : ML_} {mr : MR_} {sh : SH_} (hM : mo_ mr sh) (np : Nat) (hnp : mi 7 0 0 = nI np) (hn12 : np ≤ 12) (p : Nat) (hp : p < np) (g z : Int32) (hg : ¬ z_in g (-1000) 12000 = 0) (hz : ¬ z_in z 1 200 = 0) (hw : ¬ mi 38 0 p = -1) : hg_Det false yX6_step md_X6_step [hv_r (some (7, 0)), hv_i (nI p), hv_i g, hv_i z] (mi, ml, mr, sh) (some (hv_i (-3))) (mi, ml, mr, sh) := by
  intro Q hQ
  refine hg_intro rfl rfl rfl (Nat.le_of_ble_eq_true rfl) rfl ?_
  refine hg_aload_n (n := 1) dX6_step_0 rfl rfl ?_
  refine hg_iload_n (n := 2) dX6_step_1 rfl rfl ?_
  refine hg_callVd (n := 5) (c_X6_isPart hM _) dX6_step_2 rfl mk_X6_60 yl_X6_isPart yv_X6_isPart rfl (mo_s hM) (by decide) (by decide) rfl rfl (Nat.le_of_ble_eq_true rfl) (fun h => by cases h) ?_
  refine hg_if_eq (n := 8) (tgt := 32) dX6_step_5 rfl (by decide) (fun h5 => ?_) (fun h5 => ?_)
  · exact absurd h5 (by rw [hnp, z_ix2 (by omega) hp]; decide)
  · refine hg_iload_n (n := 9) dX6_step_8 rfl rfl ?_
    refine hg_sipush (n := 12) (v := -1000) dX6_step_9 rfl (by decide) ?_
    refine hg_sipush (n := 15) (v := 12000) dX6_step_12 rfl (by decide) ?_
    refine hg_callSd (n := 18) (c_X6_in _ _ _ _) dX6_step_15 rfl mk_X6_1 yl_X6_in ys_X6_in (by decide) (by decide) rfl rfl (Nat.le_of_ble_eq_true rfl) (fun h => by cases h) ?_
    refine hg_if_eq (n := 21) (tgt := 32) dX6_step_18 rfl (by decide) (fun h18 => ?_) (fun h18 => ?_)
    · exact absurd h18 hg
    · refine hg_iload_n (n := 22) dX6_step_21 rfl rfl ?_
      refine hg_iconst (n := 23) (v := 1) dX6_step_22 rfl (by decide) ?_
      refine hg_sipush (n := 26) (v := 200) dX6_step_23 rfl (by decide) ?_
      refine hg_callSd (n := 29) (c_X6_in _ _ _ _) dX6_step_26 rfl mk_X6_1 yl_X6_in ys_X6_in (by decide) (by decide) rfl rfl (Nat.le_of_ble_eq_true rfl) (fun h => by cases h) ?_
      refine hg_if_ne (n := 32) (tgt := 35) dX6_step_29 rfl (by decide) (fun h29 => ?_) (fun h29 => ?_)
      · refine hg_aload_n (n := 36) dX6_step_35 rfl rfl ?_
        refine hg_getR (n := 39) (r := some (38, 0)) dX6_step_36 rfl fl_X6_34 rfl rfl (mo_s hM) (mo_r hM 8 (by decide)) ?_
        refine hg_iload_n (n := 40) dX6_step_39 rfl rfl ?_
        refine hg_iaload (n := 41) (len := 12) (p) dX6_step_40 rfl (by decide) rfl (mo_a hM 8 (by decide)) rfl (by omega) (by decide) ?_
        refine hg_iconst (n := 42) (v := -1) dX6_step_41 rfl (by decide) ?_
        refine hg_icmp_eq (n := 45) (tgt := 48) dX6_step_42 rfl (by decide) (fun h42 => ?_) (fun h42 => ?_)
        · exact absurd h42 hw
        · refine hg_bipush (n := 47) (v := -3) dX6_step_45 rfl (by decide) ?_
          refine hg_ireturn dX6_step_47 rfl ?_
          exact hQ
      · exact absurd h29 hz

set_option maxHeartbeats 4000000 in
set_option maxRecDepth 100000 in
theorem c_X6_step {mi : MI_} {ml : ML_} {mr : MR_} {sh : SH_} (hM : mo_ mr sh) (np : Nat) (hnp : mi 7 0 0 = nI np) (hn12 : np ≤ 12) (p : Nat) (hp : p < np) (n : Nat) (hn : mi 31 0 p = nI n) (h1 : 1 ≤ n) (h6 : n ≤ 6) (g : Int32) (z : Nat) (hz9 : z ≤ 200) (hg : ¬ z_in g (-1000) 12000 = 0) (hz : ¬ z_in (nI z) 1 200 = 0) (hw : mi 38 0 p = -1) : hg_Det false yX6_step md_X6_step [hv_r (some (7, 0)), hv_i (nI p), hv_i g, hv_i (nI z)] (mi, ml, mr, sh) (some (hv_i ((sn_ mi ml p n g z).1 40 0 (6 * p + n - 1)))) ((sn_ mi ml p n g z).1, (sn_ mi ml p n g z).2, mr, sh) := by
  intro Q hQ
  refine hg_intro rfl rfl rfl (Nat.le_of_ble_eq_true rfl) rfl ?_
  have loop : ∀ m i, i + m = z → hg_G md_X6_step false sh Q 0 0 51 [some (hv_r (some (7, 0))), some (hv_i (nI p)), some (hv_i g), some (hv_i (nI z)), some (hv_i (nI i))] [] ((sn_ mi ml p n g i).1, (sn_ mi ml p n g i).2, mr, sh) := by
    intro m
    induction m with
    | zero =>
      intro i hi
      refine hg_iload (n := 53) dX6_step_51 rfl rfl ?_
      refine hg_iload_n (n := 54) dX6_step_53 rfl rfl ?_
      refine hg_icmp_geN (n := 57) (tgt := 69) (i) (z) dX6_step_54 rfl (by decide) (by omega) (by omega) (fun h54 => ?_) (fun h54 => ?_)
      · have e := show i = z by omega
        subst e
        refine hg_aload_n (n := 70) dX6_step_69 rfl rfl ?_
        refine hg_iload_n (n := 71) dX6_step_70 rfl rfl ?_
        refine hg_callVd (n := 74) (c_X6_innermost hM (p) n (by omega) ((sn_k (by decide) i).trans hn) (by omega) (by omega)) dX6_step_71 rfl mk_X6_67 yl_X6_innermost yv_X6_innermost rfl (mo_s hM) (by decide) (by decide) rfl rfl (Nat.le_of_ble_eq_true rfl) (fun h => by cases h) ?_
        refine hg_ireturn dX6_step_74 rfl ?_
        exact hQ
      · exact absurd h54 (by omega)
    | succ m ih =>
      intro i hi
      refine hg_iload (n := 53) dX6_step_51 rfl rfl ?_
      refine hg_iload_n (n := 54) dX6_step_53 rfl rfl ?_
      refine hg_icmp_geN (n := 57) (tgt := 69) (i) (z) dX6_step_54 rfl (by decide) (by omega) (by omega) (fun h54 => ?_) (fun h54 => ?_)
      · exact absurd h54 (by omega)
      · refine hg_aload_n (n := 58) dX6_step_57 rfl rfl ?_
        refine hg_iload_n (n := 59) dX6_step_58 rfl rfl ?_
        refine hg_iload_n (n := 60) dX6_step_59 rfl rfl ?_
        refine hg_callVd (n := 63) (c_X6_steps hM (p) n _ (by omega) ((sn_k (by decide) i).trans hn) (by omega) (by omega)) dX6_step_60 rfl mk_X6_64 yl_X6_steps yv_X6_steps rfl (mo_s hM) (by decide) (by decide) rfl rfl (Nat.le_of_ble_eq_true rfl) (fun h => by cases h) ?_
        refine hg_iincN (n := 66) (i) 1 dX6_step_63 rfl rfl (by decide) (by decide) rfl rfl ?_
        refine hg_goto (tgt := 51) dX6_step_66 (by decide) ?_
        exact ih (i + 1) (by omega)
  refine hg_aload_n (n := 1) dX6_step_0 rfl rfl ?_
  refine hg_iload_n (n := 2) dX6_step_1 rfl rfl ?_
  refine hg_callVd (n := 5) (c_X6_isPart hM _) dX6_step_2 rfl mk_X6_60 yl_X6_isPart yv_X6_isPart rfl (mo_s hM) (by decide) (by decide) rfl rfl (Nat.le_of_ble_eq_true rfl) (fun h => by cases h) ?_
  refine hg_if_eq (n := 8) (tgt := 32) dX6_step_5 rfl (by decide) (fun h5 => ?_) (fun h5 => ?_)
  · exact absurd h5 (by rw [hnp, z_ix2 (by omega) hp]; decide)
  · refine hg_iload_n (n := 9) dX6_step_8 rfl rfl ?_
    refine hg_sipush (n := 12) (v := -1000) dX6_step_9 rfl (by decide) ?_
    refine hg_sipush (n := 15) (v := 12000) dX6_step_12 rfl (by decide) ?_
    refine hg_callSd (n := 18) (c_X6_in _ _ _ _) dX6_step_15 rfl mk_X6_1 yl_X6_in ys_X6_in (by decide) (by decide) rfl rfl (Nat.le_of_ble_eq_true rfl) (fun h => by cases h) ?_
    refine hg_if_eq (n := 21) (tgt := 32) dX6_step_18 rfl (by decide) (fun h18 => ?_) (fun h18 => ?_)
    · exact absurd h18 hg
    · refine hg_iload_n (n := 22) dX6_step_21 rfl rfl ?_
      refine hg_iconst (n := 23) (v := 1) dX6_step_22 rfl (by decide) ?_
      refine hg_sipush (n := 26) (v := 200) dX6_step_23 rfl (by decide) ?_
      refine hg_callSd (n := 29) (c_X6_in _ _ _ _) dX6_step_26 rfl mk_X6_1 yl_X6_in ys_X6_in (by decide) (by decide) rfl rfl (Nat.le_of_ble_eq_true rfl) (fun h => by cases h) ?_
      refine hg_if_ne (n := 32) (tgt := 35) dX6_step_29 rfl (by decide) (fun h29 => ?_) (fun h29 => ?_)
      · refine hg_aload_n (n := 36) dX6_step_35 rfl rfl ?_
        refine hg_getR (n := 39) (r := some (38, 0)) dX6_step_36 rfl fl_X6_34 rfl rfl (mo_s hM) (mo_r hM 8 (by decide)) ?_
        refine hg_iload_n (n := 40) dX6_step_39 rfl rfl ?_
        refine hg_iaload (n := 41) (len := 12) (p) dX6_step_40 rfl (by decide) rfl (mo_a hM 8 (by decide)) rfl (by omega) (by decide) ?_
        refine hg_iconst (n := 42) (v := -1) dX6_step_41 rfl (by decide) ?_
        refine hg_icmp_eq (n := 45) (tgt := 48) dX6_step_42 rfl (by decide) (fun h42 => ?_) (fun h42 => ?_)
        · refine hg_iconst (n := 49) (v := 0) dX6_step_48 rfl (by decide) ?_
          refine hg_istore (n := 51) dX6_step_49 rfl (by decide) rfl rfl ?_
          exact loop z 0 (by omega)
        · exact absurd hw h42
      · exact absurd h29 hz

set_option maxHeartbeats 4000000 in
set_option maxRecDepth 100000 in
theorem c_X6_shell_b {mi : MI_} {ml : ML_} {mr : MR_} {sh : SH_} (hM : mo_ mr sh) (x i w : Int32) (hb : z_in x 0 (mi 7 0 0 - 1) = 0) : hg_Det false yX6_shell md_X6_shell [hv_r (some (7, 0)), hv_i x, hv_i i, hv_i w] (mi, ml, mr, sh) (some (hv_i (-100000))) (mi, ml, mr, sh) := by
  intro Q hQ
  refine hg_intro rfl rfl rfl (Nat.le_of_ble_eq_true rfl) rfl ?_
  refine hg_aload_n (n := 1) dX6_shell_0 rfl rfl ?_
  refine hg_iload_n (n := 2) dX6_shell_1 rfl rfl ?_
  refine hg_callVd (n := 5) (c_X6_isPart hM _) dX6_shell_2 rfl mk_X6_60 yl_X6_isPart yv_X6_isPart rfl (mo_s hM) (by decide) (by decide) rfl rfl (Nat.le_of_ble_eq_true rfl) (fun h => by cases h) ?_
  refine hg_if_eq (n := 8) (tgt := 34) dX6_shell_5 rfl (by decide) (fun h5 => ?_) (fun h5 => ?_)
  · refine hg_ldc (n := 36) dX6_shell_34 rfl kc_X6_71 ?_
    refine hg_ireturn dX6_shell_36 rfl ?_
    exact hQ
  · exact absurd hb h5

set_option maxHeartbeats 4000000 in
set_option maxRecDepth 100000 in
theorem c_X6_shell_c {mi : MI_} {ml : ML_} {mr : MR_} {sh : SH_} (hM : mo_ mr sh) (np : Nat) (hnp : mi 7 0 0 = nI np) (hn12 : np ≤ 12) (p : Nat) (hp : p < np) (n : Nat) (hn : mi 31 0 p = nI n) (h1 : 1 ≤ n) (h6 : n ≤ 6) (i w : Int32) (hb : z_in i 0 (nI (n - 1)) = 0 ∨ z_in w 0 6 = 0) : hg_Det false yX6_shell md_X6_shell [hv_r (some (7, 0)), hv_i (nI p), hv_i i, hv_i w] (mi, ml, mr, sh) (some (hv_i (-100000))) (mi, ml, mr, sh) := by
  intro Q hQ
  refine hg_intro rfl rfl rfl (Nat.le_of_ble_eq_true rfl) rfl ?_
  refine hg_aload_n (n := 1) dX6_shell_0 rfl rfl ?_
  refine hg_iload_n (n := 2) dX6_shell_1 rfl rfl ?_
  refine hg_callVd (n := 5) (c_X6_isPart hM _) dX6_shell_2 rfl mk_X6_60 yl_X6_isPart yv_X6_isPart rfl (mo_s hM) (by decide) (by decide) rfl rfl (Nat.le_of_ble_eq_true rfl) (fun h => by cases h) ?_
  refine hg_if_eq (n := 8) (tgt := 34) dX6_shell_5 rfl (by decide) (fun h5 => ?_) (fun h5 => ?_)
  · exact absurd h5 (by rw [hnp, z_ix2 (by omega) hp]; decide)
  · refine hg_iload_n (n := 9) dX6_shell_8 rfl rfl ?_
    refine hg_iconst (n := 10) (v := 0) dX6_shell_9 rfl (by decide) ?_
    refine hg_aload_n (n := 11) dX6_shell_10 rfl rfl ?_
    refine hg_getR (n := 14) (r := some (31, 0)) dX6_shell_11 rfl fl_X6_11 rfl rfl (mo_s hM) (mo_r hM 1 (by decide)) ?_
    refine hg_iload_n (n := 15) dX6_shell_14 rfl rfl ?_
    refine hg_ialoadN (n := 16) (len := 12) (n) (p) dX6_shell_15 rfl (by decide) rfl (mo_a hM 1 (by decide)) rfl (by omega) (by decide) hn ?_
    refine hg_iconst (n := 17) (v := 1) dX6_shell_16 rfl (by decide) ?_
    refine hg_isubN (n := 18) (n) (1) dX6_shell_17 rfl (by omega) ?_
    refine hg_callSd (n := 21) (c_X6_in _ _ _ _) dX6_shell_18 rfl mk_X6_1 yl_X6_in ys_X6_in (by decide) (by decide) rfl rfl (Nat.le_of_ble_eq_true rfl) (fun h => by cases h) ?_
    refine hg_if_eq (n := 24) (tgt := 34) dX6_shell_21 rfl (by decide) (fun h21 => ?_) (fun h21 => ?_)
    · refine hg_ldc (n := 36) dX6_shell_34 rfl kc_X6_71 ?_
      refine hg_ireturn dX6_shell_36 rfl ?_
      exact hQ
    · refine hg_iload_n (n := 25) dX6_shell_24 rfl rfl ?_
      refine hg_iconst (n := 26) (v := 0) dX6_shell_25 rfl (by decide) ?_
      refine hg_bipush (n := 28) (v := 6) dX6_shell_26 rfl (by decide) ?_
      refine hg_callSd (n := 31) (c_X6_in _ _ _ _) dX6_shell_28 rfl mk_X6_1 yl_X6_in ys_X6_in (by decide) (by decide) rfl rfl (Nat.le_of_ble_eq_true rfl) (fun h => by cases h) ?_
      refine hg_if_ne (n := 34) (tgt := 37) dX6_shell_31 rfl (by decide) (fun h31 => ?_) (fun h31 => ?_)
      · exact absurd hb (by simp [h21, h31])
      · refine hg_ldc (n := 36) dX6_shell_34 rfl kc_X6_71 ?_
        refine hg_ireturn dX6_shell_36 rfl ?_
        exact hQ

def sv_ (X : MI_) (s w : Nat) : Int32 := if w = 0 then X 40 0 s else if 5 ≤ w then (if w = 5 then X 42 0 s else ha_ X s) else X 41 0 (4 * s + w - 1)
set_option maxHeartbeats 4000000 in
set_option maxRecDepth 100000 in
theorem c_X6_shell {mi : MI_} {ml : ML_} {mr : MR_} {sh : SH_} (hM : mo_ mr sh) (np : Nat) (hnp : mi 7 0 0 = nI np) (hn12 : np ≤ 12) (p : Nat) (hp : p < np) (n : Nat) (hn : mi 31 0 p = nI n) (h1 : 1 ≤ n) (h6 : n ≤ 6) (i w : Nat) (hi : i < n) (hw : w ≤ 6) : hg_Det false yX6_shell md_X6_shell [hv_r (some (7, 0)), hv_i (nI p), hv_i (nI i), hv_i (nI w)] (mi, ml, mr, sh) (some (hv_i (sv_ mi (6 * p + i) w))) (mi, ml, mr, sh) := by
  intro Q hQ
  refine hg_intro rfl rfl rfl (Nat.le_of_ble_eq_true rfl) rfl ?_
  refine hg_aload_n (n := 1) dX6_shell_0 rfl rfl ?_
  refine hg_iload_n (n := 2) dX6_shell_1 rfl rfl ?_
  refine hg_callVd (n := 5) (c_X6_isPart hM _) dX6_shell_2 rfl mk_X6_60 yl_X6_isPart yv_X6_isPart rfl (mo_s hM) (by decide) (by decide) rfl rfl (Nat.le_of_ble_eq_true rfl) (fun h => by cases h) ?_
  refine hg_if_eq (n := 8) (tgt := 34) dX6_shell_5 rfl (by decide) (fun h5 => ?_) (fun h5 => ?_)
  · exact absurd h5 (by rw [hnp, z_ix2 (by omega) hp]; decide)
  · refine hg_iload_n (n := 9) dX6_shell_8 rfl rfl ?_
    refine hg_iconst (n := 10) (v := 0) dX6_shell_9 rfl (by decide) ?_
    refine hg_aload_n (n := 11) dX6_shell_10 rfl rfl ?_
    refine hg_getR (n := 14) (r := some (31, 0)) dX6_shell_11 rfl fl_X6_11 rfl rfl (mo_s hM) (mo_r hM 1 (by decide)) ?_
    refine hg_iload_n (n := 15) dX6_shell_14 rfl rfl ?_
    refine hg_ialoadN (n := 16) (len := 12) (n) (p) dX6_shell_15 rfl (by decide) rfl (mo_a hM 1 (by decide)) rfl (by omega) (by decide) hn ?_
    refine hg_iconst (n := 17) (v := 1) dX6_shell_16 rfl (by decide) ?_
    refine hg_isubN (n := 18) (n) (1) dX6_shell_17 rfl (by omega) ?_
    refine hg_callSd (n := 21) (c_X6_in _ _ _ _) dX6_shell_18 rfl mk_X6_1 yl_X6_in ys_X6_in (by decide) (by decide) rfl rfl (Nat.le_of_ble_eq_true rfl) (fun h => by cases h) ?_
    refine hg_if_eq (n := 24) (tgt := 34) dX6_shell_21 rfl (by decide) (fun h21 => ?_) (fun h21 => ?_)
    · exact absurd h21 (z_nat3 (a := 0) (by omega) (by omega) (by omega))
    · refine hg_iload_n (n := 25) dX6_shell_24 rfl rfl ?_
      refine hg_iconst (n := 26) (v := 0) dX6_shell_25 rfl (by decide) ?_
      refine hg_bipush (n := 28) (v := 6) dX6_shell_26 rfl (by decide) ?_
      refine hg_callSd (n := 31) (c_X6_in _ _ _ _) dX6_shell_28 rfl mk_X6_1 yl_X6_in ys_X6_in (by decide) (by decide) rfl rfl (Nat.le_of_ble_eq_true rfl) (fun h => by cases h) ?_
      refine hg_if_ne (n := 34) (tgt := 37) dX6_shell_31 rfl (by decide) (fun h31 => ?_) (fun h31 => ?_)
      · refine hg_bipush (n := 39) (v := 6) dX6_shell_37 rfl (by decide) ?_
        refine hg_iload_n (n := 40) dX6_shell_39 rfl rfl ?_
        refine hg_imulN (n := 41) (6) (p) dX6_shell_40 rfl ?_
        refine hg_iload_n (n := 42) dX6_shell_41 rfl rfl ?_
        refine hg_iaddN (n := 43) (6 * p) (i) dX6_shell_42 rfl ?_
        refine hg_istore (n := 45) dX6_shell_43 rfl (by decide) rfl rfl ?_
        refine hg_iload_n (n := 46) dX6_shell_45 rfl rfl ?_
        refine hg_if_neN (n := 49) (tgt := 59) (w) dX6_shell_46 rfl (by decide) (by omega) (fun h46 => ?_) (fun h46 => ?_)
        · refine hg_iload_n (n := 60) dX6_shell_59 rfl rfl ?_
          refine hg_iconst (n := 61) (v := 5) dX6_shell_60 rfl (by decide) ?_
          refine hg_icmp_geN (n := 64) (tgt := 80) (w) (5) dX6_shell_61 rfl (by decide) (by omega) (by omega) (fun h61 => ?_) (fun h61 => ?_)
          · refine hg_iload_n (n := 81) dX6_shell_80 rfl rfl ?_
            refine hg_iconst (n := 82) (v := 5) dX6_shell_81 rfl (by decide) ?_
            refine hg_icmp_neN (n := 85) (tgt := 95) (w) (5) dX6_shell_82 rfl (by decide) (by omega) (by omega) (fun h82 => ?_) (fun h82 => ?_)
            · refine hg_aload_n (n := 96) dX6_shell_95 rfl rfl ?_
              refine hg_iload (n := 98) dX6_shell_96 rfl rfl ?_
              refine hg_callVd (n := 101) (c_X6_hardness hM ((6 * p) + i) (by omega)) dX6_shell_98 rfl mk_X6_72 yl_X6_hardness yv_X6_hardness rfl (mo_s hM) (by decide) (by decide) rfl rfl (Nat.le_of_ble_eq_true rfl) (fun h => by cases h) ?_
              refine hg_ireturn dX6_shell_101 rfl ?_
              unfold sv_ at hQ
              rw [if_neg (by omega), if_pos (by omega), if_neg (by omega)] at hQ
              exact hQ
            · refine hg_aload_n (n := 86) dX6_shell_85 rfl rfl ?_
              refine hg_getR (n := 89) (r := some (42, 0)) dX6_shell_86 rfl fl_X6_43 rfl rfl (mo_s hM) (mo_r hM 12 (by decide)) ?_
              refine hg_iload (n := 91) dX6_shell_89 rfl rfl ?_
              refine hg_iaload (n := 92) (len := 72) ((6 * p) + i) dX6_shell_91 rfl (by decide) rfl (mo_a hM 12 (by decide)) rfl (by omega) (by decide) ?_
              refine hg_goto (tgt := 101) dX6_shell_92 (by decide) ?_
              refine hg_ireturn dX6_shell_101 rfl ?_
              unfold sv_ at hQ
              rw [if_neg (by omega), if_pos (by omega), if_pos (by omega)] at hQ
              exact hQ
          · refine hg_aload_n (n := 65) dX6_shell_64 rfl rfl ?_
            refine hg_getR (n := 68) (r := some (41, 0)) dX6_shell_65 rfl fl_X6_46 rfl rfl (mo_s hM) (mo_r hM 11 (by decide)) ?_
            refine hg_iconst (n := 69) (v := 4) dX6_shell_68 rfl (by decide) ?_
            refine hg_iload (n := 71) dX6_shell_69 rfl rfl ?_
            refine hg_imulN (n := 72) (4) ((6 * p) + i) dX6_shell_71 rfl ?_
            refine hg_iload_n (n := 73) dX6_shell_72 rfl rfl ?_
            refine hg_iaddN (n := 74) (4 * ((6 * p) + i)) (w) dX6_shell_73 rfl ?_
            refine hg_iconst (n := 75) (v := 1) dX6_shell_74 rfl (by decide) ?_
            refine hg_isubN (n := 76) ((4 * ((6 * p) + i)) + w) (1) dX6_shell_75 rfl (by omega) ?_
            refine hg_iaload (n := 77) (len := 288) (((4 * ((6 * p) + i)) + w) - 1) dX6_shell_76 rfl (by decide) rfl (mo_a hM 11 (by decide)) rfl (by omega) (by decide) ?_
            refine hg_goto (tgt := 101) dX6_shell_77 (by decide) ?_
            refine hg_ireturn dX6_shell_101 rfl ?_
            unfold sv_ at hQ
            rw [if_neg (by omega), if_neg (by omega)] at hQ
            exact hQ
        · refine hg_aload_n (n := 50) dX6_shell_49 rfl rfl ?_
          refine hg_getR (n := 53) (r := some (40, 0)) dX6_shell_50 rfl fl_X6_40 rfl rfl (mo_s hM) (mo_r hM 10 (by decide)) ?_
          refine hg_iload (n := 55) dX6_shell_53 rfl rfl ?_
          refine hg_iaload (n := 56) (len := 72) ((6 * p) + i) dX6_shell_55 rfl (by decide) rfl (mo_a hM 10 (by decide)) rfl (by omega) (by decide) ?_
          refine hg_goto (tgt := 101) dX6_shell_56 (by decide) ?_
          refine hg_ireturn dX6_shell_101 rfl ?_
          unfold sv_ at hQ
          rw [if_pos (by omega)] at hQ
          exact hQ
      · exact absurd h31 (z_nat3 (a := 0) (b := 6) (by omega) (by omega) (by omega))

set_option maxHeartbeats 4000000 in
set_option maxRecDepth 100000 in
theorem c_X6_taken_b {mi : MI_} {ml : ML_} {mr : MR_} {sh : SH_} (hM : mo_ mr sh) (x : Int32) (hb : z_in x 0 (mi 7 0 0 - 1) = 0) : hg_Det false yX6_taken md_X6_taken [hv_r (some (7, 0)), hv_i x] (mi, ml, mr, sh) (some (hv_l (-9999999999))) (mi, ml, mr, sh) := by
  intro Q hQ
  refine hg_intro rfl rfl rfl (Nat.le_of_ble_eq_true rfl) rfl ?_
  refine hg_aload_n (n := 1) dX6_taken_0 rfl rfl ?_
  refine hg_iload_n (n := 2) dX6_taken_1 rfl rfl ?_
  refine hg_callVd (n := 5) (c_X6_isPart hM _) dX6_taken_2 rfl mk_X6_60 yl_X6_isPart yv_X6_isPart rfl (mo_s hM) (by decide) (by decide) rfl rfl (Nat.le_of_ble_eq_true rfl) (fun h => by cases h) ?_
  refine hg_if_eq (n := 8) (tgt := 17) dX6_taken_5 rfl (by decide) (fun h5 => ?_) (fun h5 => ?_)
  · refine hg_ldc2 (n := 20) dX6_taken_17 rfl kc_X6_75 ?_
    refine hg_lreturn dX6_taken_20 rfl ?_
    exact hQ
  · exact absurd hb h5

set_option maxHeartbeats 4000000 in
set_option maxRecDepth 100000 in
theorem c_X6_taken {mi : MI_} {ml : ML_} {mr : MR_} {sh : SH_} (hM : mo_ mr sh) (np : Nat) (hnp : mi 7 0 0 = nI np) (hn12 : np ≤ 12) (p : Nat) (hp : p < np)  : hg_Det false yX6_taken md_X6_taken [hv_r (some (7, 0)), hv_i (nI p)] (mi, ml, mr, sh) (some (hv_l (ml 37 0 p))) (mi, ml, mr, sh) := by
  intro Q hQ
  refine hg_intro rfl rfl rfl (Nat.le_of_ble_eq_true rfl) rfl ?_
  refine hg_aload_n (n := 1) dX6_taken_0 rfl rfl ?_
  refine hg_iload_n (n := 2) dX6_taken_1 rfl rfl ?_
  refine hg_callVd (n := 5) (c_X6_isPart hM _) dX6_taken_2 rfl mk_X6_60 yl_X6_isPart yv_X6_isPart rfl (mo_s hM) (by decide) (by decide) rfl rfl (Nat.le_of_ble_eq_true rfl) (fun h => by cases h) ?_
  refine hg_if_eq (n := 8) (tgt := 17) dX6_taken_5 rfl (by decide) (fun h5 => ?_) (fun h5 => ?_)
  · exact absurd h5 (by rw [hnp, z_ix2 (by omega) hp]; decide)
  · refine hg_aload_n (n := 9) dX6_taken_8 rfl rfl ?_
    refine hg_getR (n := 12) (r := some (37, 0)) dX6_taken_9 rfl fl_X6_30 rfl rfl (mo_s hM) (mo_r hM 7 (by decide)) ?_
    refine hg_iload_n (n := 13) dX6_taken_12 rfl rfl ?_
    refine hg_laload (n := 14) (len := 12) (p) dX6_taken_13 rfl (by decide) rfl (mo_a hM 7 (by decide)) rfl (by omega) (by decide) ?_
    refine hg_goto (tgt := 20) dX6_taken_14 (by decide) ?_
    refine hg_lreturn dX6_taken_20 rfl ?_
    exact hQ

set_option maxHeartbeats 4000000 in
set_option maxRecDepth 100000 in
theorem c_X6_kept_b {mi : MI_} {ml : ML_} {mr : MR_} {sh : SH_} (hM : mo_ mr sh) (x : Int32) (hb : z_in x 0 (mi 7 0 0 - 1) = 0) : hg_Det false yX6_kept md_X6_kept [hv_r (some (7, 0)), hv_i x] (mi, ml, mr, sh) (some (hv_l 1)) (mi, ml, mr, sh) := by
  intro Q hQ
  refine hg_intro rfl rfl rfl (Nat.le_of_ble_eq_true rfl) rfl ?_
  refine hg_aload_n (n := 1) dX6_kept_0 rfl rfl ?_
  refine hg_iload_n (n := 2) dX6_kept_1 rfl rfl ?_
  refine hg_callVd (n := 5) (c_X6_isPart hM _) dX6_kept_2 rfl mk_X6_60 yl_X6_isPart yv_X6_isPart rfl (mo_s hM) (by decide) (by decide) rfl rfl (Nat.le_of_ble_eq_true rfl) (fun h => by cases h) ?_
  refine hg_if_ne (n := 8) (tgt := 10) dX6_kept_5 rfl (by decide) (fun h5 => ?_) (fun h5 => ?_)
  · exact absurd hb h5
  · refine hg_lconst (n := 9) (v := 1) dX6_kept_8 rfl (by decide) ?_
    refine hg_lreturn dX6_kept_9 rfl ?_
    exact hQ

def kp_ (X : MI_) (T : ML_) (p : Nat) : Nat → Int64
  | 0 => 0 - T 37 0 p
  | i + 1 => kp_ X T p i + (X 40 0 (6 * p + i) - 200).toInt64
set_option maxHeartbeats 4000000 in
set_option maxRecDepth 100000 in
theorem c_X6_kept {mi : MI_} {ml : ML_} {mr : MR_} {sh : SH_} (hM : mo_ mr sh) (np : Nat) (hnp : mi 7 0 0 = nI np) (hn12 : np ≤ 12) (p : Nat) (hp : p < np) (n : Nat) (hn : mi 31 0 p = nI n) (h1 : 1 ≤ n) (h6 : n ≤ 6)  : hg_Det false yX6_kept md_X6_kept [hv_r (some (7, 0)), hv_i (nI p)] (mi, ml, mr, sh) (some (hv_l (kp_ mi ml p n))) (mi, ml, mr, sh) := by
  intro Q hQ
  refine hg_intro rfl rfl rfl (Nat.le_of_ble_eq_true rfl) rfl ?_
  have loop : ∀ m i, i + m = n → hg_G md_X6_kept false sh Q 0 0 22 [some (hv_r (some (7, 0))), some (hv_i (nI p)), some (hv_l (kp_ mi ml p i)), none, some (hv_i (nI i))] [] (mi, ml, mr, sh) := by
    intro m
    induction m with
    | zero =>
      intro i hi
      refine hg_iload (n := 24) dX6_kept_22 rfl rfl ?_
      refine hg_aload_n (n := 25) dX6_kept_24 rfl rfl ?_
      refine hg_getR (n := 28) (r := some (31, 0)) dX6_kept_25 rfl fl_X6_11 rfl rfl (mo_s hM) (mo_r hM 1 (by decide)) ?_
      refine hg_iload_n (n := 29) dX6_kept_28 rfl rfl ?_
      refine hg_ialoadN (n := 30) (len := 12) (n) (p) dX6_kept_29 rfl (by decide) rfl (mo_a hM 1 (by decide)) rfl (by omega) (by decide) hn ?_
      refine hg_icmp_geN (n := 33) (tgt := 59) (i) (n) dX6_kept_30 rfl (by decide) (by omega) (by omega) (fun h30 => ?_) (fun h30 => ?_)
      · have e := show i = n by omega
        subst e
        refine hg_lload_n (n := 60) dX6_kept_59 rfl rfl ?_
        refine hg_lreturn dX6_kept_60 rfl ?_
        exact hQ
      · exact absurd h30 (by omega)
    | succ m ih =>
      intro i hi
      refine hg_iload (n := 24) dX6_kept_22 rfl rfl ?_
      refine hg_aload_n (n := 25) dX6_kept_24 rfl rfl ?_
      refine hg_getR (n := 28) (r := some (31, 0)) dX6_kept_25 rfl fl_X6_11 rfl rfl (mo_s hM) (mo_r hM 1 (by decide)) ?_
      refine hg_iload_n (n := 29) dX6_kept_28 rfl rfl ?_
      refine hg_ialoadN (n := 30) (len := 12) (n) (p) dX6_kept_29 rfl (by decide) rfl (mo_a hM 1 (by decide)) rfl (by omega) (by decide) hn ?_
      refine hg_icmp_geN (n := 33) (tgt := 59) (i) (n) dX6_kept_30 rfl (by decide) (by omega) (by omega) (fun h30 => ?_) (fun h30 => ?_)
      · exact absurd h30 (by omega)
      · refine hg_lload_n (n := 34) dX6_kept_33 rfl rfl ?_
        refine hg_aload_n (n := 35) dX6_kept_34 rfl rfl ?_
        refine hg_getR (n := 38) (r := some (40, 0)) dX6_kept_35 rfl fl_X6_40 rfl rfl (mo_s hM) (mo_r hM 10 (by decide)) ?_
        refine hg_bipush (n := 40) (v := 6) dX6_kept_38 rfl (by decide) ?_
        refine hg_iload_n (n := 41) dX6_kept_40 rfl rfl ?_
        refine hg_imulN (n := 42) (6) (p) dX6_kept_41 rfl ?_
        refine hg_iload (n := 44) dX6_kept_42 rfl rfl ?_
        refine hg_iaddN (n := 45) (6 * p) (i) dX6_kept_44 rfl ?_
        refine hg_iaload (n := 46) (len := 72) ((6 * p) + i) dX6_kept_45 rfl (by decide) rfl (mo_a hM 10 (by decide)) rfl (by omega) (by decide) ?_
        refine hg_sipush (n := 49) (v := 200) dX6_kept_46 rfl (by decide) ?_
        refine hg_isub (n := 50) dX6_kept_49 rfl ?_
        refine hg_i2l (n := 51) dX6_kept_50 rfl ?_
        refine hg_ladd (n := 52) dX6_kept_51 rfl ?_
        refine hg_lstore_n (n := 53) dX6_kept_52 rfl (by decide) rfl rfl ?_
        refine hg_iincN (n := 56) (i) 1 dX6_kept_53 rfl rfl (by decide) (by decide) rfl rfl ?_
        refine hg_goto (tgt := 22) dX6_kept_56 (by decide) ?_
        exact ih (i + 1) (by omega)
  refine hg_aload_n (n := 1) dX6_kept_0 rfl rfl ?_
  refine hg_iload_n (n := 2) dX6_kept_1 rfl rfl ?_
  refine hg_callVd (n := 5) (c_X6_isPart hM _) dX6_kept_2 rfl mk_X6_60 yl_X6_isPart yv_X6_isPart rfl (mo_s hM) (by decide) (by decide) rfl rfl (Nat.le_of_ble_eq_true rfl) (fun h => by cases h) ?_
  refine hg_if_ne (n := 8) (tgt := 10) dX6_kept_5 rfl (by decide) (fun h5 => ?_) (fun h5 => ?_)
  · refine hg_lconst (n := 11) (v := 0) dX6_kept_10 rfl (by decide) ?_
    refine hg_aload_n (n := 12) dX6_kept_11 rfl rfl ?_
    refine hg_getR (n := 15) (r := some (37, 0)) dX6_kept_12 rfl fl_X6_30 rfl rfl (mo_s hM) (mo_r hM 7 (by decide)) ?_
    refine hg_iload_n (n := 16) dX6_kept_15 rfl rfl ?_
    refine hg_laload (n := 17) (len := 12) (p) dX6_kept_16 rfl (by decide) rfl (mo_a hM 7 (by decide)) rfl (by omega) (by decide) ?_
    refine hg_lsub (n := 18) dX6_kept_17 rfl ?_
    refine hg_lstore_n (n := 19) dX6_kept_18 rfl (by decide) rfl rfl ?_
    refine hg_iconst (n := 20) (v := 0) dX6_kept_19 rfl (by decide) ?_
    refine hg_istore (n := 22) dX6_kept_20 rfl (by decide) rfl rfl ?_
    exact loop n 0 (by omega)
  · exact absurd h5 (by rw [hnp, z_ix2 (by omega) hp]; decide)
end
section
set_option maxHeartbeats 4000000 in
set_option maxRecDepth 100000 in
theorem c_X6_part_b {mi : MI_} {ml : ML_} {mr : MR_} {sh : SH_} (hM : mo_ mr sh) (a m k s p b : Int32) (hb : z_in a 1 6 = 0 ∨ z_in m 1 1000 = 0 ∨ z_in k 1 300 = 0 ∨ z_in s 1 300 = 0 ∨ z_in p 0 200 = 0 ∨ z_in b 0 200 = 0) : hg_Det false yX6_part md_X6_part [hv_r (some (7, 0)), hv_i a, hv_i m, hv_i k, hv_i s, hv_i p, hv_i b] (mi, ml, mr, sh) (some (hv_i (-2))) (mi, ml, mr, sh) := by
  intro Q hQ
  refine hg_intro rfl rfl rfl (Nat.le_of_ble_eq_true rfl) rfl ?_
  have s0 : hg_G md_X6_part false sh Q 0 0 73 [some (hv_r (some (7, 0))), some (hv_i a), some (hv_i m), some (hv_i k), some (hv_i s), some (hv_i p), some (hv_i b), none, none, none, none] [hv_i 0] (mi, ml, mr, sh) := by
    refine hg_istore (n := 75) dX6_part_73 rfl (by decide) rfl rfl ?_
    refine hg_iload (n := 77) dX6_part_75 rfl rfl ?_
    refine hg_if_ne (n := 80) (tgt := 83) dX6_part_77 rfl (by decide) (fun h77 => ?_) (fun h77 => ?_)
    · exact absurd rfl h77
    · refine hg_bipush (n := 82) (v := -2) dX6_part_80 rfl (by decide) ?_
      refine hg_ireturn dX6_part_82 rfl ?_
      exact hQ
  refine hg_iload_n (n := 1) dX6_part_0 rfl rfl ?_
  refine hg_iconst (n := 2) (v := 1) dX6_part_1 rfl (by decide) ?_
  refine hg_bipush (n := 4) (v := 6) dX6_part_2 rfl (by decide) ?_
  refine hg_callSd (n := 7) (c_X6_in _ _ _ _) dX6_part_4 rfl mk_X6_1 yl_X6_in ys_X6_in (by decide) (by decide) rfl rfl (Nat.le_of_ble_eq_true rfl) (fun h => by cases h) ?_
  refine hg_if_eq (n := 10) (tgt := 72) dX6_part_7 rfl (by decide) (fun h7 => ?_) (fun h7 => ?_)
  · refine hg_iconst (n := 73) (v := 0) dX6_part_72 rfl (by decide) ?_
    exact s0
  · refine hg_iload_n (n := 11) dX6_part_10 rfl rfl ?_
    refine hg_iconst (n := 12) (v := 1) dX6_part_11 rfl (by decide) ?_
    refine hg_sipush (n := 15) (v := 1000) dX6_part_12 rfl (by decide) ?_
    refine hg_callSd (n := 18) (c_X6_in _ _ _ _) dX6_part_15 rfl mk_X6_1 yl_X6_in ys_X6_in (by decide) (by decide) rfl rfl (Nat.le_of_ble_eq_true rfl) (fun h => by cases h) ?_
    refine hg_if_eq (n := 21) (tgt := 72) dX6_part_18 rfl (by decide) (fun h18 => ?_) (fun h18 => ?_)
    · refine hg_iconst (n := 73) (v := 0) dX6_part_72 rfl (by decide) ?_
      exact s0
    · refine hg_iload_n (n := 22) dX6_part_21 rfl rfl ?_
      refine hg_iconst (n := 23) (v := 1) dX6_part_22 rfl (by decide) ?_
      refine hg_sipush (n := 26) (v := 300) dX6_part_23 rfl (by decide) ?_
      refine hg_callSd (n := 29) (c_X6_in _ _ _ _) dX6_part_26 rfl mk_X6_1 yl_X6_in ys_X6_in (by decide) (by decide) rfl rfl (Nat.le_of_ble_eq_true rfl) (fun h => by cases h) ?_
      refine hg_if_eq (n := 32) (tgt := 72) dX6_part_29 rfl (by decide) (fun h29 => ?_) (fun h29 => ?_)
      · refine hg_iconst (n := 73) (v := 0) dX6_part_72 rfl (by decide) ?_
        exact s0
      · refine hg_iload (n := 34) dX6_part_32 rfl rfl ?_
        refine hg_iconst (n := 35) (v := 1) dX6_part_34 rfl (by decide) ?_
        refine hg_sipush (n := 38) (v := 300) dX6_part_35 rfl (by decide) ?_
        refine hg_callSd (n := 41) (c_X6_in _ _ _ _) dX6_part_38 rfl mk_X6_1 yl_X6_in ys_X6_in (by decide) (by decide) rfl rfl (Nat.le_of_ble_eq_true rfl) (fun h => by cases h) ?_
        refine hg_if_eq (n := 44) (tgt := 72) dX6_part_41 rfl (by decide) (fun h41 => ?_) (fun h41 => ?_)
        · refine hg_iconst (n := 73) (v := 0) dX6_part_72 rfl (by decide) ?_
          exact s0
        · refine hg_iload (n := 46) dX6_part_44 rfl rfl ?_
          refine hg_iconst (n := 47) (v := 0) dX6_part_46 rfl (by decide) ?_
          refine hg_sipush (n := 50) (v := 200) dX6_part_47 rfl (by decide) ?_
          refine hg_callSd (n := 53) (c_X6_in _ _ _ _) dX6_part_50 rfl mk_X6_1 yl_X6_in ys_X6_in (by decide) (by decide) rfl rfl (Nat.le_of_ble_eq_true rfl) (fun h => by cases h) ?_
          refine hg_if_eq (n := 56) (tgt := 72) dX6_part_53 rfl (by decide) (fun h53 => ?_) (fun h53 => ?_)
          · refine hg_iconst (n := 73) (v := 0) dX6_part_72 rfl (by decide) ?_
            exact s0
          · refine hg_iload (n := 58) dX6_part_56 rfl rfl ?_
            refine hg_iconst (n := 59) (v := 0) dX6_part_58 rfl (by decide) ?_
            refine hg_sipush (n := 62) (v := 200) dX6_part_59 rfl (by decide) ?_
            refine hg_callSd (n := 65) (c_X6_in _ _ _ _) dX6_part_62 rfl mk_X6_1 yl_X6_in ys_X6_in (by decide) (by decide) rfl rfl (Nat.le_of_ble_eq_true rfl) (fun h => by cases h) ?_
            refine hg_if_eq (n := 68) (tgt := 72) dX6_part_65 rfl (by decide) (fun h65 => ?_) (fun h65 => ?_)
            · refine hg_iconst (n := 73) (v := 0) dX6_part_72 rfl (by decide) ?_
              exact s0
            · refine hg_iconst (n := 69) (v := 1) dX6_part_68 rfl (by decide) ?_
              refine hg_goto (tgt := 73) dX6_part_69 (by decide) ?_
              exact absurd hb (by simp [h7, h18, h29, h41, h53, h65])

set_option maxHeartbeats 4000000 in
set_option maxRecDepth 100000 in
theorem c_X6_part_f {mi : MI_} {ml : ML_} {mr : MR_} {sh : SH_} (hM : mo_ mr sh) (np : Nat) (hnp : mi 7 0 0 = nI np) (h12 : np = 12) (a m k s p b : Int32) (hb : ¬ (z_in a 1 6 = 0 ∨ z_in m 1 1000 = 0 ∨ z_in k 1 300 = 0 ∨ z_in s 1 300 = 0 ∨ z_in p 0 200 = 0 ∨ z_in b 0 200 = 0)) : hg_Det false yX6_part md_X6_part [hv_r (some (7, 0)), hv_i a, hv_i m, hv_i k, hv_i s, hv_i p, hv_i b] (mi, ml, mr, sh) (some (hv_i (-4))) (mi, ml, mr, sh) := by
  intro Q hQ
  refine hg_intro rfl rfl rfl (Nat.le_of_ble_eq_true rfl) rfl ?_
  have s1 : hg_G md_X6_part false sh Q 0 0 73 [some (hv_r (some (7, 0))), some (hv_i a), some (hv_i m), some (hv_i k), some (hv_i s), some (hv_i p), some (hv_i b), none, none, none, none] [hv_i 1] (mi, ml, mr, sh) := by
    refine hg_istore (n := 75) dX6_part_73 rfl (by decide) rfl rfl ?_
    refine hg_iload (n := 77) dX6_part_75 rfl rfl ?_
    refine hg_if_ne (n := 80) (tgt := 83) dX6_part_77 rfl (by decide) (fun h77 => ?_) (fun h77 => ?_)
    · refine hg_aload_n (n := 84) dX6_part_83 rfl rfl ?_
      refine hg_getN (n := 87) (np) dX6_part_84 rfl fl_X6_7 rfl rfl (mo_s hM) hnp ?_
      refine hg_bipush (n := 89) (v := 12) dX6_part_87 rfl (by decide) ?_
      refine hg_icmp_neN (n := 92) (tgt := 95) (np) (12) dX6_part_89 rfl (by decide) (by omega) (by omega) (fun h89 => ?_) (fun h89 => ?_)
      · exact absurd h12 h89
      · refine hg_bipush (n := 94) (v := -4) dX6_part_92 rfl (by decide) ?_
        refine hg_ireturn dX6_part_94 rfl ?_
        exact hQ
    · exact absurd h77 (by decide)
  refine hg_iload_n (n := 1) dX6_part_0 rfl rfl ?_
  refine hg_iconst (n := 2) (v := 1) dX6_part_1 rfl (by decide) ?_
  refine hg_bipush (n := 4) (v := 6) dX6_part_2 rfl (by decide) ?_
  refine hg_callSd (n := 7) (c_X6_in _ _ _ _) dX6_part_4 rfl mk_X6_1 yl_X6_in ys_X6_in (by decide) (by decide) rfl rfl (Nat.le_of_ble_eq_true rfl) (fun h => by cases h) ?_
  refine hg_if_eq (n := 10) (tgt := 72) dX6_part_7 rfl (by decide) (fun h7 => ?_) (fun h7 => ?_)
  · refine hg_iconst (n := 73) (v := 0) dX6_part_72 rfl (by decide) ?_
    exact absurd hb (by simp [*])
  · refine hg_iload_n (n := 11) dX6_part_10 rfl rfl ?_
    refine hg_iconst (n := 12) (v := 1) dX6_part_11 rfl (by decide) ?_
    refine hg_sipush (n := 15) (v := 1000) dX6_part_12 rfl (by decide) ?_
    refine hg_callSd (n := 18) (c_X6_in _ _ _ _) dX6_part_15 rfl mk_X6_1 yl_X6_in ys_X6_in (by decide) (by decide) rfl rfl (Nat.le_of_ble_eq_true rfl) (fun h => by cases h) ?_
    refine hg_if_eq (n := 21) (tgt := 72) dX6_part_18 rfl (by decide) (fun h18 => ?_) (fun h18 => ?_)
    · refine hg_iconst (n := 73) (v := 0) dX6_part_72 rfl (by decide) ?_
      exact absurd hb (by simp [*])
    · refine hg_iload_n (n := 22) dX6_part_21 rfl rfl ?_
      refine hg_iconst (n := 23) (v := 1) dX6_part_22 rfl (by decide) ?_
      refine hg_sipush (n := 26) (v := 300) dX6_part_23 rfl (by decide) ?_
      refine hg_callSd (n := 29) (c_X6_in _ _ _ _) dX6_part_26 rfl mk_X6_1 yl_X6_in ys_X6_in (by decide) (by decide) rfl rfl (Nat.le_of_ble_eq_true rfl) (fun h => by cases h) ?_
      refine hg_if_eq (n := 32) (tgt := 72) dX6_part_29 rfl (by decide) (fun h29 => ?_) (fun h29 => ?_)
      · refine hg_iconst (n := 73) (v := 0) dX6_part_72 rfl (by decide) ?_
        exact absurd hb (by simp [*])
      · refine hg_iload (n := 34) dX6_part_32 rfl rfl ?_
        refine hg_iconst (n := 35) (v := 1) dX6_part_34 rfl (by decide) ?_
        refine hg_sipush (n := 38) (v := 300) dX6_part_35 rfl (by decide) ?_
        refine hg_callSd (n := 41) (c_X6_in _ _ _ _) dX6_part_38 rfl mk_X6_1 yl_X6_in ys_X6_in (by decide) (by decide) rfl rfl (Nat.le_of_ble_eq_true rfl) (fun h => by cases h) ?_
        refine hg_if_eq (n := 44) (tgt := 72) dX6_part_41 rfl (by decide) (fun h41 => ?_) (fun h41 => ?_)
        · refine hg_iconst (n := 73) (v := 0) dX6_part_72 rfl (by decide) ?_
          exact absurd hb (by simp [*])
        · refine hg_iload (n := 46) dX6_part_44 rfl rfl ?_
          refine hg_iconst (n := 47) (v := 0) dX6_part_46 rfl (by decide) ?_
          refine hg_sipush (n := 50) (v := 200) dX6_part_47 rfl (by decide) ?_
          refine hg_callSd (n := 53) (c_X6_in _ _ _ _) dX6_part_50 rfl mk_X6_1 yl_X6_in ys_X6_in (by decide) (by decide) rfl rfl (Nat.le_of_ble_eq_true rfl) (fun h => by cases h) ?_
          refine hg_if_eq (n := 56) (tgt := 72) dX6_part_53 rfl (by decide) (fun h53 => ?_) (fun h53 => ?_)
          · refine hg_iconst (n := 73) (v := 0) dX6_part_72 rfl (by decide) ?_
            exact absurd hb (by simp [*])
          · refine hg_iload (n := 58) dX6_part_56 rfl rfl ?_
            refine hg_iconst (n := 59) (v := 0) dX6_part_58 rfl (by decide) ?_
            refine hg_sipush (n := 62) (v := 200) dX6_part_59 rfl (by decide) ?_
            refine hg_callSd (n := 65) (c_X6_in _ _ _ _) dX6_part_62 rfl mk_X6_1 yl_X6_in ys_X6_in (by decide) (by decide) rfl rfl (Nat.le_of_ble_eq_true rfl) (fun h => by cases h) ?_
            refine hg_if_eq (n := 68) (tgt := 72) dX6_part_65 rfl (by decide) (fun h65 => ?_) (fun h65 => ?_)
            · refine hg_iconst (n := 73) (v := 0) dX6_part_72 rfl (by decide) ?_
              exact absurd hb (by simp [*])
            · refine hg_iconst (n := 69) (v := 1) dX6_part_68 rfl (by decide) ?_
              refine hg_goto (tgt := 73) dX6_part_69 (by decide) ?_
              exact s1

def pa_1 (X : MI_) (n : Nat) (a m k s p b : Int32) : MI_ := u_3 (u_3 (u_3 (u_3 (u_3 (u_3 (u_3 (u_3 X 31 0 n a) 32 0 n m) 33 0 n k) 34 0 n s) 35 0 n p) 36 0 n b) 38 0 n (-1)) 39 0 n (-1)
def pa_4 (X : MI_) (n i : Nat) : Nat → MI_
  | 0 => X
  | c + 1 => u_3 (pa_4 X n i c) 41 0 (24 * n + 4 * i + c) (if c = 1 then 1000 else 0)
def pa_6 (X : MI_) (n : Nat) : Nat → MI_
  | 0 => X
  | i + 1 => pa_4 (u_3 (u_3 (pa_6 X n i) 40 0 (6 * n + i) 200) 42 0 (6 * n + i) 0) n i 4
def pa_m (X : MI_) (n : Nat) (a m k s p b : Int32) : MI_ := u_3 (pa_6 (pa_1 X n a m k s p b) n 6) 7 0 0 (pa_6 (pa_1 X n a m k s p b) n 6 7 0 0 + 1)
set_option maxHeartbeats 4000000 in
set_option maxRecDepth 100000 in
theorem c_X6_part {mi : MI_} {ml : ML_} {mr : MR_} {sh : SH_} (hM : mo_ mr sh) (np : Nat) (hnp : mi 7 0 0 = nI np) (h12 : np < 12) (a m k s p b : Int32) (hb : ¬ (z_in a 1 6 = 0 ∨ z_in m 1 1000 = 0 ∨ z_in k 1 300 = 0 ∨ z_in s 1 300 = 0 ∨ z_in p 0 200 = 0 ∨ z_in b 0 200 = 0)) : hg_Det false yX6_part md_X6_part [hv_r (some (7, 0)), hv_i a, hv_i m, hv_i k, hv_i s, hv_i p, hv_i b] (mi, ml, mr, sh) (some (hv_i (nI np))) (pa_m mi np a m k s p b, u_3 ml 37 0 np 0, mr, sh) := by
  intro Q hQ
  refine hg_intro rfl rfl rfl (Nat.le_of_ble_eq_true rfl) rfl ?_
  have l6 : ∀ r i, i + r = 6 → hg_G md_X6_part false sh Q 0 0 179 [some (hv_r (some (7, 0))), some (hv_i a), some (hv_i m), some (hv_i k), some (hv_i s), some (hv_i p), some (hv_i b), none, some (hv_i (nI np)), some (hv_i (nI i)), none] [] (pa_6 (pa_1 mi np a m k s p b) np i, u_3 ml 37 0 np 0, mr, sh) := by
    intro r
    induction r with
    | zero =>
      intro i hi
      refine hg_iload (n := 181) dX6_part_179 rfl rfl ?_
      refine hg_bipush (n := 183) (v := 6) dX6_part_181 rfl (by decide) ?_
      refine hg_icmp_geN (n := 186) (tgt := 268) (i) (6) dX6_part_183 rfl (by decide) (by omega) (by omega) (fun h183 => ?_) (fun h183 => ?_)
      · have e := show i = 6 by omega
        subst e
        refine hg_aload_n (n := 269) dX6_part_268 rfl rfl ?_
        refine hg_dup (n := 270) dX6_part_269 rfl rfl ?_
        refine hg_getI (n := 273) dX6_part_270 rfl fl_X6_7 rfl rfl (mo_s hM) ?_
        refine hg_iconst (n := 274) (v := 1) dX6_part_273 rfl (by decide) ?_
        refine hg_iadd (n := 275) dX6_part_274 rfl ?_
        refine hg_putI (n := 278) dX6_part_275 rfl fl_X6_7 rfl rfl (mo_s hM) ?_
        refine hg_iload (n := 280) dX6_part_278 rfl rfl ?_
        refine hg_ireturn dX6_part_280 rfl ?_
        exact hQ
      · exact absurd h183 (by omega)
    | succ r ih0 =>
      intro i hi
      have l4 : ∀ r c, c + r = 4 → hg_G md_X6_part false sh Q 0 0 219 [some (hv_r (some (7, 0))), some (hv_i a), some (hv_i m), some (hv_i k), some (hv_i s), some (hv_i p), some (hv_i b), none, some (hv_i (nI np)), some (hv_i (nI i)), some (hv_i (nI c))] [] (pa_4 (u_3 (u_3 (pa_6 (pa_1 mi np a m k s p b) np i) 40 0 (6 * np + i) 200) 42 0 (6 * np + i) 0) np i c, u_3 ml 37 0 np 0, mr, sh) := by
        intro r
        induction r with
        | zero =>
          intro c hc
          refine hg_iload (n := 221) dX6_part_219 rfl rfl ?_
          refine hg_iconst (n := 222) (v := 4) dX6_part_221 rfl (by decide) ?_
          refine hg_icmp_geN (n := 225) (tgt := 262) (c) (4) dX6_part_222 rfl (by decide) (by omega) (by omega) (fun h222 => ?_) (fun h222 => ?_)
          · have e := show c = 4 by omega
            subst e
            refine hg_iincN (n := 265) (i) 1 dX6_part_262 rfl rfl (by decide) (by decide) rfl rfl ?_
            refine hg_goto (tgt := 179) dX6_part_265 (by decide) ?_
            exact hg_ls (ih0 (i + 1) (by omega)) ⟨rfl, rfl, rfl, rfl, rfl, rfl, rfl, rfl, rfl, trivial⟩
          · exact absurd h222 (by omega)
        | succ r ih =>
          intro c hc
          refine hg_iload (n := 221) dX6_part_219 rfl rfl ?_
          refine hg_iconst (n := 222) (v := 4) dX6_part_221 rfl (by decide) ?_
          refine hg_icmp_geN (n := 225) (tgt := 262) (c) (4) dX6_part_222 rfl (by decide) (by omega) (by omega) (fun h222 => ?_) (fun h222 => ?_)
          · exact absurd h222 (by omega)
          · refine hg_aload_n (n := 226) dX6_part_225 rfl rfl ?_
            refine hg_getR (n := 229) (r := some (41, 0)) dX6_part_226 rfl fl_X6_46 rfl rfl (mo_s hM) (mo_r hM 11 (by decide)) ?_
            refine hg_bipush (n := 231) (v := 24) dX6_part_229 rfl (by decide) ?_
            refine hg_iload (n := 233) dX6_part_231 rfl rfl ?_
            refine hg_imulN (n := 234) (24) (np) dX6_part_233 rfl ?_
            refine hg_iconst (n := 235) (v := 4) dX6_part_234 rfl (by decide) ?_
            refine hg_iload (n := 237) dX6_part_235 rfl rfl ?_
            refine hg_imulN (n := 238) (4) (i) dX6_part_237 rfl ?_
            refine hg_iaddN (n := 239) (24 * np) (4 * i) dX6_part_238 rfl ?_
            refine hg_iload (n := 241) dX6_part_239 rfl rfl ?_
            refine hg_iaddN (n := 242) ((24 * np) + (4 * i)) (c) dX6_part_241 rfl ?_
            refine hg_iload (n := 244) dX6_part_242 rfl rfl ?_
            refine hg_iconst (n := 245) (v := 1) dX6_part_244 rfl (by decide) ?_
            refine hg_icmp_neN (n := 248) (tgt := 254) (c) (1) dX6_part_245 rfl (by decide) (by omega) (by omega) (fun h245 => ?_) (fun h245 => ?_)
            · refine hg_iconst (n := 255) (v := 0) dX6_part_254 rfl (by decide) ?_
              refine hg_iastore (n := 256) (len := 288) (((24 * np) + (4 * i)) + c) dX6_part_255 rfl (by decide) rfl (mo_a hM 11 (by decide)) rfl (by omega) (by decide) ?_
              refine hg_iincN (n := 259) (c) 1 dX6_part_256 rfl rfl (by decide) (by decide) rfl rfl ?_
              refine hg_goto (tgt := 219) dX6_part_259 (by decide) ?_
              refine hg_memo ?_ (ih (c + 1) (by omega))
              rw [pa_4, if_neg (by omega)]
            · refine hg_sipush (n := 251) (v := 1000) dX6_part_248 rfl (by decide) ?_
              refine hg_goto (tgt := 255) dX6_part_251 (by decide) ?_
              refine hg_iastore (n := 256) (len := 288) (((24 * np) + (4 * i)) + c) dX6_part_255 rfl (by decide) rfl (mo_a hM 11 (by decide)) rfl (by omega) (by decide) ?_
              refine hg_iincN (n := 259) (c) 1 dX6_part_256 rfl rfl (by decide) (by decide) rfl rfl ?_
              refine hg_goto (tgt := 219) dX6_part_259 (by decide) ?_
              refine hg_memo ?_ (ih (c + 1) (by omega))
              rw [pa_4, if_pos (by omega)]
      refine hg_iload (n := 181) dX6_part_179 rfl rfl ?_
      refine hg_bipush (n := 183) (v := 6) dX6_part_181 rfl (by decide) ?_
      refine hg_icmp_geN (n := 186) (tgt := 268) (i) (6) dX6_part_183 rfl (by decide) (by omega) (by omega) (fun h183 => ?_) (fun h183 => ?_)
      · exact absurd h183 (by omega)
      · refine hg_aload_n (n := 187) dX6_part_186 rfl rfl ?_
        refine hg_getR (n := 190) (r := some (40, 0)) dX6_part_187 rfl fl_X6_40 rfl rfl (mo_s hM) (mo_r hM 10 (by decide)) ?_
        refine hg_bipush (n := 192) (v := 6) dX6_part_190 rfl (by decide) ?_
        refine hg_iload (n := 194) dX6_part_192 rfl rfl ?_
        refine hg_imulN (n := 195) (6) (np) dX6_part_194 rfl ?_
        refine hg_iload (n := 197) dX6_part_195 rfl rfl ?_
        refine hg_iaddN (n := 198) (6 * np) (i) dX6_part_197 rfl ?_
        refine hg_sipush (n := 201) (v := 200) dX6_part_198 rfl (by decide) ?_
        refine hg_iastore (n := 202) (len := 72) ((6 * np) + i) dX6_part_201 rfl (by decide) rfl (mo_a hM 10 (by decide)) rfl (by omega) (by decide) ?_
        refine hg_aload_n (n := 203) dX6_part_202 rfl rfl ?_
        refine hg_getR (n := 206) (r := some (42, 0)) dX6_part_203 rfl fl_X6_43 rfl rfl (mo_s hM) (mo_r hM 12 (by decide)) ?_
        refine hg_bipush (n := 208) (v := 6) dX6_part_206 rfl (by decide) ?_
        refine hg_iload (n := 210) dX6_part_208 rfl rfl ?_
        refine hg_imulN (n := 211) (6) (np) dX6_part_210 rfl ?_
        refine hg_iload (n := 213) dX6_part_211 rfl rfl ?_
        refine hg_iaddN (n := 214) (6 * np) (i) dX6_part_213 rfl ?_
        refine hg_iconst (n := 215) (v := 0) dX6_part_214 rfl (by decide) ?_
        refine hg_iastore (n := 216) (len := 72) ((6 * np) + i) dX6_part_215 rfl (by decide) rfl (mo_a hM 12 (by decide)) rfl (by omega) (by decide) ?_
        refine hg_iconst (n := 217) (v := 0) dX6_part_216 rfl (by decide) ?_
        refine hg_istore (n := 219) dX6_part_217 rfl (by decide) rfl rfl ?_
        exact l4 4 0 (by omega)
  have s1 : hg_G md_X6_part false sh Q 0 0 73 [some (hv_r (some (7, 0))), some (hv_i a), some (hv_i m), some (hv_i k), some (hv_i s), some (hv_i p), some (hv_i b), none, none, none, none] [hv_i 1] (mi, ml, mr, sh) := by
    refine hg_istore (n := 75) dX6_part_73 rfl (by decide) rfl rfl ?_
    refine hg_iload (n := 77) dX6_part_75 rfl rfl ?_
    refine hg_if_ne (n := 80) (tgt := 83) dX6_part_77 rfl (by decide) (fun h77 => ?_) (fun h77 => ?_)
    · refine hg_aload_n (n := 84) dX6_part_83 rfl rfl ?_
      refine hg_getN (n := 87) (np) dX6_part_84 rfl fl_X6_7 rfl rfl (mo_s hM) hnp ?_
      refine hg_bipush (n := 89) (v := 12) dX6_part_87 rfl (by decide) ?_
      refine hg_icmp_neN (n := 92) (tgt := 95) (np) (12) dX6_part_89 rfl (by decide) (by omega) (by omega) (fun h89 => ?_) (fun h89 => ?_)
      · refine hg_aload_n (n := 96) dX6_part_95 rfl rfl ?_
        refine hg_getN (n := 99) (np) dX6_part_96 rfl fl_X6_7 rfl rfl (mo_s hM) hnp ?_
        refine hg_istore (n := 101) dX6_part_99 rfl (by decide) rfl rfl ?_
        refine hg_aload_n (n := 102) dX6_part_101 rfl rfl ?_
        refine hg_getR (n := 105) (r := some (31, 0)) dX6_part_102 rfl fl_X6_11 rfl rfl (mo_s hM) (mo_r hM 1 (by decide)) ?_
        refine hg_iload (n := 107) dX6_part_105 rfl rfl ?_
        refine hg_iload_n (n := 108) dX6_part_107 rfl rfl ?_
        refine hg_iastore (n := 109) (len := 12) (np) dX6_part_108 rfl (by decide) rfl (mo_a hM 1 (by decide)) rfl (by omega) (by decide) ?_
        refine hg_aload_n (n := 110) dX6_part_109 rfl rfl ?_
        refine hg_getR (n := 113) (r := some (32, 0)) dX6_part_110 rfl fl_X6_15 rfl rfl (mo_s hM) (mo_r hM 2 (by decide)) ?_
        refine hg_iload (n := 115) dX6_part_113 rfl rfl ?_
        refine hg_iload_n (n := 116) dX6_part_115 rfl rfl ?_
        refine hg_iastore (n := 117) (len := 12) (np) dX6_part_116 rfl (by decide) rfl (mo_a hM 2 (by decide)) rfl (by omega) (by decide) ?_
        refine hg_aload_n (n := 118) dX6_part_117 rfl rfl ?_
        refine hg_getR (n := 121) (r := some (33, 0)) dX6_part_118 rfl fl_X6_18 rfl rfl (mo_s hM) (mo_r hM 3 (by decide)) ?_
        refine hg_iload (n := 123) dX6_part_121 rfl rfl ?_
        refine hg_iload_n (n := 124) dX6_part_123 rfl rfl ?_
        refine hg_iastore (n := 125) (len := 12) (np) dX6_part_124 rfl (by decide) rfl (mo_a hM 3 (by decide)) rfl (by omega) (by decide) ?_
        refine hg_aload_n (n := 126) dX6_part_125 rfl rfl ?_
        refine hg_getR (n := 129) (r := some (34, 0)) dX6_part_126 rfl fl_X6_21 rfl rfl (mo_s hM) (mo_r hM 4 (by decide)) ?_
        refine hg_iload (n := 131) dX6_part_129 rfl rfl ?_
        refine hg_iload (n := 133) dX6_part_131 rfl rfl ?_
        refine hg_iastore (n := 134) (len := 12) (np) dX6_part_133 rfl (by decide) rfl (mo_a hM 4 (by decide)) rfl (by omega) (by decide) ?_
        refine hg_aload_n (n := 135) dX6_part_134 rfl rfl ?_
        refine hg_getR (n := 138) (r := some (35, 0)) dX6_part_135 rfl fl_X6_24 rfl rfl (mo_s hM) (mo_r hM 5 (by decide)) ?_
        refine hg_iload (n := 140) dX6_part_138 rfl rfl ?_
        refine hg_iload (n := 142) dX6_part_140 rfl rfl ?_
        refine hg_iastore (n := 143) (len := 12) (np) dX6_part_142 rfl (by decide) rfl (mo_a hM 5 (by decide)) rfl (by omega) (by decide) ?_
        refine hg_aload_n (n := 144) dX6_part_143 rfl rfl ?_
        refine hg_getR (n := 147) (r := some (36, 0)) dX6_part_144 rfl fl_X6_27 rfl rfl (mo_s hM) (mo_r hM 6 (by decide)) ?_
        refine hg_iload (n := 149) dX6_part_147 rfl rfl ?_
        refine hg_iload (n := 151) dX6_part_149 rfl rfl ?_
        refine hg_iastore (n := 152) (len := 12) (np) dX6_part_151 rfl (by decide) rfl (mo_a hM 6 (by decide)) rfl (by omega) (by decide) ?_
        refine hg_aload_n (n := 153) dX6_part_152 rfl rfl ?_
        refine hg_getR (n := 156) (r := some (37, 0)) dX6_part_153 rfl fl_X6_30 rfl rfl (mo_s hM) (mo_r hM 7 (by decide)) ?_
        refine hg_iload (n := 158) dX6_part_156 rfl rfl ?_
        refine hg_lconst (n := 159) (v := 0) dX6_part_158 rfl (by decide) ?_
        refine hg_lastore (n := 160) (len := 12) (np) dX6_part_159 rfl (by decide) rfl (mo_a hM 7 (by decide)) rfl (by omega) (by decide) ?_
        refine hg_aload_n (n := 161) dX6_part_160 rfl rfl ?_
        refine hg_getR (n := 164) (r := some (38, 0)) dX6_part_161 rfl fl_X6_34 rfl rfl (mo_s hM) (mo_r hM 8 (by decide)) ?_
        refine hg_iload (n := 166) dX6_part_164 rfl rfl ?_
        refine hg_iconst (n := 167) (v := -1) dX6_part_166 rfl (by decide) ?_
        refine hg_iastore (n := 168) (len := 12) (np) dX6_part_167 rfl (by decide) rfl (mo_a hM 8 (by decide)) rfl (by omega) (by decide) ?_
        refine hg_aload_n (n := 169) dX6_part_168 rfl rfl ?_
        refine hg_getR (n := 172) (r := some (39, 0)) dX6_part_169 rfl fl_X6_37 rfl rfl (mo_s hM) (mo_r hM 9 (by decide)) ?_
        refine hg_iload (n := 174) dX6_part_172 rfl rfl ?_
        refine hg_iconst (n := 175) (v := -1) dX6_part_174 rfl (by decide) ?_
        refine hg_iastore (n := 176) (len := 12) (np) dX6_part_175 rfl (by decide) rfl (mo_a hM 9 (by decide)) rfl (by omega) (by decide) ?_
        refine hg_iconst (n := 177) (v := 0) dX6_part_176 rfl (by decide) ?_
        refine hg_istore (n := 179) dX6_part_177 rfl (by decide) rfl rfl ?_
        exact hg_ls (l6 6 0 (by omega)) ⟨rfl, rfl, rfl, rfl, rfl, rfl, rfl, rfl, rfl, trivial⟩
      · exact absurd h89 (by omega)
    · exact absurd h77 (by decide)
  refine hg_iload_n (n := 1) dX6_part_0 rfl rfl ?_
  refine hg_iconst (n := 2) (v := 1) dX6_part_1 rfl (by decide) ?_
  refine hg_bipush (n := 4) (v := 6) dX6_part_2 rfl (by decide) ?_
  refine hg_callSd (n := 7) (c_X6_in _ _ _ _) dX6_part_4 rfl mk_X6_1 yl_X6_in ys_X6_in (by decide) (by decide) rfl rfl (Nat.le_of_ble_eq_true rfl) (fun h => by cases h) ?_
  refine hg_if_eq (n := 10) (tgt := 72) dX6_part_7 rfl (by decide) (fun h7 => ?_) (fun h7 => ?_)
  · refine hg_iconst (n := 73) (v := 0) dX6_part_72 rfl (by decide) ?_
    exact absurd hb (by simp [*])
  · refine hg_iload_n (n := 11) dX6_part_10 rfl rfl ?_
    refine hg_iconst (n := 12) (v := 1) dX6_part_11 rfl (by decide) ?_
    refine hg_sipush (n := 15) (v := 1000) dX6_part_12 rfl (by decide) ?_
    refine hg_callSd (n := 18) (c_X6_in _ _ _ _) dX6_part_15 rfl mk_X6_1 yl_X6_in ys_X6_in (by decide) (by decide) rfl rfl (Nat.le_of_ble_eq_true rfl) (fun h => by cases h) ?_
    refine hg_if_eq (n := 21) (tgt := 72) dX6_part_18 rfl (by decide) (fun h18 => ?_) (fun h18 => ?_)
    · refine hg_iconst (n := 73) (v := 0) dX6_part_72 rfl (by decide) ?_
      exact absurd hb (by simp [*])
    · refine hg_iload_n (n := 22) dX6_part_21 rfl rfl ?_
      refine hg_iconst (n := 23) (v := 1) dX6_part_22 rfl (by decide) ?_
      refine hg_sipush (n := 26) (v := 300) dX6_part_23 rfl (by decide) ?_
      refine hg_callSd (n := 29) (c_X6_in _ _ _ _) dX6_part_26 rfl mk_X6_1 yl_X6_in ys_X6_in (by decide) (by decide) rfl rfl (Nat.le_of_ble_eq_true rfl) (fun h => by cases h) ?_
      refine hg_if_eq (n := 32) (tgt := 72) dX6_part_29 rfl (by decide) (fun h29 => ?_) (fun h29 => ?_)
      · refine hg_iconst (n := 73) (v := 0) dX6_part_72 rfl (by decide) ?_
        exact absurd hb (by simp [*])
      · refine hg_iload (n := 34) dX6_part_32 rfl rfl ?_
        refine hg_iconst (n := 35) (v := 1) dX6_part_34 rfl (by decide) ?_
        refine hg_sipush (n := 38) (v := 300) dX6_part_35 rfl (by decide) ?_
        refine hg_callSd (n := 41) (c_X6_in _ _ _ _) dX6_part_38 rfl mk_X6_1 yl_X6_in ys_X6_in (by decide) (by decide) rfl rfl (Nat.le_of_ble_eq_true rfl) (fun h => by cases h) ?_
        refine hg_if_eq (n := 44) (tgt := 72) dX6_part_41 rfl (by decide) (fun h41 => ?_) (fun h41 => ?_)
        · refine hg_iconst (n := 73) (v := 0) dX6_part_72 rfl (by decide) ?_
          exact absurd hb (by simp [*])
        · refine hg_iload (n := 46) dX6_part_44 rfl rfl ?_
          refine hg_iconst (n := 47) (v := 0) dX6_part_46 rfl (by decide) ?_
          refine hg_sipush (n := 50) (v := 200) dX6_part_47 rfl (by decide) ?_
          refine hg_callSd (n := 53) (c_X6_in _ _ _ _) dX6_part_50 rfl mk_X6_1 yl_X6_in ys_X6_in (by decide) (by decide) rfl rfl (Nat.le_of_ble_eq_true rfl) (fun h => by cases h) ?_
          refine hg_if_eq (n := 56) (tgt := 72) dX6_part_53 rfl (by decide) (fun h53 => ?_) (fun h53 => ?_)
          · refine hg_iconst (n := 73) (v := 0) dX6_part_72 rfl (by decide) ?_
            exact absurd hb (by simp [*])
          · refine hg_iload (n := 58) dX6_part_56 rfl rfl ?_
            refine hg_iconst (n := 59) (v := 0) dX6_part_58 rfl (by decide) ?_
            refine hg_sipush (n := 62) (v := 200) dX6_part_59 rfl (by decide) ?_
            refine hg_callSd (n := 65) (c_X6_in _ _ _ _) dX6_part_62 rfl mk_X6_1 yl_X6_in ys_X6_in (by decide) (by decide) rfl rfl (Nat.le_of_ble_eq_true rfl) (fun h => by cases h) ?_
            refine hg_if_eq (n := 68) (tgt := 72) dX6_part_65 rfl (by decide) (fun h65 => ?_) (fun h65 => ?_)
            · refine hg_iconst (n := 73) (v := 0) dX6_part_72 rfl (by decide) ?_
              exact absurd hb (by simp [*])
            · refine hg_iconst (n := 69) (v := 1) dX6_part_68 rfl (by decide) ?_
              refine hg_goto (tgt := 73) dX6_part_69 (by decide) ?_
              exact s1
end
section
theorem nI_m1 {p : Nat} (h : p < 2 ^ 31) : ¬ nI p = -1 := by
  intro e
  have h1 := nI_toInt h
  rw [e] at h1
  have : (-1 : Int32).toInt = -1 := by decide
  omega
/-- what stands in a place: nothing, or one of np parts -/
def pl_ (X : MI_) (np : Nat) : Prop := ∀ j, j < 12 → ¬ X 50 0 j = -1 → ∃ p, p < np ∧ X 50 0 j = nI p
def ma_ (X : MI_) (f : Nat) : Nat → Int32
  | 0 => 0
  | i + 1 => ma_ X f i + (if X 50 0 (4 * f + i) = -1 then 0 else X 32 0 (X 50 0 (4 * f + i)).toNatClampNeg)
def lo_ (X : MI_) (f : Nat) : Nat → Int32
  | 0 => 0
  | i + 1 => lo_ X f i + (if X 50 0 (4 * f + i) = -1 then 0 else 1)
set_option maxHeartbeats 4000000 in
set_option maxRecDepth 100000 in
theorem c_X6_massOf {mi : MI_} {ml : ML_} {mr : MR_} {sh : SH_} (hM : mo_ mr sh) (np : Nat) (hn12 : np ≤ 12) (hpl : pl_ mi np) (f : Nat) (hf : f < 3) : hg_Det false yX6_massOf md_X6_massOf [hv_r (some (7, 0)), hv_i (nI f)] (mi, ml, mr, sh) (some (hv_i (ma_ mi f 4))) (mi, ml, mr, sh) := by
  intro Q hQ
  refine hg_intro rfl rfl rfl (Nat.le_of_ble_eq_true rfl) rfl ?_
  have loop : ∀ m i, i + m = 4 → hg_G md_X6_massOf false sh Q 0 0 4 [some (hv_r (some (7, 0))), some (hv_i (nI f)), some (hv_i (ma_ mi f i)), some (hv_i (nI i))] [] (mi, ml, mr, sh) := by
    intro m
    induction m with
    | zero =>
      intro i hi
      refine hg_iload_n (n := 5) dX6_massOf_4 rfl rfl ?_
      refine hg_iconst (n := 6) (v := 4) dX6_massOf_5 rfl (by decide) ?_
      refine hg_icmp_geN (n := 9) (tgt := 51) (i) (4) dX6_massOf_6 rfl (by decide) (by omega) (by omega) (fun h6 => ?_) (fun h6 => ?_)
      · have e := show i = 4 by omega
        subst e
        refine hg_iload_n (n := 52) dX6_massOf_51 rfl rfl ?_
        refine hg_ireturn dX6_massOf_52 rfl ?_
        exact hQ
      · exact absurd h6 (by omega)
    | succ m ih =>
      intro i hi
      refine hg_iload_n (n := 5) dX6_massOf_4 rfl rfl ?_
      refine hg_iconst (n := 6) (v := 4) dX6_massOf_5 rfl (by decide) ?_
      refine hg_icmp_geN (n := 9) (tgt := 51) (i) (4) dX6_massOf_6 rfl (by decide) (by omega) (by omega) (fun h6 => ?_) (fun h6 => ?_)
      · exact absurd h6 (by omega)
      · refine hg_iload_n (n := 10) dX6_massOf_9 rfl rfl ?_
        refine hg_aload_n (n := 11) dX6_massOf_10 rfl rfl ?_
        refine hg_getR (n := 14) (r := some (50, 0)) dX6_massOf_11 rfl fl_X6_101 rfl rfl (mo_s hM) (mo_r hM 20 (by decide)) ?_
        refine hg_iconst (n := 15) (v := 4) dX6_massOf_14 rfl (by decide) ?_
        refine hg_iload_n (n := 16) dX6_massOf_15 rfl rfl ?_
        refine hg_imulN (n := 17) (4) (f) dX6_massOf_16 rfl ?_
        refine hg_iload_n (n := 18) dX6_massOf_17 rfl rfl ?_
        refine hg_iaddN (n := 19) (4 * f) (i) dX6_massOf_18 rfl ?_
        refine hg_iaload (n := 20) (len := 12) ((4 * f) + i) dX6_massOf_19 rfl (by decide) rfl (mo_a hM 20 (by decide)) rfl (by omega) (by decide) ?_
        refine hg_iconst (n := 21) (v := -1) dX6_massOf_20 rfl (by decide) ?_
        refine hg_icmp_ne (n := 24) (tgt := 28) dX6_massOf_21 rfl (by decide) (fun h21 => ?_) (fun h21 => ?_)
        · obtain ⟨p, hp, hpj⟩ := hpl (4 * f + i) (by omega) h21
          refine hg_aload_n (n := 29) dX6_massOf_28 rfl rfl ?_
          refine hg_getR (n := 32) (r := some (32, 0)) dX6_massOf_29 rfl fl_X6_15 rfl rfl (mo_s hM) (mo_r hM 2 (by decide)) ?_
          refine hg_aload_n (n := 33) dX6_massOf_32 rfl rfl ?_
          refine hg_getR (n := 36) (r := some (50, 0)) dX6_massOf_33 rfl fl_X6_101 rfl rfl (mo_s hM) (mo_r hM 20 (by decide)) ?_
          refine hg_iconst (n := 37) (v := 4) dX6_massOf_36 rfl (by decide) ?_
          refine hg_iload_n (n := 38) dX6_massOf_37 rfl rfl ?_
          refine hg_imulN (n := 39) (4) (f) dX6_massOf_38 rfl ?_
          refine hg_iload_n (n := 40) dX6_massOf_39 rfl rfl ?_
          refine hg_iaddN (n := 41) (4 * f) (i) dX6_massOf_40 rfl ?_
          refine hg_ialoadN (n := 42) (len := 12) (p) ((4 * f) + i) dX6_massOf_41 rfl (by decide) rfl (mo_a hM 20 (by decide)) rfl (by omega) (by decide) hpj ?_
          refine hg_iaload (n := 43) (len := 12) (p) dX6_massOf_42 rfl (by decide) rfl (mo_a hM 2 (by decide)) rfl (by omega) (by decide) ?_
          refine hg_iadd (n := 44) dX6_massOf_43 rfl ?_
          refine hg_topI (z := ma_ mi f (i + 1)) (by rw [ma_, if_neg h21, hpj, nI_clamp (by omega)]) ?_
          refine hg_istore_n (n := 45) dX6_massOf_44 rfl (by decide) rfl rfl ?_
          refine hg_iincN (n := 48) (i) 1 dX6_massOf_45 rfl rfl (by decide) (by decide) rfl rfl ?_
          refine hg_goto (tgt := 4) dX6_massOf_48 (by decide) ?_
          exact ih (i + 1) (by omega)
        · refine hg_iconst (n := 25) (v := 0) dX6_massOf_24 rfl (by decide) ?_
          refine hg_goto (tgt := 43) dX6_massOf_25 (by decide) ?_
          refine hg_iadd (n := 44) dX6_massOf_43 rfl ?_
          refine hg_topI (z := ma_ mi f (i + 1)) (by rw [ma_, if_pos h21]) ?_
          refine hg_istore_n (n := 45) dX6_massOf_44 rfl (by decide) rfl rfl ?_
          refine hg_iincN (n := 48) (i) 1 dX6_massOf_45 rfl rfl (by decide) (by decide) rfl rfl ?_
          refine hg_goto (tgt := 4) dX6_massOf_48 (by decide) ?_
          exact ih (i + 1) (by omega)
  refine hg_iconst (n := 1) (v := 0) dX6_massOf_0 rfl (by decide) ?_
  refine hg_istore_n (n := 2) dX6_massOf_1 rfl (by decide) rfl rfl ?_
  refine hg_iconst (n := 3) (v := 0) dX6_massOf_2 rfl (by decide) ?_
  refine hg_istore_n (n := 4) dX6_massOf_3 rfl (by decide) rfl rfl ?_
  exact loop 4 0 (by omega)

set_option maxHeartbeats 4000000 in
set_option maxRecDepth 100000 in
theorem c_X6_loadOf {mi : MI_} {ml : ML_} {mr : MR_} {sh : SH_} (hM : mo_ mr sh) (f : Nat) (hf : f < 3) : hg_Det false yX6_loadOf md_X6_loadOf [hv_r (some (7, 0)), hv_i (nI f)] (mi, ml, mr, sh) (some (hv_i (lo_ mi f 4))) (mi, ml, mr, sh) := by
  intro Q hQ
  refine hg_intro rfl rfl rfl (Nat.le_of_ble_eq_true rfl) rfl ?_
  have loop : ∀ m i, i + m = 4 → hg_G md_X6_loadOf false sh Q 0 0 4 [some (hv_r (some (7, 0))), some (hv_i (nI f)), some (hv_i (lo_ mi f i)), some (hv_i (nI i))] [] (mi, ml, mr, sh) := by
    intro m
    induction m with
    | zero =>
      intro i hi
      refine hg_iload_n (n := 5) dX6_loadOf_4 rfl rfl ?_
      refine hg_iconst (n := 6) (v := 4) dX6_loadOf_5 rfl (by decide) ?_
      refine hg_icmp_geN (n := 9) (tgt := 37) (i) (4) dX6_loadOf_6 rfl (by decide) (by omega) (by omega) (fun h6 => ?_) (fun h6 => ?_)
      · have e := show i = 4 by omega
        subst e
        refine hg_iload_n (n := 38) dX6_loadOf_37 rfl rfl ?_
        refine hg_ireturn dX6_loadOf_38 rfl ?_
        exact hQ
      · exact absurd h6 (by omega)
    | succ m ih =>
      intro i hi
      refine hg_iload_n (n := 5) dX6_loadOf_4 rfl rfl ?_
      refine hg_iconst (n := 6) (v := 4) dX6_loadOf_5 rfl (by decide) ?_
      refine hg_icmp_geN (n := 9) (tgt := 37) (i) (4) dX6_loadOf_6 rfl (by decide) (by omega) (by omega) (fun h6 => ?_) (fun h6 => ?_)
      · exact absurd h6 (by omega)
      · refine hg_iload_n (n := 10) dX6_loadOf_9 rfl rfl ?_
        refine hg_aload_n (n := 11) dX6_loadOf_10 rfl rfl ?_
        refine hg_getR (n := 14) (r := some (50, 0)) dX6_loadOf_11 rfl fl_X6_101 rfl rfl (mo_s hM) (mo_r hM 20 (by decide)) ?_
        refine hg_iconst (n := 15) (v := 4) dX6_loadOf_14 rfl (by decide) ?_
        refine hg_iload_n (n := 16) dX6_loadOf_15 rfl rfl ?_
        refine hg_imulN (n := 17) (4) (f) dX6_loadOf_16 rfl ?_
        refine hg_iload_n (n := 18) dX6_loadOf_17 rfl rfl ?_
        refine hg_iaddN (n := 19) (4 * f) (i) dX6_loadOf_18 rfl ?_
        refine hg_iaload (n := 20) (len := 12) ((4 * f) + i) dX6_loadOf_19 rfl (by decide) rfl (mo_a hM 20 (by decide)) rfl (by omega) (by decide) ?_
        refine hg_iconst (n := 21) (v := -1) dX6_loadOf_20 rfl (by decide) ?_
        refine hg_icmp_ne (n := 24) (tgt := 28) dX6_loadOf_21 rfl (by decide) (fun h21 => ?_) (fun h21 => ?_)
        · refine hg_iconst (n := 29) (v := 1) dX6_loadOf_28 rfl (by decide) ?_
          refine hg_iadd (n := 30) dX6_loadOf_29 rfl ?_
          refine hg_topI (z := lo_ mi f (i + 1)) (by rw [lo_, if_neg h21]) ?_
          refine hg_istore_n (n := 31) dX6_loadOf_30 rfl (by decide) rfl rfl ?_
          refine hg_iincN (n := 34) (i) 1 dX6_loadOf_31 rfl rfl (by decide) (by decide) rfl rfl ?_
          refine hg_goto (tgt := 4) dX6_loadOf_34 (by decide) ?_
          exact ih (i + 1) (by omega)
        · refine hg_iconst (n := 25) (v := 0) dX6_loadOf_24 rfl (by decide) ?_
          refine hg_goto (tgt := 29) dX6_loadOf_25 (by decide) ?_
          refine hg_iadd (n := 30) dX6_loadOf_29 rfl ?_
          refine hg_topI (z := lo_ mi f (i + 1)) (by rw [lo_, if_pos h21]) ?_
          refine hg_istore_n (n := 31) dX6_loadOf_30 rfl (by decide) rfl rfl ?_
          refine hg_iincN (n := 34) (i) 1 dX6_loadOf_31 rfl rfl (by decide) (by decide) rfl rfl ?_
          refine hg_goto (tgt := 4) dX6_loadOf_34 (by decide) ?_
          exact ih (i + 1) (by omega)
  refine hg_iconst (n := 1) (v := 0) dX6_loadOf_0 rfl (by decide) ?_
  refine hg_istore_n (n := 2) dX6_loadOf_1 rfl (by decide) rfl rfl ?_
  refine hg_iconst (n := 3) (v := 0) dX6_loadOf_2 rfl (by decide) ?_
  refine hg_istore_n (n := 4) dX6_loadOf_3 rfl (by decide) rfl rfl ?_
  exact loop 4 0 (by omega)

def li_b (f o a b : Int32) : Prop := z_in f 0 2 = 0 ∨ z_in o 0 3 = 0 ∨ (¬ o = 3 ∧ z_in a 200 11000 = 0) ∨ z_in b 1 (if o = 0 then 1000 else 500) = 0
set_option maxHeartbeats 4000000 in
set_option maxRecDepth 100000 in
theorem c_X6_line_b {mi : MI_} {ml : ML_} {mr : MR_} {sh : SH_} (hM : mo_ mr sh) (f o a b : Int32) (hb : li_b f o a b) : hg_Det false yX6_line md_X6_line [hv_r (some (7, 0)), hv_i f, hv_i o, hv_i a, hv_i b] (mi, ml, mr, sh) (some (hv_i (-2))) (mi, ml, mr, sh) := by
  intro Q hQ
  refine hg_intro rfl rfl rfl (Nat.le_of_ble_eq_true rfl) rfl ?_
  have s5 : ∀ x, x = (if o = 0 then 1000 else 500) → (z_in b 1 (if o = 0 then 1000 else 500) = 0) → hg_G md_X6_line false sh Q 0 0 50 [some (hv_r (some (7, 0))), some (hv_i f), some (hv_i o), some (hv_i a), some (hv_i b), none] [hv_i x, hv_i 1, hv_i b] (mi, ml, mr, sh) := by
    intro x hx hc
    refine hg_callSd (n := 53) (c_X6_in _ _ _ _) dX6_line_50 rfl mk_X6_1 yl_X6_in ys_X6_in (by decide) (by decide) rfl rfl (Nat.le_of_ble_eq_true rfl) (fun h => by cases h) ?_
    refine hg_if_ne (n := 56) (tgt := 59) dX6_line_53 rfl (by decide) (fun h53 => ?_) (fun h53 => ?_)
    · exact absurd (by rw [hx]; exact hc) h53
    · refine hg_bipush (n := 58) (v := -2) dX6_line_56 rfl (by decide) ?_
      refine hg_ireturn dX6_line_58 rfl ?_
      exact hQ
  have s3 : (z_in b 1 (if o = 0 then 1000 else 500) = 0) → hg_G md_X6_line false sh Q 0 0 34 [some (hv_r (some (7, 0))), some (hv_i f), some (hv_i o), some (hv_i a), some (hv_i b), none] [] (mi, ml, mr, sh) := by
    intro hc
    refine hg_iload (n := 36) dX6_line_34 rfl rfl ?_
    refine hg_iconst (n := 37) (v := 1) dX6_line_36 rfl (by decide) ?_
    refine hg_iload_n (n := 38) dX6_line_37 rfl rfl ?_
    refine hg_if_ne (n := 41) (tgt := 47) dX6_line_38 rfl (by decide) (fun h38 => ?_) (fun h38 => ?_)
    · refine hg_sipush (n := 50) (v := 500) dX6_line_47 rfl (by decide) ?_
      exact s5 _ (by rw [if_neg h38]) hc
    · refine hg_sipush (n := 44) (v := 1000) dX6_line_41 rfl (by decide) ?_
      refine hg_goto (tgt := 50) dX6_line_44 (by decide) ?_
      exact s5 _ (by rw [if_pos h38]) hc
  refine hg_iload_n (n := 1) dX6_line_0 rfl rfl ?_
  refine hg_callSd (n := 4) (c_X6_isFurnace _ _) dX6_line_1 rfl mk_X6_153 yl_X6_isFurnace ys_X6_isFurnace (by decide) (by decide) rfl rfl (Nat.le_of_ble_eq_true rfl) (fun h => by cases h) ?_
  refine hg_if_eq (n := 7) (tgt := 56) dX6_line_4 rfl (by decide) (fun h4 => ?_) (fun h4 => ?_)
  · refine hg_bipush (n := 58) (v := -2) dX6_line_56 rfl (by decide) ?_
    refine hg_ireturn dX6_line_58 rfl ?_
    exact hQ
  · refine hg_iload_n (n := 8) dX6_line_7 rfl rfl ?_
    refine hg_iconst (n := 9) (v := 0) dX6_line_8 rfl (by decide) ?_
    refine hg_iconst (n := 10) (v := 3) dX6_line_9 rfl (by decide) ?_
    refine hg_callSd (n := 13) (c_X6_in _ _ _ _) dX6_line_10 rfl mk_X6_1 yl_X6_in ys_X6_in (by decide) (by decide) rfl rfl (Nat.le_of_ble_eq_true rfl) (fun h => by cases h) ?_
    refine hg_if_eq (n := 16) (tgt := 56) dX6_line_13 rfl (by decide) (fun h13 => ?_) (fun h13 => ?_)
    · refine hg_bipush (n := 58) (v := -2) dX6_line_56 rfl (by decide) ?_
      refine hg_ireturn dX6_line_58 rfl ?_
      exact hQ
    · refine hg_iload_n (n := 17) dX6_line_16 rfl rfl ?_
      refine hg_iconst (n := 18) (v := 3) dX6_line_17 rfl (by decide) ?_
      refine hg_icmp_eq (n := 21) (tgt := 34) dX6_line_18 rfl (by decide) (fun h18 => ?_) (fun h18 => ?_)
      · exact s3 (by unfold li_b at hb; simp_all)
      · refine hg_iload_n (n := 22) dX6_line_21 rfl rfl ?_
        refine hg_sipush (n := 25) (v := 200) dX6_line_22 rfl (by decide) ?_
        refine hg_sipush (n := 28) (v := 11000) dX6_line_25 rfl (by decide) ?_
        refine hg_callSd (n := 31) (c_X6_in _ _ _ _) dX6_line_28 rfl mk_X6_1 yl_X6_in ys_X6_in (by decide) (by decide) rfl rfl (Nat.le_of_ble_eq_true rfl) (fun h => by cases h) ?_
        refine hg_if_eq (n := 34) (tgt := 56) dX6_line_31 rfl (by decide) (fun h31 => ?_) (fun h31 => ?_)
        · refine hg_bipush (n := 58) (v := -2) dX6_line_56 rfl (by decide) ?_
          refine hg_ireturn dX6_line_58 rfl ?_
          exact hQ
        · exact s3 (by unfold li_b at hb; simp_all)

set_option maxHeartbeats 4000000 in
set_option maxRecDepth 100000 in
theorem c_X6_line_n {mi : MI_} {ml : ML_} {mr : MR_} {sh : SH_} (hM : mo_ mr sh) (f : Nat) (hf : f < 3) (o a b : Int32) (hb : ¬ li_b (nI f) o a b) (hr : ¬ mi 53 0 f = 0) : hg_Det false yX6_line md_X6_line [hv_r (some (7, 0)), hv_i (nI f), hv_i o, hv_i a, hv_i b] (mi, ml, mr, sh) (some (hv_i (-3))) (mi, ml, mr, sh) := by
  intro Q hQ
  refine hg_intro rfl rfl rfl (Nat.le_of_ble_eq_true rfl) rfl ?_
  have s5 : ∀ x, x = (if o = 0 then 1000 else 500) → hg_G md_X6_line false sh Q 0 0 50 [some (hv_r (some (7, 0))), some (hv_i (nI f)), some (hv_i o), some (hv_i a), some (hv_i b), none] [hv_i x, hv_i 1, hv_i b] (mi, ml, mr, sh) := by
    intro x hx
    refine hg_callSd (n := 53) (c_X6_in _ _ _ _) dX6_line_50 rfl mk_X6_1 yl_X6_in ys_X6_in (by decide) (by decide) rfl rfl (Nat.le_of_ble_eq_true rfl) (fun h => by cases h) ?_
    refine hg_if_ne (n := 56) (tgt := 59) dX6_line_53 rfl (by decide) (fun h53 => ?_) (fun h53 => ?_)
    · refine hg_aload_n (n := 60) dX6_line_59 rfl rfl ?_
      refine hg_getR (n := 63) (r := some (53, 0)) dX6_line_60 rfl fl_X6_111 rfl rfl (mo_s hM) (mo_r hM 23 (by decide)) ?_
      refine hg_iload_n (n := 64) dX6_line_63 rfl rfl ?_
      refine hg_baload (n := 65) (len := 3) (f) dX6_line_64 rfl (by decide) rfl (mo_a hM 23 (by decide)) rfl (by omega) (by decide) ?_
      refine hg_if_eq (n := 68) (tgt := 71) dX6_line_65 rfl (by decide) (fun h65 => ?_) (fun h65 => ?_)
      · exact absurd h65 hr
      · refine hg_bipush (n := 70) (v := -3) dX6_line_68 rfl (by decide) ?_
        refine hg_ireturn dX6_line_70 rfl ?_
        exact hQ
    · exact absurd h53 (by rw [hx]; exact fun q => hb (Or.inr (Or.inr (Or.inr q))))
  have s3 : hg_G md_X6_line false sh Q 0 0 34 [some (hv_r (some (7, 0))), some (hv_i (nI f)), some (hv_i o), some (hv_i a), some (hv_i b), none] [] (mi, ml, mr, sh) := by
    refine hg_iload (n := 36) dX6_line_34 rfl rfl ?_
    refine hg_iconst (n := 37) (v := 1) dX6_line_36 rfl (by decide) ?_
    refine hg_iload_n (n := 38) dX6_line_37 rfl rfl ?_
    refine hg_if_ne (n := 41) (tgt := 47) dX6_line_38 rfl (by decide) (fun h38 => ?_) (fun h38 => ?_)
    · refine hg_sipush (n := 50) (v := 500) dX6_line_47 rfl (by decide) ?_
      exact s5 _ (by rw [if_neg h38])
    · refine hg_sipush (n := 44) (v := 1000) dX6_line_41 rfl (by decide) ?_
      refine hg_goto (tgt := 50) dX6_line_44 (by decide) ?_
      exact s5 _ (by rw [if_pos h38])
  refine hg_iload_n (n := 1) dX6_line_0 rfl rfl ?_
  refine hg_callSd (n := 4) (c_X6_isFurnace _ _) dX6_line_1 rfl mk_X6_153 yl_X6_isFurnace ys_X6_isFurnace (by decide) (by decide) rfl rfl (Nat.le_of_ble_eq_true rfl) (fun h => by cases h) ?_
  refine hg_if_eq (n := 7) (tgt := 56) dX6_line_4 rfl (by decide) (fun h4 => ?_) (fun h4 => ?_)
  · exact absurd h4 (z_nat3 (a := 0) (b := 2) (by omega) (by omega) (by omega))
  · refine hg_iload_n (n := 8) dX6_line_7 rfl rfl ?_
    refine hg_iconst (n := 9) (v := 0) dX6_line_8 rfl (by decide) ?_
    refine hg_iconst (n := 10) (v := 3) dX6_line_9 rfl (by decide) ?_
    refine hg_callSd (n := 13) (c_X6_in _ _ _ _) dX6_line_10 rfl mk_X6_1 yl_X6_in ys_X6_in (by decide) (by decide) rfl rfl (Nat.le_of_ble_eq_true rfl) (fun h => by cases h) ?_
    refine hg_if_eq (n := 16) (tgt := 56) dX6_line_13 rfl (by decide) (fun h13 => ?_) (fun h13 => ?_)
    · exact absurd h13 (fun q => hb (Or.inr (Or.inl q)))
    · refine hg_iload_n (n := 17) dX6_line_16 rfl rfl ?_
      refine hg_iconst (n := 18) (v := 3) dX6_line_17 rfl (by decide) ?_
      refine hg_icmp_eq (n := 21) (tgt := 34) dX6_line_18 rfl (by decide) (fun h18 => ?_) (fun h18 => ?_)
      · exact s3
      · refine hg_iload_n (n := 22) dX6_line_21 rfl rfl ?_
        refine hg_sipush (n := 25) (v := 200) dX6_line_22 rfl (by decide) ?_
        refine hg_sipush (n := 28) (v := 11000) dX6_line_25 rfl (by decide) ?_
        refine hg_callSd (n := 31) (c_X6_in _ _ _ _) dX6_line_28 rfl mk_X6_1 yl_X6_in ys_X6_in (by decide) (by decide) rfl rfl (Nat.le_of_ble_eq_true rfl) (fun h => by cases h) ?_
        refine hg_if_eq (n := 34) (tgt := 56) dX6_line_31 rfl (by decide) (fun h31 => ?_) (fun h31 => ?_)
        · exact absurd h31 (fun q => hb (Or.inr (Or.inr (Or.inl ⟨h18, q⟩))))
        · exact s3

set_option maxHeartbeats 4000000 in
set_option maxRecDepth 100000 in
theorem c_X6_line_f {mi : MI_} {ml : ML_} {mr : MR_} {sh : SH_} (hM : mo_ mr sh) (f : Nat) (hf : f < 3) (o a b : Int32) (hb : ¬ li_b (nI f) o a b) (hr : mi 53 0 f = 0) (hl : mi 46 0 f = 8) : hg_Det false yX6_line md_X6_line [hv_r (some (7, 0)), hv_i (nI f), hv_i o, hv_i a, hv_i b] (mi, ml, mr, sh) (some (hv_i (-4))) (mi, ml, mr, sh) := by
  intro Q hQ
  refine hg_intro rfl rfl rfl (Nat.le_of_ble_eq_true rfl) rfl ?_
  have s5 : ∀ x, x = (if o = 0 then 1000 else 500) → hg_G md_X6_line false sh Q 0 0 50 [some (hv_r (some (7, 0))), some (hv_i (nI f)), some (hv_i o), some (hv_i a), some (hv_i b), none] [hv_i x, hv_i 1, hv_i b] (mi, ml, mr, sh) := by
    intro x hx
    refine hg_callSd (n := 53) (c_X6_in _ _ _ _) dX6_line_50 rfl mk_X6_1 yl_X6_in ys_X6_in (by decide) (by decide) rfl rfl (Nat.le_of_ble_eq_true rfl) (fun h => by cases h) ?_
    refine hg_if_ne (n := 56) (tgt := 59) dX6_line_53 rfl (by decide) (fun h53 => ?_) (fun h53 => ?_)
    · refine hg_aload_n (n := 60) dX6_line_59 rfl rfl ?_
      refine hg_getR (n := 63) (r := some (53, 0)) dX6_line_60 rfl fl_X6_111 rfl rfl (mo_s hM) (mo_r hM 23 (by decide)) ?_
      refine hg_iload_n (n := 64) dX6_line_63 rfl rfl ?_
      refine hg_baload (n := 65) (len := 3) (f) dX6_line_64 rfl (by decide) rfl (mo_a hM 23 (by decide)) rfl (by omega) (by decide) ?_
      refine hg_if_eq (n := 68) (tgt := 71) dX6_line_65 rfl (by decide) (fun h65 => ?_) (fun h65 => ?_)
      · refine hg_aload_n (n := 72) dX6_line_71 rfl rfl ?_
        refine hg_getR (n := 75) (r := some (46, 0)) dX6_line_72 rfl fl_X6_89 rfl rfl (mo_s hM) (mo_r hM 16 (by decide)) ?_
        refine hg_iload_n (n := 76) dX6_line_75 rfl rfl ?_
        refine hg_iaload (n := 77) (len := 3) (f) dX6_line_76 rfl (by decide) rfl (mo_a hM 16 (by decide)) rfl (by omega) (by decide) ?_
        refine hg_bipush (n := 79) (v := 8) dX6_line_77 rfl (by decide) ?_
        refine hg_icmp_ne (n := 82) (tgt := 85) dX6_line_79 rfl (by decide) (fun h79 => ?_) (fun h79 => ?_)
        · exact absurd hl h79
        · refine hg_bipush (n := 84) (v := -4) dX6_line_82 rfl (by decide) ?_
          refine hg_ireturn dX6_line_84 rfl ?_
          exact hQ
      · exact absurd hr h65
    · exact absurd h53 (by rw [hx]; exact fun q => hb (Or.inr (Or.inr (Or.inr q))))
  have s3 : hg_G md_X6_line false sh Q 0 0 34 [some (hv_r (some (7, 0))), some (hv_i (nI f)), some (hv_i o), some (hv_i a), some (hv_i b), none] [] (mi, ml, mr, sh) := by
    refine hg_iload (n := 36) dX6_line_34 rfl rfl ?_
    refine hg_iconst (n := 37) (v := 1) dX6_line_36 rfl (by decide) ?_
    refine hg_iload_n (n := 38) dX6_line_37 rfl rfl ?_
    refine hg_if_ne (n := 41) (tgt := 47) dX6_line_38 rfl (by decide) (fun h38 => ?_) (fun h38 => ?_)
    · refine hg_sipush (n := 50) (v := 500) dX6_line_47 rfl (by decide) ?_
      exact s5 _ (by rw [if_neg h38])
    · refine hg_sipush (n := 44) (v := 1000) dX6_line_41 rfl (by decide) ?_
      refine hg_goto (tgt := 50) dX6_line_44 (by decide) ?_
      exact s5 _ (by rw [if_pos h38])
  refine hg_iload_n (n := 1) dX6_line_0 rfl rfl ?_
  refine hg_callSd (n := 4) (c_X6_isFurnace _ _) dX6_line_1 rfl mk_X6_153 yl_X6_isFurnace ys_X6_isFurnace (by decide) (by decide) rfl rfl (Nat.le_of_ble_eq_true rfl) (fun h => by cases h) ?_
  refine hg_if_eq (n := 7) (tgt := 56) dX6_line_4 rfl (by decide) (fun h4 => ?_) (fun h4 => ?_)
  · exact absurd h4 (z_nat3 (a := 0) (b := 2) (by omega) (by omega) (by omega))
  · refine hg_iload_n (n := 8) dX6_line_7 rfl rfl ?_
    refine hg_iconst (n := 9) (v := 0) dX6_line_8 rfl (by decide) ?_
    refine hg_iconst (n := 10) (v := 3) dX6_line_9 rfl (by decide) ?_
    refine hg_callSd (n := 13) (c_X6_in _ _ _ _) dX6_line_10 rfl mk_X6_1 yl_X6_in ys_X6_in (by decide) (by decide) rfl rfl (Nat.le_of_ble_eq_true rfl) (fun h => by cases h) ?_
    refine hg_if_eq (n := 16) (tgt := 56) dX6_line_13 rfl (by decide) (fun h13 => ?_) (fun h13 => ?_)
    · exact absurd h13 (fun q => hb (Or.inr (Or.inl q)))
    · refine hg_iload_n (n := 17) dX6_line_16 rfl rfl ?_
      refine hg_iconst (n := 18) (v := 3) dX6_line_17 rfl (by decide) ?_
      refine hg_icmp_eq (n := 21) (tgt := 34) dX6_line_18 rfl (by decide) (fun h18 => ?_) (fun h18 => ?_)
      · exact s3
      · refine hg_iload_n (n := 22) dX6_line_21 rfl rfl ?_
        refine hg_sipush (n := 25) (v := 200) dX6_line_22 rfl (by decide) ?_
        refine hg_sipush (n := 28) (v := 11000) dX6_line_25 rfl (by decide) ?_
        refine hg_callSd (n := 31) (c_X6_in _ _ _ _) dX6_line_28 rfl mk_X6_1 yl_X6_in ys_X6_in (by decide) (by decide) rfl rfl (Nat.le_of_ble_eq_true rfl) (fun h => by cases h) ?_
        refine hg_if_eq (n := 34) (tgt := 56) dX6_line_31 rfl (by decide) (fun h31 => ?_) (fun h31 => ?_)
        · exact absurd h31 (fun q => hb (Or.inr (Or.inr (Or.inl ⟨h18, q⟩))))
        · exact s3

def ln_m (X : MI_) (f nl : Nat) (o a b : Int32) : MI_ := u_3 (u_3 (u_3 (u_3 X 47 0 (8 * f + nl) o) 48 0 (8 * f + nl) a) 49 0 (8 * f + nl) b) 46 0 f (u_3 (u_3 (u_3 X 47 0 (8 * f + nl) o) 48 0 (8 * f + nl) a) 49 0 (8 * f + nl) b 46 0 f + 1)
set_option maxHeartbeats 4000000 in
set_option maxRecDepth 100000 in
theorem c_X6_line {mi : MI_} {ml : ML_} {mr : MR_} {sh : SH_} (hM : mo_ mr sh) (f : Nat) (hf : f < 3) (o a b : Int32) (hb : ¬ li_b (nI f) o a b) (hr : mi 53 0 f = 0) (nl : Nat) (hl : mi 46 0 f = nI nl) (hl8 : nl < 8) : hg_Det false yX6_line md_X6_line [hv_r (some (7, 0)), hv_i (nI f), hv_i o, hv_i a, hv_i b] (mi, ml, mr, sh) (some (hv_i (ln_m mi f nl o a b 46 0 f))) (ln_m mi f nl o a b, ml, mr, sh) := by
  intro Q hQ
  refine hg_intro rfl rfl rfl (Nat.le_of_ble_eq_true rfl) rfl ?_
  have s5 : ∀ x, x = (if o = 0 then 1000 else 500) → hg_G md_X6_line false sh Q 0 0 50 [some (hv_r (some (7, 0))), some (hv_i (nI f)), some (hv_i o), some (hv_i a), some (hv_i b), none] [hv_i x, hv_i 1, hv_i b] (mi, ml, mr, sh) := by
    intro x hx
    refine hg_callSd (n := 53) (c_X6_in _ _ _ _) dX6_line_50 rfl mk_X6_1 yl_X6_in ys_X6_in (by decide) (by decide) rfl rfl (Nat.le_of_ble_eq_true rfl) (fun h => by cases h) ?_
    refine hg_if_ne (n := 56) (tgt := 59) dX6_line_53 rfl (by decide) (fun h53 => ?_) (fun h53 => ?_)
    · refine hg_aload_n (n := 60) dX6_line_59 rfl rfl ?_
      refine hg_getR (n := 63) (r := some (53, 0)) dX6_line_60 rfl fl_X6_111 rfl rfl (mo_s hM) (mo_r hM 23 (by decide)) ?_
      refine hg_iload_n (n := 64) dX6_line_63 rfl rfl ?_
      refine hg_baload (n := 65) (len := 3) (f) dX6_line_64 rfl (by decide) rfl (mo_a hM 23 (by decide)) rfl (by omega) (by decide) ?_
      refine hg_if_eq (n := 68) (tgt := 71) dX6_line_65 rfl (by decide) (fun h65 => ?_) (fun h65 => ?_)
      · refine hg_aload_n (n := 72) dX6_line_71 rfl rfl ?_
        refine hg_getR (n := 75) (r := some (46, 0)) dX6_line_72 rfl fl_X6_89 rfl rfl (mo_s hM) (mo_r hM 16 (by decide)) ?_
        refine hg_iload_n (n := 76) dX6_line_75 rfl rfl ?_
        refine hg_ialoadN (n := 77) (len := 3) (nl) (f) dX6_line_76 rfl (by decide) rfl (mo_a hM 16 (by decide)) rfl (by omega) (by decide) hl ?_
        refine hg_bipush (n := 79) (v := 8) dX6_line_77 rfl (by decide) ?_
        refine hg_icmp_neN (n := 82) (tgt := 85) (nl) (8) dX6_line_79 rfl (by decide) (by omega) (by omega) (fun h79 => ?_) (fun h79 => ?_)
        · refine hg_bipush (n := 87) (v := 8) dX6_line_85 rfl (by decide) ?_
          refine hg_iload_n (n := 88) dX6_line_87 rfl rfl ?_
          refine hg_imulN (n := 89) (8) (f) dX6_line_88 rfl ?_
          refine hg_aload_n (n := 90) dX6_line_89 rfl rfl ?_
          refine hg_getR (n := 93) (r := some (46, 0)) dX6_line_90 rfl fl_X6_89 rfl rfl (mo_s hM) (mo_r hM 16 (by decide)) ?_
          refine hg_iload_n (n := 94) dX6_line_93 rfl rfl ?_
          refine hg_ialoadN (n := 95) (len := 3) (nl) (f) dX6_line_94 rfl (by decide) rfl (mo_a hM 16 (by decide)) rfl (by omega) (by decide) hl ?_
          refine hg_iaddN (n := 96) (8 * f) (nl) dX6_line_95 rfl ?_
          refine hg_istore (n := 98) dX6_line_96 rfl (by decide) rfl rfl ?_
          refine hg_aload_n (n := 99) dX6_line_98 rfl rfl ?_
          refine hg_getR (n := 102) (r := some (47, 0)) dX6_line_99 rfl fl_X6_92 rfl rfl (mo_s hM) (mo_r hM 17 (by decide)) ?_
          refine hg_iload (n := 104) dX6_line_102 rfl rfl ?_
          refine hg_iload_n (n := 105) dX6_line_104 rfl rfl ?_
          refine hg_iastore (n := 106) (len := 24) ((8 * f) + nl) dX6_line_105 rfl (by decide) rfl (mo_a hM 17 (by decide)) rfl (by omega) (by decide) ?_
          refine hg_aload_n (n := 107) dX6_line_106 rfl rfl ?_
          refine hg_getR (n := 110) (r := some (48, 0)) dX6_line_107 rfl fl_X6_95 rfl rfl (mo_s hM) (mo_r hM 18 (by decide)) ?_
          refine hg_iload (n := 112) dX6_line_110 rfl rfl ?_
          refine hg_iload_n (n := 113) dX6_line_112 rfl rfl ?_
          refine hg_iastore (n := 114) (len := 24) ((8 * f) + nl) dX6_line_113 rfl (by decide) rfl (mo_a hM 18 (by decide)) rfl (by omega) (by decide) ?_
          refine hg_aload_n (n := 115) dX6_line_114 rfl rfl ?_
          refine hg_getR (n := 118) (r := some (49, 0)) dX6_line_115 rfl fl_X6_98 rfl rfl (mo_s hM) (mo_r hM 19 (by decide)) ?_
          refine hg_iload (n := 120) dX6_line_118 rfl rfl ?_
          refine hg_iload (n := 122) dX6_line_120 rfl rfl ?_
          refine hg_iastore (n := 123) (len := 24) ((8 * f) + nl) dX6_line_122 rfl (by decide) rfl (mo_a hM 19 (by decide)) rfl (by omega) (by decide) ?_
          refine hg_aload_n (n := 124) dX6_line_123 rfl rfl ?_
          refine hg_getR (n := 127) (r := some (46, 0)) dX6_line_124 rfl fl_X6_89 rfl rfl (mo_s hM) (mo_r hM 16 (by decide)) ?_
          refine hg_iload_n (n := 128) dX6_line_127 rfl rfl ?_
          refine hg_dup2 (n := 129) dX6_line_128 rfl rfl rfl ?_
          refine hg_iaload (n := 130) (len := 3) (f) dX6_line_129 rfl (by decide) rfl (mo_a hM 16 (by decide)) rfl (by omega) (by decide) ?_
          refine hg_iconst (n := 131) (v := 1) dX6_line_130 rfl (by decide) ?_
          refine hg_iadd (n := 132) dX6_line_131 rfl ?_
          refine hg_iastore (n := 133) (len := 3) (f) dX6_line_132 rfl (by decide) rfl (mo_a hM 16 (by decide)) rfl (by omega) (by decide) ?_
          refine hg_aload_n (n := 134) dX6_line_133 rfl rfl ?_
          refine hg_getR (n := 137) (r := some (46, 0)) dX6_line_134 rfl fl_X6_89 rfl rfl (mo_s hM) (mo_r hM 16 (by decide)) ?_
          refine hg_iload_n (n := 138) dX6_line_137 rfl rfl ?_
          refine hg_iaload (n := 139) (len := 3) (f) dX6_line_138 rfl (by decide) rfl (mo_a hM 16 (by decide)) rfl (by omega) (by decide) ?_
          refine hg_ireturn dX6_line_139 rfl ?_
          exact hQ
        · exact absurd h79 (by omega)
      · exact absurd hr h65
    · exact absurd h53 (by rw [hx]; exact fun q => hb (Or.inr (Or.inr (Or.inr q))))
  have s3 : hg_G md_X6_line false sh Q 0 0 34 [some (hv_r (some (7, 0))), some (hv_i (nI f)), some (hv_i o), some (hv_i a), some (hv_i b), none] [] (mi, ml, mr, sh) := by
    refine hg_iload (n := 36) dX6_line_34 rfl rfl ?_
    refine hg_iconst (n := 37) (v := 1) dX6_line_36 rfl (by decide) ?_
    refine hg_iload_n (n := 38) dX6_line_37 rfl rfl ?_
    refine hg_if_ne (n := 41) (tgt := 47) dX6_line_38 rfl (by decide) (fun h38 => ?_) (fun h38 => ?_)
    · refine hg_sipush (n := 50) (v := 500) dX6_line_47 rfl (by decide) ?_
      exact s5 _ (by rw [if_neg h38])
    · refine hg_sipush (n := 44) (v := 1000) dX6_line_41 rfl (by decide) ?_
      refine hg_goto (tgt := 50) dX6_line_44 (by decide) ?_
      exact s5 _ (by rw [if_pos h38])
  refine hg_iload_n (n := 1) dX6_line_0 rfl rfl ?_
  refine hg_callSd (n := 4) (c_X6_isFurnace _ _) dX6_line_1 rfl mk_X6_153 yl_X6_isFurnace ys_X6_isFurnace (by decide) (by decide) rfl rfl (Nat.le_of_ble_eq_true rfl) (fun h => by cases h) ?_
  refine hg_if_eq (n := 7) (tgt := 56) dX6_line_4 rfl (by decide) (fun h4 => ?_) (fun h4 => ?_)
  · exact absurd h4 (z_nat3 (a := 0) (b := 2) (by omega) (by omega) (by omega))
  · refine hg_iload_n (n := 8) dX6_line_7 rfl rfl ?_
    refine hg_iconst (n := 9) (v := 0) dX6_line_8 rfl (by decide) ?_
    refine hg_iconst (n := 10) (v := 3) dX6_line_9 rfl (by decide) ?_
    refine hg_callSd (n := 13) (c_X6_in _ _ _ _) dX6_line_10 rfl mk_X6_1 yl_X6_in ys_X6_in (by decide) (by decide) rfl rfl (Nat.le_of_ble_eq_true rfl) (fun h => by cases h) ?_
    refine hg_if_eq (n := 16) (tgt := 56) dX6_line_13 rfl (by decide) (fun h13 => ?_) (fun h13 => ?_)
    · exact absurd h13 (fun q => hb (Or.inr (Or.inl q)))
    · refine hg_iload_n (n := 17) dX6_line_16 rfl rfl ?_
      refine hg_iconst (n := 18) (v := 3) dX6_line_17 rfl (by decide) ?_
      refine hg_icmp_eq (n := 21) (tgt := 34) dX6_line_18 rfl (by decide) (fun h18 => ?_) (fun h18 => ?_)
      · exact s3
      · refine hg_iload_n (n := 22) dX6_line_21 rfl rfl ?_
        refine hg_sipush (n := 25) (v := 200) dX6_line_22 rfl (by decide) ?_
        refine hg_sipush (n := 28) (v := 11000) dX6_line_25 rfl (by decide) ?_
        refine hg_callSd (n := 31) (c_X6_in _ _ _ _) dX6_line_28 rfl mk_X6_1 yl_X6_in ys_X6_in (by decide) (by decide) rfl rfl (Nat.le_of_ble_eq_true rfl) (fun h => by cases h) ?_
        refine hg_if_eq (n := 34) (tgt := 56) dX6_line_31 rfl (by decide) (fun h31 => ?_) (fun h31 => ?_)
        · exact absurd h31 (fun q => hb (Or.inr (Or.inr (Or.inl ⟨h18, q⟩))))
        · exact s3

set_option maxHeartbeats 4000000 in
set_option maxRecDepth 100000 in
theorem c_X6_clear_b {mi : MI_} {ml : ML_} {mr : MR_} {sh : SH_} (hM : mo_ mr sh) (f : Int32) (hb : z_in f 0 2 = 0) : hg_Det false yX6_clear md_X6_clear [hv_r (some (7, 0)), hv_i f] (mi, ml, mr, sh) (some (hv_i (-2))) (mi, ml, mr, sh) := by
  intro Q hQ
  refine hg_intro rfl rfl rfl (Nat.le_of_ble_eq_true rfl) rfl ?_
  refine hg_iload_n (n := 1) dX6_clear_0 rfl rfl ?_
  refine hg_callSd (n := 4) (c_X6_isFurnace _ _) dX6_clear_1 rfl mk_X6_153 yl_X6_isFurnace ys_X6_isFurnace (by decide) (by decide) rfl rfl (Nat.le_of_ble_eq_true rfl) (fun h => by cases h) ?_
  refine hg_if_ne (n := 7) (tgt := 10) dX6_clear_4 rfl (by decide) (fun h4 => ?_) (fun h4 => ?_)
  · exact absurd hb h4
  · refine hg_bipush (n := 9) (v := -2) dX6_clear_7 rfl (by decide) ?_
    refine hg_ireturn dX6_clear_9 rfl ?_
    exact hQ

set_option maxHeartbeats 4000000 in
set_option maxRecDepth 100000 in
theorem c_X6_clear_n {mi : MI_} {ml : ML_} {mr : MR_} {sh : SH_} (hM : mo_ mr sh) (f : Nat) (hf : f < 3) (hr : ¬ mi 53 0 f = 0) : hg_Det false yX6_clear md_X6_clear [hv_r (some (7, 0)), hv_i (nI f)] (mi, ml, mr, sh) (some (hv_i (-3))) (mi, ml, mr, sh) := by
  intro Q hQ
  refine hg_intro rfl rfl rfl (Nat.le_of_ble_eq_true rfl) rfl ?_
  refine hg_iload_n (n := 1) dX6_clear_0 rfl rfl ?_
  refine hg_callSd (n := 4) (c_X6_isFurnace _ _) dX6_clear_1 rfl mk_X6_153 yl_X6_isFurnace ys_X6_isFurnace (by decide) (by decide) rfl rfl (Nat.le_of_ble_eq_true rfl) (fun h => by cases h) ?_
  refine hg_if_ne (n := 7) (tgt := 10) dX6_clear_4 rfl (by decide) (fun h4 => ?_) (fun h4 => ?_)
  · refine hg_aload_n (n := 11) dX6_clear_10 rfl rfl ?_
    refine hg_getR (n := 14) (r := some (53, 0)) dX6_clear_11 rfl fl_X6_111 rfl rfl (mo_s hM) (mo_r hM 23 (by decide)) ?_
    refine hg_iload_n (n := 15) dX6_clear_14 rfl rfl ?_
    refine hg_baload (n := 16) (len := 3) (f) dX6_clear_15 rfl (by decide) rfl (mo_a hM 23 (by decide)) rfl (by omega) (by decide) ?_
    refine hg_if_eq (n := 19) (tgt := 22) dX6_clear_16 rfl (by decide) (fun h16 => ?_) (fun h16 => ?_)
    · exact absurd h16 hr
    · refine hg_bipush (n := 21) (v := -3) dX6_clear_19 rfl (by decide) ?_
      refine hg_ireturn dX6_clear_21 rfl ?_
      exact hQ
  · exact absurd h4 (z_nat3 (a := 0) (b := 2) (by omega) (by omega) (by omega))

set_option maxHeartbeats 4000000 in
set_option maxRecDepth 100000 in
theorem c_X6_clear {mi : MI_} {ml : ML_} {mr : MR_} {sh : SH_} (hM : mo_ mr sh) (f : Nat) (hf : f < 3) (hr : mi 53 0 f = 0) : hg_Det false yX6_clear md_X6_clear [hv_r (some (7, 0)), hv_i (nI f)] (mi, ml, mr, sh) (some (hv_i (mi 46 0 f))) (u_3 mi 46 0 f 0, ml, mr, sh) := by
  intro Q hQ
  refine hg_intro rfl rfl rfl (Nat.le_of_ble_eq_true rfl) rfl ?_
  refine hg_iload_n (n := 1) dX6_clear_0 rfl rfl ?_
  refine hg_callSd (n := 4) (c_X6_isFurnace _ _) dX6_clear_1 rfl mk_X6_153 yl_X6_isFurnace ys_X6_isFurnace (by decide) (by decide) rfl rfl (Nat.le_of_ble_eq_true rfl) (fun h => by cases h) ?_
  refine hg_if_ne (n := 7) (tgt := 10) dX6_clear_4 rfl (by decide) (fun h4 => ?_) (fun h4 => ?_)
  · refine hg_aload_n (n := 11) dX6_clear_10 rfl rfl ?_
    refine hg_getR (n := 14) (r := some (53, 0)) dX6_clear_11 rfl fl_X6_111 rfl rfl (mo_s hM) (mo_r hM 23 (by decide)) ?_
    refine hg_iload_n (n := 15) dX6_clear_14 rfl rfl ?_
    refine hg_baload (n := 16) (len := 3) (f) dX6_clear_15 rfl (by decide) rfl (mo_a hM 23 (by decide)) rfl (by omega) (by decide) ?_
    refine hg_if_eq (n := 19) (tgt := 22) dX6_clear_16 rfl (by decide) (fun h16 => ?_) (fun h16 => ?_)
    · refine hg_aload_n (n := 23) dX6_clear_22 rfl rfl ?_
      refine hg_getR (n := 26) (r := some (46, 0)) dX6_clear_23 rfl fl_X6_89 rfl rfl (mo_s hM) (mo_r hM 16 (by decide)) ?_
      refine hg_iload_n (n := 27) dX6_clear_26 rfl rfl ?_
      refine hg_iaload (n := 28) (len := 3) (f) dX6_clear_27 rfl (by decide) rfl (mo_a hM 16 (by decide)) rfl (by omega) (by decide) ?_
      refine hg_istore_n (n := 29) dX6_clear_28 rfl (by decide) rfl rfl ?_
      refine hg_aload_n (n := 30) dX6_clear_29 rfl rfl ?_
      refine hg_getR (n := 33) (r := some (46, 0)) dX6_clear_30 rfl fl_X6_89 rfl rfl (mo_s hM) (mo_r hM 16 (by decide)) ?_
      refine hg_iload_n (n := 34) dX6_clear_33 rfl rfl ?_
      refine hg_iconst (n := 35) (v := 0) dX6_clear_34 rfl (by decide) ?_
      refine hg_iastore (n := 36) (len := 3) (f) dX6_clear_35 rfl (by decide) rfl (mo_a hM 16 (by decide)) rfl (by omega) (by decide) ?_
      refine hg_iload_n (n := 37) dX6_clear_36 rfl rfl ?_
      refine hg_ireturn dX6_clear_37 rfl ?_
      exact hQ
    · exact absurd hr h16
  · exact absurd h4 (z_nat3 (a := 0) (b := 2) (by omega) (by omega) (by omega))

set_option maxHeartbeats 4000000 in
set_option maxRecDepth 100000 in
theorem c_X6_load_b {mi : MI_} {ml : ML_} {mr : MR_} {sh : SH_} (hM : mo_ mr sh) (f l x : Int32) (hb : z_in f 0 2 = 0 ∨ z_in l 0 3 = 0 ∨ z_in x 0 (mi 7 0 0 - 1) = 0) : hg_Det false yX6_load md_X6_load [hv_r (some (7, 0)), hv_i f, hv_i l, hv_i x] (mi, ml, mr, sh) (some (hv_i (-2))) (mi, ml, mr, sh) := by
  intro Q hQ
  refine hg_intro rfl rfl rfl (Nat.le_of_ble_eq_true rfl) rfl ?_
  refine hg_iload_n (n := 1) dX6_load_0 rfl rfl ?_
  refine hg_callSd (n := 4) (c_X6_isFurnace _ _) dX6_load_1 rfl mk_X6_153 yl_X6_isFurnace ys_X6_isFurnace (by decide) (by decide) rfl rfl (Nat.le_of_ble_eq_true rfl) (fun h => by cases h) ?_
  refine hg_if_eq (n := 7) (tgt := 22) dX6_load_4 rfl (by decide) (fun h4 => ?_) (fun h4 => ?_)
  · refine hg_bipush (n := 24) (v := -2) dX6_load_22 rfl (by decide) ?_
    refine hg_ireturn dX6_load_24 rfl ?_
    exact hQ
  · refine hg_iload_n (n := 8) dX6_load_7 rfl rfl ?_
    refine hg_callSd (n := 11) (c_X6_isPlace _ _) dX6_load_8 rfl mk_X6_156 yl_X6_isPlace ys_X6_isPlace (by decide) (by decide) rfl rfl (Nat.le_of_ble_eq_true rfl) (fun h => by cases h) ?_
    refine hg_if_eq (n := 14) (tgt := 22) dX6_load_11 rfl (by decide) (fun h11 => ?_) (fun h11 => ?_)
    · refine hg_bipush (n := 24) (v := -2) dX6_load_22 rfl (by decide) ?_
      refine hg_ireturn dX6_load_24 rfl ?_
      exact hQ
    · refine hg_aload_n (n := 15) dX6_load_14 rfl rfl ?_
      refine hg_iload_n (n := 16) dX6_load_15 rfl rfl ?_
      refine hg_callVd (n := 19) (c_X6_isPart hM _) dX6_load_16 rfl mk_X6_60 yl_X6_isPart yv_X6_isPart rfl (mo_s hM) (by decide) (by decide) rfl rfl (Nat.le_of_ble_eq_true rfl) (fun h => by cases h) ?_
      refine hg_if_ne (n := 22) (tgt := 25) dX6_load_19 rfl (by decide) (fun h19 => ?_) (fun h19 => ?_)
      · exact absurd hb (by simp [h4, h11, h19])
      · refine hg_bipush (n := 24) (v := -2) dX6_load_22 rfl (by decide) ?_
        refine hg_ireturn dX6_load_24 rfl ?_
        exact hQ

def ld_n (X : MI_) (f l p : Nat) : Prop := ¬ X 38 0 p = -1 ∨ ¬ X 50 0 (4 * f + l) = -1 ∨ ¬ X 53 0 f = 0
def ld_m (X : MI_) (f p : Nat) : Prop := ¬ ma_ X f 4 + X 32 0 p ≤ 1000
set_option maxHeartbeats 4000000 in
set_option maxRecDepth 100000 in
theorem c_X6_load_n {mi : MI_} {ml : ML_} {mr : MR_} {sh : SH_} (hM : mo_ mr sh) (np : Nat) (hnp : mi 7 0 0 = nI np) (hn12 : np ≤ 12) (hpl : pl_ mi np) (f : Nat) (hf : f < 3) (l : Nat) (hl : l < 4) (p : Nat) (hp : p < np) (hno : ld_n mi f l p ∨ ld_m mi f p) : hg_Det false yX6_load md_X6_load [hv_r (some (7, 0)), hv_i (nI f), hv_i (nI l), hv_i (nI p)] (mi, ml, mr, sh) (some (hv_i (-3))) (mi, ml, mr, sh) := by
  intro Q hQ
  refine hg_intro rfl rfl rfl (Nat.le_of_ble_eq_true rfl) rfl ?_
  have s0 : ld_m mi f p → hg_G md_X6_load false sh Q 0 0 63 [some (hv_r (some (7, 0))), some (hv_i (nI f)), some (hv_i (nI l)), some (hv_i (nI p)), none] [hv_i 0] (mi, ml, mr, sh) := by
    intro hm
    refine hg_istore (n := 65) dX6_load_63 rfl (by decide) rfl rfl ?_
    refine hg_iload (n := 67) dX6_load_65 rfl rfl ?_
    refine hg_if_ne (n := 70) (tgt := 88) dX6_load_67 rfl (by decide) (fun h67 => ?_) (fun h67 => ?_)
    · exact absurd rfl h67
    · refine hg_aload_n (n := 71) dX6_load_70 rfl rfl ?_
      refine hg_iload_n (n := 72) dX6_load_71 rfl rfl ?_
      refine hg_callVd (n := 75) (c_X6_massOf hM np hn12 hpl (f) (by omega)) dX6_load_72 rfl mk_X6_159 yl_X6_massOf yv_X6_massOf rfl (mo_s hM) (by decide) (by decide) rfl rfl (Nat.le_of_ble_eq_true rfl) (fun h => by cases h) ?_
      refine hg_aload_n (n := 76) dX6_load_75 rfl rfl ?_
      refine hg_getR (n := 79) (r := some (32, 0)) dX6_load_76 rfl fl_X6_15 rfl rfl (mo_s hM) (mo_r hM 2 (by decide)) ?_
      refine hg_iload_n (n := 80) dX6_load_79 rfl rfl ?_
      refine hg_iaload (n := 81) (len := 12) (p) dX6_load_80 rfl (by decide) rfl (mo_a hM 2 (by decide)) rfl (by omega) (by decide) ?_
      refine hg_iadd (n := 82) dX6_load_81 rfl ?_
      refine hg_sipush (n := 85) (v := 1000) dX6_load_82 rfl (by decide) ?_
      refine hg_icmp_le (n := 88) (tgt := 91) dX6_load_85 rfl (by decide) (fun h85 => ?_) (fun h85 => ?_)
      · exact absurd h85 hm
      · refine hg_bipush (n := 90) (v := -3) dX6_load_88 rfl (by decide) ?_
        refine hg_ireturn dX6_load_90 rfl ?_
        exact hQ
  have s1 : hg_G md_X6_load false sh Q 0 0 63 [some (hv_r (some (7, 0))), some (hv_i (nI f)), some (hv_i (nI l)), some (hv_i (nI p)), none] [hv_i 1] (mi, ml, mr, sh) := by
    refine hg_istore (n := 65) dX6_load_63 rfl (by decide) rfl rfl ?_
    refine hg_iload (n := 67) dX6_load_65 rfl rfl ?_
    refine hg_if_ne (n := 70) (tgt := 88) dX6_load_67 rfl (by decide) (fun h67 => ?_) (fun h67 => ?_)
    · refine hg_bipush (n := 90) (v := -3) dX6_load_88 rfl (by decide) ?_
      refine hg_ireturn dX6_load_90 rfl ?_
      exact hQ
    · exact absurd h67 (by decide)
  refine hg_iload_n (n := 1) dX6_load_0 rfl rfl ?_
  refine hg_callSd (n := 4) (c_X6_isFurnace _ _) dX6_load_1 rfl mk_X6_153 yl_X6_isFurnace ys_X6_isFurnace (by decide) (by decide) rfl rfl (Nat.le_of_ble_eq_true rfl) (fun h => by cases h) ?_
  refine hg_if_eq (n := 7) (tgt := 22) dX6_load_4 rfl (by decide) (fun h4 => ?_) (fun h4 => ?_)
  · exact absurd h4 (z_nat3 (a := 0) (b := 2) (by omega) (by omega) (by omega))
  · refine hg_iload_n (n := 8) dX6_load_7 rfl rfl ?_
    refine hg_callSd (n := 11) (c_X6_isPlace _ _) dX6_load_8 rfl mk_X6_156 yl_X6_isPlace ys_X6_isPlace (by decide) (by decide) rfl rfl (Nat.le_of_ble_eq_true rfl) (fun h => by cases h) ?_
    refine hg_if_eq (n := 14) (tgt := 22) dX6_load_11 rfl (by decide) (fun h11 => ?_) (fun h11 => ?_)
    · exact absurd h11 (z_nat3 (a := 0) (b := 3) (by omega) (by omega) (by omega))
    · refine hg_aload_n (n := 15) dX6_load_14 rfl rfl ?_
      refine hg_iload_n (n := 16) dX6_load_15 rfl rfl ?_
      refine hg_callVd (n := 19) (c_X6_isPart hM _) dX6_load_16 rfl mk_X6_60 yl_X6_isPart yv_X6_isPart rfl (mo_s hM) (by decide) (by decide) rfl rfl (Nat.le_of_ble_eq_true rfl) (fun h => by cases h) ?_
      refine hg_if_ne (n := 22) (tgt := 25) dX6_load_19 rfl (by decide) (fun h19 => ?_) (fun h19 => ?_)
      · refine hg_aload_n (n := 26) dX6_load_25 rfl rfl ?_
        refine hg_getR (n := 29) (r := some (38, 0)) dX6_load_26 rfl fl_X6_34 rfl rfl (mo_s hM) (mo_r hM 8 (by decide)) ?_
        refine hg_iload_n (n := 30) dX6_load_29 rfl rfl ?_
        refine hg_iaload (n := 31) (len := 12) (p) dX6_load_30 rfl (by decide) rfl (mo_a hM 8 (by decide)) rfl (by omega) (by decide) ?_
        refine hg_iconst (n := 32) (v := -1) dX6_load_31 rfl (by decide) ?_
        refine hg_icmp_ne (n := 35) (tgt := 58) dX6_load_32 rfl (by decide) (fun h32 => ?_) (fun h32 => ?_)
        · refine hg_iconst (n := 59) (v := 1) dX6_load_58 rfl (by decide) ?_
          refine hg_goto (tgt := 63) dX6_load_59 (by decide) ?_
          exact s1
        · refine hg_aload_n (n := 36) dX6_load_35 rfl rfl ?_
          refine hg_getR (n := 39) (r := some (50, 0)) dX6_load_36 rfl fl_X6_101 rfl rfl (mo_s hM) (mo_r hM 20 (by decide)) ?_
          refine hg_iconst (n := 40) (v := 4) dX6_load_39 rfl (by decide) ?_
          refine hg_iload_n (n := 41) dX6_load_40 rfl rfl ?_
          refine hg_imulN (n := 42) (4) (f) dX6_load_41 rfl ?_
          refine hg_iload_n (n := 43) dX6_load_42 rfl rfl ?_
          refine hg_iaddN (n := 44) (4 * f) (l) dX6_load_43 rfl ?_
          refine hg_iaload (n := 45) (len := 12) ((4 * f) + l) dX6_load_44 rfl (by decide) rfl (mo_a hM 20 (by decide)) rfl (by omega) (by decide) ?_
          refine hg_iconst (n := 46) (v := -1) dX6_load_45 rfl (by decide) ?_
          refine hg_icmp_ne (n := 49) (tgt := 58) dX6_load_46 rfl (by decide) (fun h46 => ?_) (fun h46 => ?_)
          · refine hg_iconst (n := 59) (v := 1) dX6_load_58 rfl (by decide) ?_
            refine hg_goto (tgt := 63) dX6_load_59 (by decide) ?_
            exact s1
          · refine hg_aload_n (n := 50) dX6_load_49 rfl rfl ?_
            refine hg_getR (n := 53) (r := some (53, 0)) dX6_load_50 rfl fl_X6_111 rfl rfl (mo_s hM) (mo_r hM 23 (by decide)) ?_
            refine hg_iload_n (n := 54) dX6_load_53 rfl rfl ?_
            refine hg_baload (n := 55) (len := 3) (f) dX6_load_54 rfl (by decide) rfl (mo_a hM 23 (by decide)) rfl (by omega) (by decide) ?_
            refine hg_if_eq (n := 58) (tgt := 62) dX6_load_55 rfl (by decide) (fun h55 => ?_) (fun h55 => ?_)
            · refine hg_iconst (n := 63) (v := 0) dX6_load_62 rfl (by decide) ?_
              exact s0 (hno.resolve_left (by unfold ld_n; simp_all))
            · refine hg_iconst (n := 59) (v := 1) dX6_load_58 rfl (by decide) ?_
              refine hg_goto (tgt := 63) dX6_load_59 (by decide) ?_
              exact s1
      · exact absurd h19 (by rw [hnp, z_ix2 (by omega) hp]; decide)

set_option maxHeartbeats 4000000 in
set_option maxRecDepth 100000 in
theorem c_X6_load {mi : MI_} {ml : ML_} {mr : MR_} {sh : SH_} (hM : mo_ mr sh) (np : Nat) (hnp : mi 7 0 0 = nI np) (hn12 : np ≤ 12) (hpl : pl_ mi np) (f : Nat) (hf : f < 3) (l : Nat) (hl : l < 4) (p : Nat) (hp : p < np) (h1 : ¬ ld_n mi f l p) (h2 : ¬ ld_m mi f p) : hg_Det false yX6_load md_X6_load [hv_r (some (7, 0)), hv_i (nI f), hv_i (nI l), hv_i (nI p)] (mi, ml, mr, sh) (some (hv_i 1)) (u_3 (u_3 mi 50 0 (4 * f + l) (nI p)) 38 0 p (nI f), ml, mr, sh) := by
  intro Q hQ
  refine hg_intro rfl rfl rfl (Nat.le_of_ble_eq_true rfl) rfl ?_
  have s0 : hg_G md_X6_load false sh Q 0 0 63 [some (hv_r (some (7, 0))), some (hv_i (nI f)), some (hv_i (nI l)), some (hv_i (nI p)), none] [hv_i 0] (mi, ml, mr, sh) := by
    refine hg_istore (n := 65) dX6_load_63 rfl (by decide) rfl rfl ?_
    refine hg_iload (n := 67) dX6_load_65 rfl rfl ?_
    refine hg_if_ne (n := 70) (tgt := 88) dX6_load_67 rfl (by decide) (fun h67 => ?_) (fun h67 => ?_)
    · exact absurd rfl h67
    · refine hg_aload_n (n := 71) dX6_load_70 rfl rfl ?_
      refine hg_iload_n (n := 72) dX6_load_71 rfl rfl ?_
      refine hg_callVd (n := 75) (c_X6_massOf hM np hn12 hpl (f) (by omega)) dX6_load_72 rfl mk_X6_159 yl_X6_massOf yv_X6_massOf rfl (mo_s hM) (by decide) (by decide) rfl rfl (Nat.le_of_ble_eq_true rfl) (fun h => by cases h) ?_
      refine hg_aload_n (n := 76) dX6_load_75 rfl rfl ?_
      refine hg_getR (n := 79) (r := some (32, 0)) dX6_load_76 rfl fl_X6_15 rfl rfl (mo_s hM) (mo_r hM 2 (by decide)) ?_
      refine hg_iload_n (n := 80) dX6_load_79 rfl rfl ?_
      refine hg_iaload (n := 81) (len := 12) (p) dX6_load_80 rfl (by decide) rfl (mo_a hM 2 (by decide)) rfl (by omega) (by decide) ?_
      refine hg_iadd (n := 82) dX6_load_81 rfl ?_
      refine hg_sipush (n := 85) (v := 1000) dX6_load_82 rfl (by decide) ?_
      refine hg_icmp_le (n := 88) (tgt := 91) dX6_load_85 rfl (by decide) (fun h85 => ?_) (fun h85 => ?_)
      · refine hg_aload_n (n := 92) dX6_load_91 rfl rfl ?_
        refine hg_getR (n := 95) (r := some (50, 0)) dX6_load_92 rfl fl_X6_101 rfl rfl (mo_s hM) (mo_r hM 20 (by decide)) ?_
        refine hg_iconst (n := 96) (v := 4) dX6_load_95 rfl (by decide) ?_
        refine hg_iload_n (n := 97) dX6_load_96 rfl rfl ?_
        refine hg_imulN (n := 98) (4) (f) dX6_load_97 rfl ?_
        refine hg_iload_n (n := 99) dX6_load_98 rfl rfl ?_
        refine hg_iaddN (n := 100) (4 * f) (l) dX6_load_99 rfl ?_
        refine hg_iload_n (n := 101) dX6_load_100 rfl rfl ?_
        refine hg_iastore (n := 102) (len := 12) ((4 * f) + l) dX6_load_101 rfl (by decide) rfl (mo_a hM 20 (by decide)) rfl (by omega) (by decide) ?_
        refine hg_aload_n (n := 103) dX6_load_102 rfl rfl ?_
        refine hg_getR (n := 106) (r := some (38, 0)) dX6_load_103 rfl fl_X6_34 rfl rfl (mo_s hM) (mo_r hM 8 (by decide)) ?_
        refine hg_iload_n (n := 107) dX6_load_106 rfl rfl ?_
        refine hg_iload_n (n := 108) dX6_load_107 rfl rfl ?_
        refine hg_iastore (n := 109) (len := 12) (p) dX6_load_108 rfl (by decide) rfl (mo_a hM 8 (by decide)) rfl (by omega) (by decide) ?_
        refine hg_iconst (n := 110) (v := 1) dX6_load_109 rfl (by decide) ?_
        refine hg_ireturn dX6_load_110 rfl ?_
        exact hQ
      · exact absurd h85 h2
  refine hg_iload_n (n := 1) dX6_load_0 rfl rfl ?_
  refine hg_callSd (n := 4) (c_X6_isFurnace _ _) dX6_load_1 rfl mk_X6_153 yl_X6_isFurnace ys_X6_isFurnace (by decide) (by decide) rfl rfl (Nat.le_of_ble_eq_true rfl) (fun h => by cases h) ?_
  refine hg_if_eq (n := 7) (tgt := 22) dX6_load_4 rfl (by decide) (fun h4 => ?_) (fun h4 => ?_)
  · exact absurd h4 (z_nat3 (a := 0) (b := 2) (by omega) (by omega) (by omega))
  · refine hg_iload_n (n := 8) dX6_load_7 rfl rfl ?_
    refine hg_callSd (n := 11) (c_X6_isPlace _ _) dX6_load_8 rfl mk_X6_156 yl_X6_isPlace ys_X6_isPlace (by decide) (by decide) rfl rfl (Nat.le_of_ble_eq_true rfl) (fun h => by cases h) ?_
    refine hg_if_eq (n := 14) (tgt := 22) dX6_load_11 rfl (by decide) (fun h11 => ?_) (fun h11 => ?_)
    · exact absurd h11 (z_nat3 (a := 0) (b := 3) (by omega) (by omega) (by omega))
    · refine hg_aload_n (n := 15) dX6_load_14 rfl rfl ?_
      refine hg_iload_n (n := 16) dX6_load_15 rfl rfl ?_
      refine hg_callVd (n := 19) (c_X6_isPart hM _) dX6_load_16 rfl mk_X6_60 yl_X6_isPart yv_X6_isPart rfl (mo_s hM) (by decide) (by decide) rfl rfl (Nat.le_of_ble_eq_true rfl) (fun h => by cases h) ?_
      refine hg_if_ne (n := 22) (tgt := 25) dX6_load_19 rfl (by decide) (fun h19 => ?_) (fun h19 => ?_)
      · refine hg_aload_n (n := 26) dX6_load_25 rfl rfl ?_
        refine hg_getR (n := 29) (r := some (38, 0)) dX6_load_26 rfl fl_X6_34 rfl rfl (mo_s hM) (mo_r hM 8 (by decide)) ?_
        refine hg_iload_n (n := 30) dX6_load_29 rfl rfl ?_
        refine hg_iaload (n := 31) (len := 12) (p) dX6_load_30 rfl (by decide) rfl (mo_a hM 8 (by decide)) rfl (by omega) (by decide) ?_
        refine hg_iconst (n := 32) (v := -1) dX6_load_31 rfl (by decide) ?_
        refine hg_icmp_ne (n := 35) (tgt := 58) dX6_load_32 rfl (by decide) (fun h32 => ?_) (fun h32 => ?_)
        · refine hg_iconst (n := 59) (v := 1) dX6_load_58 rfl (by decide) ?_
          refine hg_goto (tgt := 63) dX6_load_59 (by decide) ?_
          exact absurd h1 (by unfold ld_n; simp_all)
        · refine hg_aload_n (n := 36) dX6_load_35 rfl rfl ?_
          refine hg_getR (n := 39) (r := some (50, 0)) dX6_load_36 rfl fl_X6_101 rfl rfl (mo_s hM) (mo_r hM 20 (by decide)) ?_
          refine hg_iconst (n := 40) (v := 4) dX6_load_39 rfl (by decide) ?_
          refine hg_iload_n (n := 41) dX6_load_40 rfl rfl ?_
          refine hg_imulN (n := 42) (4) (f) dX6_load_41 rfl ?_
          refine hg_iload_n (n := 43) dX6_load_42 rfl rfl ?_
          refine hg_iaddN (n := 44) (4 * f) (l) dX6_load_43 rfl ?_
          refine hg_iaload (n := 45) (len := 12) ((4 * f) + l) dX6_load_44 rfl (by decide) rfl (mo_a hM 20 (by decide)) rfl (by omega) (by decide) ?_
          refine hg_iconst (n := 46) (v := -1) dX6_load_45 rfl (by decide) ?_
          refine hg_icmp_ne (n := 49) (tgt := 58) dX6_load_46 rfl (by decide) (fun h46 => ?_) (fun h46 => ?_)
          · refine hg_iconst (n := 59) (v := 1) dX6_load_58 rfl (by decide) ?_
            refine hg_goto (tgt := 63) dX6_load_59 (by decide) ?_
            exact absurd h1 (by unfold ld_n; simp_all)
          · refine hg_aload_n (n := 50) dX6_load_49 rfl rfl ?_
            refine hg_getR (n := 53) (r := some (53, 0)) dX6_load_50 rfl fl_X6_111 rfl rfl (mo_s hM) (mo_r hM 23 (by decide)) ?_
            refine hg_iload_n (n := 54) dX6_load_53 rfl rfl ?_
            refine hg_baload (n := 55) (len := 3) (f) dX6_load_54 rfl (by decide) rfl (mo_a hM 23 (by decide)) rfl (by omega) (by decide) ?_
            refine hg_if_eq (n := 58) (tgt := 62) dX6_load_55 rfl (by decide) (fun h55 => ?_) (fun h55 => ?_)
            · refine hg_iconst (n := 63) (v := 0) dX6_load_62 rfl (by decide) ?_
              exact s0
            · refine hg_iconst (n := 59) (v := 1) dX6_load_58 rfl (by decide) ?_
              refine hg_goto (tgt := 63) dX6_load_59 (by decide) ?_
              exact absurd h1 (by unfold ld_n; simp_all)
      · exact absurd h19 (by rw [hnp, z_ix2 (by omega) hp]; decide)

set_option maxHeartbeats 4000000 in
set_option maxRecDepth 100000 in
theorem c_X6_unload_b {mi : MI_} {ml : ML_} {mr : MR_} {sh : SH_} (hM : mo_ mr sh) (f l : Int32) (hb : z_in f 0 2 = 0 ∨ z_in l 0 3 = 0) : hg_Det false yX6_unload md_X6_unload [hv_r (some (7, 0)), hv_i f, hv_i l] (mi, ml, mr, sh) (some (hv_i (-2))) (mi, ml, mr, sh) := by
  intro Q hQ
  refine hg_intro rfl rfl rfl (Nat.le_of_ble_eq_true rfl) rfl ?_
  refine hg_iload_n (n := 1) dX6_unload_0 rfl rfl ?_
  refine hg_callSd (n := 4) (c_X6_isFurnace _ _) dX6_unload_1 rfl mk_X6_153 yl_X6_isFurnace ys_X6_isFurnace (by decide) (by decide) rfl rfl (Nat.le_of_ble_eq_true rfl) (fun h => by cases h) ?_
  refine hg_if_eq (n := 7) (tgt := 14) dX6_unload_4 rfl (by decide) (fun h4 => ?_) (fun h4 => ?_)
  · refine hg_bipush (n := 16) (v := -2) dX6_unload_14 rfl (by decide) ?_
    refine hg_ireturn dX6_unload_16 rfl ?_
    exact hQ
  · refine hg_iload_n (n := 8) dX6_unload_7 rfl rfl ?_
    refine hg_callSd (n := 11) (c_X6_isPlace _ _) dX6_unload_8 rfl mk_X6_156 yl_X6_isPlace ys_X6_isPlace (by decide) (by decide) rfl rfl (Nat.le_of_ble_eq_true rfl) (fun h => by cases h) ?_
    refine hg_if_ne (n := 14) (tgt := 17) dX6_unload_11 rfl (by decide) (fun h11 => ?_) (fun h11 => ?_)
    · exact absurd hb (by simp [h4, h11])
    · refine hg_bipush (n := 16) (v := -2) dX6_unload_14 rfl (by decide) ?_
      refine hg_ireturn dX6_unload_16 rfl ?_
      exact hQ

set_option maxHeartbeats 4000000 in
set_option maxRecDepth 100000 in
theorem c_X6_unload_n {mi : MI_} {ml : ML_} {mr : MR_} {sh : SH_} (hM : mo_ mr sh) (f : Nat) (hf : f < 3) (l : Nat) (hl : l < 4) (hno : mi 50 0 (4 * f + l) = -1 ∨ ¬ mi 53 0 f = 0) : hg_Det false yX6_unload md_X6_unload [hv_r (some (7, 0)), hv_i (nI f), hv_i (nI l)] (mi, ml, mr, sh) (some (hv_i (-3))) (mi, ml, mr, sh) := by
  intro Q hQ
  refine hg_intro rfl rfl rfl (Nat.le_of_ble_eq_true rfl) rfl ?_
  refine hg_iload_n (n := 1) dX6_unload_0 rfl rfl ?_
  refine hg_callSd (n := 4) (c_X6_isFurnace _ _) dX6_unload_1 rfl mk_X6_153 yl_X6_isFurnace ys_X6_isFurnace (by decide) (by decide) rfl rfl (Nat.le_of_ble_eq_true rfl) (fun h => by cases h) ?_
  refine hg_if_eq (n := 7) (tgt := 14) dX6_unload_4 rfl (by decide) (fun h4 => ?_) (fun h4 => ?_)
  · exact absurd h4 (z_nat3 (a := 0) (b := 2) (by omega) (by omega) (by omega))
  · refine hg_iload_n (n := 8) dX6_unload_7 rfl rfl ?_
    refine hg_callSd (n := 11) (c_X6_isPlace _ _) dX6_unload_8 rfl mk_X6_156 yl_X6_isPlace ys_X6_isPlace (by decide) (by decide) rfl rfl (Nat.le_of_ble_eq_true rfl) (fun h => by cases h) ?_
    refine hg_if_ne (n := 14) (tgt := 17) dX6_unload_11 rfl (by decide) (fun h11 => ?_) (fun h11 => ?_)
    · refine hg_aload_n (n := 18) dX6_unload_17 rfl rfl ?_
      refine hg_getR (n := 21) (r := some (50, 0)) dX6_unload_18 rfl fl_X6_101 rfl rfl (mo_s hM) (mo_r hM 20 (by decide)) ?_
      refine hg_iconst (n := 22) (v := 4) dX6_unload_21 rfl (by decide) ?_
      refine hg_iload_n (n := 23) dX6_unload_22 rfl rfl ?_
      refine hg_imulN (n := 24) (4) (f) dX6_unload_23 rfl ?_
      refine hg_iload_n (n := 25) dX6_unload_24 rfl rfl ?_
      refine hg_iaddN (n := 26) (4 * f) (l) dX6_unload_25 rfl ?_
      refine hg_iaload (n := 27) (len := 12) ((4 * f) + l) dX6_unload_26 rfl (by decide) rfl (mo_a hM 20 (by decide)) rfl (by omega) (by decide) ?_
      refine hg_istore_n (n := 28) dX6_unload_27 rfl (by decide) rfl rfl ?_
      refine hg_iload_n (n := 29) dX6_unload_28 rfl rfl ?_
      refine hg_iconst (n := 30) (v := -1) dX6_unload_29 rfl (by decide) ?_
      refine hg_icmp_eq (n := 33) (tgt := 42) dX6_unload_30 rfl (by decide) (fun h30 => ?_) (fun h30 => ?_)
      · refine hg_bipush (n := 44) (v := -3) dX6_unload_42 rfl (by decide) ?_
        refine hg_ireturn dX6_unload_44 rfl ?_
        exact hQ
      · refine hg_aload_n (n := 34) dX6_unload_33 rfl rfl ?_
        refine hg_getR (n := 37) (r := some (53, 0)) dX6_unload_34 rfl fl_X6_111 rfl rfl (mo_s hM) (mo_r hM 23 (by decide)) ?_
        refine hg_iload_n (n := 38) dX6_unload_37 rfl rfl ?_
        refine hg_baload (n := 39) (len := 3) (f) dX6_unload_38 rfl (by decide) rfl (mo_a hM 23 (by decide)) rfl (by omega) (by decide) ?_
        refine hg_if_eq (n := 42) (tgt := 45) dX6_unload_39 rfl (by decide) (fun h39 => ?_) (fun h39 => ?_)
        · exact absurd hno (by simp [h30, h39])
        · refine hg_bipush (n := 44) (v := -3) dX6_unload_42 rfl (by decide) ?_
          refine hg_ireturn dX6_unload_44 rfl ?_
          exact hQ
    · exact absurd h11 (z_nat3 (a := 0) (b := 3) (by omega) (by omega) (by omega))

set_option maxHeartbeats 4000000 in
set_option maxRecDepth 100000 in
theorem c_X6_unload {mi : MI_} {ml : ML_} {mr : MR_} {sh : SH_} (hM : mo_ mr sh) (f : Nat) (hf : f < 3) (l : Nat) (hl : l < 4) (p : Nat) (hp : p < 12) (hpj : mi 50 0 (4 * f + l) = nI p) (hr : mi 53 0 f = 0) : hg_Det false yX6_unload md_X6_unload [hv_r (some (7, 0)), hv_i (nI f), hv_i (nI l)] (mi, ml, mr, sh) (some (hv_i (nI p))) (u_3 (u_3 mi 50 0 (4 * f + l) (-1)) 38 0 p (-1), ml, mr, sh) := by
  intro Q hQ
  refine hg_intro rfl rfl rfl (Nat.le_of_ble_eq_true rfl) rfl ?_
  refine hg_iload_n (n := 1) dX6_unload_0 rfl rfl ?_
  refine hg_callSd (n := 4) (c_X6_isFurnace _ _) dX6_unload_1 rfl mk_X6_153 yl_X6_isFurnace ys_X6_isFurnace (by decide) (by decide) rfl rfl (Nat.le_of_ble_eq_true rfl) (fun h => by cases h) ?_
  refine hg_if_eq (n := 7) (tgt := 14) dX6_unload_4 rfl (by decide) (fun h4 => ?_) (fun h4 => ?_)
  · exact absurd h4 (z_nat3 (a := 0) (b := 2) (by omega) (by omega) (by omega))
  · refine hg_iload_n (n := 8) dX6_unload_7 rfl rfl ?_
    refine hg_callSd (n := 11) (c_X6_isPlace _ _) dX6_unload_8 rfl mk_X6_156 yl_X6_isPlace ys_X6_isPlace (by decide) (by decide) rfl rfl (Nat.le_of_ble_eq_true rfl) (fun h => by cases h) ?_
    refine hg_if_ne (n := 14) (tgt := 17) dX6_unload_11 rfl (by decide) (fun h11 => ?_) (fun h11 => ?_)
    · refine hg_aload_n (n := 18) dX6_unload_17 rfl rfl ?_
      refine hg_getR (n := 21) (r := some (50, 0)) dX6_unload_18 rfl fl_X6_101 rfl rfl (mo_s hM) (mo_r hM 20 (by decide)) ?_
      refine hg_iconst (n := 22) (v := 4) dX6_unload_21 rfl (by decide) ?_
      refine hg_iload_n (n := 23) dX6_unload_22 rfl rfl ?_
      refine hg_imulN (n := 24) (4) (f) dX6_unload_23 rfl ?_
      refine hg_iload_n (n := 25) dX6_unload_24 rfl rfl ?_
      refine hg_iaddN (n := 26) (4 * f) (l) dX6_unload_25 rfl ?_
      refine hg_ialoadN (n := 27) (len := 12) (p) ((4 * f) + l) dX6_unload_26 rfl (by decide) rfl (mo_a hM 20 (by decide)) rfl (by omega) (by decide) hpj ?_
      refine hg_istore_n (n := 28) dX6_unload_27 rfl (by decide) rfl rfl ?_
      refine hg_iload_n (n := 29) dX6_unload_28 rfl rfl ?_
      refine hg_iconst (n := 30) (v := -1) dX6_unload_29 rfl (by decide) ?_
      refine hg_icmp_eq (n := 33) (tgt := 42) dX6_unload_30 rfl (by decide) (fun h30 => ?_) (fun h30 => ?_)
      · exact absurd h30 (nI_m1 (by omega))
      · refine hg_aload_n (n := 34) dX6_unload_33 rfl rfl ?_
        refine hg_getR (n := 37) (r := some (53, 0)) dX6_unload_34 rfl fl_X6_111 rfl rfl (mo_s hM) (mo_r hM 23 (by decide)) ?_
        refine hg_iload_n (n := 38) dX6_unload_37 rfl rfl ?_
        refine hg_baload (n := 39) (len := 3) (f) dX6_unload_38 rfl (by decide) rfl (mo_a hM 23 (by decide)) rfl (by omega) (by decide) ?_
        refine hg_if_eq (n := 42) (tgt := 45) dX6_unload_39 rfl (by decide) (fun h39 => ?_) (fun h39 => ?_)
        · refine hg_aload_n (n := 46) dX6_unload_45 rfl rfl ?_
          refine hg_getR (n := 49) (r := some (50, 0)) dX6_unload_46 rfl fl_X6_101 rfl rfl (mo_s hM) (mo_r hM 20 (by decide)) ?_
          refine hg_iconst (n := 50) (v := 4) dX6_unload_49 rfl (by decide) ?_
          refine hg_iload_n (n := 51) dX6_unload_50 rfl rfl ?_
          refine hg_imulN (n := 52) (4) (f) dX6_unload_51 rfl ?_
          refine hg_iload_n (n := 53) dX6_unload_52 rfl rfl ?_
          refine hg_iaddN (n := 54) (4 * f) (l) dX6_unload_53 rfl ?_
          refine hg_iconst (n := 55) (v := -1) dX6_unload_54 rfl (by decide) ?_
          refine hg_iastore (n := 56) (len := 12) ((4 * f) + l) dX6_unload_55 rfl (by decide) rfl (mo_a hM 20 (by decide)) rfl (by omega) (by decide) ?_
          refine hg_aload_n (n := 57) dX6_unload_56 rfl rfl ?_
          refine hg_getR (n := 60) (r := some (38, 0)) dX6_unload_57 rfl fl_X6_34 rfl rfl (mo_s hM) (mo_r hM 8 (by decide)) ?_
          refine hg_iload_n (n := 61) dX6_unload_60 rfl rfl ?_
          refine hg_iconst (n := 62) (v := -1) dX6_unload_61 rfl (by decide) ?_
          refine hg_iastore (n := 63) (len := 12) (p) dX6_unload_62 rfl (by decide) rfl (mo_a hM 8 (by decide)) rfl (by omega) (by decide) ?_
          refine hg_iload_n (n := 64) dX6_unload_63 rfl rfl ?_
          refine hg_ireturn dX6_unload_64 rfl ?_
          exact hQ
        · exact absurd hr h39
    · exact absurd h11 (z_nat3 (a := 0) (b := 3) (by omega) (by omega) (by omega))

set_option maxHeartbeats 4000000 in
set_option maxRecDepth 100000 in
theorem c_X6_probe_b {mi : MI_} {ml : ML_} {mr : MR_} {sh : SH_} (hM : mo_ mr sh) (f l y d : Int32) (hb : z_in f 0 2 = 0 ∨ z_in l 0 3 = 0 ∨ z_in d (-500) 500 = 0) : hg_Det false yX6_probe md_X6_probe [hv_r (some (7, 0)), hv_i f, hv_i l, hv_i y, hv_i d] (mi, ml, mr, sh) (some (hv_i (-2))) (mi, ml, mr, sh) := by
  intro Q hQ
  refine hg_intro rfl rfl rfl (Nat.le_of_ble_eq_true rfl) rfl ?_
  refine hg_iload_n (n := 1) dX6_probe_0 rfl rfl ?_
  refine hg_callSd (n := 4) (c_X6_isFurnace _ _) dX6_probe_1 rfl mk_X6_153 yl_X6_isFurnace ys_X6_isFurnace (by decide) (by decide) rfl rfl (Nat.le_of_ble_eq_true rfl) (fun h => by cases h) ?_
  refine hg_if_eq (n := 7) (tgt := 28) dX6_probe_4 rfl (by decide) (fun h4 => ?_) (fun h4 => ?_)
  · refine hg_bipush (n := 30) (v := -2) dX6_probe_28 rfl (by decide) ?_
    refine hg_ireturn dX6_probe_30 rfl ?_
    exact hQ
  · refine hg_iload_n (n := 8) dX6_probe_7 rfl rfl ?_
    refine hg_callSd (n := 11) (c_X6_isPlace _ _) dX6_probe_8 rfl mk_X6_156 yl_X6_isPlace ys_X6_isPlace (by decide) (by decide) rfl rfl (Nat.le_of_ble_eq_true rfl) (fun h => by cases h) ?_
    refine hg_if_eq (n := 14) (tgt := 28) dX6_probe_11 rfl (by decide) (fun h11 => ?_) (fun h11 => ?_)
    · refine hg_bipush (n := 30) (v := -2) dX6_probe_28 rfl (by decide) ?_
      refine hg_ireturn dX6_probe_30 rfl ?_
      exact hQ
    · refine hg_iload (n := 16) dX6_probe_14 rfl rfl ?_
      refine hg_sipush (n := 19) (v := -500) dX6_probe_16 rfl (by decide) ?_
      refine hg_sipush (n := 22) (v := 500) dX6_probe_19 rfl (by decide) ?_
      refine hg_callSd (n := 25) (c_X6_in _ _ _ _) dX6_probe_22 rfl mk_X6_1 yl_X6_in ys_X6_in (by decide) (by decide) rfl rfl (Nat.le_of_ble_eq_true rfl) (fun h => by cases h) ?_
      refine hg_if_ne (n := 28) (tgt := 31) dX6_probe_25 rfl (by decide) (fun h25 => ?_) (fun h25 => ?_)
      · exact absurd hb (by simp [h4, h11, h25])
      · refine hg_bipush (n := 30) (v := -2) dX6_probe_28 rfl (by decide) ?_
        refine hg_ireturn dX6_probe_30 rfl ?_
        exact hQ

set_option maxHeartbeats 4000000 in
set_option maxRecDepth 100000 in
theorem c_X6_probe {mi : MI_} {ml : ML_} {mr : MR_} {sh : SH_} (hM : mo_ mr sh) (f : Nat) (hf : f < 3) (l : Nat) (hl : l < 4) (y d : Int32) (hy : y = 0 ∨ y = 1) (hd : ¬ z_in d (-500) 500 = 0) : hg_Det false yX6_probe md_X6_probe [hv_r (some (7, 0)), hv_i (nI f), hv_i (nI l), hv_i y, hv_i d] (mi, ml, mr, sh) (some (hv_i 1)) (u_3 (u_3 mi 51 0 (4 * f + l) y) 52 0 (4 * f + l) d, ml, mr, sh) := by
  intro Q hQ
  refine hg_intro rfl rfl rfl (Nat.le_of_ble_eq_true rfl) rfl ?_
  refine hg_iload_n (n := 1) dX6_probe_0 rfl rfl ?_
  refine hg_callSd (n := 4) (c_X6_isFurnace _ _) dX6_probe_1 rfl mk_X6_153 yl_X6_isFurnace ys_X6_isFurnace (by decide) (by decide) rfl rfl (Nat.le_of_ble_eq_true rfl) (fun h => by cases h) ?_
  refine hg_if_eq (n := 7) (tgt := 28) dX6_probe_4 rfl (by decide) (fun h4 => ?_) (fun h4 => ?_)
  · exact absurd h4 (z_nat3 (a := 0) (b := 2) (by omega) (by omega) (by omega))
  · refine hg_iload_n (n := 8) dX6_probe_7 rfl rfl ?_
    refine hg_callSd (n := 11) (c_X6_isPlace _ _) dX6_probe_8 rfl mk_X6_156 yl_X6_isPlace ys_X6_isPlace (by decide) (by decide) rfl rfl (Nat.le_of_ble_eq_true rfl) (fun h => by cases h) ?_
    refine hg_if_eq (n := 14) (tgt := 28) dX6_probe_11 rfl (by decide) (fun h11 => ?_) (fun h11 => ?_)
    · exact absurd h11 (z_nat3 (a := 0) (b := 3) (by omega) (by omega) (by omega))
    · refine hg_iload (n := 16) dX6_probe_14 rfl rfl ?_
      refine hg_sipush (n := 19) (v := -500) dX6_probe_16 rfl (by decide) ?_
      refine hg_sipush (n := 22) (v := 500) dX6_probe_19 rfl (by decide) ?_
      refine hg_callSd (n := 25) (c_X6_in _ _ _ _) dX6_probe_22 rfl mk_X6_1 yl_X6_in ys_X6_in (by decide) (by decide) rfl rfl (Nat.le_of_ble_eq_true rfl) (fun h => by cases h) ?_
      refine hg_if_ne (n := 28) (tgt := 31) dX6_probe_25 rfl (by decide) (fun h25 => ?_) (fun h25 => ?_)
      · refine hg_aload_n (n := 32) dX6_probe_31 rfl rfl ?_
        refine hg_getR (n := 35) (r := some (51, 0)) dX6_probe_32 rfl fl_X6_104 rfl rfl (mo_s hM) (mo_r hM 21 (by decide)) ?_
        refine hg_iconst (n := 36) (v := 4) dX6_probe_35 rfl (by decide) ?_
        refine hg_iload_n (n := 37) dX6_probe_36 rfl rfl ?_
        refine hg_imulN (n := 38) (4) (f) dX6_probe_37 rfl ?_
        refine hg_iload_n (n := 39) dX6_probe_38 rfl rfl ?_
        refine hg_iaddN (n := 40) (4 * f) (l) dX6_probe_39 rfl ?_
        refine hg_iload_n (n := 41) dX6_probe_40 rfl rfl ?_
        refine hg_bastore (n := 42) (len := 12) ((4 * f) + l) dX6_probe_41 rfl (by decide) rfl hy (mo_a hM 21 (by decide)) rfl (by omega) (by decide) ?_
        refine hg_aload_n (n := 43) dX6_probe_42 rfl rfl ?_
        refine hg_getR (n := 46) (r := some (52, 0)) dX6_probe_43 rfl fl_X6_108 rfl rfl (mo_s hM) (mo_r hM 22 (by decide)) ?_
        refine hg_iconst (n := 47) (v := 4) dX6_probe_46 rfl (by decide) ?_
        refine hg_iload_n (n := 48) dX6_probe_47 rfl rfl ?_
        refine hg_imulN (n := 49) (4) (f) dX6_probe_48 rfl ?_
        refine hg_iload_n (n := 50) dX6_probe_49 rfl rfl ?_
        refine hg_iaddN (n := 51) (4 * f) (l) dX6_probe_50 rfl ?_
        refine hg_iload (n := 53) dX6_probe_51 rfl rfl ?_
        refine hg_iastore (n := 54) (len := 12) ((4 * f) + l) dX6_probe_53 rfl (by decide) rfl (mo_a hM 22 (by decide)) rfl (by omega) (by decide) ?_
        refine hg_iconst (n := 55) (v := 1) dX6_probe_54 rfl (by decide) ?_
        refine hg_ireturn dX6_probe_55 rfl ?_
        exact hQ
      · exact absurd h25 hd
end
section
set_option maxHeartbeats 4000000 in
set_option maxRecDepth 100000 in
theorem c_X6_run_b {mi : MI_} {ml : ML_} {mr : MR_} {sh : SH_} (hM : mo_ mr sh) (f : Int32) (hb : z_in f 0 2 = 0) : hg_Det false yX6_run md_X6_run [hv_r (some (7, 0)), hv_i f] (mi, ml, mr, sh) (some (hv_i (-2))) (mi, ml, mr, sh) := by
  intro Q hQ
  refine hg_intro rfl rfl rfl (Nat.le_of_ble_eq_true rfl) rfl ?_
  refine hg_iload_n (n := 1) dX6_run_0 rfl rfl ?_
  refine hg_callSd (n := 4) (c_X6_isFurnace _ _) dX6_run_1 rfl mk_X6_153 yl_X6_isFurnace ys_X6_isFurnace (by decide) (by decide) rfl rfl (Nat.le_of_ble_eq_true rfl) (fun h => by cases h) ?_
  refine hg_if_ne (n := 7) (tgt := 10) dX6_run_4 rfl (by decide) (fun h4 => ?_) (fun h4 => ?_)
  · exact absurd hb h4
  · refine hg_bipush (n := 9) (v := -2) dX6_run_7 rfl (by decide) ?_
    refine hg_ireturn dX6_run_9 rfl ?_
    exact hQ

def rn_n (X : MI_) (f : Nat) : Prop := ¬ X 53 0 f = 0 ∨ X 46 0 f = 0 ∨ lo_ X f 4 = 0
set_option maxHeartbeats 4000000 in
set_option maxRecDepth 100000 in
theorem c_X6_run_n {mi : MI_} {ml : ML_} {mr : MR_} {sh : SH_} (hM : mo_ mr sh) (f : Nat) (hf : f < 3) (hno : rn_n mi f) : hg_Det false yX6_run md_X6_run [hv_r (some (7, 0)), hv_i (nI f)] (mi, ml, mr, sh) (some (hv_i (-3))) (mi, ml, mr, sh) := by
  intro Q hQ
  refine hg_intro rfl rfl rfl (Nat.le_of_ble_eq_true rfl) rfl ?_
  refine hg_iload_n (n := 1) dX6_run_0 rfl rfl ?_
  refine hg_callSd (n := 4) (c_X6_isFurnace _ _) dX6_run_1 rfl mk_X6_153 yl_X6_isFurnace ys_X6_isFurnace (by decide) (by decide) rfl rfl (Nat.le_of_ble_eq_true rfl) (fun h => by cases h) ?_
  refine hg_if_ne (n := 7) (tgt := 10) dX6_run_4 rfl (by decide) (fun h4 => ?_) (fun h4 => ?_)
  · refine hg_aload_n (n := 11) dX6_run_10 rfl rfl ?_
    refine hg_getR (n := 14) (r := some (53, 0)) dX6_run_11 rfl fl_X6_111 rfl rfl (mo_s hM) (mo_r hM 23 (by decide)) ?_
    refine hg_iload_n (n := 15) dX6_run_14 rfl rfl ?_
    refine hg_baload (n := 16) (len := 3) (f) dX6_run_15 rfl (by decide) rfl (mo_a hM 23 (by decide)) rfl (by omega) (by decide) ?_
    refine hg_if_ne (n := 19) (tgt := 36) dX6_run_16 rfl (by decide) (fun h16 => ?_) (fun h16 => ?_)
    · refine hg_bipush (n := 38) (v := -3) dX6_run_36 rfl (by decide) ?_
      refine hg_ireturn dX6_run_38 rfl ?_
      exact hQ
    · refine hg_aload_n (n := 20) dX6_run_19 rfl rfl ?_
      refine hg_getR (n := 23) (r := some (46, 0)) dX6_run_20 rfl fl_X6_89 rfl rfl (mo_s hM) (mo_r hM 16 (by decide)) ?_
      refine hg_iload_n (n := 24) dX6_run_23 rfl rfl ?_
      refine hg_iaload (n := 25) (len := 3) (f) dX6_run_24 rfl (by decide) rfl (mo_a hM 16 (by decide)) rfl (by omega) (by decide) ?_
      refine hg_if_eq (n := 28) (tgt := 36) dX6_run_25 rfl (by decide) (fun h25 => ?_) (fun h25 => ?_)
      · refine hg_bipush (n := 38) (v := -3) dX6_run_36 rfl (by decide) ?_
        refine hg_ireturn dX6_run_38 rfl ?_
        exact hQ
      · refine hg_aload_n (n := 29) dX6_run_28 rfl rfl ?_
        refine hg_iload_n (n := 30) dX6_run_29 rfl rfl ?_
        refine hg_callVd (n := 33) (c_X6_loadOf hM (f) (by omega)) dX6_run_30 rfl mk_X6_162 yl_X6_loadOf yv_X6_loadOf rfl (mo_s hM) (by decide) (by decide) rfl rfl (Nat.le_of_ble_eq_true rfl) (fun h => by cases h) ?_
        refine hg_if_ne (n := 36) (tgt := 39) dX6_run_33 rfl (by decide) (fun h33 => ?_) (fun h33 => ?_)
        · exact absurd hno (by unfold rn_n; simp [h16, h25, h33])
        · refine hg_bipush (n := 38) (v := -3) dX6_run_36 rfl (by decide) ?_
          refine hg_ireturn dX6_run_38 rfl ?_
          exact hQ
  · exact absurd h4 (z_nat3 (a := 0) (b := 2) (by omega) (by omega) (by omega))

set_option maxHeartbeats 4000000 in
set_option maxRecDepth 100000 in
theorem c_X6_run_f {mi : MI_} {ml : ML_} {mr : MR_} {sh : SH_} (hM : mo_ mr sh) (f : Nat) (hf : f < 3) (hno : ¬ rn_n mi f) (hr : mi 7 0 28 = 100) : hg_Det false yX6_run md_X6_run [hv_r (some (7, 0)), hv_i (nI f)] (mi, ml, mr, sh) (some (hv_i (-4))) (mi, ml, mr, sh) := by
  intro Q hQ
  refine hg_intro rfl rfl rfl (Nat.le_of_ble_eq_true rfl) rfl ?_
  refine hg_iload_n (n := 1) dX6_run_0 rfl rfl ?_
  refine hg_callSd (n := 4) (c_X6_isFurnace _ _) dX6_run_1 rfl mk_X6_153 yl_X6_isFurnace ys_X6_isFurnace (by decide) (by decide) rfl rfl (Nat.le_of_ble_eq_true rfl) (fun h => by cases h) ?_
  refine hg_if_ne (n := 7) (tgt := 10) dX6_run_4 rfl (by decide) (fun h4 => ?_) (fun h4 => ?_)
  · refine hg_aload_n (n := 11) dX6_run_10 rfl rfl ?_
    refine hg_getR (n := 14) (r := some (53, 0)) dX6_run_11 rfl fl_X6_111 rfl rfl (mo_s hM) (mo_r hM 23 (by decide)) ?_
    refine hg_iload_n (n := 15) dX6_run_14 rfl rfl ?_
    refine hg_baload (n := 16) (len := 3) (f) dX6_run_15 rfl (by decide) rfl (mo_a hM 23 (by decide)) rfl (by omega) (by decide) ?_
    refine hg_if_ne (n := 19) (tgt := 36) dX6_run_16 rfl (by decide) (fun h16 => ?_) (fun h16 => ?_)
    · exact absurd (Or.inl h16) hno
    · refine hg_aload_n (n := 20) dX6_run_19 rfl rfl ?_
      refine hg_getR (n := 23) (r := some (46, 0)) dX6_run_20 rfl fl_X6_89 rfl rfl (mo_s hM) (mo_r hM 16 (by decide)) ?_
      refine hg_iload_n (n := 24) dX6_run_23 rfl rfl ?_
      refine hg_iaload (n := 25) (len := 3) (f) dX6_run_24 rfl (by decide) rfl (mo_a hM 16 (by decide)) rfl (by omega) (by decide) ?_
      refine hg_if_eq (n := 28) (tgt := 36) dX6_run_25 rfl (by decide) (fun h25 => ?_) (fun h25 => ?_)
      · exact absurd (Or.inr (Or.inl h25)) hno
      · refine hg_aload_n (n := 29) dX6_run_28 rfl rfl ?_
        refine hg_iload_n (n := 30) dX6_run_29 rfl rfl ?_
        refine hg_callVd (n := 33) (c_X6_loadOf hM (f) (by omega)) dX6_run_30 rfl mk_X6_162 yl_X6_loadOf yv_X6_loadOf rfl (mo_s hM) (by decide) (by decide) rfl rfl (Nat.le_of_ble_eq_true rfl) (fun h => by cases h) ?_
        refine hg_if_ne (n := 36) (tgt := 39) dX6_run_33 rfl (by decide) (fun h33 => ?_) (fun h33 => ?_)
        · refine hg_aload_n (n := 40) dX6_run_39 rfl rfl ?_
          refine hg_getI (n := 43) dX6_run_40 rfl fl_X6_165 rfl rfl (mo_s hM) ?_
          refine hg_bipush (n := 45) (v := 100) dX6_run_43 rfl (by decide) ?_
          refine hg_icmp_ne (n := 48) (tgt := 51) dX6_run_45 rfl (by decide) (fun h45 => ?_) (fun h45 => ?_)
          · exact absurd hr h45
          · refine hg_bipush (n := 50) (v := -4) dX6_run_48 rfl (by decide) ?_
            refine hg_ireturn dX6_run_50 rfl ?_
            exact hQ
        · exact absurd (Or.inr (Or.inr h33)) hno
  · exact absurd h4 (z_nat3 (a := 0) (b := 2) (by omega) (by omega) (by omega))

def ru_4 (X : MI_) (f nr : Nat) : MI_ := u_3 (u_3 (u_3 (u_3 X 59 0 nr (nI f)) 53 0 f 1) 54 0 f 0) 55 0 f 0
def ru_5 (X : MI_) (f nr : Nat) : MI_ := u_3 (ru_4 X f nr) 56 0 f (ru_4 X f nr 7 0 28)
def ru_l (X : MI_) (f : Nat) : Nat → MI_
  | 0 => X
  | i + 1 => if ru_l X f i 50 0 (4 * f + i) = -1 then ru_l X f i else u_3 (ru_l X f i) 39 0 (ru_l X f i 50 0 (4 * f + i)).toNatClampNeg (ru_l X f i 7 0 28)
def ru_m (X : MI_) (f nr : Nat) : MI_ := u_3 (ru_l (ru_5 X f nr) f 4) 7 0 28 (ru_l (ru_5 X f nr) f 4 7 0 28 + 1)
theorem ru_l_k {X : MI_} {f k i j : Nat} (h : k ≠ 39) : ∀ c, ru_l X f c k i j = X k i j
  | 0 => rfl
  | c + 1 => by
    rw [ru_l]
    split
    · exact ru_l_k h c
    · rw [u_3_ne _ _ (fun q => h q.1)]; exact ru_l_k h c
theorem ru_5_k {X : MI_} {f nr k i j : Nat} (h : k ≠ 59 ∧ k ≠ 53 ∧ k ≠ 54 ∧ k ≠ 55 ∧ k ≠ 56) : ru_5 X f nr k i j = X k i j := by
  unfold ru_5 ru_4
  rw [u_3_ne _ _ (fun q => h.2.2.2.2 q.1), u_3_ne _ _ (fun q => h.2.2.2.1 q.1), u_3_ne _ _ (fun q => h.2.2.1 q.1), u_3_ne _ _ (fun q => h.2.1 q.1), u_3_ne _ _ (fun q => h.1 q.1)]
set_option maxHeartbeats 4000000 in
set_option maxRecDepth 100000 in
theorem c_X6_run {mi : MI_} {ml : ML_} {mr : MR_} {sh : SH_} (hM : mo_ mr sh) (np : Nat) (hn12 : np ≤ 12) (hpl : pl_ mi np) (f : Nat) (hf : f < 3) (hno : ¬ rn_n mi f) (nr : Nat) (hnr : mi 7 0 28 = nI nr) (hnr9 : nr < 100) : hg_Det false yX6_run md_X6_run [hv_r (some (7, 0)), hv_i (nI f)] (mi, ml, mr, sh) (some (hv_i (ru_m mi f nr 7 0 28 - 1))) (ru_m mi f nr, ml, mr, sh) := by
  intro Q hQ
  refine hg_intro rfl rfl rfl (Nat.le_of_ble_eq_true rfl) rfl ?_
  have loop : ∀ m i, i + m = 4 → hg_G md_X6_run false sh Q 0 0 94 [some (hv_r (some (7, 0))), some (hv_i (nI f)), some (hv_i (nI i))] [] (ru_l (ru_5 mi f nr) f i, ml, mr, sh) := by
    intro m
    induction m with
    | zero =>
      intro i hi
      refine hg_iload_n (n := 95) dX6_run_94 rfl rfl ?_
      refine hg_iconst (n := 96) (v := 4) dX6_run_95 rfl (by decide) ?_
      refine hg_icmp_geN (n := 99) (tgt := 138) (i) (4) dX6_run_96 rfl (by decide) (by omega) (by omega) (fun h96 => ?_) (fun h96 => ?_)
      · have e := show i = 4 by omega
        subst e
        refine hg_aload_n (n := 139) dX6_run_138 rfl rfl ?_
        refine hg_dup (n := 140) dX6_run_139 rfl rfl ?_
        refine hg_getI (n := 143) dX6_run_140 rfl fl_X6_165 rfl rfl (mo_s hM) ?_
        refine hg_iconst (n := 144) (v := 1) dX6_run_143 rfl (by decide) ?_
        refine hg_iadd (n := 145) dX6_run_144 rfl ?_
        refine hg_putI (n := 148) dX6_run_145 rfl fl_X6_165 rfl rfl (mo_s hM) ?_
        refine hg_aload_n (n := 149) dX6_run_148 rfl rfl ?_
        refine hg_getI (n := 152) dX6_run_149 rfl fl_X6_165 rfl rfl (mo_s hM) ?_
        refine hg_iconst (n := 153) (v := 1) dX6_run_152 rfl (by decide) ?_
        refine hg_isub (n := 154) dX6_run_153 rfl ?_
        refine hg_ireturn dX6_run_154 rfl ?_
        exact hQ
      · exact absurd h96 (by omega)
    | succ m ih =>
      intro i hi
      refine hg_iload_n (n := 95) dX6_run_94 rfl rfl ?_
      refine hg_iconst (n := 96) (v := 4) dX6_run_95 rfl (by decide) ?_
      refine hg_icmp_geN (n := 99) (tgt := 138) (i) (4) dX6_run_96 rfl (by decide) (by omega) (by omega) (fun h96 => ?_) (fun h96 => ?_)
      · exact absurd h96 (by omega)
      · refine hg_aload_n (n := 100) dX6_run_99 rfl rfl ?_
        refine hg_getR (n := 103) (r := some (50, 0)) dX6_run_100 rfl fl_X6_101 rfl rfl (mo_s hM) (mo_r hM 20 (by decide)) ?_
        refine hg_iconst (n := 104) (v := 4) dX6_run_103 rfl (by decide) ?_
        refine hg_iload_n (n := 105) dX6_run_104 rfl rfl ?_
        refine hg_imulN (n := 106) (4) (f) dX6_run_105 rfl ?_
        refine hg_iload_n (n := 107) dX6_run_106 rfl rfl ?_
        refine hg_iaddN (n := 108) (4 * f) (i) dX6_run_107 rfl ?_
        refine hg_iaload (n := 109) (len := 12) ((4 * f) + i) dX6_run_108 rfl (by decide) rfl (mo_a hM 20 (by decide)) rfl (by omega) (by decide) ?_
        refine hg_iconst (n := 110) (v := -1) dX6_run_109 rfl (by decide) ?_
        refine hg_icmp_eq (n := 113) (tgt := 132) dX6_run_110 rfl (by decide) (fun h110 => ?_) (fun h110 => ?_)
        · refine hg_iincN (n := 135) (i) 1 dX6_run_132 rfl rfl (by decide) (by decide) rfl rfl ?_
          refine hg_goto (tgt := 94) dX6_run_135 (by decide) ?_
          refine hg_memo ?_ (ih (i + 1) (by omega))
          rw [ru_l, if_pos h110]
        · have e50 : ru_l (ru_5 mi f nr) f i 50 0 (4 * f + i) = mi 50 0 (4 * f + i) := (ru_l_k (by decide) i).trans (ru_5_k (by decide))
          obtain ⟨p, hp, hpj⟩ := hpl (4 * f + i) (by omega) (by rw [← e50]; exact h110)
          have hpj2 := e50.trans hpj
          refine hg_aload_n (n := 114) dX6_run_113 rfl rfl ?_
          refine hg_getR (n := 117) (r := some (39, 0)) dX6_run_114 rfl fl_X6_37 rfl rfl (mo_s hM) (mo_r hM 9 (by decide)) ?_
          refine hg_aload_n (n := 118) dX6_run_117 rfl rfl ?_
          refine hg_getR (n := 121) (r := some (50, 0)) dX6_run_118 rfl fl_X6_101 rfl rfl (mo_s hM) (mo_r hM 20 (by decide)) ?_
          refine hg_iconst (n := 122) (v := 4) dX6_run_121 rfl (by decide) ?_
          refine hg_iload_n (n := 123) dX6_run_122 rfl rfl ?_
          refine hg_imulN (n := 124) (4) (f) dX6_run_123 rfl ?_
          refine hg_iload_n (n := 125) dX6_run_124 rfl rfl ?_
          refine hg_iaddN (n := 126) (4 * f) (i) dX6_run_125 rfl ?_
          refine hg_ialoadN (n := 127) (len := 12) (p) ((4 * f) + i) dX6_run_126 rfl (by decide) rfl (mo_a hM 20 (by decide)) rfl (by omega) (by decide) hpj2 ?_
          refine hg_aload_n (n := 128) dX6_run_127 rfl rfl ?_
          refine hg_getI (n := 131) dX6_run_128 rfl fl_X6_165 rfl rfl (mo_s hM) ?_
          refine hg_iastore (n := 132) (len := 12) (p) dX6_run_131 rfl (by decide) rfl (mo_a hM 9 (by decide)) rfl (by omega) (by decide) ?_
          refine hg_iincN (n := 135) (i) 1 dX6_run_132 rfl rfl (by decide) (by decide) rfl rfl ?_
          refine hg_goto (tgt := 94) dX6_run_135 (by decide) ?_
          refine hg_memo ?_ (ih (i + 1) (by omega))
          rw [ru_l, if_neg h110, hpj2, nI_clamp (by omega)]
  refine hg_iload_n (n := 1) dX6_run_0 rfl rfl ?_
  refine hg_callSd (n := 4) (c_X6_isFurnace _ _) dX6_run_1 rfl mk_X6_153 yl_X6_isFurnace ys_X6_isFurnace (by decide) (by decide) rfl rfl (Nat.le_of_ble_eq_true rfl) (fun h => by cases h) ?_
  refine hg_if_ne (n := 7) (tgt := 10) dX6_run_4 rfl (by decide) (fun h4 => ?_) (fun h4 => ?_)
  · refine hg_aload_n (n := 11) dX6_run_10 rfl rfl ?_
    refine hg_getR (n := 14) (r := some (53, 0)) dX6_run_11 rfl fl_X6_111 rfl rfl (mo_s hM) (mo_r hM 23 (by decide)) ?_
    refine hg_iload_n (n := 15) dX6_run_14 rfl rfl ?_
    refine hg_baload (n := 16) (len := 3) (f) dX6_run_15 rfl (by decide) rfl (mo_a hM 23 (by decide)) rfl (by omega) (by decide) ?_
    refine hg_if_ne (n := 19) (tgt := 36) dX6_run_16 rfl (by decide) (fun h16 => ?_) (fun h16 => ?_)
    · exact absurd (Or.inl h16) hno
    · refine hg_aload_n (n := 20) dX6_run_19 rfl rfl ?_
      refine hg_getR (n := 23) (r := some (46, 0)) dX6_run_20 rfl fl_X6_89 rfl rfl (mo_s hM) (mo_r hM 16 (by decide)) ?_
      refine hg_iload_n (n := 24) dX6_run_23 rfl rfl ?_
      refine hg_iaload (n := 25) (len := 3) (f) dX6_run_24 rfl (by decide) rfl (mo_a hM 16 (by decide)) rfl (by omega) (by decide) ?_
      refine hg_if_eq (n := 28) (tgt := 36) dX6_run_25 rfl (by decide) (fun h25 => ?_) (fun h25 => ?_)
      · exact absurd (Or.inr (Or.inl h25)) hno
      · refine hg_aload_n (n := 29) dX6_run_28 rfl rfl ?_
        refine hg_iload_n (n := 30) dX6_run_29 rfl rfl ?_
        refine hg_callVd (n := 33) (c_X6_loadOf hM (f) (by omega)) dX6_run_30 rfl mk_X6_162 yl_X6_loadOf yv_X6_loadOf rfl (mo_s hM) (by decide) (by decide) rfl rfl (Nat.le_of_ble_eq_true rfl) (fun h => by cases h) ?_
        refine hg_if_ne (n := 36) (tgt := 39) dX6_run_33 rfl (by decide) (fun h33 => ?_) (fun h33 => ?_)
        · refine hg_aload_n (n := 40) dX6_run_39 rfl rfl ?_
          refine hg_getN (n := 43) (nr) dX6_run_40 rfl fl_X6_165 rfl rfl (mo_s hM) hnr ?_
          refine hg_bipush (n := 45) (v := 100) dX6_run_43 rfl (by decide) ?_
          refine hg_icmp_neN (n := 48) (tgt := 51) (nr) (100) dX6_run_45 rfl (by decide) (by omega) (by omega) (fun h45 => ?_) (fun h45 => ?_)
          · refine hg_aload_n (n := 52) dX6_run_51 rfl rfl ?_
            refine hg_getR (n := 55) (r := some (59, 0)) dX6_run_52 rfl fl_X6_126 rfl rfl (mo_s hM) (mo_r hM 29 (by decide)) ?_
            refine hg_aload_n (n := 56) dX6_run_55 rfl rfl ?_
            refine hg_getN (n := 59) (nr) dX6_run_56 rfl fl_X6_165 rfl rfl (mo_s hM) hnr ?_
            refine hg_iload_n (n := 60) dX6_run_59 rfl rfl ?_
            refine hg_iastore (n := 61) (len := 100) (nr) dX6_run_60 rfl (by decide) rfl (mo_a hM 29 (by decide)) rfl (by omega) (by decide) ?_
            refine hg_aload_n (n := 62) dX6_run_61 rfl rfl ?_
            refine hg_getR (n := 65) (r := some (53, 0)) dX6_run_62 rfl fl_X6_111 rfl rfl (mo_s hM) (mo_r hM 23 (by decide)) ?_
            refine hg_iload_n (n := 66) dX6_run_65 rfl rfl ?_
            refine hg_iconst (n := 67) (v := 1) dX6_run_66 rfl (by decide) ?_
            refine hg_bastore (n := 68) (len := 3) (f) dX6_run_67 rfl (by decide) rfl (by decide) (mo_a hM 23 (by decide)) rfl (by omega) (by decide) ?_
            refine hg_aload_n (n := 69) dX6_run_68 rfl rfl ?_
            refine hg_getR (n := 72) (r := some (54, 0)) dX6_run_69 rfl fl_X6_114 rfl rfl (mo_s hM) (mo_r hM 24 (by decide)) ?_
            refine hg_iload_n (n := 73) dX6_run_72 rfl rfl ?_
            refine hg_iconst (n := 74) (v := 0) dX6_run_73 rfl (by decide) ?_
            refine hg_iastore (n := 75) (len := 3) (f) dX6_run_74 rfl (by decide) rfl (mo_a hM 24 (by decide)) rfl (by omega) (by decide) ?_
            refine hg_aload_n (n := 76) dX6_run_75 rfl rfl ?_
            refine hg_getR (n := 79) (r := some (55, 0)) dX6_run_76 rfl fl_X6_117 rfl rfl (mo_s hM) (mo_r hM 25 (by decide)) ?_
            refine hg_iload_n (n := 80) dX6_run_79 rfl rfl ?_
            refine hg_iconst (n := 81) (v := 0) dX6_run_80 rfl (by decide) ?_
            refine hg_iastore (n := 82) (len := 3) (f) dX6_run_81 rfl (by decide) rfl (mo_a hM 25 (by decide)) rfl (by omega) (by decide) ?_
            refine hg_aload_n (n := 83) dX6_run_82 rfl rfl ?_
            refine hg_getR (n := 86) (r := some (56, 0)) dX6_run_83 rfl fl_X6_120 rfl rfl (mo_s hM) (mo_r hM 26 (by decide)) ?_
            refine hg_iload_n (n := 87) dX6_run_86 rfl rfl ?_
            refine hg_aload_n (n := 88) dX6_run_87 rfl rfl ?_
            refine hg_getI (n := 91) dX6_run_88 rfl fl_X6_165 rfl rfl (mo_s hM) ?_
            refine hg_iastore (n := 92) (len := 3) (f) dX6_run_91 rfl (by decide) rfl (mo_a hM 26 (by decide)) rfl (by omega) (by decide) ?_
            refine hg_iconst (n := 93) (v := 0) dX6_run_92 rfl (by decide) ?_
            refine hg_istore_n (n := 94) dX6_run_93 rfl (by decide) rfl rfl ?_
            exact loop 4 0 (by omega)
          · exact absurd h45 (by omega)
        · exact absurd (Or.inr (Or.inr h33)) hno
  · exact absurd h4 (z_nat3 (a := 0) (b := 2) (by omega) (by omega) (by omega))

set_option maxHeartbeats 4000000 in
set_option maxRecDepth 100000 in
theorem c_X6_stop_b {mi : MI_} {ml : ML_} {mr : MR_} {sh : SH_} (hM : mo_ mr sh) (f : Int32) (hb : z_in f 0 2 = 0) : hg_Det false yX6_stop md_X6_stop [hv_r (some (7, 0)), hv_i f] (mi, ml, mr, sh) (some (hv_i (-2))) (mi, ml, mr, sh) := by
  intro Q hQ
  refine hg_intro rfl rfl rfl (Nat.le_of_ble_eq_true rfl) rfl ?_
  refine hg_iload_n (n := 1) dX6_stop_0 rfl rfl ?_
  refine hg_callSd (n := 4) (c_X6_isFurnace _ _) dX6_stop_1 rfl mk_X6_153 yl_X6_isFurnace ys_X6_isFurnace (by decide) (by decide) rfl rfl (Nat.le_of_ble_eq_true rfl) (fun h => by cases h) ?_
  refine hg_if_ne (n := 7) (tgt := 10) dX6_stop_4 rfl (by decide) (fun h4 => ?_) (fun h4 => ?_)
  · exact absurd hb h4
  · refine hg_bipush (n := 9) (v := -2) dX6_stop_7 rfl (by decide) ?_
    refine hg_ireturn dX6_stop_9 rfl ?_
    exact hQ

set_option maxHeartbeats 4000000 in
set_option maxRecDepth 100000 in
theorem c_X6_stop_n {mi : MI_} {ml : ML_} {mr : MR_} {sh : SH_} (hM : mo_ mr sh) (f : Nat) (hf : f < 3) (hr : mi 53 0 f = 0) : hg_Det false yX6_stop md_X6_stop [hv_r (some (7, 0)), hv_i (nI f)] (mi, ml, mr, sh) (some (hv_i (-3))) (mi, ml, mr, sh) := by
  intro Q hQ
  refine hg_intro rfl rfl rfl (Nat.le_of_ble_eq_true rfl) rfl ?_
  refine hg_iload_n (n := 1) dX6_stop_0 rfl rfl ?_
  refine hg_callSd (n := 4) (c_X6_isFurnace _ _) dX6_stop_1 rfl mk_X6_153 yl_X6_isFurnace ys_X6_isFurnace (by decide) (by decide) rfl rfl (Nat.le_of_ble_eq_true rfl) (fun h => by cases h) ?_
  refine hg_if_ne (n := 7) (tgt := 10) dX6_stop_4 rfl (by decide) (fun h4 => ?_) (fun h4 => ?_)
  · refine hg_aload_n (n := 11) dX6_stop_10 rfl rfl ?_
    refine hg_getR (n := 14) (r := some (53, 0)) dX6_stop_11 rfl fl_X6_111 rfl rfl (mo_s hM) (mo_r hM 23 (by decide)) ?_
    refine hg_iload_n (n := 15) dX6_stop_14 rfl rfl ?_
    refine hg_baload (n := 16) (len := 3) (f) dX6_stop_15 rfl (by decide) rfl (mo_a hM 23 (by decide)) rfl (by omega) (by decide) ?_
    refine hg_if_ne (n := 19) (tgt := 22) dX6_stop_16 rfl (by decide) (fun h16 => ?_) (fun h16 => ?_)
    · exact absurd hr h16
    · refine hg_bipush (n := 21) (v := -3) dX6_stop_19 rfl (by decide) ?_
      refine hg_ireturn dX6_stop_21 rfl ?_
      exact hQ
  · exact absurd h4 (z_nat3 (a := 0) (b := 2) (by omega) (by omega) (by omega))

def sp_m (X : MI_) (f r : Nat) : MI_ := u_3 (u_3 X 53 0 f 0) 60 0 r 1
set_option maxHeartbeats 4000000 in
set_option maxRecDepth 100000 in
theorem c_X6_stop {mi : MI_} {ml : ML_} {mr : MR_} {sh : SH_} (hM : mo_ mr sh) (f : Nat) (hf : f < 3) (hr : ¬ mi 53 0 f = 0) (r : Nat) (hor : mi 56 0 f = nI r) (hr9 : r < 100) : hg_Det false yX6_stop md_X6_stop [hv_r (some (7, 0)), hv_i (nI f)] (mi, ml, mr, sh) (some (hv_i (sp_m mi f r 54 0 f))) (sp_m mi f r, ml, mr, sh) := by
  intro Q hQ
  refine hg_intro rfl rfl rfl (Nat.le_of_ble_eq_true rfl) rfl ?_
  refine hg_iload_n (n := 1) dX6_stop_0 rfl rfl ?_
  refine hg_callSd (n := 4) (c_X6_isFurnace _ _) dX6_stop_1 rfl mk_X6_153 yl_X6_isFurnace ys_X6_isFurnace (by decide) (by decide) rfl rfl (Nat.le_of_ble_eq_true rfl) (fun h => by cases h) ?_
  refine hg_if_ne (n := 7) (tgt := 10) dX6_stop_4 rfl (by decide) (fun h4 => ?_) (fun h4 => ?_)
  · refine hg_aload_n (n := 11) dX6_stop_10 rfl rfl ?_
    refine hg_getR (n := 14) (r := some (53, 0)) dX6_stop_11 rfl fl_X6_111 rfl rfl (mo_s hM) (mo_r hM 23 (by decide)) ?_
    refine hg_iload_n (n := 15) dX6_stop_14 rfl rfl ?_
    refine hg_baload (n := 16) (len := 3) (f) dX6_stop_15 rfl (by decide) rfl (mo_a hM 23 (by decide)) rfl (by omega) (by decide) ?_
    refine hg_if_ne (n := 19) (tgt := 22) dX6_stop_16 rfl (by decide) (fun h16 => ?_) (fun h16 => ?_)
    · refine hg_aload_n (n := 23) dX6_stop_22 rfl rfl ?_
      refine hg_getR (n := 26) (r := some (53, 0)) dX6_stop_23 rfl fl_X6_111 rfl rfl (mo_s hM) (mo_r hM 23 (by decide)) ?_
      refine hg_iload_n (n := 27) dX6_stop_26 rfl rfl ?_
      refine hg_iconst (n := 28) (v := 0) dX6_stop_27 rfl (by decide) ?_
      refine hg_bastore (n := 29) (len := 3) (f) dX6_stop_28 rfl (by decide) rfl (by decide) (mo_a hM 23 (by decide)) rfl (by omega) (by decide) ?_
      refine hg_aload_n (n := 30) dX6_stop_29 rfl rfl ?_
      refine hg_getR (n := 33) (r := some (60, 0)) dX6_stop_30 rfl fl_X6_129 rfl rfl (mo_s hM) (mo_r hM 30 (by decide)) ?_
      refine hg_aload_n (n := 34) dX6_stop_33 rfl rfl ?_
      refine hg_getR (n := 37) (r := some (56, 0)) dX6_stop_34 rfl fl_X6_120 rfl rfl (mo_s hM) (mo_r hM 26 (by decide)) ?_
      refine hg_iload_n (n := 38) dX6_stop_37 rfl rfl ?_
      refine hg_ialoadN (n := 39) (len := 3) (r) (f) dX6_stop_38 rfl (by decide) rfl (mo_a hM 26 (by decide)) rfl (by omega) (by decide) ((u_3_k (by decide)).trans hor) ?_
      refine hg_iconst (n := 40) (v := 1) dX6_stop_39 rfl (by decide) ?_
      refine hg_bastore (n := 41) (len := 100) (r) dX6_stop_40 rfl (by decide) rfl (by decide) (mo_a hM 30 (by decide)) rfl (by omega) (by decide) ?_
      refine hg_aload_n (n := 42) dX6_stop_41 rfl rfl ?_
      refine hg_getR (n := 45) (r := some (54, 0)) dX6_stop_42 rfl fl_X6_114 rfl rfl (mo_s hM) (mo_r hM 24 (by decide)) ?_
      refine hg_iload_n (n := 46) dX6_stop_45 rfl rfl ?_
      refine hg_iaload (n := 47) (len := 3) (f) dX6_stop_46 rfl (by decide) rfl (mo_a hM 24 (by decide)) rfl (by omega) (by decide) ?_
      refine hg_ireturn dX6_stop_47 rfl ?_
      exact hQ
    · exact absurd h16 hr
  · exact absurd h4 (z_nat3 (a := 0) (b := 2) (by omega) (by omega) (by omega))

def in_ (X : MI_) (p : Nat) : Int32 := X 40 0 (6 * p + (X 31 0 p).toNatClampNeg - 1)
/-- each part's number of shells -/
def sh_ (X : MI_) (np : Nat) : Prop := ∀ p, p < np → ∃ n, 1 ≤ n ∧ n ≤ 6 ∧ X 31 0 p = nI n
def la_n (X : MI_) (f : Nat) : Nat → Int32
  | 0 => 0
  | c + 1 => if X 51 0 (4 * f + c) = 0 then la_n X f c else if X 50 0 (4 * f + c) = -1 then la_n X f c else la_n X f c + 1
def la_w (X : MI_) (f : Nat) (z : Int32) : Nat → Int32
  | 0 => 1
  | c + 1 => if X 51 0 (4 * f + c) = 0 then la_w X f z c else if X 50 0 (4 * f + c) = -1 then la_w X f z c else if la_w X f z c = 0 then 0 else if in_ X (X 50 0 (4 * f + c)).toNatClampNeg + X 52 0 (4 * f + c) < z then 0 else 1
def la_ (X : MI_) (f : Nat) (z : Int32) : Int32 := if la_w X f z 4 = 0 then -1 else la_n X f 4
set_option maxHeartbeats 4000000 in
set_option maxRecDepth 100000 in
theorem c_X6_liveAt {mi : MI_} {ml : ML_} {mr : MR_} {sh : SH_} (hM : mo_ mr sh) (np : Nat) (hn12 : np ≤ 12) (hpl : pl_ mi np) (hsh : sh_ mi np) (f : Nat) (hf : f < 3) (z : Int32) : hg_Det false yX6_liveAt md_X6_liveAt [hv_r (some (7, 0)), hv_i (nI f), hv_i z] (mi, ml, mr, sh) (some (hv_i (la_ mi f z))) (mi, ml, mr, sh) := by
  intro Q hQ
  refine hg_intro rfl rfl rfl (Nat.le_of_ble_eq_true rfl) rfl ?_
  have loop : ∀ m c, c + m = 4 → hg_G md_X6_liveAt false sh Q 0 0 10 [some (hv_r (some (7, 0))), some (hv_i (nI f)), some (hv_i z), some (hv_i (la_n mi f c)), some (hv_i (la_w mi f z c)), some (hv_i (nI (4 * f + c)))] [] (mi, ml, mr, sh) := by
    intro m
    induction m with
    | zero =>
      intro c hc
      refine hg_iload (n := 12) dX6_liveAt_10 rfl rfl ?_
      refine hg_iconst (n := 13) (v := 4) dX6_liveAt_12 rfl (by decide) ?_
      refine hg_iload_n (n := 14) dX6_liveAt_13 rfl rfl ?_
      refine hg_imulN (n := 15) (4) (f) dX6_liveAt_14 rfl ?_
      refine hg_iconst (n := 16) (v := 4) dX6_liveAt_15 rfl (by decide) ?_
      refine hg_iaddN (n := 17) (4 * f) (4) dX6_liveAt_16 rfl ?_
      refine hg_icmp_geN (n := 20) (tgt := 85) (4 * f + c) ((4 * f) + 4) dX6_liveAt_17 rfl (by decide) (by omega) (by omega) (fun h17 => ?_) (fun h17 => ?_)
      · have e := show c = 4 by omega
        subst e
        refine hg_iload (n := 87) dX6_liveAt_85 rfl rfl ?_
        refine hg_if_eq (n := 90) (tgt := 94) dX6_liveAt_87 rfl (by decide) (fun h87 => ?_) (fun h87 => ?_)
        · refine hg_iconst (n := 95) (v := -1) dX6_liveAt_94 rfl (by decide) ?_
          refine hg_ireturn dX6_liveAt_95 rfl ?_
          unfold la_ at hQ
          rw [if_pos h87] at hQ
          exact hQ
        · refine hg_iload_n (n := 91) dX6_liveAt_90 rfl rfl ?_
          refine hg_goto (tgt := 95) dX6_liveAt_91 (by decide) ?_
          refine hg_ireturn dX6_liveAt_95 rfl ?_
          unfold la_ at hQ
          rw [if_neg h87] at hQ
          exact hQ
      · exact absurd h17 (by omega)
    | succ m ih =>
      intro c hc
      have s79 : ∀ x w, x = la_n mi f (c + 1) → w = la_w mi f z (c + 1) → hg_G md_X6_liveAt false sh Q 0 0 79 [some (hv_r (some (7, 0))), some (hv_i (nI f)), some (hv_i z), some (hv_i x), some (hv_i w), some (hv_i (nI (4 * f + c)))] [] (mi, ml, mr, sh) := by
        intro x w hx hw
        subst hx hw
        refine hg_iincN (n := 82) (4 * f + c) 1 dX6_liveAt_79 rfl rfl (by decide) (by decide) rfl rfl ?_
        refine hg_goto (tgt := 10) dX6_liveAt_82 (by decide) ?_
        exact ih (c + 1) (by omega)
      refine hg_iload (n := 12) dX6_liveAt_10 rfl rfl ?_
      refine hg_iconst (n := 13) (v := 4) dX6_liveAt_12 rfl (by decide) ?_
      refine hg_iload_n (n := 14) dX6_liveAt_13 rfl rfl ?_
      refine hg_imulN (n := 15) (4) (f) dX6_liveAt_14 rfl ?_
      refine hg_iconst (n := 16) (v := 4) dX6_liveAt_15 rfl (by decide) ?_
      refine hg_iaddN (n := 17) (4 * f) (4) dX6_liveAt_16 rfl ?_
      refine hg_icmp_geN (n := 20) (tgt := 85) (4 * f + c) ((4 * f) + 4) dX6_liveAt_17 rfl (by decide) (by omega) (by omega) (fun h17 => ?_) (fun h17 => ?_)
      · exact absurd h17 (by omega)
      · refine hg_aload_n (n := 21) dX6_liveAt_20 rfl rfl ?_
        refine hg_getR (n := 24) (r := some (51, 0)) dX6_liveAt_21 rfl fl_X6_104 rfl rfl (mo_s hM) (mo_r hM 21 (by decide)) ?_
        refine hg_iload (n := 26) dX6_liveAt_24 rfl rfl ?_
        refine hg_baload (n := 27) (len := 12) (4 * f + c) dX6_liveAt_26 rfl (by decide) rfl (mo_a hM 21 (by decide)) rfl (by omega) (by decide) ?_
        refine hg_if_eq (n := 30) (tgt := 79) dX6_liveAt_27 rfl (by decide) (fun h27 => ?_) (fun h27 => ?_)
        · exact s79 _ _ (by rw [la_n, if_pos h27]) (by rw [la_w, if_pos h27])
        · refine hg_aload_n (n := 31) dX6_liveAt_30 rfl rfl ?_
          refine hg_getR (n := 34) (r := some (50, 0)) dX6_liveAt_31 rfl fl_X6_101 rfl rfl (mo_s hM) (mo_r hM 20 (by decide)) ?_
          refine hg_iload (n := 36) dX6_liveAt_34 rfl rfl ?_
          refine hg_iaload (n := 37) (len := 12) (4 * f + c) dX6_liveAt_36 rfl (by decide) rfl (mo_a hM 20 (by decide)) rfl (by omega) (by decide) ?_
          refine hg_iconst (n := 38) (v := -1) dX6_liveAt_37 rfl (by decide) ?_
          refine hg_icmp_eq (n := 41) (tgt := 79) dX6_liveAt_38 rfl (by decide) (fun h38 => ?_) (fun h38 => ?_)
          · exact s79 _ _ (by rw [la_n, if_neg h27, if_pos h38]) (by rw [la_w, if_neg h27, if_pos h38])
          · obtain ⟨p, hp, hpj⟩ := hpl (4 * f + c) (by omega) h38
            obtain ⟨n, hn1, hn6, hnp⟩ := hsh p hp
            refine hg_iincI (n := 44) (1) dX6_liveAt_41 rfl rfl (by decide) (by decide) rfl rfl ?_
            refine hg_iload (n := 46) dX6_liveAt_44 rfl rfl ?_
            refine hg_if_eq (n := 49) (tgt := 76) dX6_liveAt_46 rfl (by decide) (fun h46 => ?_) (fun h46 => ?_)
            · refine hg_iconst (n := 77) (v := 0) dX6_liveAt_76 rfl (by decide) ?_
              refine hg_istore (n := 79) dX6_liveAt_77 rfl (by decide) rfl rfl ?_
              exact s79 _ _ (by rw [la_n, if_neg h27, if_neg h38]) (by rw [la_w, if_neg h27, if_neg h38, if_pos h46])
            · refine hg_aload_n (n := 50) dX6_liveAt_49 rfl rfl ?_
              refine hg_aload_n (n := 51) dX6_liveAt_50 rfl rfl ?_
              refine hg_getR (n := 54) (r := some (50, 0)) dX6_liveAt_51 rfl fl_X6_101 rfl rfl (mo_s hM) (mo_r hM 20 (by decide)) ?_
              refine hg_iload (n := 56) dX6_liveAt_54 rfl rfl ?_
              refine hg_ialoadN (n := 57) (len := 12) (p) (4 * f + c) dX6_liveAt_56 rfl (by decide) rfl (mo_a hM 20 (by decide)) rfl (by omega) (by decide) hpj ?_
              refine hg_callVd (n := 60) (c_X6_innermost hM (p) n (by omega) hnp (by omega) (by omega)) dX6_liveAt_57 rfl mk_X6_67 yl_X6_innermost yv_X6_innermost rfl (mo_s hM) (by decide) (by decide) rfl rfl (Nat.le_of_ble_eq_true rfl) (fun h => by cases h) ?_
              refine hg_aload_n (n := 61) dX6_liveAt_60 rfl rfl ?_
              refine hg_getR (n := 64) (r := some (52, 0)) dX6_liveAt_61 rfl fl_X6_108 rfl rfl (mo_s hM) (mo_r hM 22 (by decide)) ?_
              refine hg_iload (n := 66) dX6_liveAt_64 rfl rfl ?_
              refine hg_iaload (n := 67) (len := 12) (4 * f + c) dX6_liveAt_66 rfl (by decide) rfl (mo_a hM 22 (by decide)) rfl (by omega) (by decide) ?_
              refine hg_iadd (n := 68) dX6_liveAt_67 rfl ?_
              refine hg_iload_n (n := 69) dX6_liveAt_68 rfl rfl ?_
              refine hg_icmp_lt (n := 72) (tgt := 76) dX6_liveAt_69 rfl (by decide) (fun h69 => ?_) (fun h69 => ?_)
              · refine hg_iconst (n := 77) (v := 0) dX6_liveAt_76 rfl (by decide) ?_
                refine hg_istore (n := 79) dX6_liveAt_77 rfl (by decide) rfl rfl ?_
                exact s79 _ _ (by rw [la_n, if_neg h27, if_neg h38]) (by rw [la_w, if_neg h27, if_neg h38, if_neg h46, hpj, nI_clamp (by omega)]; unfold in_; rw [hnp, nI_clamp (by omega), if_pos h69])
              · refine hg_iconst (n := 73) (v := 1) dX6_liveAt_72 rfl (by decide) ?_
                refine hg_goto (tgt := 77) dX6_liveAt_73 (by decide) ?_
                refine hg_istore (n := 79) dX6_liveAt_77 rfl (by decide) rfl rfl ?_
                exact s79 _ _ (by rw [la_n, if_neg h27, if_neg h38]) (by rw [la_w, if_neg h27, if_neg h38, if_neg h46, hpj, nI_clamp (by omega)]; unfold in_; rw [hnp, nI_clamp (by omega), if_neg h69])
  refine hg_iconst (n := 1) (v := 0) dX6_liveAt_0 rfl (by decide) ?_
  refine hg_istore_n (n := 2) dX6_liveAt_1 rfl (by decide) rfl rfl ?_
  refine hg_iconst (n := 3) (v := 1) dX6_liveAt_2 rfl (by decide) ?_
  refine hg_istore (n := 5) dX6_liveAt_3 rfl (by decide) rfl rfl ?_
  refine hg_iconst (n := 6) (v := 4) dX6_liveAt_5 rfl (by decide) ?_
  refine hg_iload_n (n := 7) dX6_liveAt_6 rfl rfl ?_
  refine hg_imulN (n := 8) (4) (f) dX6_liveAt_7 rfl ?_
  refine hg_istore (n := 10) dX6_liveAt_8 rfl (by decide) rfl rfl ?_
  exact loop 4 0 (by omega)

def rg_ (X : MI_) : Nat → Int32
  | 0 => 0
  | i + 1 => rg_ X i + (if X 53 0 i = 0 then 0 else 1)
set_option maxHeartbeats 4000000 in
set_option maxRecDepth 100000 in
theorem c_X6_running {mi : MI_} {ml : ML_} {mr : MR_} {sh : SH_} (hM : mo_ mr sh)  : hg_Det false yX6_running md_X6_running [hv_r (some (7, 0))] (mi, ml, mr, sh) (some (hv_i (rg_ mi 3))) (mi, ml, mr, sh) := by
  intro Q hQ
  refine hg_intro rfl rfl rfl (Nat.le_of_ble_eq_true rfl) rfl ?_
  have loop : ∀ m i, i + m = 3 → hg_G md_X6_running false sh Q 0 0 4 [some (hv_r (some (7, 0))), some (hv_i (rg_ mi i)), some (hv_i (nI i))] [] (mi, ml, mr, sh) := by
    intro m
    induction m with
    | zero =>
      intro i hi
      refine hg_iload_n (n := 5) dX6_running_4 rfl rfl ?_
      refine hg_iconst (n := 6) (v := 3) dX6_running_5 rfl (by decide) ?_
      refine hg_icmp_geN (n := 9) (tgt := 32) (i) (3) dX6_running_6 rfl (by decide) (by omega) (by omega) (fun h6 => ?_) (fun h6 => ?_)
      · have e := show i = 3 by omega
        subst e
        refine hg_iload_n (n := 33) dX6_running_32 rfl rfl ?_
        refine hg_ireturn dX6_running_33 rfl ?_
        exact hQ
      · exact absurd h6 (by omega)
    | succ m ih =>
      intro i hi
      refine hg_iload_n (n := 5) dX6_running_4 rfl rfl ?_
      refine hg_iconst (n := 6) (v := 3) dX6_running_5 rfl (by decide) ?_
      refine hg_icmp_geN (n := 9) (tgt := 32) (i) (3) dX6_running_6 rfl (by decide) (by omega) (by omega) (fun h6 => ?_) (fun h6 => ?_)
      · exact absurd h6 (by omega)
      · refine hg_iload_n (n := 10) dX6_running_9 rfl rfl ?_
        refine hg_aload_n (n := 11) dX6_running_10 rfl rfl ?_
        refine hg_getR (n := 14) (r := some (53, 0)) dX6_running_11 rfl fl_X6_111 rfl rfl (mo_s hM) (mo_r hM 23 (by decide)) ?_
        refine hg_iload_n (n := 15) dX6_running_14 rfl rfl ?_
        refine hg_baload (n := 16) (len := 3) (i) dX6_running_15 rfl (by decide) rfl (mo_a hM 23 (by decide)) rfl (by omega) (by decide) ?_
        refine hg_if_eq (n := 19) (tgt := 23) dX6_running_16 rfl (by decide) (fun h16 => ?_) (fun h16 => ?_)
        · refine hg_iconst (n := 24) (v := 0) dX6_running_23 rfl (by decide) ?_
          refine hg_iadd (n := 25) dX6_running_24 rfl ?_
          refine hg_topI (z := rg_ mi (i + 1)) (by rw [rg_, if_pos h16]) ?_
          refine hg_istore_n (n := 26) dX6_running_25 rfl (by decide) rfl rfl ?_
          refine hg_iincN (n := 29) (i) 1 dX6_running_26 rfl rfl (by decide) (by decide) rfl rfl ?_
          refine hg_goto (tgt := 4) dX6_running_29 (by decide) ?_
          exact ih (i + 1) (by omega)
        · refine hg_iconst (n := 20) (v := 1) dX6_running_19 rfl (by decide) ?_
          refine hg_goto (tgt := 24) dX6_running_20 (by decide) ?_
          refine hg_iadd (n := 25) dX6_running_24 rfl ?_
          refine hg_topI (z := rg_ mi (i + 1)) (by rw [rg_, if_neg h16]) ?_
          refine hg_istore_n (n := 26) dX6_running_25 rfl (by decide) rfl rfl ?_
          refine hg_iincN (n := 29) (i) 1 dX6_running_26 rfl rfl (by decide) (by decide) rfl rfl ?_
          refine hg_goto (tgt := 4) dX6_running_29 (by decide) ?_
          exact ih (i + 1) (by omega)
  refine hg_iconst (n := 1) (v := 0) dX6_running_0 rfl (by decide) ?_
  refine hg_istore_n (n := 2) dX6_running_1 rfl (by decide) rfl rfl ?_
  refine hg_iconst (n := 3) (v := 0) dX6_running_2 rfl (by decide) ?_
  refine hg_istore_n (n := 4) dX6_running_3 rfl (by decide) rfl rfl ?_
  exact loop 3 0 (by omega)
end
section
def tk_g (X : MI_) (f t : Nat) : MI_ :=
  if X 47 0 t = 0 then u_3 X 44 0 f (if X 48 0 t ≤ X 44 0 f then (if X 44 0 f - X 49 0 t ≤ X 48 0 t then X 48 0 t else X 44 0 f - X 49 0 t) else (if X 48 0 t ≤ X 44 0 f + X 49 0 t then X 48 0 t else X 44 0 f + X 49 0 t))
  else if 3 ≤ X 47 0 t then X else u_3 X 44 0 f (X 48 0 t)
def tk_p (X : MI_) (T : ML_) (f : Nat) : Nat → MI_ × ML_
  | 0 => (X, T)
  | i + 1 => if (tk_p X T f i).1 50 0 (4 * f + i) = -1 then tk_p X T f i else
    (st_m (tk_p X T f i).1 ((tk_p X T f i).1 50 0 (4 * f + i)).toNatClampNeg ((tk_p X T f i).1 31 0 ((tk_p X T f i).1 50 0 (4 * f + i)).toNatClampNeg).toNatClampNeg ((tk_p X T f i).1 44 0 f + (tk_p X T f i).1 45 0 f),
     st_l (tk_p X T f i).1 (tk_p X T f i).2 ((tk_p X T f i).1 50 0 (4 * f + i)).toNatClampNeg ((tk_p X T f i).1 31 0 ((tk_p X T f i).1 50 0 (4 * f + i)).toNatClampNeg).toNatClampNeg ((tk_p X T f i).1 44 0 f + (tk_p X T f i).1 45 0 f))
theorem tk_p_k {X : MI_} {T : ML_} {f k i j : Nat} (h : k ≠ 40 ∧ k ≠ 41 ∧ k ≠ 42 ∧ k ≠ 43) : ∀ c, (tk_p X T f c).1 k i j = X k i j
  | 0 => rfl
  | c + 1 => by
    rw [tk_p]
    split
    · exact tk_p_k h c
    · exact (st_m_k h).trans (tk_p_k h c)
theorem tk_g_k {X : MI_} {f t k i j : Nat} (h : k ≠ 44) : tk_g X f t k i j = X k i j := by
  unfold tk_g
  split
  · exact u_3_k h
  · split
    · rfl
    · exact u_3_k h
def tk_5 (X : MI_) (f r : Nat) (a op : Int32) : MI_ :=
  if op = 1 then u_3 (u_3 X 55 0 f (X 55 0 f + (if la_ X f (a - 100) ≤ 0 then 0 else 1))) 62 0 r (if u_3 X 55 0 f (X 55 0 f + (if la_ X f (a - 100) ≤ 0 then 0 else 1)) 62 0 r = 0 then (if la_ X f (a - 100) = 1 then (if lo_ (u_3 X 55 0 f (X 55 0 f + (if la_ X f (a - 100) ≤ 0 then 0 else 1))) f 4 ≤ 1 then 0 else 1) else 0) else 1)
  else if op ≤ 1 then X else u_3 X 55 0 f (X 55 0 f + 1)
def tk_o (X : MI_) (f : Nat) (a op : Int32) : Int32 := if op = 0 then (if X 44 0 f = a then 1 else 0) else 0
def tk_6 (X : MI_) (f : Nat) (b op v : Int32) : Int32 := if v = 0 then (if op ≤ 0 then 0 else if X 55 0 f = b then 1 else 0) else 1
def tk_x (X : MI_) (f : Nat) : MI_ := u_3 (u_3 X 54 0 f (X 54 0 f + 1)) 55 0 f 0
def tk_7 (X : MI_) (f r : Nat) (v : Int32) : MI_ := if v = 0 then X else if tk_x X f 54 0 f = tk_x X f 46 0 f then u_3 (u_3 (u_3 (tk_x X f) 53 0 f 0) 60 0 r 1) 61 0 r 1 else tk_x X f
def tk_e (X : MI_) (f r : Nat) (a b op : Int32) : MI_ := tk_7 (tk_5 X f r a op) f r (tk_6 (tk_5 X f r a op) f b op (tk_o X f a op))
def tk_m (X : MI_) (T : ML_) (f al r : Nat) : MI_ := tk_e (u_3 (tk_p (tk_g X f (8 * f + al)) T f 4).1 64 0 r ((tk_p (tk_g X f (8 * f + al)) T f 4).1 64 0 r + 1)) f r (X 48 0 (8 * f + al)) (X 49 0 (8 * f + al)) (X 47 0 (8 * f + al))
def tk_l (X : MI_) (T : ML_) (f al : Nat) : ML_ := (tk_p (tk_g X f (8 * f + al)) T f 4).2
theorem tk_5_k {X : MI_} {f r : Nat} {a op : Int32} {k i j : Nat} (h : k ≠ 55 ∧ k ≠ 62) : tk_5 X f r a op k i j = X k i j := by
  unfold tk_5
  split
  · rw [u_3_k h.2, u_3_k h.1]
  · split
    · rfl
    · exact u_3_k h.1
theorem tk_x_k {X : MI_} {f : Nat} {k i j : Nat} (h : k ≠ 54 ∧ k ≠ 55) : tk_x X f k i j = X k i j := by
  unfold tk_x
  rw [u_3_k h.2, u_3_k h.1]
theorem tk_7_k {X : MI_} {f r : Nat} {v : Int32} {k i j : Nat} (h : k ≠ 54 ∧ k ≠ 55 ∧ k ≠ 53 ∧ k ≠ 60 ∧ k ≠ 61) : tk_7 X f r v k i j = X k i j := by
  unfold tk_7
  split
  · rfl
  · split
    · rw [u_3_k h.2.2.2.2, u_3_k h.2.2.2.1, u_3_k h.2.2.1, tk_x_k ⟨h.1, h.2.1⟩]
    · exact tk_x_k ⟨h.1, h.2.1⟩
set_option maxHeartbeats 4000000 in
set_option maxRecDepth 100000 in
theorem c_X6_ticks {mi : MI_} {ml : ML_} {mr : MR_} {sh : SH_} (hM : mo_ mr sh) (np : Nat) (hn12 : np ≤ 12) (hpl : pl_ mi np) (hsh : sh_ mi np) (f : Nat) (hf : f < 3) (al r : Nat) (hal : mi 54 0 f = nI al) (hal8 : al < 8) (hor : mi 56 0 f = nI r) (hr9 : r < 100) : hg_Det false yX6_ticks md_X6_ticks [hv_r (some (7, 0)), hv_i (nI f)] (mi, ml, mr, sh) none (tk_m mi ml f al r, tk_l mi ml f al, mr, sh) := by
  intro Q hQ
  refine hg_intro rfl rfl rfl (Nat.le_of_ble_eq_true rfl) rfl ?_
  have s348 : ∀ X T v, X 56 0 f = nI r → Q none (tk_7 X f r v, T, mr, sh) → hg_G md_X6_ticks false sh Q 0 0 348 [some (hv_r (some (7, 0))), some (hv_i (nI f)), none, some (hv_i (mi 48 0 (8 * f + al))), some (hv_i (mi 49 0 (8 * f + al))), some (hv_i (mi 47 0 (8 * f + al))), some (hv_i v), none] [] (X, T, mr, sh) := by
    intro X T v hr hq
    refine hg_iload (n := 350) dX6_ticks_348 rfl rfl ?_
    refine hg_if_eq (n := 353) (tgt := 416) dX6_ticks_350 rfl (by decide) (fun h350 => ?_) (fun h350 => ?_)
    · refine hg_return dX6_ticks_416 rfl ?_
      unfold tk_7 at hq
      try unfold tk_x at hq
      rw [if_pos h350] at hq
      exact hq
    · refine hg_aload_n (n := 354) dX6_ticks_353 rfl rfl ?_
      refine hg_getR (n := 357) (r := some (54, 0)) dX6_ticks_354 rfl fl_X6_114 rfl rfl (mo_s hM) (mo_r hM 24 (by decide)) ?_
      refine hg_iload_n (n := 358) dX6_ticks_357 rfl rfl ?_
      refine hg_dup2 (n := 359) dX6_ticks_358 rfl rfl rfl ?_
      refine hg_iaload (n := 360) (len := 3) (f) dX6_ticks_359 rfl (by decide) rfl (mo_a hM 24 (by decide)) rfl (by omega) (by decide) ?_
      refine hg_iconst (n := 361) (v := 1) dX6_ticks_360 rfl (by decide) ?_
      refine hg_iadd (n := 362) dX6_ticks_361 rfl ?_
      refine hg_iastore (n := 363) (len := 3) (f) dX6_ticks_362 rfl (by decide) rfl (mo_a hM 24 (by decide)) rfl (by omega) (by decide) ?_
      refine hg_aload_n (n := 364) dX6_ticks_363 rfl rfl ?_
      refine hg_getR (n := 367) (r := some (55, 0)) dX6_ticks_364 rfl fl_X6_117 rfl rfl (mo_s hM) (mo_r hM 25 (by decide)) ?_
      refine hg_iload_n (n := 368) dX6_ticks_367 rfl rfl ?_
      refine hg_iconst (n := 369) (v := 0) dX6_ticks_368 rfl (by decide) ?_
      refine hg_iastore (n := 370) (len := 3) (f) dX6_ticks_369 rfl (by decide) rfl (mo_a hM 25 (by decide)) rfl (by omega) (by decide) ?_
      refine hg_aload_n (n := 371) dX6_ticks_370 rfl rfl ?_
      refine hg_getR (n := 374) (r := some (54, 0)) dX6_ticks_371 rfl fl_X6_114 rfl rfl (mo_s hM) (mo_r hM 24 (by decide)) ?_
      refine hg_iload_n (n := 375) dX6_ticks_374 rfl rfl ?_
      refine hg_iaload (n := 376) (len := 3) (f) dX6_ticks_375 rfl (by decide) rfl (mo_a hM 24 (by decide)) rfl (by omega) (by decide) ?_
      refine hg_aload_n (n := 377) dX6_ticks_376 rfl rfl ?_
      refine hg_getR (n := 380) (r := some (46, 0)) dX6_ticks_377 rfl fl_X6_89 rfl rfl (mo_s hM) (mo_r hM 16 (by decide)) ?_
      refine hg_iload_n (n := 381) dX6_ticks_380 rfl rfl ?_
      refine hg_iaload (n := 382) (len := 3) (f) dX6_ticks_381 rfl (by decide) rfl (mo_a hM 16 (by decide)) rfl (by omega) (by decide) ?_
      refine hg_icmp_ne (n := 385) (tgt := 416) dX6_ticks_382 rfl (by decide) (fun h382 => ?_) (fun h382 => ?_)
      · refine hg_return dX6_ticks_416 rfl ?_
        unfold tk_7 at hq
        try unfold tk_x at hq
        rw [if_neg h350, if_neg h382] at hq
        exact hq
      · refine hg_aload_n (n := 386) dX6_ticks_385 rfl rfl ?_
        refine hg_getR (n := 389) (r := some (53, 0)) dX6_ticks_386 rfl fl_X6_111 rfl rfl (mo_s hM) (mo_r hM 23 (by decide)) ?_
        refine hg_iload_n (n := 390) dX6_ticks_389 rfl rfl ?_
        refine hg_iconst (n := 391) (v := 0) dX6_ticks_390 rfl (by decide) ?_
        refine hg_bastore (n := 392) (len := 3) (f) dX6_ticks_391 rfl (by decide) rfl (by decide) (mo_a hM 23 (by decide)) rfl (by omega) (by decide) ?_
        have hr3 : u_3 (tk_x X f) 53 0 f 0 56 0 f = nI r := (u_3_k (by decide)).trans ((tk_x_k (by decide)).trans hr)
        refine hg_aload_n (n := 393) dX6_ticks_392 rfl rfl ?_
        refine hg_getR (n := 396) (r := some (60, 0)) dX6_ticks_393 rfl fl_X6_129 rfl rfl (mo_s hM) (mo_r hM 30 (by decide)) ?_
        refine hg_aload_n (n := 397) dX6_ticks_396 rfl rfl ?_
        refine hg_getR (n := 400) (r := some (56, 0)) dX6_ticks_397 rfl fl_X6_120 rfl rfl (mo_s hM) (mo_r hM 26 (by decide)) ?_
        refine hg_iload_n (n := 401) dX6_ticks_400 rfl rfl ?_
        refine hg_ialoadN (n := 402) (len := 3) (r) (f) dX6_ticks_401 rfl (by decide) rfl (mo_a hM 26 (by decide)) rfl (by omega) (by decide) hr3 ?_
        refine hg_iconst (n := 403) (v := 1) dX6_ticks_402 rfl (by decide) ?_
        refine hg_bastore (n := 404) (len := 100) (r) dX6_ticks_403 rfl (by decide) rfl (by decide) (mo_a hM 30 (by decide)) rfl (by omega) (by decide) ?_
        have hr4 : u_3 (u_3 (tk_x X f) 53 0 f 0) 60 0 r 1 56 0 f = nI r := (u_3_k (by decide)).trans hr3
        refine hg_aload_n (n := 405) dX6_ticks_404 rfl rfl ?_
        refine hg_getR (n := 408) (r := some (61, 0)) dX6_ticks_405 rfl fl_X6_132 rfl rfl (mo_s hM) (mo_r hM 31 (by decide)) ?_
        refine hg_aload_n (n := 409) dX6_ticks_408 rfl rfl ?_
        refine hg_getR (n := 412) (r := some (56, 0)) dX6_ticks_409 rfl fl_X6_120 rfl rfl (mo_s hM) (mo_r hM 26 (by decide)) ?_
        refine hg_iload_n (n := 413) dX6_ticks_412 rfl rfl ?_
        refine hg_ialoadN (n := 414) (len := 3) (r) (f) dX6_ticks_413 rfl (by decide) rfl (mo_a hM 26 (by decide)) rfl (by omega) (by decide) hr4 ?_
        refine hg_iconst (n := 415) (v := 1) dX6_ticks_414 rfl (by decide) ?_
        refine hg_bastore (n := 416) (len := 100) (r) dX6_ticks_415 rfl (by decide) rfl (by decide) (mo_a hM 31 (by decide)) rfl (by omega) (by decide) ?_
        refine hg_return dX6_ticks_416 rfl ?_
        unfold tk_7 at hq
        try unfold tk_x at hq
        rw [if_neg h350, if_pos h382] at hq
        exact hq
  have s320 : ∀ X T v, X 56 0 f = nI r → Q none (tk_7 X f r (tk_6 X f (mi 49 0 (8 * f + al)) (mi 47 0 (8 * f + al)) v), T, mr, sh) → hg_G md_X6_ticks false sh Q 0 0 320 [some (hv_r (some (7, 0))), some (hv_i (nI f)), none, some (hv_i (mi 48 0 (8 * f + al))), some (hv_i (mi 49 0 (8 * f + al))), some (hv_i (mi 47 0 (8 * f + al))), some (hv_i v), none] [] (X, T, mr, sh) := by
    intro X T v hr hq
    refine hg_iload (n := 322) dX6_ticks_320 rfl rfl ?_
    refine hg_if_ne (n := 325) (tgt := 341) dX6_ticks_322 rfl (by decide) (fun h322 => ?_) (fun h322 => ?_)
    · refine hg_iconst (n := 342) (v := 1) dX6_ticks_341 rfl (by decide) ?_
      refine hg_goto (tgt := 346) dX6_ticks_342 (by decide) ?_
      refine hg_topI (z := tk_6 X f (mi 49 0 (8 * f + al)) (mi 47 0 (8 * f + al)) v) (by unfold tk_6; rw [if_neg h322]) ?_
      refine hg_istore (n := 348) dX6_ticks_346 rfl (by decide) rfl rfl ?_
      exact s348 X T _ hr hq
    · refine hg_iload (n := 327) dX6_ticks_325 rfl rfl ?_
      refine hg_if_le (n := 330) (tgt := 345) dX6_ticks_327 rfl (by decide) (fun h327 => ?_) (fun h327 => ?_)
      · refine hg_iconst (n := 346) (v := 0) dX6_ticks_345 rfl (by decide) ?_
        refine hg_topI (z := tk_6 X f (mi 49 0 (8 * f + al)) (mi 47 0 (8 * f + al)) v) (by unfold tk_6; rw [if_pos h322, if_pos h327]) ?_
        refine hg_istore (n := 348) dX6_ticks_346 rfl (by decide) rfl rfl ?_
        exact s348 X T _ hr hq
      · refine hg_aload_n (n := 331) dX6_ticks_330 rfl rfl ?_
        refine hg_getR (n := 334) (r := some (55, 0)) dX6_ticks_331 rfl fl_X6_117 rfl rfl (mo_s hM) (mo_r hM 25 (by decide)) ?_
        refine hg_iload_n (n := 335) dX6_ticks_334 rfl rfl ?_
        refine hg_iaload (n := 336) (len := 3) (f) dX6_ticks_335 rfl (by decide) rfl (mo_a hM 25 (by decide)) rfl (by omega) (by decide) ?_
        refine hg_iload (n := 338) dX6_ticks_336 rfl rfl ?_
        refine hg_icmp_ne (n := 341) (tgt := 345) dX6_ticks_338 rfl (by decide) (fun h338 => ?_) (fun h338 => ?_)
        · refine hg_iconst (n := 346) (v := 0) dX6_ticks_345 rfl (by decide) ?_
          refine hg_topI (z := tk_6 X f (mi 49 0 (8 * f + al)) (mi 47 0 (8 * f + al)) v) (by unfold tk_6; rw [if_pos h322, if_neg h327, if_neg h338]) ?_
          refine hg_istore (n := 348) dX6_ticks_346 rfl (by decide) rfl rfl ?_
          exact s348 X T _ hr hq
        · refine hg_iconst (n := 342) (v := 1) dX6_ticks_341 rfl (by decide) ?_
          refine hg_goto (tgt := 346) dX6_ticks_342 (by decide) ?_
          refine hg_topI (z := tk_6 X f (mi 49 0 (8 * f + al)) (mi 47 0 (8 * f + al)) v) (by unfold tk_6; rw [if_pos h322, if_neg h327, if_pos h338]) ?_
          refine hg_istore (n := 348) dX6_ticks_346 rfl (by decide) rfl rfl ?_
          exact s348 X T _ hr hq
  have s220 : ∀ X T v, X 56 0 f = nI r → pl_ X np → sh_ X np → Q none (tk_7 (tk_5 X f r (mi 48 0 (8 * f + al)) (mi 47 0 (8 * f + al))) f r (tk_6 (tk_5 X f r (mi 48 0 (8 * f + al)) (mi 47 0 (8 * f + al))) f (mi 49 0 (8 * f + al)) (mi 47 0 (8 * f + al)) v), T, mr, sh) → hg_G md_X6_ticks false sh Q 0 0 220 [some (hv_r (some (7, 0))), some (hv_i (nI f)), none, some (hv_i (mi 48 0 (8 * f + al))), some (hv_i (mi 49 0 (8 * f + al))), some (hv_i (mi 47 0 (8 * f + al))), some (hv_i v), none] [] (X, T, mr, sh) := by
    intro X T v hr hpl hsh hq
    refine hg_iload (n := 222) dX6_ticks_220 rfl rfl ?_
    refine hg_iconst (n := 223) (v := 1) dX6_ticks_222 rfl (by decide) ?_
    refine hg_icmp_ne (n := 226) (tgt := 304) dX6_ticks_223 rfl (by decide) (fun h223 => ?_) (fun h223 => ?_)
    · refine hg_iload (n := 306) dX6_ticks_304 rfl rfl ?_
      refine hg_iconst (n := 307) (v := 1) dX6_ticks_306 rfl (by decide) ?_
      refine hg_icmp_le (n := 310) (tgt := 320) dX6_ticks_307 rfl (by decide) (fun h307 => ?_) (fun h307 => ?_)
      · refine s320 _ T v (by first | exact hr | exact (u_3_k (by decide)).trans hr) ?_
        unfold tk_5 at hq
        rw [if_neg h223, if_pos h307] at hq
        exact hq
      · refine hg_aload_n (n := 311) dX6_ticks_310 rfl rfl ?_
        refine hg_getR (n := 314) (r := some (55, 0)) dX6_ticks_311 rfl fl_X6_117 rfl rfl (mo_s hM) (mo_r hM 25 (by decide)) ?_
        refine hg_iload_n (n := 315) dX6_ticks_314 rfl rfl ?_
        refine hg_dup2 (n := 316) dX6_ticks_315 rfl rfl rfl ?_
        refine hg_iaload (n := 317) (len := 3) (f) dX6_ticks_316 rfl (by decide) rfl (mo_a hM 25 (by decide)) rfl (by omega) (by decide) ?_
        refine hg_iconst (n := 318) (v := 1) dX6_ticks_317 rfl (by decide) ?_
        refine hg_iadd (n := 319) dX6_ticks_318 rfl ?_
        refine hg_iastore (n := 320) (len := 3) (f) dX6_ticks_319 rfl (by decide) rfl (mo_a hM 25 (by decide)) rfl (by omega) (by decide) ?_
        refine s320 _ T v (by first | exact hr | exact (u_3_k (by decide)).trans hr) ?_
        unfold tk_5 at hq
        rw [if_neg h223, if_neg h307] at hq
        exact hq
    · have hr1 : (u_3 X 55 0 f (X 55 0 f + (if la_ X f (mi 48 0 (8 * f + al) - 100) ≤ 0 then 0 else 1))) 56 0 f = nI r := (u_3_k (by decide)).trans hr
      have s300 : ∀ x, x = (if (u_3 X 55 0 f (X 55 0 f + (if la_ X f (mi 48 0 (8 * f + al) - 100) ≤ 0 then 0 else 1))) 62 0 r = 0 then (if la_ X f (mi 48 0 (8 * f + al) - 100) = 1 then (if lo_ (u_3 X 55 0 f (X 55 0 f + (if la_ X f (mi 48 0 (8 * f + al) - 100) ≤ 0 then 0 else 1))) f 4 ≤ 1 then 0 else 1) else 0) else 1) → (x = 0 ∨ x = 1) → hg_G md_X6_ticks false sh Q 0 0 300 [some (hv_r (some (7, 0))), some (hv_i (nI f)), none, some (hv_i (mi 48 0 (8 * f + al))), some (hv_i (mi 49 0 (8 * f + al))), some (hv_i (mi 47 0 (8 * f + al))), some (hv_i v), some (hv_i (la_ X f (mi 48 0 (8 * f + al) - 100)))] [hv_i x, hv_i (nI r), hv_r (some (62, 0))] (u_3 X 55 0 f (X 55 0 f + (if la_ X f (mi 48 0 (8 * f + al) - 100) ≤ 0 then 0 else 1)), T, mr, sh) := by
        intro x hx hx01
        refine hg_bastore (n := 301) (len := 100) (r) dX6_ticks_300 rfl (by decide) rfl hx01 (mo_a hM 32 (by decide)) rfl (by omega) (by decide) ?_
        refine hg_goto (tgt := 320) dX6_ticks_301 (by decide) ?_
        refine hg_ls (s320 _ T v ((u_3_k (by decide)).trans ((u_3_k (by decide)).trans hr)) ?_) ⟨rfl, rfl, rfl, rfl, rfl, rfl, trivial⟩
        subst hx
        unfold tk_5 at hq
        rw [if_pos h223] at hq
        exact hq
      refine hg_aload_n (n := 227) dX6_ticks_226 rfl rfl ?_
      refine hg_iload_n (n := 228) dX6_ticks_227 rfl rfl ?_
      refine hg_iload_n (n := 229) dX6_ticks_228 rfl rfl ?_
      refine hg_bipush (n := 231) (v := 100) dX6_ticks_229 rfl (by decide) ?_
      refine hg_isub (n := 232) dX6_ticks_231 rfl ?_
      refine hg_callVd (n := 235) (c_X6_liveAt hM np hn12 hpl hsh (f) (by omega) _) dX6_ticks_232 rfl mk_X6_168 yl_X6_liveAt yv_X6_liveAt rfl (mo_s hM) (by decide) (by decide) rfl rfl (Nat.le_of_ble_eq_true rfl) (fun h => by cases h) ?_
      refine hg_istore (n := 237) dX6_ticks_235 rfl (by decide) rfl rfl ?_
      refine hg_aload_n (n := 238) dX6_ticks_237 rfl rfl ?_
      refine hg_getR (n := 241) (r := some (55, 0)) dX6_ticks_238 rfl fl_X6_117 rfl rfl (mo_s hM) (mo_r hM 25 (by decide)) ?_
      refine hg_iload_n (n := 242) dX6_ticks_241 rfl rfl ?_
      refine hg_dup2 (n := 243) dX6_ticks_242 rfl rfl rfl ?_
      refine hg_iaload (n := 244) (len := 3) (f) dX6_ticks_243 rfl (by decide) rfl (mo_a hM 25 (by decide)) rfl (by omega) (by decide) ?_
      refine hg_iload (n := 246) dX6_ticks_244 rfl rfl ?_
      refine hg_if_le (n := 249) (tgt := 253) dX6_ticks_246 rfl (by decide) (fun h246 => ?_) (fun h246 => ?_)
      · refine hg_iconst (n := 254) (v := 0) dX6_ticks_253 rfl (by decide) ?_
        refine hg_topI (z := (if la_ X f (mi 48 0 (8 * f + al) - 100) ≤ 0 then 0 else 1)) (by rw [if_pos h246]) ?_
        refine hg_iadd (n := 255) dX6_ticks_254 rfl ?_
        refine hg_iastore (n := 256) (len := 3) (f) dX6_ticks_255 rfl (by decide) rfl (mo_a hM 25 (by decide)) rfl (by omega) (by decide) ?_
        refine hg_aload_n (n := 257) dX6_ticks_256 rfl rfl ?_
        refine hg_getR (n := 260) (r := some (62, 0)) dX6_ticks_257 rfl fl_X6_135 rfl rfl (mo_s hM) (mo_r hM 32 (by decide)) ?_
        refine hg_aload_n (n := 261) dX6_ticks_260 rfl rfl ?_
        refine hg_getR (n := 264) (r := some (56, 0)) dX6_ticks_261 rfl fl_X6_120 rfl rfl (mo_s hM) (mo_r hM 26 (by decide)) ?_
        refine hg_iload_n (n := 265) dX6_ticks_264 rfl rfl ?_
        refine hg_ialoadN (n := 266) (len := 3) (r) (f) dX6_ticks_265 rfl (by decide) rfl (mo_a hM 26 (by decide)) rfl (by omega) (by decide) hr1 ?_
        refine hg_aload_n (n := 267) dX6_ticks_266 rfl rfl ?_
        refine hg_getR (n := 270) (r := some (62, 0)) dX6_ticks_267 rfl fl_X6_135 rfl rfl (mo_s hM) (mo_r hM 32 (by decide)) ?_
        refine hg_aload_n (n := 271) dX6_ticks_270 rfl rfl ?_
        refine hg_getR (n := 274) (r := some (56, 0)) dX6_ticks_271 rfl fl_X6_120 rfl rfl (mo_s hM) (mo_r hM 26 (by decide)) ?_
        refine hg_iload_n (n := 275) dX6_ticks_274 rfl rfl ?_
        refine hg_ialoadN (n := 276) (len := 3) (r) (f) dX6_ticks_275 rfl (by decide) rfl (mo_a hM 26 (by decide)) rfl (by omega) (by decide) hr1 ?_
        refine hg_baload (n := 277) (len := 100) (r) dX6_ticks_276 rfl (by decide) rfl (mo_a hM 32 (by decide)) rfl (by omega) (by decide) ?_
        refine hg_if_ne (n := 280) (tgt := 295) dX6_ticks_277 rfl (by decide) (fun h277 => ?_) (fun h277 => ?_)
        · refine hg_iconst (n := 296) (v := 1) dX6_ticks_295 rfl (by decide) ?_
          refine hg_goto (tgt := 300) dX6_ticks_296 (by decide) ?_
          exact s300 _ (by rw [if_neg h277]) (by decide)
        · refine hg_iload (n := 282) dX6_ticks_280 rfl rfl ?_
          refine hg_iconst (n := 283) (v := 1) dX6_ticks_282 rfl (by decide) ?_
          refine hg_icmp_ne (n := 286) (tgt := 299) dX6_ticks_283 rfl (by decide) (fun h283 => ?_) (fun h283 => ?_)
          · refine hg_iconst (n := 300) (v := 0) dX6_ticks_299 rfl (by decide) ?_
            exact s300 _ (by rw [if_pos h277, if_neg h283]) (by decide)
          · refine hg_aload_n (n := 287) dX6_ticks_286 rfl rfl ?_
            refine hg_iload_n (n := 288) dX6_ticks_287 rfl rfl ?_
            refine hg_callVd (n := 291) (c_X6_loadOf hM (f) (by omega)) dX6_ticks_288 rfl mk_X6_162 yl_X6_loadOf yv_X6_loadOf rfl (mo_s hM) (by decide) (by decide) rfl rfl (Nat.le_of_ble_eq_true rfl) (fun h => by cases h) ?_
            refine hg_iconst (n := 292) (v := 1) dX6_ticks_291 rfl (by decide) ?_
            refine hg_icmp_le (n := 295) (tgt := 299) dX6_ticks_292 rfl (by decide) (fun h292 => ?_) (fun h292 => ?_)
            · refine hg_iconst (n := 300) (v := 0) dX6_ticks_299 rfl (by decide) ?_
              exact s300 _ (by rw [if_pos h277, if_pos h283, if_pos h292]) (by decide)
            · refine hg_iconst (n := 296) (v := 1) dX6_ticks_295 rfl (by decide) ?_
              refine hg_goto (tgt := 300) dX6_ticks_296 (by decide) ?_
              exact s300 _ (by rw [if_pos h277, if_pos h283, if_neg h292]) (by decide)
      · refine hg_iconst (n := 250) (v := 1) dX6_ticks_249 rfl (by decide) ?_
        refine hg_goto (tgt := 254) dX6_ticks_250 (by decide) ?_
        refine hg_topI (z := (if la_ X f (mi 48 0 (8 * f + al) - 100) ≤ 0 then 0 else 1)) (by rw [if_neg h246]) ?_
        refine hg_iadd (n := 255) dX6_ticks_254 rfl ?_
        refine hg_iastore (n := 256) (len := 3) (f) dX6_ticks_255 rfl (by decide) rfl (mo_a hM 25 (by decide)) rfl (by omega) (by decide) ?_
        refine hg_aload_n (n := 257) dX6_ticks_256 rfl rfl ?_
        refine hg_getR (n := 260) (r := some (62, 0)) dX6_ticks_257 rfl fl_X6_135 rfl rfl (mo_s hM) (mo_r hM 32 (by decide)) ?_
        refine hg_aload_n (n := 261) dX6_ticks_260 rfl rfl ?_
        refine hg_getR (n := 264) (r := some (56, 0)) dX6_ticks_261 rfl fl_X6_120 rfl rfl (mo_s hM) (mo_r hM 26 (by decide)) ?_
        refine hg_iload_n (n := 265) dX6_ticks_264 rfl rfl ?_
        refine hg_ialoadN (n := 266) (len := 3) (r) (f) dX6_ticks_265 rfl (by decide) rfl (mo_a hM 26 (by decide)) rfl (by omega) (by decide) hr1 ?_
        refine hg_aload_n (n := 267) dX6_ticks_266 rfl rfl ?_
        refine hg_getR (n := 270) (r := some (62, 0)) dX6_ticks_267 rfl fl_X6_135 rfl rfl (mo_s hM) (mo_r hM 32 (by decide)) ?_
        refine hg_aload_n (n := 271) dX6_ticks_270 rfl rfl ?_
        refine hg_getR (n := 274) (r := some (56, 0)) dX6_ticks_271 rfl fl_X6_120 rfl rfl (mo_s hM) (mo_r hM 26 (by decide)) ?_
        refine hg_iload_n (n := 275) dX6_ticks_274 rfl rfl ?_
        refine hg_ialoadN (n := 276) (len := 3) (r) (f) dX6_ticks_275 rfl (by decide) rfl (mo_a hM 26 (by decide)) rfl (by omega) (by decide) hr1 ?_
        refine hg_baload (n := 277) (len := 100) (r) dX6_ticks_276 rfl (by decide) rfl (mo_a hM 32 (by decide)) rfl (by omega) (by decide) ?_
        refine hg_if_ne (n := 280) (tgt := 295) dX6_ticks_277 rfl (by decide) (fun h277 => ?_) (fun h277 => ?_)
        · refine hg_iconst (n := 296) (v := 1) dX6_ticks_295 rfl (by decide) ?_
          refine hg_goto (tgt := 300) dX6_ticks_296 (by decide) ?_
          exact s300 _ (by rw [if_neg h277]) (by decide)
        · refine hg_iload (n := 282) dX6_ticks_280 rfl rfl ?_
          refine hg_iconst (n := 283) (v := 1) dX6_ticks_282 rfl (by decide) ?_
          refine hg_icmp_ne (n := 286) (tgt := 299) dX6_ticks_283 rfl (by decide) (fun h283 => ?_) (fun h283 => ?_)
          · refine hg_iconst (n := 300) (v := 0) dX6_ticks_299 rfl (by decide) ?_
            exact s300 _ (by rw [if_pos h277, if_neg h283]) (by decide)
          · refine hg_aload_n (n := 287) dX6_ticks_286 rfl rfl ?_
            refine hg_iload_n (n := 288) dX6_ticks_287 rfl rfl ?_
            refine hg_callVd (n := 291) (c_X6_loadOf hM (f) (by omega)) dX6_ticks_288 rfl mk_X6_162 yl_X6_loadOf yv_X6_loadOf rfl (mo_s hM) (by decide) (by decide) rfl rfl (Nat.le_of_ble_eq_true rfl) (fun h => by cases h) ?_
            refine hg_iconst (n := 292) (v := 1) dX6_ticks_291 rfl (by decide) ?_
            refine hg_icmp_le (n := 295) (tgt := 299) dX6_ticks_292 rfl (by decide) (fun h292 => ?_) (fun h292 => ?_)
            · refine hg_iconst (n := 300) (v := 0) dX6_ticks_299 rfl (by decide) ?_
              exact s300 _ (by rw [if_pos h277, if_pos h283, if_pos h292]) (by decide)
            · refine hg_iconst (n := 296) (v := 1) dX6_ticks_295 rfl (by decide) ?_
              refine hg_goto (tgt := 300) dX6_ticks_296 (by decide) ?_
              exact s300 _ (by rw [if_pos h277, if_pos h283, if_neg h292]) (by decide)
  have s183 : ∀ X T, X 56 0 f = nI r → pl_ X np → sh_ X np → Q none (tk_e (u_3 X 64 0 r (X 64 0 r + 1)) f r (mi 48 0 (8 * f + al)) (mi 49 0 (8 * f + al)) (mi 47 0 (8 * f + al)), T, mr, sh) → hg_G md_X6_ticks false sh Q 0 0 183 [some (hv_r (some (7, 0))), some (hv_i (nI f)), none, some (hv_i (mi 48 0 (8 * f + al))), some (hv_i (mi 49 0 (8 * f + al))), some (hv_i (mi 47 0 (8 * f + al))), none, none] [] (X, T, mr, sh) := by
    intro X T hr hpl hsh hq
    refine hg_aload_n (n := 184) dX6_ticks_183 rfl rfl ?_
    refine hg_getR (n := 187) (r := some (64, 0)) dX6_ticks_184 rfl fl_X6_141 rfl rfl (mo_s hM) (mo_r hM 34 (by decide)) ?_
    refine hg_aload_n (n := 188) dX6_ticks_187 rfl rfl ?_
    refine hg_getR (n := 191) (r := some (56, 0)) dX6_ticks_188 rfl fl_X6_120 rfl rfl (mo_s hM) (mo_r hM 26 (by decide)) ?_
    refine hg_iload_n (n := 192) dX6_ticks_191 rfl rfl ?_
    refine hg_ialoadN (n := 193) (len := 3) (r) (f) dX6_ticks_192 rfl (by decide) rfl (mo_a hM 26 (by decide)) rfl (by omega) (by decide) hr ?_
    refine hg_dup2 (n := 194) dX6_ticks_193 rfl rfl rfl ?_
    refine hg_iaload (n := 195) (len := 100) (r) dX6_ticks_194 rfl (by decide) rfl (mo_a hM 34 (by decide)) rfl (by omega) (by decide) ?_
    refine hg_iconst (n := 196) (v := 1) dX6_ticks_195 rfl (by decide) ?_
    refine hg_iadd (n := 197) dX6_ticks_196 rfl ?_
    refine hg_iastore (n := 198) (len := 100) (r) dX6_ticks_197 rfl (by decide) rfl (mo_a hM 34 (by decide)) rfl (by omega) (by decide) ?_
    refine hg_iload (n := 200) dX6_ticks_198 rfl rfl ?_
    refine hg_if_ne (n := 203) (tgt := 217) dX6_ticks_200 rfl (by decide) (fun h200 => ?_) (fun h200 => ?_)
    · refine hg_iconst (n := 218) (v := 0) dX6_ticks_217 rfl (by decide) ?_
      refine hg_topI (z := tk_o (u_3 X 64 0 r (X 64 0 r + 1)) f (mi 48 0 (8 * f + al)) (mi 47 0 (8 * f + al))) (by unfold tk_o; rw [if_neg h200]) ?_
      refine hg_istore (n := 220) dX6_ticks_218 rfl (by decide) rfl rfl ?_
      exact s220 _ T _ ((u_3_k (by decide)).trans hr) (fun j h1 h2 => by rw [u_3_k (by decide)] at h2 ⊢; exact hpl j h1 h2) (fun q h1 => by rw [u_3_k (by decide)]; exact hsh q h1) hq
    · refine hg_aload_n (n := 204) dX6_ticks_203 rfl rfl ?_
      refine hg_getR (n := 207) (r := some (44, 0)) dX6_ticks_204 rfl fl_X6_83 rfl rfl (mo_s hM) (mo_r hM 14 (by decide)) ?_
      refine hg_iload_n (n := 208) dX6_ticks_207 rfl rfl ?_
      refine hg_iaload (n := 209) (len := 3) (f) dX6_ticks_208 rfl (by decide) rfl (mo_a hM 14 (by decide)) rfl (by omega) (by decide) ?_
      refine hg_iload_n (n := 210) dX6_ticks_209 rfl rfl ?_
      refine hg_icmp_ne (n := 213) (tgt := 217) dX6_ticks_210 rfl (by decide) (fun h210 => ?_) (fun h210 => ?_)
      · refine hg_iconst (n := 218) (v := 0) dX6_ticks_217 rfl (by decide) ?_
        refine hg_topI (z := tk_o (u_3 X 64 0 r (X 64 0 r + 1)) f (mi 48 0 (8 * f + al)) (mi 47 0 (8 * f + al))) (by unfold tk_o; rw [if_pos h200, if_neg h210]) ?_
        refine hg_istore (n := 220) dX6_ticks_218 rfl (by decide) rfl rfl ?_
        exact s220 _ T _ ((u_3_k (by decide)).trans hr) (fun j h1 h2 => by rw [u_3_k (by decide)] at h2 ⊢; exact hpl j h1 h2) (fun q h1 => by rw [u_3_k (by decide)]; exact hsh q h1) hq
      · refine hg_iconst (n := 214) (v := 1) dX6_ticks_213 rfl (by decide) ?_
        refine hg_goto (tgt := 218) dX6_ticks_214 (by decide) ?_
        refine hg_topI (z := tk_o (u_3 X 64 0 r (X 64 0 r + 1)) f (mi 48 0 (8 * f + al)) (mi 47 0 (8 * f + al))) (by unfold tk_o; rw [if_pos h200, if_pos h210]) ?_
        refine hg_istore (n := 220) dX6_ticks_218 rfl (by decide) rfl rfl ?_
        exact s220 _ T _ ((u_3_k (by decide)).trans hr) (fun j h1 h2 => by rw [u_3_k (by decide)] at h2 ⊢; exact hpl j h1 h2) (fun q h1 => by rw [u_3_k (by decide)]; exact hsh q h1) hq
  have l132 : ∀ m c, c + m = 4 → hg_G md_X6_ticks false sh Q 0 0 132 [some (hv_r (some (7, 0))), some (hv_i (nI f)), none, some (hv_i (mi 48 0 (8 * f + al))), some (hv_i (mi 49 0 (8 * f + al))), some (hv_i (mi 47 0 (8 * f + al))), some (hv_i (nI (4 * f + c))), none] [] ((tk_p (tk_g mi f (8 * f + al)) ml f c).1, (tk_p (tk_g mi f (8 * f + al)) ml f c).2, mr, sh) := by
    intro m
    induction m with
    | zero =>
      intro c hc
      refine hg_iload (n := 134) dX6_ticks_132 rfl rfl ?_
      refine hg_iconst (n := 135) (v := 4) dX6_ticks_134 rfl (by decide) ?_
      refine hg_iload_n (n := 136) dX6_ticks_135 rfl rfl ?_
      refine hg_imulN (n := 137) (4) (f) dX6_ticks_136 rfl ?_
      refine hg_iconst (n := 138) (v := 4) dX6_ticks_137 rfl (by decide) ?_
      refine hg_iaddN (n := 139) (4 * f) (4) dX6_ticks_138 rfl ?_
      refine hg_icmp_geN (n := 142) (tgt := 183) (4 * f + c) ((4 * f) + 4) dX6_ticks_139 rfl (by decide) (by omega) (by omega) (fun h139 => ?_) (fun h139 => ?_)
      · have e := show c = 4 by omega
        subst e
        refine hg_ls (s183 _ _ (((tk_p_k (by decide) 4).trans (tk_g_k (by decide))).trans hor) (fun j h1 h2 => ?_) (fun q h1 => ?_) hQ) ⟨rfl, rfl, rfl, rfl, rfl, trivial⟩
        · rw [(tk_p_k (by decide) 4).trans (tk_g_k (by decide))] at h2 ⊢; exact hpl j h1 h2
        · rw [(tk_p_k (by decide) 4).trans (tk_g_k (by decide))]; exact hsh q h1
      · exact absurd h139 (by omega)
    | succ m ih =>
      intro c hc
      refine hg_iload (n := 134) dX6_ticks_132 rfl rfl ?_
      refine hg_iconst (n := 135) (v := 4) dX6_ticks_134 rfl (by decide) ?_
      refine hg_iload_n (n := 136) dX6_ticks_135 rfl rfl ?_
      refine hg_imulN (n := 137) (4) (f) dX6_ticks_136 rfl ?_
      refine hg_iconst (n := 138) (v := 4) dX6_ticks_137 rfl (by decide) ?_
      refine hg_iaddN (n := 139) (4 * f) (4) dX6_ticks_138 rfl ?_
      refine hg_icmp_geN (n := 142) (tgt := 183) (4 * f + c) ((4 * f) + 4) dX6_ticks_139 rfl (by decide) (by omega) (by omega) (fun h139 => ?_) (fun h139 => ?_)
      · exact absurd h139 (by omega)
      · refine hg_aload_n (n := 143) dX6_ticks_142 rfl rfl ?_
        refine hg_getR (n := 146) (r := some (50, 0)) dX6_ticks_143 rfl fl_X6_101 rfl rfl (mo_s hM) (mo_r hM 20 (by decide)) ?_
        refine hg_iload (n := 148) dX6_ticks_146 rfl rfl ?_
        refine hg_iaload (n := 149) (len := 12) (4 * f + c) dX6_ticks_148 rfl (by decide) rfl (mo_a hM 20 (by decide)) rfl (by omega) (by decide) ?_
        refine hg_iconst (n := 150) (v := -1) dX6_ticks_149 rfl (by decide) ?_
        refine hg_icmp_eq (n := 153) (tgt := 177) dX6_ticks_150 rfl (by decide) (fun h150 => ?_) (fun h150 => ?_)
        · refine hg_iincN (n := 180) (4 * f + c) 1 dX6_ticks_177 rfl rfl (by decide) (by decide) rfl rfl ?_
          refine hg_goto (tgt := 132) dX6_ticks_180 (by decide) ?_
          refine hg_memo ?_ (ih (c + 1) (by omega))
          rw [tk_p, if_pos h150]
        · have e50 : (tk_p (tk_g mi f (8 * f + al)) ml f c).1 50 0 (4 * f + c) = mi 50 0 (4 * f + c) := (tk_p_k (by decide) c).trans (tk_g_k (by decide))
          obtain ⟨p, hp, hpj⟩ := hpl (4 * f + c) (by omega) (by rw [← e50]; exact h150)
          obtain ⟨n, hn1, hn6, hnp⟩ := hsh p hp
          have hpj2 := e50.trans hpj
          have hnp2 : (tk_p (tk_g mi f (8 * f + al)) ml f c).1 31 0 p = nI n := ((tk_p_k (by decide) c).trans (tk_g_k (by decide))).trans hnp
          refine hg_aload_n (n := 154) dX6_ticks_153 rfl rfl ?_
          refine hg_aload_n (n := 155) dX6_ticks_154 rfl rfl ?_
          refine hg_getR (n := 158) (r := some (50, 0)) dX6_ticks_155 rfl fl_X6_101 rfl rfl (mo_s hM) (mo_r hM 20 (by decide)) ?_
          refine hg_iload (n := 160) dX6_ticks_158 rfl rfl ?_
          refine hg_ialoadN (n := 161) (len := 12) (p) (4 * f + c) dX6_ticks_160 rfl (by decide) rfl (mo_a hM 20 (by decide)) rfl (by omega) (by decide) hpj2 ?_
          refine hg_aload_n (n := 162) dX6_ticks_161 rfl rfl ?_
          refine hg_getR (n := 165) (r := some (44, 0)) dX6_ticks_162 rfl fl_X6_83 rfl rfl (mo_s hM) (mo_r hM 14 (by decide)) ?_
          refine hg_iload_n (n := 166) dX6_ticks_165 rfl rfl ?_
          refine hg_iaload (n := 167) (len := 3) (f) dX6_ticks_166 rfl (by decide) rfl (mo_a hM 14 (by decide)) rfl (by omega) (by decide) ?_
          refine hg_aload_n (n := 168) dX6_ticks_167 rfl rfl ?_
          refine hg_getR (n := 171) (r := some (45, 0)) dX6_ticks_168 rfl fl_X6_86 rfl rfl (mo_s hM) (mo_r hM 15 (by decide)) ?_
          refine hg_iload_n (n := 172) dX6_ticks_171 rfl rfl ?_
          refine hg_iaload (n := 173) (len := 3) (f) dX6_ticks_172 rfl (by decide) rfl (mo_a hM 15 (by decide)) rfl (by omega) (by decide) ?_
          refine hg_iadd (n := 174) dX6_ticks_173 rfl ?_
          refine hg_callVd (n := 177) (c_X6_steps hM (p) n _ (by omega) hnp2 (by omega) (by omega)) dX6_ticks_174 rfl mk_X6_64 yl_X6_steps yv_X6_steps rfl (mo_s hM) (by decide) (by decide) rfl rfl (Nat.le_of_ble_eq_true rfl) (fun h => by cases h) ?_
          refine hg_iincN (n := 180) (4 * f + c) 1 dX6_ticks_177 rfl rfl (by decide) (by decide) rfl rfl ?_
          refine hg_goto (tgt := 132) dX6_ticks_180 (by decide) ?_
          refine hg_memo ?_ (ih (c + 1) (by omega))
          rw [tk_p, if_neg h150, hpj2, nI_clamp (by omega), hnp2, nI_clamp (by omega)]
  have s127 : ∀ X, X = tk_g mi f (8 * f + al) → hg_G md_X6_ticks false sh Q 0 0 127 [some (hv_r (some (7, 0))), some (hv_i (nI f)), none, some (hv_i (mi 48 0 (8 * f + al))), some (hv_i (mi 49 0 (8 * f + al))), some (hv_i (mi 47 0 (8 * f + al))), none, none] [] (X, ml, mr, sh) := by
    intro X hX
    refine hg_iconst (n := 128) (v := 4) dX6_ticks_127 rfl (by decide) ?_
    refine hg_iload_n (n := 129) dX6_ticks_128 rfl rfl ?_
    refine hg_imulN (n := 130) (4) (f) dX6_ticks_129 rfl ?_
    refine hg_istore (n := 132) dX6_ticks_130 rfl (by decide) rfl rfl ?_
    subst hX
    exact l132 4 0 (by omega)
  have s110 : mi 47 0 (8 * f + al) = 0 → ∀ x, x = (if mi 48 0 (8 * f + al) ≤ mi 44 0 f then (if mi 44 0 f - mi 49 0 (8 * f + al) ≤ mi 48 0 (8 * f + al) then mi 48 0 (8 * f + al) else mi 44 0 f - mi 49 0 (8 * f + al)) else (if mi 48 0 (8 * f + al) ≤ mi 44 0 f + mi 49 0 (8 * f + al) then mi 48 0 (8 * f + al) else mi 44 0 f + mi 49 0 (8 * f + al))) → hg_G md_X6_ticks false sh Q 0 0 110 [some (hv_r (some (7, 0))), some (hv_i (nI f)), none, some (hv_i (mi 48 0 (8 * f + al))), some (hv_i (mi 49 0 (8 * f + al))), some (hv_i (mi 47 0 (8 * f + al))), none, none] [hv_i x, hv_i (nI f), hv_r (some (44, 0))] (mi, ml, mr, sh) := by
    intro h0 x hx
    refine hg_iastore (n := 111) (len := 3) (f) dX6_ticks_110 rfl (by decide) rfl (mo_a hM 14 (by decide)) rfl (by omega) (by decide) ?_
    refine hg_goto (tgt := 127) dX6_ticks_111 (by decide) ?_
    exact s127 _ (by unfold tk_g; rw [if_pos h0, hx])
  refine hg_bipush (n := 2) (v := 8) dX6_ticks_0 rfl (by decide) ?_
  refine hg_iload_n (n := 3) dX6_ticks_2 rfl rfl ?_
  refine hg_imulN (n := 4) (8) (f) dX6_ticks_3 rfl ?_
  refine hg_aload_n (n := 5) dX6_ticks_4 rfl rfl ?_
  refine hg_getR (n := 8) (r := some (54, 0)) dX6_ticks_5 rfl fl_X6_114 rfl rfl (mo_s hM) (mo_r hM 24 (by decide)) ?_
  refine hg_iload_n (n := 9) dX6_ticks_8 rfl rfl ?_
  refine hg_ialoadN (n := 10) (len := 3) (al) (f) dX6_ticks_9 rfl (by decide) rfl (mo_a hM 24 (by decide)) rfl (by omega) (by decide) hal ?_
  refine hg_iaddN (n := 11) (8 * f) (al) dX6_ticks_10 rfl ?_
  refine hg_istore_n (n := 12) dX6_ticks_11 rfl (by decide) rfl rfl ?_
  refine hg_aload_n (n := 13) dX6_ticks_12 rfl rfl ?_
  refine hg_getR (n := 16) (r := some (48, 0)) dX6_ticks_13 rfl fl_X6_95 rfl rfl (mo_s hM) (mo_r hM 18 (by decide)) ?_
  refine hg_iload_n (n := 17) dX6_ticks_16 rfl rfl ?_
  refine hg_iaload (n := 18) (len := 24) ((8 * f) + al) dX6_ticks_17 rfl (by decide) rfl (mo_a hM 18 (by decide)) rfl (by omega) (by decide) ?_
  refine hg_istore_n (n := 19) dX6_ticks_18 rfl (by decide) rfl rfl ?_
  refine hg_aload_n (n := 20) dX6_ticks_19 rfl rfl ?_
  refine hg_getR (n := 23) (r := some (49, 0)) dX6_ticks_20 rfl fl_X6_98 rfl rfl (mo_s hM) (mo_r hM 19 (by decide)) ?_
  refine hg_iload_n (n := 24) dX6_ticks_23 rfl rfl ?_
  refine hg_iaload (n := 25) (len := 24) ((8 * f) + al) dX6_ticks_24 rfl (by decide) rfl (mo_a hM 19 (by decide)) rfl (by omega) (by decide) ?_
  refine hg_istore (n := 27) dX6_ticks_25 rfl (by decide) rfl rfl ?_
  refine hg_aload_n (n := 28) dX6_ticks_27 rfl rfl ?_
  refine hg_getR (n := 31) (r := some (47, 0)) dX6_ticks_28 rfl fl_X6_92 rfl rfl (mo_s hM) (mo_r hM 17 (by decide)) ?_
  refine hg_iload_n (n := 32) dX6_ticks_31 rfl rfl ?_
  refine hg_iaload (n := 33) (len := 24) ((8 * f) + al) dX6_ticks_32 rfl (by decide) rfl (mo_a hM 17 (by decide)) rfl (by omega) (by decide) ?_
  refine hg_istore (n := 35) dX6_ticks_33 rfl (by decide) rfl rfl ?_
  refine hg_iload (n := 37) dX6_ticks_35 rfl rfl ?_
  refine hg_if_ne (n := 40) (tgt := 114) dX6_ticks_37 rfl (by decide) (fun h37 => ?_) (fun h37 => ?_)
  · refine hg_iload (n := 116) dX6_ticks_114 rfl rfl ?_
    refine hg_iconst (n := 117) (v := 3) dX6_ticks_116 rfl (by decide) ?_
    refine hg_icmp_ge (n := 120) (tgt := 127) dX6_ticks_117 rfl (by decide) (fun h117 => ?_) (fun h117 => ?_)
    · exact hg_ls (s127 _ (by unfold tk_g; rw [if_neg h37, if_pos h117])) ⟨rfl, rfl, rfl, rfl, rfl, trivial⟩
    · refine hg_aload_n (n := 121) dX6_ticks_120 rfl rfl ?_
      refine hg_getR (n := 124) (r := some (44, 0)) dX6_ticks_121 rfl fl_X6_83 rfl rfl (mo_s hM) (mo_r hM 14 (by decide)) ?_
      refine hg_iload_n (n := 125) dX6_ticks_124 rfl rfl ?_
      refine hg_iload_n (n := 126) dX6_ticks_125 rfl rfl ?_
      refine hg_iastore (n := 127) (len := 3) (f) dX6_ticks_126 rfl (by decide) rfl (mo_a hM 14 (by decide)) rfl (by omega) (by decide) ?_
      exact hg_ls (s127 _ (by unfold tk_g; rw [if_neg h37, if_neg h117])) ⟨rfl, rfl, rfl, rfl, rfl, trivial⟩
  · refine hg_aload_n (n := 41) dX6_ticks_40 rfl rfl ?_
    refine hg_getR (n := 44) (r := some (44, 0)) dX6_ticks_41 rfl fl_X6_83 rfl rfl (mo_s hM) (mo_r hM 14 (by decide)) ?_
    refine hg_iload_n (n := 45) dX6_ticks_44 rfl rfl ?_
    refine hg_aload_n (n := 46) dX6_ticks_45 rfl rfl ?_
    refine hg_getR (n := 49) (r := some (44, 0)) dX6_ticks_46 rfl fl_X6_83 rfl rfl (mo_s hM) (mo_r hM 14 (by decide)) ?_
    refine hg_iload_n (n := 50) dX6_ticks_49 rfl rfl ?_
    refine hg_iaload (n := 51) (len := 3) (f) dX6_ticks_50 rfl (by decide) rfl (mo_a hM 14 (by decide)) rfl (by omega) (by decide) ?_
    refine hg_iload_n (n := 52) dX6_ticks_51 rfl rfl ?_
    refine hg_icmp_ge (n := 55) (tgt := 84) dX6_ticks_52 rfl (by decide) (fun h52 => ?_) (fun h52 => ?_)
    · refine hg_aload_n (n := 85) dX6_ticks_84 rfl rfl ?_
      refine hg_getR (n := 88) (r := some (44, 0)) dX6_ticks_85 rfl fl_X6_83 rfl rfl (mo_s hM) (mo_r hM 14 (by decide)) ?_
      refine hg_iload_n (n := 89) dX6_ticks_88 rfl rfl ?_
      refine hg_iaload (n := 90) (len := 3) (f) dX6_ticks_89 rfl (by decide) rfl (mo_a hM 14 (by decide)) rfl (by omega) (by decide) ?_
      refine hg_iload (n := 92) dX6_ticks_90 rfl rfl ?_
      refine hg_isub (n := 93) dX6_ticks_92 rfl ?_
      refine hg_iload_n (n := 94) dX6_ticks_93 rfl rfl ?_
      refine hg_icmp_le (n := 97) (tgt := 109) dX6_ticks_94 rfl (by decide) (fun h94 => ?_) (fun h94 => ?_)
      · refine hg_iload_n (n := 110) dX6_ticks_109 rfl rfl ?_
        exact hg_ls (s110 h37 _ (by rw [if_pos h52, if_pos h94])) ⟨rfl, rfl, rfl, rfl, rfl, trivial⟩
      · refine hg_aload_n (n := 98) dX6_ticks_97 rfl rfl ?_
        refine hg_getR (n := 101) (r := some (44, 0)) dX6_ticks_98 rfl fl_X6_83 rfl rfl (mo_s hM) (mo_r hM 14 (by decide)) ?_
        refine hg_iload_n (n := 102) dX6_ticks_101 rfl rfl ?_
        refine hg_iaload (n := 103) (len := 3) (f) dX6_ticks_102 rfl (by decide) rfl (mo_a hM 14 (by decide)) rfl (by omega) (by decide) ?_
        refine hg_iload (n := 105) dX6_ticks_103 rfl rfl ?_
        refine hg_isub (n := 106) dX6_ticks_105 rfl ?_
        refine hg_goto (tgt := 110) dX6_ticks_106 (by decide) ?_
        exact hg_ls (s110 h37 _ (by rw [if_pos h52, if_neg h94])) ⟨rfl, rfl, rfl, rfl, rfl, trivial⟩
    · refine hg_aload_n (n := 56) dX6_ticks_55 rfl rfl ?_
      refine hg_getR (n := 59) (r := some (44, 0)) dX6_ticks_56 rfl fl_X6_83 rfl rfl (mo_s hM) (mo_r hM 14 (by decide)) ?_
      refine hg_iload_n (n := 60) dX6_ticks_59 rfl rfl ?_
      refine hg_iaload (n := 61) (len := 3) (f) dX6_ticks_60 rfl (by decide) rfl (mo_a hM 14 (by decide)) rfl (by omega) (by decide) ?_
      refine hg_iload (n := 63) dX6_ticks_61 rfl rfl ?_
      refine hg_iadd (n := 64) dX6_ticks_63 rfl ?_
      refine hg_iload_n (n := 65) dX6_ticks_64 rfl rfl ?_
      refine hg_icmp_ge (n := 68) (tgt := 80) dX6_ticks_65 rfl (by decide) (fun h65 => ?_) (fun h65 => ?_)
      · refine hg_iload_n (n := 81) dX6_ticks_80 rfl rfl ?_
        refine hg_goto (tgt := 110) dX6_ticks_81 (by decide) ?_
        exact hg_ls (s110 h37 _ (by rw [if_neg h52, if_pos h65])) ⟨rfl, rfl, rfl, rfl, rfl, trivial⟩
      · refine hg_aload_n (n := 69) dX6_ticks_68 rfl rfl ?_
        refine hg_getR (n := 72) (r := some (44, 0)) dX6_ticks_69 rfl fl_X6_83 rfl rfl (mo_s hM) (mo_r hM 14 (by decide)) ?_
        refine hg_iload_n (n := 73) dX6_ticks_72 rfl rfl ?_
        refine hg_iaload (n := 74) (len := 3) (f) dX6_ticks_73 rfl (by decide) rfl (mo_a hM 14 (by decide)) rfl (by omega) (by decide) ?_
        refine hg_iload (n := 76) dX6_ticks_74 rfl rfl ?_
        refine hg_iadd (n := 77) dX6_ticks_76 rfl ?_
        refine hg_goto (tgt := 110) dX6_ticks_77 (by decide) ?_
        exact hg_ls (s110 h37 _ (by rw [if_neg h52, if_neg h65])) ⟨rfl, rfl, rfl, rfl, rfl, trivial⟩
end
section
def tf_ (X : MI_) (T : ML_) : Nat → MI_ × ML_
  | 0 => (X, T)
  | f + 1 => if (tf_ X T f).1 53 0 f = 0 then tf_ X T f else (tk_m (tf_ X T f).1 (tf_ X T f).2 f ((tf_ X T f).1 54 0 f).toNatClampNeg ((tf_ X T f).1 56 0 f).toNatClampNeg, tk_l (tf_ X T f).1 (tf_ X T f).2 f ((tf_ X T f).1 54 0 f).toNatClampNeg)
def tz_ (X : MI_) (T : ML_) : Nat → MI_ × ML_
  | 0 => (X, T)
  | k + 1 => tf_ (tz_ X T k).1 (tz_ X T k).2 3
/-- what a tick needs of the furnaces that run -/
def tJ_1 (J : MI_ → ML_ → Prop) (np : Nat) : Prop := ∀ X T, J X T → pl_ X np ∧ sh_ X np ∧ ∀ f, f < 3 → ¬ X 53 0 f = 0 → ∃ al r, al < 8 ∧ X 54 0 f = nI al ∧ r < 100 ∧ X 56 0 f = nI r
def tJ_2 (J : MI_ → ML_ → Prop) : Prop := ∀ X T f al r, J X T → f < 3 → ¬ X 53 0 f = 0 → X 54 0 f = nI al → X 56 0 f = nI r → al < 8 → r < 100 → J (tk_m X T f al r) (tk_l X T f al)
theorem tf_J {J : MI_ → ML_ → Prop} {np : Nat} (h1 : tJ_1 J np) (h2 : tJ_2 J) {X : MI_} {T : ML_} (h : J X T) : ∀ f, f ≤ 3 → J (tf_ X T f).1 (tf_ X T f).2
  | 0, _ => h
  | f + 1, hf => by
    have ih := tf_J h1 h2 h f (by omega)
    rw [tf_]
    split
    · exact ih
    · rename_i hr
      obtain ⟨al, r, a1, a2, a3, a4⟩ := (h1 _ _ ih).2.2 f (by omega) hr
      rw [a2, a4, nI_clamp (by omega), nI_clamp (by omega)]
      exact h2 _ _ f al r ih (by omega) hr a2 a4 a1 a3
theorem tz_J {J : MI_ → ML_ → Prop} {np : Nat} (h1 : tJ_1 J np) (h2 : tJ_2 J) {X : MI_} {T : ML_} (h : J X T) : ∀ k, J (tz_ X T k).1 (tz_ X T k).2
  | 0 => h
  | k + 1 => tf_J h1 h2 (tz_J h1 h2 h k) 3 (by omega)
set_option maxHeartbeats 4000000 in
set_option maxRecDepth 100000 in
theorem c_X6_tick_b {mi : MI_} {ml : ML_} {mr : MR_} {sh : SH_} (hM : mo_ mr sh) (z : Int32) (hb : z_in z 1 200 = 0) : hg_Det false yX6_tick md_X6_tick [hv_r (some (7, 0)), hv_i z] (mi, ml, mr, sh) (some (hv_i (-2))) (mi, ml, mr, sh) := by
  intro Q hQ
  refine hg_intro rfl rfl rfl (Nat.le_of_ble_eq_true rfl) rfl ?_
  refine hg_iload_n (n := 1) dX6_tick_0 rfl rfl ?_
  refine hg_iconst (n := 2) (v := 1) dX6_tick_1 rfl (by decide) ?_
  refine hg_sipush (n := 5) (v := 200) dX6_tick_2 rfl (by decide) ?_
  refine hg_callSd (n := 8) (c_X6_in _ _ _ _) dX6_tick_5 rfl mk_X6_1 yl_X6_in ys_X6_in (by decide) (by decide) rfl rfl (Nat.le_of_ble_eq_true rfl) (fun h => by cases h) ?_
  refine hg_if_ne (n := 11) (tgt := 14) dX6_tick_8 rfl (by decide) (fun h8 => ?_) (fun h8 => ?_)
  · exact absurd hb h8
  · refine hg_bipush (n := 13) (v := -2) dX6_tick_11 rfl (by decide) ?_
    refine hg_ireturn dX6_tick_13 rfl ?_
    exact hQ

set_option maxHeartbeats 4000000 in
set_option maxRecDepth 100000 in
theorem c_X6_tick {mi : MI_} {ml : ML_} {mr : MR_} {sh : SH_} (hM : mo_ mr sh) (np : Nat) (hn12 : np ≤ 12) {J : MI_ → ML_ → Prop} (h0 : J mi ml) (h1 : tJ_1 J np) (h2 : tJ_2 J) (z : Nat) (hz9 : z ≤ 200) (hz : ¬ z_in (nI z) 1 200 = 0) : hg_Det false yX6_tick md_X6_tick [hv_r (some (7, 0)), hv_i (nI z)] (mi, ml, mr, sh) (some (hv_i (rg_ (tz_ mi ml z).1 3))) ((tz_ mi ml z).1, (tz_ mi ml z).2, mr, sh) := by
  intro Q hQ
  refine hg_intro rfl rfl rfl (Nat.le_of_ble_eq_true rfl) rfl ?_
  have l1 : ∀ j k, k + j = z → hg_G md_X6_tick false sh Q 0 0 16 [some (hv_r (some (7, 0))), some (hv_i (nI z)), some (hv_i (nI k)), none] [] ((tz_ mi ml k).1, (tz_ mi ml k).2, mr, sh) := by
    intro j
    induction j with
    | zero =>
      intro k hk
      refine hg_iload_n (n := 17) dX6_tick_16 rfl rfl ?_
      refine hg_iload_n (n := 18) dX6_tick_17 rfl rfl ?_
      refine hg_icmp_geN (n := 21) (tgt := 54) (k) (z) dX6_tick_18 rfl (by decide) (by omega) (by omega) (fun h18 => ?_) (fun h18 => ?_)
      · have e := show k = z by omega
        subst e
        refine hg_aload_n (n := 55) dX6_tick_54 rfl rfl ?_
        refine hg_callVd (n := 58) (c_X6_running hM) dX6_tick_55 rfl mk_X6_176 yl_X6_running yv_X6_running rfl (mo_s hM) (by decide) (by decide) rfl rfl (Nat.le_of_ble_eq_true rfl) (fun h => by cases h) ?_
        refine hg_ireturn dX6_tick_58 rfl ?_
        exact hQ
      · exact absurd h18 (by omega)
    | succ j ih0 =>
      intro k hk
      have l2 : ∀ m f, f + m = 3 → hg_G md_X6_tick false sh Q 0 0 23 [some (hv_r (some (7, 0))), some (hv_i (nI z)), some (hv_i (nI k)), some (hv_i (nI f))] [] ((tf_ (tz_ mi ml k).1 (tz_ mi ml k).2 f).1, (tf_ (tz_ mi ml k).1 (tz_ mi ml k).2 f).2, mr, sh) := by
        intro m
        induction m with
        | zero =>
          intro f hf
          refine hg_iload_n (n := 24) dX6_tick_23 rfl rfl ?_
          refine hg_iconst (n := 25) (v := 3) dX6_tick_24 rfl (by decide) ?_
          refine hg_icmp_geN (n := 28) (tgt := 48) (f) (3) dX6_tick_25 rfl (by decide) (by omega) (by omega) (fun h25 => ?_) (fun h25 => ?_)
          · have e := show f = 3 by omega
            subst e
            refine hg_iincN (n := 51) (k) 1 dX6_tick_48 rfl rfl (by decide) (by decide) rfl rfl ?_
            refine hg_goto (tgt := 16) dX6_tick_51 (by decide) ?_
            exact hg_ls (ih0 (k + 1) (by omega)) ⟨rfl, rfl, rfl, trivial⟩
          · exact absurd h25 (by omega)
        | succ m ih =>
          intro f hf
          refine hg_iload_n (n := 24) dX6_tick_23 rfl rfl ?_
          refine hg_iconst (n := 25) (v := 3) dX6_tick_24 rfl (by decide) ?_
          refine hg_icmp_geN (n := 28) (tgt := 48) (f) (3) dX6_tick_25 rfl (by decide) (by omega) (by omega) (fun h25 => ?_) (fun h25 => ?_)
          · exact absurd h25 (by omega)
          · refine hg_aload_n (n := 29) dX6_tick_28 rfl rfl ?_
            refine hg_getR (n := 32) (r := some (53, 0)) dX6_tick_29 rfl fl_X6_111 rfl rfl (mo_s hM) (mo_r hM 23 (by decide)) ?_
            refine hg_iload_n (n := 33) dX6_tick_32 rfl rfl ?_
            refine hg_baload (n := 34) (len := 3) (f) dX6_tick_33 rfl (by decide) rfl (mo_a hM 23 (by decide)) rfl (by omega) (by decide) ?_
            refine hg_if_eq (n := 37) (tgt := 42) dX6_tick_34 rfl (by decide) (fun h34 => ?_) (fun h34 => ?_)
            · refine hg_iincN (n := 45) (f) 1 dX6_tick_42 rfl rfl (by decide) (by decide) rfl rfl ?_
              refine hg_goto (tgt := 23) dX6_tick_45 (by decide) ?_
              refine hg_memo ?_ (ih (f + 1) (by omega))
              rw [tf_, if_pos h34]
            · obtain ⟨hpl, hsh, hrr⟩ := h1 _ _ (tf_J h1 h2 (tz_J h1 h2 h0 k) f (by omega))
              obtain ⟨al, r, a1, a2, a3, a4⟩ := hrr f (by omega) h34
              refine hg_aload_n (n := 38) dX6_tick_37 rfl rfl ?_
              refine hg_iload_n (n := 39) dX6_tick_38 rfl rfl ?_
              refine hg_callVd (n := 42) (c_X6_ticks hM np hn12 hpl hsh (f) (by omega) al r a2 a1 a4 a3) dX6_tick_39 rfl mk_X6_172 yl_X6_ticks yv_X6_ticks rfl (mo_s hM) (by decide) (by decide) rfl rfl (Nat.le_of_ble_eq_true rfl) (fun h => by cases h) ?_
              refine hg_iincN (n := 45) (f) 1 dX6_tick_42 rfl rfl (by decide) (by decide) rfl rfl ?_
              refine hg_goto (tgt := 23) dX6_tick_45 (by decide) ?_
              refine hg_memo ?_ (ih (f + 1) (by omega))
              rw [tf_, if_neg h34, a2, a4, nI_clamp (by omega), nI_clamp (by omega)]
      refine hg_iload_n (n := 17) dX6_tick_16 rfl rfl ?_
      refine hg_iload_n (n := 18) dX6_tick_17 rfl rfl ?_
      refine hg_icmp_geN (n := 21) (tgt := 54) (k) (z) dX6_tick_18 rfl (by decide) (by omega) (by omega) (fun h18 => ?_) (fun h18 => ?_)
      · exact absurd h18 (by omega)
      · refine hg_iconst (n := 22) (v := 0) dX6_tick_21 rfl (by decide) ?_
        refine hg_istore_n (n := 23) dX6_tick_22 rfl (by decide) rfl rfl ?_
        exact l2 3 0 (by omega)
  refine hg_iload_n (n := 1) dX6_tick_0 rfl rfl ?_
  refine hg_iconst (n := 2) (v := 1) dX6_tick_1 rfl (by decide) ?_
  refine hg_sipush (n := 5) (v := 200) dX6_tick_2 rfl (by decide) ?_
  refine hg_callSd (n := 8) (c_X6_in _ _ _ _) dX6_tick_5 rfl mk_X6_1 yl_X6_in ys_X6_in (by decide) (by decide) rfl rfl (Nat.le_of_ble_eq_true rfl) (fun h => by cases h) ?_
  refine hg_if_ne (n := 11) (tgt := 14) dX6_tick_8 rfl (by decide) (fun h8 => ?_) (fun h8 => ?_)
  · refine hg_iconst (n := 15) (v := 0) dX6_tick_14 rfl (by decide) ?_
    refine hg_istore_n (n := 16) dX6_tick_15 rfl (by decide) rfl rfl ?_
    exact l1 z 0 (by omega)
  · exact absurd h8 hz

set_option maxHeartbeats 4000000 in
set_option maxRecDepth 100000 in
theorem c_X6_survey_b {mi : MI_} {ml : ML_} {mr : MR_} {sh : SH_} (hM : mo_ mr sh) (f e : Int32) (hb : z_in f 0 2 = 0 ∨ z_in e (-500) 500 = 0) : hg_Det false yX6_survey md_X6_survey [hv_r (some (7, 0)), hv_i f, hv_i e] (mi, ml, mr, sh) (some (hv_i (-2))) (mi, ml, mr, sh) := by
  intro Q hQ
  refine hg_intro rfl rfl rfl (Nat.le_of_ble_eq_true rfl) rfl ?_
  refine hg_iload_n (n := 1) dX6_survey_0 rfl rfl ?_
  refine hg_callSd (n := 4) (c_X6_isFurnace _ _) dX6_survey_1 rfl mk_X6_153 yl_X6_isFurnace ys_X6_isFurnace (by decide) (by decide) rfl rfl (Nat.le_of_ble_eq_true rfl) (fun h => by cases h) ?_
  refine hg_if_eq (n := 7) (tgt := 20) dX6_survey_4 rfl (by decide) (fun h4 => ?_) (fun h4 => ?_)
  · refine hg_bipush (n := 22) (v := -2) dX6_survey_20 rfl (by decide) ?_
    refine hg_ireturn dX6_survey_22 rfl ?_
    exact hQ
  · refine hg_iload_n (n := 8) dX6_survey_7 rfl rfl ?_
    refine hg_sipush (n := 11) (v := -500) dX6_survey_8 rfl (by decide) ?_
    refine hg_sipush (n := 14) (v := 500) dX6_survey_11 rfl (by decide) ?_
    refine hg_callSd (n := 17) (c_X6_in _ _ _ _) dX6_survey_14 rfl mk_X6_1 yl_X6_in ys_X6_in (by decide) (by decide) rfl rfl (Nat.le_of_ble_eq_true rfl) (fun h => by cases h) ?_
    refine hg_if_ne (n := 20) (tgt := 23) dX6_survey_17 rfl (by decide) (fun h17 => ?_) (fun h17 => ?_)
    · exact absurd hb (by simp [h4, h17])
    · refine hg_bipush (n := 22) (v := -2) dX6_survey_20 rfl (by decide) ?_
      refine hg_ireturn dX6_survey_22 rfl ?_
      exact hQ

set_option maxHeartbeats 4000000 in
set_option maxRecDepth 100000 in
theorem c_X6_survey_n {mi : MI_} {ml : ML_} {mr : MR_} {sh : SH_} (hM : mo_ mr sh) (f : Nat) (hf : f < 3) (e : Int32) (he : ¬ z_in e (-500) 500 = 0) (hr : ¬ mi 53 0 f = 0) : hg_Det false yX6_survey md_X6_survey [hv_r (some (7, 0)), hv_i (nI f), hv_i e] (mi, ml, mr, sh) (some (hv_i (-3))) (mi, ml, mr, sh) := by
  intro Q hQ
  refine hg_intro rfl rfl rfl (Nat.le_of_ble_eq_true rfl) rfl ?_
  refine hg_iload_n (n := 1) dX6_survey_0 rfl rfl ?_
  refine hg_callSd (n := 4) (c_X6_isFurnace _ _) dX6_survey_1 rfl mk_X6_153 yl_X6_isFurnace ys_X6_isFurnace (by decide) (by decide) rfl rfl (Nat.le_of_ble_eq_true rfl) (fun h => by cases h) ?_
  refine hg_if_eq (n := 7) (tgt := 20) dX6_survey_4 rfl (by decide) (fun h4 => ?_) (fun h4 => ?_)
  · exact absurd h4 (z_nat3 (a := 0) (b := 2) (by omega) (by omega) (by omega))
  · refine hg_iload_n (n := 8) dX6_survey_7 rfl rfl ?_
    refine hg_sipush (n := 11) (v := -500) dX6_survey_8 rfl (by decide) ?_
    refine hg_sipush (n := 14) (v := 500) dX6_survey_11 rfl (by decide) ?_
    refine hg_callSd (n := 17) (c_X6_in _ _ _ _) dX6_survey_14 rfl mk_X6_1 yl_X6_in ys_X6_in (by decide) (by decide) rfl rfl (Nat.le_of_ble_eq_true rfl) (fun h => by cases h) ?_
    refine hg_if_ne (n := 20) (tgt := 23) dX6_survey_17 rfl (by decide) (fun h17 => ?_) (fun h17 => ?_)
    · refine hg_aload_n (n := 24) dX6_survey_23 rfl rfl ?_
      refine hg_getR (n := 27) (r := some (53, 0)) dX6_survey_24 rfl fl_X6_111 rfl rfl (mo_s hM) (mo_r hM 23 (by decide)) ?_
      refine hg_iload_n (n := 28) dX6_survey_27 rfl rfl ?_
      refine hg_baload (n := 29) (len := 3) (f) dX6_survey_28 rfl (by decide) rfl (mo_a hM 23 (by decide)) rfl (by omega) (by decide) ?_
      refine hg_if_eq (n := 32) (tgt := 35) dX6_survey_29 rfl (by decide) (fun h29 => ?_) (fun h29 => ?_)
      · exact absurd h29 hr
      · refine hg_bipush (n := 34) (v := -3) dX6_survey_32 rfl (by decide) ?_
        refine hg_ireturn dX6_survey_34 rfl ?_
        exact hQ
    · exact absurd h17 he

def su_ (X : MI_) (f s : Nat) : Nat → Int32 × MI_
  | 0 => (0, X)
  | c + 1 => if (su_ X f s c).2 59 0 (s + c) = nI f then ((su_ X f s c).1 + 1, u_3 (su_ X f s c).2 63 0 (s + c) 1) else su_ X f s c
theorem su_k {X : MI_} {f s k i j : Nat} (h : k ≠ 63) : ∀ c, (su_ X f s c).2 k i j = X k i j
  | 0 => rfl
  | c + 1 => by
    rw [su_]
    split
    · exact (u_3_k h).trans (su_k h c)
    · exact su_k h c
def sy_m (X : MI_) (f : Nat) (e : Int32) : MI_ := u_3 (u_3 X 45 0 f e) 57 0 f (u_3 X 45 0 f e 7 0 28)
set_option maxHeartbeats 4000000 in
set_option maxRecDepth 100000 in
theorem c_X6_survey_e {mi : MI_} {ml : ML_} {mr : MR_} {sh : SH_} (hM : mo_ mr sh) (f : Nat) (hf : f < 3) (e : Int32) (he : ¬ z_in e (-500) 500 = 0) (nr s : Nat) (hnr : mi 7 0 28 = nI nr) (hnr9 : nr ≤ 100) (hs : mi 57 0 f = nI s) (hsr : s ≤ nr) (hr : mi 53 0 f = 0) (hee : mi 45 0 f = e) : hg_Det false yX6_survey md_X6_survey [hv_r (some (7, 0)), hv_i (nI f), hv_i e] (mi, ml, mr, sh) (some (hv_i 0)) (sy_m mi f e, ml, mr, sh) := by
  intro Q hQ
  refine hg_intro rfl rfl rfl (Nat.le_of_ble_eq_true rfl) rfl ?_
  refine hg_iload_n (n := 1) dX6_survey_0 rfl rfl ?_
  refine hg_callSd (n := 4) (c_X6_isFurnace _ _) dX6_survey_1 rfl mk_X6_153 yl_X6_isFurnace ys_X6_isFurnace (by decide) (by decide) rfl rfl (Nat.le_of_ble_eq_true rfl) (fun h => by cases h) ?_
  refine hg_if_eq (n := 7) (tgt := 20) dX6_survey_4 rfl (by decide) (fun h4 => ?_) (fun h4 => ?_)
  · exact absurd h4 (z_nat3 (a := 0) (b := 2) (by omega) (by omega) (by omega))
  · refine hg_iload_n (n := 8) dX6_survey_7 rfl rfl ?_
    refine hg_sipush (n := 11) (v := -500) dX6_survey_8 rfl (by decide) ?_
    refine hg_sipush (n := 14) (v := 500) dX6_survey_11 rfl (by decide) ?_
    refine hg_callSd (n := 17) (c_X6_in _ _ _ _) dX6_survey_14 rfl mk_X6_1 yl_X6_in ys_X6_in (by decide) (by decide) rfl rfl (Nat.le_of_ble_eq_true rfl) (fun h => by cases h) ?_
    refine hg_if_ne (n := 20) (tgt := 23) dX6_survey_17 rfl (by decide) (fun h17 => ?_) (fun h17 => ?_)
    · refine hg_aload_n (n := 24) dX6_survey_23 rfl rfl ?_
      refine hg_getR (n := 27) (r := some (53, 0)) dX6_survey_24 rfl fl_X6_111 rfl rfl (mo_s hM) (mo_r hM 23 (by decide)) ?_
      refine hg_iload_n (n := 28) dX6_survey_27 rfl rfl ?_
      refine hg_baload (n := 29) (len := 3) (f) dX6_survey_28 rfl (by decide) rfl (mo_a hM 23 (by decide)) rfl (by omega) (by decide) ?_
      refine hg_if_eq (n := 32) (tgt := 35) dX6_survey_29 rfl (by decide) (fun h29 => ?_) (fun h29 => ?_)
      · refine hg_iconst (n := 36) (v := 0) dX6_survey_35 rfl (by decide) ?_
        refine hg_istore_n (n := 37) dX6_survey_36 rfl (by decide) rfl rfl ?_
        refine hg_aload_n (n := 38) dX6_survey_37 rfl rfl ?_
        refine hg_getR (n := 41) (r := some (57, 0)) dX6_survey_38 rfl fl_X6_123 rfl rfl (mo_s hM) (mo_r hM 27 (by decide)) ?_
        refine hg_iload_n (n := 42) dX6_survey_41 rfl rfl ?_
        refine hg_ialoadN (n := 43) (len := 3) (s) (f) dX6_survey_42 rfl (by decide) rfl (mo_a hM 27 (by decide)) rfl (by omega) (by decide) hs ?_
        refine hg_istore (n := 45) dX6_survey_43 rfl (by decide) rfl rfl ?_
        refine hg_iload (n := 47) dX6_survey_45 rfl rfl ?_
        refine hg_aload_n (n := 48) dX6_survey_47 rfl rfl ?_
        refine hg_getN (n := 51) (nr) dX6_survey_48 rfl fl_X6_165 rfl rfl (mo_s hM) hnr ?_
        refine hg_icmp_geN (n := 54) (tgt := 92) (s) (nr) dX6_survey_51 rfl (by decide) (by omega) (by omega) (fun h51 => ?_) (fun h51 => ?_)
        · refine hg_aload_n (n := 93) dX6_survey_92 rfl rfl ?_
          refine hg_getR (n := 96) (r := some (45, 0)) dX6_survey_93 rfl fl_X6_86 rfl rfl (mo_s hM) (mo_r hM 15 (by decide)) ?_
          refine hg_iload_n (n := 97) dX6_survey_96 rfl rfl ?_
          refine hg_iload_n (n := 98) dX6_survey_97 rfl rfl ?_
          refine hg_iastore (n := 99) (len := 3) (f) dX6_survey_98 rfl (by decide) rfl (mo_a hM 15 (by decide)) rfl (by omega) (by decide) ?_
          refine hg_aload_n (n := 100) dX6_survey_99 rfl rfl ?_
          refine hg_getR (n := 103) (r := some (57, 0)) dX6_survey_100 rfl fl_X6_123 rfl rfl (mo_s hM) (mo_r hM 27 (by decide)) ?_
          refine hg_iload_n (n := 104) dX6_survey_103 rfl rfl ?_
          refine hg_aload_n (n := 105) dX6_survey_104 rfl rfl ?_
          refine hg_getI (n := 108) dX6_survey_105 rfl fl_X6_165 rfl rfl (mo_s hM) ?_
          refine hg_iastore (n := 109) (len := 3) (f) dX6_survey_108 rfl (by decide) rfl (mo_a hM 27 (by decide)) rfl (by omega) (by decide) ?_
          refine hg_iload_n (n := 110) dX6_survey_109 rfl rfl ?_
          refine hg_ireturn dX6_survey_110 rfl ?_
          exact hQ
        · refine hg_aload_n (n := 55) dX6_survey_54 rfl rfl ?_
          refine hg_getR (n := 58) (r := some (45, 0)) dX6_survey_55 rfl fl_X6_86 rfl rfl (mo_s hM) (mo_r hM 15 (by decide)) ?_
          refine hg_iload_n (n := 59) dX6_survey_58 rfl rfl ?_
          refine hg_iaload (n := 60) (len := 3) (f) dX6_survey_59 rfl (by decide) rfl (mo_a hM 15 (by decide)) rfl (by omega) (by decide) ?_
          refine hg_iload_n (n := 61) dX6_survey_60 rfl rfl ?_
          refine hg_icmp_eq (n := 64) (tgt := 92) dX6_survey_61 rfl (by decide) (fun h61 => ?_) (fun h61 => ?_)
          · refine hg_aload_n (n := 93) dX6_survey_92 rfl rfl ?_
            refine hg_getR (n := 96) (r := some (45, 0)) dX6_survey_93 rfl fl_X6_86 rfl rfl (mo_s hM) (mo_r hM 15 (by decide)) ?_
            refine hg_iload_n (n := 97) dX6_survey_96 rfl rfl ?_
            refine hg_iload_n (n := 98) dX6_survey_97 rfl rfl ?_
            refine hg_iastore (n := 99) (len := 3) (f) dX6_survey_98 rfl (by decide) rfl (mo_a hM 15 (by decide)) rfl (by omega) (by decide) ?_
            refine hg_aload_n (n := 100) dX6_survey_99 rfl rfl ?_
            refine hg_getR (n := 103) (r := some (57, 0)) dX6_survey_100 rfl fl_X6_123 rfl rfl (mo_s hM) (mo_r hM 27 (by decide)) ?_
            refine hg_iload_n (n := 104) dX6_survey_103 rfl rfl ?_
            refine hg_aload_n (n := 105) dX6_survey_104 rfl rfl ?_
            refine hg_getI (n := 108) dX6_survey_105 rfl fl_X6_165 rfl rfl (mo_s hM) ?_
            refine hg_iastore (n := 109) (len := 3) (f) dX6_survey_108 rfl (by decide) rfl (mo_a hM 27 (by decide)) rfl (by omega) (by decide) ?_
            refine hg_iload_n (n := 110) dX6_survey_109 rfl rfl ?_
            refine hg_ireturn dX6_survey_110 rfl ?_
            exact hQ
          · exact absurd hee h61
      · exact absurd hr h29
    · exact absurd h17 he

set_option maxHeartbeats 4000000 in
set_option maxRecDepth 100000 in
theorem c_X6_survey {mi : MI_} {ml : ML_} {mr : MR_} {sh : SH_} (hM : mo_ mr sh) (f : Nat) (hf : f < 3) (e : Int32) (he : ¬ z_in e (-500) 500 = 0) (nr s : Nat) (hnr : mi 7 0 28 = nI nr) (hnr9 : nr ≤ 100) (hs : mi 57 0 f = nI s) (hsr : s ≤ nr) (hr : mi 53 0 f = 0) (hee : ¬ mi 45 0 f = e) : hg_Det false yX6_survey md_X6_survey [hv_r (some (7, 0)), hv_i (nI f), hv_i e] (mi, ml, mr, sh) (some (hv_i (su_ mi f s (nr - s)).1)) (sy_m (su_ mi f s (nr - s)).2 f e, ml, mr, sh) := by
  intro Q hQ
  refine hg_intro rfl rfl rfl (Nat.le_of_ble_eq_true rfl) rfl ?_
  have loop : ∀ m c, s + c + m = nr → hg_G md_X6_survey false sh Q 0 0 45 [some (hv_r (some (7, 0))), some (hv_i (nI f)), some (hv_i e), some (hv_i (su_ mi f s c).1), some (hv_i (nI (s + c)))] [] ((su_ mi f s c).2, ml, mr, sh) := by
    intro m
    induction m with
    | zero =>
      intro c hc
      refine hg_iload (n := 47) dX6_survey_45 rfl rfl ?_
      refine hg_aload_n (n := 48) dX6_survey_47 rfl rfl ?_
      refine hg_getN (n := 51) (nr) dX6_survey_48 rfl fl_X6_165 rfl rfl (mo_s hM) ((su_k (by decide) c).trans hnr) ?_
      refine hg_icmp_geN (n := 54) (tgt := 92) (s + c) (nr) dX6_survey_51 rfl (by decide) (by omega) (by omega) (fun h51 => ?_) (fun h51 => ?_)
      · have e1 := show c = nr - s by omega
        subst e1
        refine hg_aload_n (n := 93) dX6_survey_92 rfl rfl ?_
        refine hg_getR (n := 96) (r := some (45, 0)) dX6_survey_93 rfl fl_X6_86 rfl rfl (mo_s hM) (mo_r hM 15 (by decide)) ?_
        refine hg_iload_n (n := 97) dX6_survey_96 rfl rfl ?_
        refine hg_iload_n (n := 98) dX6_survey_97 rfl rfl ?_
        refine hg_iastore (n := 99) (len := 3) (f) dX6_survey_98 rfl (by decide) rfl (mo_a hM 15 (by decide)) rfl (by omega) (by decide) ?_
        refine hg_aload_n (n := 100) dX6_survey_99 rfl rfl ?_
        refine hg_getR (n := 103) (r := some (57, 0)) dX6_survey_100 rfl fl_X6_123 rfl rfl (mo_s hM) (mo_r hM 27 (by decide)) ?_
        refine hg_iload_n (n := 104) dX6_survey_103 rfl rfl ?_
        refine hg_aload_n (n := 105) dX6_survey_104 rfl rfl ?_
        refine hg_getI (n := 108) dX6_survey_105 rfl fl_X6_165 rfl rfl (mo_s hM) ?_
        refine hg_iastore (n := 109) (len := 3) (f) dX6_survey_108 rfl (by decide) rfl (mo_a hM 27 (by decide)) rfl (by omega) (by decide) ?_
        refine hg_iload_n (n := 110) dX6_survey_109 rfl rfl ?_
        refine hg_ireturn dX6_survey_110 rfl ?_
        exact hQ
      · exact absurd h51 (by omega)
    | succ m ih =>
      intro c hc
      have s86 : ∀ x X, x = (su_ mi f s (c + 1)).1 → X = (su_ mi f s (c + 1)).2 → hg_G md_X6_survey false sh Q 0 0 86 [some (hv_r (some (7, 0))), some (hv_i (nI f)), some (hv_i e), some (hv_i x), some (hv_i (nI (s + c)))] [] (X, ml, mr, sh) := by
        intro x X hx hX
        subst hx hX
        refine hg_iincN (n := 89) (s + c) 1 dX6_survey_86 rfl rfl (by decide) (by decide) rfl rfl ?_
        refine hg_goto (tgt := 45) dX6_survey_89 (by decide) ?_
        exact ih (c + 1) (by omega)
      refine hg_iload (n := 47) dX6_survey_45 rfl rfl ?_
      refine hg_aload_n (n := 48) dX6_survey_47 rfl rfl ?_
      refine hg_getN (n := 51) (nr) dX6_survey_48 rfl fl_X6_165 rfl rfl (mo_s hM) ((su_k (by decide) c).trans hnr) ?_
      refine hg_icmp_geN (n := 54) (tgt := 92) (s + c) (nr) dX6_survey_51 rfl (by decide) (by omega) (by omega) (fun h51 => ?_) (fun h51 => ?_)
      · exact absurd h51 (by omega)
      · refine hg_aload_n (n := 55) dX6_survey_54 rfl rfl ?_
        refine hg_getR (n := 58) (r := some (45, 0)) dX6_survey_55 rfl fl_X6_86 rfl rfl (mo_s hM) (mo_r hM 15 (by decide)) ?_
        refine hg_iload_n (n := 59) dX6_survey_58 rfl rfl ?_
        refine hg_iaload (n := 60) (len := 3) (f) dX6_survey_59 rfl (by decide) rfl (mo_a hM 15 (by decide)) rfl (by omega) (by decide) ?_
        refine hg_iload_n (n := 61) dX6_survey_60 rfl rfl ?_
        refine hg_icmp_eq (n := 64) (tgt := 92) dX6_survey_61 rfl (by decide) (fun h61 => ?_) (fun h61 => ?_)
        · exact absurd (((su_k (by decide) c).symm).trans h61) hee
        · refine hg_aload_n (n := 65) dX6_survey_64 rfl rfl ?_
          refine hg_getR (n := 68) (r := some (59, 0)) dX6_survey_65 rfl fl_X6_126 rfl rfl (mo_s hM) (mo_r hM 29 (by decide)) ?_
          refine hg_iload (n := 70) dX6_survey_68 rfl rfl ?_
          refine hg_iaload (n := 71) (len := 100) (s + c) dX6_survey_70 rfl (by decide) rfl (mo_a hM 29 (by decide)) rfl (by omega) (by decide) ?_
          refine hg_iload_n (n := 72) dX6_survey_71 rfl rfl ?_
          refine hg_icmp_ne (n := 75) (tgt := 86) dX6_survey_72 rfl (by decide) (fun h72 => ?_) (fun h72 => ?_)
          · exact s86 _ _ (by rw [su_, if_neg h72]) (by rw [su_, if_neg h72])
          · refine hg_aload_n (n := 76) dX6_survey_75 rfl rfl ?_
            refine hg_getR (n := 79) (r := some (63, 0)) dX6_survey_76 rfl fl_X6_138 rfl rfl (mo_s hM) (mo_r hM 33 (by decide)) ?_
            refine hg_iload (n := 81) dX6_survey_79 rfl rfl ?_
            refine hg_iconst (n := 82) (v := 1) dX6_survey_81 rfl (by decide) ?_
            refine hg_bastore (n := 83) (len := 100) (s + c) dX6_survey_82 rfl (by decide) rfl (by decide) (mo_a hM 33 (by decide)) rfl (by omega) (by decide) ?_
            refine hg_iincI (n := 86) (1) dX6_survey_83 rfl rfl (by decide) (by decide) rfl rfl ?_
            exact s86 _ _ (by rw [su_, if_pos h72]) (by rw [su_, if_pos h72])
  refine hg_iload_n (n := 1) dX6_survey_0 rfl rfl ?_
  refine hg_callSd (n := 4) (c_X6_isFurnace _ _) dX6_survey_1 rfl mk_X6_153 yl_X6_isFurnace ys_X6_isFurnace (by decide) (by decide) rfl rfl (Nat.le_of_ble_eq_true rfl) (fun h => by cases h) ?_
  refine hg_if_eq (n := 7) (tgt := 20) dX6_survey_4 rfl (by decide) (fun h4 => ?_) (fun h4 => ?_)
  · exact absurd h4 (z_nat3 (a := 0) (b := 2) (by omega) (by omega) (by omega))
  · refine hg_iload_n (n := 8) dX6_survey_7 rfl rfl ?_
    refine hg_sipush (n := 11) (v := -500) dX6_survey_8 rfl (by decide) ?_
    refine hg_sipush (n := 14) (v := 500) dX6_survey_11 rfl (by decide) ?_
    refine hg_callSd (n := 17) (c_X6_in _ _ _ _) dX6_survey_14 rfl mk_X6_1 yl_X6_in ys_X6_in (by decide) (by decide) rfl rfl (Nat.le_of_ble_eq_true rfl) (fun h => by cases h) ?_
    refine hg_if_ne (n := 20) (tgt := 23) dX6_survey_17 rfl (by decide) (fun h17 => ?_) (fun h17 => ?_)
    · refine hg_aload_n (n := 24) dX6_survey_23 rfl rfl ?_
      refine hg_getR (n := 27) (r := some (53, 0)) dX6_survey_24 rfl fl_X6_111 rfl rfl (mo_s hM) (mo_r hM 23 (by decide)) ?_
      refine hg_iload_n (n := 28) dX6_survey_27 rfl rfl ?_
      refine hg_baload (n := 29) (len := 3) (f) dX6_survey_28 rfl (by decide) rfl (mo_a hM 23 (by decide)) rfl (by omega) (by decide) ?_
      refine hg_if_eq (n := 32) (tgt := 35) dX6_survey_29 rfl (by decide) (fun h29 => ?_) (fun h29 => ?_)
      · refine hg_iconst (n := 36) (v := 0) dX6_survey_35 rfl (by decide) ?_
        refine hg_istore_n (n := 37) dX6_survey_36 rfl (by decide) rfl rfl ?_
        refine hg_aload_n (n := 38) dX6_survey_37 rfl rfl ?_
        refine hg_getR (n := 41) (r := some (57, 0)) dX6_survey_38 rfl fl_X6_123 rfl rfl (mo_s hM) (mo_r hM 27 (by decide)) ?_
        refine hg_iload_n (n := 42) dX6_survey_41 rfl rfl ?_
        refine hg_ialoadN (n := 43) (len := 3) (s) (f) dX6_survey_42 rfl (by decide) rfl (mo_a hM 27 (by decide)) rfl (by omega) (by decide) hs ?_
        refine hg_istore (n := 45) dX6_survey_43 rfl (by decide) rfl rfl ?_
        exact loop (nr - s) 0 (by omega)
      · exact absurd hr h29
    · exact absurd h17 he

set_option maxHeartbeats 4000000 in
set_option maxRecDepth 100000 in
theorem c_X6_about_b {mi : MI_} {ml : ML_} {mr : MR_} {sh : SH_} (hM : mo_ mr sh) (f w : Int32) (hb : z_in f 0 2 = 0) : hg_Det false yX6_about md_X6_about [hv_r (some (7, 0)), hv_i f, hv_i w] (mi, ml, mr, sh) (some (hv_i (-2))) (mi, ml, mr, sh) := by
  intro Q hQ
  refine hg_intro rfl rfl rfl (Nat.le_of_ble_eq_true rfl) rfl ?_
  refine hg_iload_n (n := 1) dX6_about_0 rfl rfl ?_
  refine hg_callSd (n := 4) (c_X6_isFurnace _ _) dX6_about_1 rfl mk_X6_153 yl_X6_isFurnace ys_X6_isFurnace (by decide) (by decide) rfl rfl (Nat.le_of_ble_eq_true rfl) (fun h => by cases h) ?_
  refine hg_if_ne (n := 7) (tgt := 10) dX6_about_4 rfl (by decide) (fun h4 => ?_) (fun h4 => ?_)
  · exact absurd hb h4
  · refine hg_bipush (n := 9) (v := -2) dX6_about_7 rfl (by decide) ?_
    refine hg_ireturn dX6_about_9 rfl ?_
    exact hQ

theorem z_06 {w : Int32} {b : Nat} (hb : b < 2 ^ 31) (h : z_in w 0 (nI b) = 0) : w.toInt < 0 ∨ (b : Int) < w.toInt := by
  unfold z_in at h
  split at h
  · exact absurd h (by decide)
  · rename_i q
    rw [Int32.le_iff_toInt_le, Int32.le_iff_toInt_le, nI_toInt hb] at q
    have : (0 : Int32).toInt = 0 := by decide
    omega
set_option maxHeartbeats 4000000 in
set_option maxRecDepth 100000 in
theorem c_X6_about_c {mi : MI_} {ml : ML_} {mr : MR_} {sh : SH_} (hM : mo_ mr sh) (f : Nat) (hf : f < 3) (w : Int32) (hb : z_in w 0 6 = 0) : hg_Det false yX6_about md_X6_about [hv_r (some (7, 0)), hv_i (nI f), hv_i w] (mi, ml, mr, sh) (some (hv_i (-2))) (mi, ml, mr, sh) := by
  intro Q hQ
  refine hg_intro rfl rfl rfl (Nat.le_of_ble_eq_true rfl) rfl ?_
  refine hg_iload_n (n := 1) dX6_about_0 rfl rfl ?_
  refine hg_callSd (n := 4) (c_X6_isFurnace _ _) dX6_about_1 rfl mk_X6_153 yl_X6_isFurnace ys_X6_isFurnace (by decide) (by decide) rfl rfl (Nat.le_of_ble_eq_true rfl) (fun h => by cases h) ?_
  refine hg_if_ne (n := 7) (tgt := 10) dX6_about_4 rfl (by decide) (fun h4 => ?_) (fun h4 => ?_)
  · refine hg_iload_n (n := 11) dX6_about_10 rfl rfl ?_
    refine hg_tableOut (tgt := 134) dX6_about_11 (z_06 (b := 6) (by decide) hb) (by decide) ?_
    refine hg_bipush (n := 136) (v := -2) dX6_about_134 rfl (by decide) ?_
    refine hg_ireturn dX6_about_136 rfl ?_
    exact hQ
  · exact absurd h4 (z_nat3 (a := 0) (b := 2) (by omega) (by omega) (by omega))

def ab_ (X : MI_) (f w : Nat) : Int32 := if w = 0 then X 44 0 f else if w = 1 then X 45 0 f else if w = 2 then (if X 53 0 f = 0 then 0 else 1) else if w = 3 then (if X 53 0 f = 0 then -1 else X 54 0 f) else if w = 4 then (if X 53 0 f = 0 then 0 else X 55 0 f) else if w = 5 then ma_ X f 4 else X 46 0 f
set_option maxHeartbeats 4000000 in
set_option maxRecDepth 100000 in
theorem c_X6_about {mi : MI_} {ml : ML_} {mr : MR_} {sh : SH_} (hM : mo_ mr sh) (np : Nat) (hn12 : np ≤ 12) (hpl : pl_ mi np) (f : Nat) (hf : f < 3) (w : Nat) (hw : w ≤ 6) : hg_Det false yX6_about md_X6_about [hv_r (some (7, 0)), hv_i (nI f), hv_i (nI w)] (mi, ml, mr, sh) (some (hv_i (ab_ mi f w))) (mi, ml, mr, sh) := by
  intro Q hQ
  refine hg_intro rfl rfl rfl (Nat.le_of_ble_eq_true rfl) rfl ?_
  have s11 : hg_G md_X6_about false sh Q 0 0 11 [some (hv_r (some (7, 0))), some (hv_i (nI f)), some (hv_i (nI w))] [hv_i (nI w)] (mi, ml, mr, sh) := by
    rcases (show w = 0 ∨ w = 1 ∨ w = 2 ∨ w = 3 ∨ w = 4 ∨ w = 5 ∨ w = 6 by omega) with rfl | rfl | rfl | rfl | rfl | rfl | rfl
    · refine hg_tableIn (tgt := 52) (off := 41) dX6_about_11 (by decide) (by decide) (by decide) (by decide) ?_
      refine hg_aload_n (n := 53) dX6_about_52 rfl rfl ?_
      refine hg_getR (n := 56) (r := some (44, 0)) dX6_about_53 rfl fl_X6_83 rfl rfl (mo_s hM) (mo_r hM 14 (by decide)) ?_
      refine hg_iload_n (n := 57) dX6_about_56 rfl rfl ?_
      refine hg_iaload (n := 58) (len := 3) (f) dX6_about_57 rfl (by decide) rfl (mo_a hM 14 (by decide)) rfl (by omega) (by decide) ?_
      refine hg_ireturn dX6_about_58 rfl ?_
      exact hQ
    · refine hg_tableIn (tgt := 59) (off := 48) dX6_about_11 (by decide) (by decide) (by decide) (by decide) ?_
      refine hg_aload_n (n := 60) dX6_about_59 rfl rfl ?_
      refine hg_getR (n := 63) (r := some (45, 0)) dX6_about_60 rfl fl_X6_86 rfl rfl (mo_s hM) (mo_r hM 15 (by decide)) ?_
      refine hg_iload_n (n := 64) dX6_about_63 rfl rfl ?_
      refine hg_iaload (n := 65) (len := 3) (f) dX6_about_64 rfl (by decide) rfl (mo_a hM 15 (by decide)) rfl (by omega) (by decide) ?_
      refine hg_ireturn dX6_about_65 rfl ?_
      exact hQ
    · refine hg_tableIn (tgt := 66) (off := 55) dX6_about_11 (by decide) (by decide) (by decide) (by decide) ?_
      refine hg_aload_n (n := 67) dX6_about_66 rfl rfl ?_
      refine hg_getR (n := 70) (r := some (53, 0)) dX6_about_67 rfl fl_X6_111 rfl rfl (mo_s hM) (mo_r hM 23 (by decide)) ?_
      refine hg_iload_n (n := 71) dX6_about_70 rfl rfl ?_
      refine hg_baload (n := 72) (len := 3) (f) dX6_about_71 rfl (by decide) rfl (mo_a hM 23 (by decide)) rfl (by omega) (by decide) ?_
      refine hg_if_eq (n := 75) (tgt := 79) dX6_about_72 rfl (by decide) (fun h72 => ?_) (fun h72 => ?_)
      · refine hg_iconst (n := 80) (v := 0) dX6_about_79 rfl (by decide) ?_
        refine hg_ireturn dX6_about_80 rfl ?_
        rw [show ab_ mi f 2 = (if mi 53 0 f = 0 then 0 else 1) from rfl, if_pos h72] at hQ
        exact hQ
      · refine hg_iconst (n := 76) (v := 1) dX6_about_75 rfl (by decide) ?_
        refine hg_goto (tgt := 80) dX6_about_76 (by decide) ?_
        refine hg_ireturn dX6_about_80 rfl ?_
        rw [show ab_ mi f 2 = (if mi 53 0 f = 0 then 0 else 1) from rfl, if_neg h72] at hQ
        exact hQ
    · refine hg_tableIn (tgt := 81) (off := 70) dX6_about_11 (by decide) (by decide) (by decide) (by decide) ?_
      refine hg_aload_n (n := 82) dX6_about_81 rfl rfl ?_
      refine hg_getR (n := 85) (r := some (53, 0)) dX6_about_82 rfl fl_X6_111 rfl rfl (mo_s hM) (mo_r hM 23 (by decide)) ?_
      refine hg_iload_n (n := 86) dX6_about_85 rfl rfl ?_
      refine hg_baload (n := 87) (len := 3) (f) dX6_about_86 rfl (by decide) rfl (mo_a hM 23 (by decide)) rfl (by omega) (by decide) ?_
      refine hg_if_eq (n := 90) (tgt := 99) dX6_about_87 rfl (by decide) (fun h87 => ?_) (fun h87 => ?_)
      · refine hg_iconst (n := 100) (v := -1) dX6_about_99 rfl (by decide) ?_
        refine hg_ireturn dX6_about_100 rfl ?_
        rw [show ab_ mi f 3 = (if mi 53 0 f = 0 then -1 else mi 54 0 f) from rfl, if_pos h87] at hQ
        exact hQ
      · refine hg_aload_n (n := 91) dX6_about_90 rfl rfl ?_
        refine hg_getR (n := 94) (r := some (54, 0)) dX6_about_91 rfl fl_X6_114 rfl rfl (mo_s hM) (mo_r hM 24 (by decide)) ?_
        refine hg_iload_n (n := 95) dX6_about_94 rfl rfl ?_
        refine hg_iaload (n := 96) (len := 3) (f) dX6_about_95 rfl (by decide) rfl (mo_a hM 24 (by decide)) rfl (by omega) (by decide) ?_
        refine hg_goto (tgt := 100) dX6_about_96 (by decide) ?_
        refine hg_ireturn dX6_about_100 rfl ?_
        rw [show ab_ mi f 3 = (if mi 53 0 f = 0 then -1 else mi 54 0 f) from rfl, if_neg h87] at hQ
        exact hQ
    · refine hg_tableIn (tgt := 101) (off := 90) dX6_about_11 (by decide) (by decide) (by decide) (by decide) ?_
      refine hg_aload_n (n := 102) dX6_about_101 rfl rfl ?_
      refine hg_getR (n := 105) (r := some (53, 0)) dX6_about_102 rfl fl_X6_111 rfl rfl (mo_s hM) (mo_r hM 23 (by decide)) ?_
      refine hg_iload_n (n := 106) dX6_about_105 rfl rfl ?_
      refine hg_baload (n := 107) (len := 3) (f) dX6_about_106 rfl (by decide) rfl (mo_a hM 23 (by decide)) rfl (by omega) (by decide) ?_
      refine hg_if_eq (n := 110) (tgt := 119) dX6_about_107 rfl (by decide) (fun h107 => ?_) (fun h107 => ?_)
      · refine hg_iconst (n := 120) (v := 0) dX6_about_119 rfl (by decide) ?_
        refine hg_ireturn dX6_about_120 rfl ?_
        rw [show ab_ mi f 4 = (if mi 53 0 f = 0 then 0 else mi 55 0 f) from rfl, if_pos h107] at hQ
        exact hQ
      · refine hg_aload_n (n := 111) dX6_about_110 rfl rfl ?_
        refine hg_getR (n := 114) (r := some (55, 0)) dX6_about_111 rfl fl_X6_117 rfl rfl (mo_s hM) (mo_r hM 25 (by decide)) ?_
        refine hg_iload_n (n := 115) dX6_about_114 rfl rfl ?_
        refine hg_iaload (n := 116) (len := 3) (f) dX6_about_115 rfl (by decide) rfl (mo_a hM 25 (by decide)) rfl (by omega) (by decide) ?_
        refine hg_goto (tgt := 120) dX6_about_116 (by decide) ?_
        refine hg_ireturn dX6_about_120 rfl ?_
        rw [show ab_ mi f 4 = (if mi 53 0 f = 0 then 0 else mi 55 0 f) from rfl, if_neg h107] at hQ
        exact hQ
    · refine hg_tableIn (tgt := 121) (off := 110) dX6_about_11 (by decide) (by decide) (by decide) (by decide) ?_
      refine hg_aload_n (n := 122) dX6_about_121 rfl rfl ?_
      refine hg_iload_n (n := 123) dX6_about_122 rfl rfl ?_
      refine hg_callVd (n := 126) (c_X6_massOf hM np hn12 hpl (f) (by omega)) dX6_about_123 rfl mk_X6_159 yl_X6_massOf yv_X6_massOf rfl (mo_s hM) (by decide) (by decide) rfl rfl (Nat.le_of_ble_eq_true rfl) (fun h => by cases h) ?_
      refine hg_ireturn dX6_about_126 rfl ?_
      exact hQ
    · refine hg_tableIn (tgt := 127) (off := 116) dX6_about_11 (by decide) (by decide) (by decide) (by decide) ?_
      refine hg_aload_n (n := 128) dX6_about_127 rfl rfl ?_
      refine hg_getR (n := 131) (r := some (46, 0)) dX6_about_128 rfl fl_X6_89 rfl rfl (mo_s hM) (mo_r hM 16 (by decide)) ?_
      refine hg_iload_n (n := 132) dX6_about_131 rfl rfl ?_
      refine hg_iaload (n := 133) (len := 3) (f) dX6_about_132 rfl (by decide) rfl (mo_a hM 16 (by decide)) rfl (by omega) (by decide) ?_
      refine hg_ireturn dX6_about_133 rfl ?_
      exact hQ
  refine hg_iload_n (n := 1) dX6_about_0 rfl rfl ?_
  refine hg_callSd (n := 4) (c_X6_isFurnace _ _) dX6_about_1 rfl mk_X6_153 yl_X6_isFurnace ys_X6_isFurnace (by decide) (by decide) rfl rfl (Nat.le_of_ble_eq_true rfl) (fun h => by cases h) ?_
  refine hg_if_ne (n := 7) (tgt := 10) dX6_about_4 rfl (by decide) (fun h4 => ?_) (fun h4 => ?_)
  · refine hg_iload_n (n := 11) dX6_about_10 rfl rfl ?_
    exact s11
  · exact absurd h4 (z_nat3 (a := 0) (b := 2) (by omega) (by omega) (by omega))

def we_ (X : MI_) (r : Nat) : Int32 := if X 61 0 r = 0 then 0 else if X 62 0 r = 0 then 1 else 0
set_option maxHeartbeats 4000000 in
set_option maxRecDepth 100000 in
theorem c_X6_isWell {mi : MI_} {ml : ML_} {mr : MR_} {sh : SH_} (hM : mo_ mr sh) (r : Nat) (hr : r < 100) : hg_Det false yX6_isWell md_X6_isWell [hv_r (some (7, 0)), hv_i (nI r)] (mi, ml, mr, sh) (some (hv_i (we_ mi r))) (mi, ml, mr, sh) := by
  intro Q hQ
  refine hg_intro rfl rfl rfl (Nat.le_of_ble_eq_true rfl) rfl ?_
  refine hg_aload_n (n := 1) dX6_isWell_0 rfl rfl ?_
  refine hg_getR (n := 4) (r := some (61, 0)) dX6_isWell_1 rfl fl_X6_132 rfl rfl (mo_s hM) (mo_r hM 31 (by decide)) ?_
  refine hg_iload_n (n := 5) dX6_isWell_4 rfl rfl ?_
  refine hg_baload (n := 6) (len := 100) (r) dX6_isWell_5 rfl (by decide) rfl (mo_a hM 31 (by decide)) rfl (by omega) (by decide) ?_
  refine hg_if_eq (n := 9) (tgt := 22) dX6_isWell_6 rfl (by decide) (fun h6 => ?_) (fun h6 => ?_)
  · refine hg_iconst (n := 23) (v := 0) dX6_isWell_22 rfl (by decide) ?_
    refine hg_zreturn dX6_isWell_23 rfl (by decide) ?_
    unfold we_ at hQ
    rw [if_pos h6] at hQ
    exact hQ
  · refine hg_aload_n (n := 10) dX6_isWell_9 rfl rfl ?_
    refine hg_getR (n := 13) (r := some (62, 0)) dX6_isWell_10 rfl fl_X6_135 rfl rfl (mo_s hM) (mo_r hM 32 (by decide)) ?_
    refine hg_iload_n (n := 14) dX6_isWell_13 rfl rfl ?_
    refine hg_baload (n := 15) (len := 100) (r) dX6_isWell_14 rfl (by decide) rfl (mo_a hM 32 (by decide)) rfl (by omega) (by decide) ?_
    refine hg_if_ne (n := 18) (tgt := 22) dX6_isWell_15 rfl (by decide) (fun h15 => ?_) (fun h15 => ?_)
    · refine hg_iconst (n := 23) (v := 0) dX6_isWell_22 rfl (by decide) ?_
      refine hg_zreturn dX6_isWell_23 rfl (by decide) ?_
      unfold we_ at hQ
      rw [if_neg h6, if_neg h15] at hQ
      exact hQ
    · refine hg_iconst (n := 19) (v := 1) dX6_isWell_18 rfl (by decide) ?_
      refine hg_goto (tgt := 23) dX6_isWell_19 (by decide) ?_
      refine hg_zreturn dX6_isWell_23 rfl (by decide) ?_
      unfold we_ at hQ
      rw [if_neg h6, if_pos h15] at hQ
      exact hQ

set_option maxHeartbeats 4000000 in
set_option maxRecDepth 100000 in
theorem c_X6_runAt_b {mi : MI_} {ml : ML_} {mr : MR_} {sh : SH_} (hM : mo_ mr sh) (x w : Int32) (hb : x < 0 ∨ z_in w 0 4 = 0) : hg_Det false yX6_runAt md_X6_runAt [hv_r (some (7, 0)), hv_i x, hv_i w] (mi, ml, mr, sh) (some (hv_i (-2))) (mi, ml, mr, sh) := by
  intro Q hQ
  refine hg_intro rfl rfl rfl (Nat.le_of_ble_eq_true rfl) rfl ?_
  refine hg_iload_n (n := 1) dX6_runAt_0 rfl rfl ?_
  refine hg_if_lt (n := 4) (tgt := 13) dX6_runAt_1 rfl (by decide) (fun h1 => ?_) (fun h1 => ?_)
  · refine hg_bipush (n := 15) (v := -2) dX6_runAt_13 rfl (by decide) ?_
    refine hg_ireturn dX6_runAt_15 rfl ?_
    exact hQ
  · refine hg_iload_n (n := 5) dX6_runAt_4 rfl rfl ?_
    refine hg_iconst (n := 6) (v := 0) dX6_runAt_5 rfl (by decide) ?_
    refine hg_iconst (n := 7) (v := 4) dX6_runAt_6 rfl (by decide) ?_
    refine hg_callSd (n := 10) (c_X6_in _ _ _ _) dX6_runAt_7 rfl mk_X6_1 yl_X6_in ys_X6_in (by decide) (by decide) rfl rfl (Nat.le_of_ble_eq_true rfl) (fun h => by cases h) ?_
    refine hg_if_ne (n := 13) (tgt := 16) dX6_runAt_10 rfl (by decide) (fun h10 => ?_) (fun h10 => ?_)
    · exact absurd hb (by simp [h1, h10])
    · refine hg_bipush (n := 15) (v := -2) dX6_runAt_13 rfl (by decide) ?_
      refine hg_ireturn dX6_runAt_15 rfl ?_
      exact hQ

set_option maxHeartbeats 4000000 in
set_option maxRecDepth 100000 in
theorem c_X6_runAt_n {mi : MI_} {ml : ML_} {mr : MR_} {sh : SH_} (hM : mo_ mr sh) (x w : Int32) (hx : ¬ x < 0) (hw : ¬ z_in w 0 4 = 0) (hn : ¬ x < mi 7 0 28) : hg_Det false yX6_runAt md_X6_runAt [hv_r (some (7, 0)), hv_i x, hv_i w] (mi, ml, mr, sh) (some (hv_i (-1))) (mi, ml, mr, sh) := by
  intro Q hQ
  refine hg_intro rfl rfl rfl (Nat.le_of_ble_eq_true rfl) rfl ?_
  refine hg_iload_n (n := 1) dX6_runAt_0 rfl rfl ?_
  refine hg_if_lt (n := 4) (tgt := 13) dX6_runAt_1 rfl (by decide) (fun h1 => ?_) (fun h1 => ?_)
  · exact absurd h1 hx
  · refine hg_iload_n (n := 5) dX6_runAt_4 rfl rfl ?_
    refine hg_iconst (n := 6) (v := 0) dX6_runAt_5 rfl (by decide) ?_
    refine hg_iconst (n := 7) (v := 4) dX6_runAt_6 rfl (by decide) ?_
    refine hg_callSd (n := 10) (c_X6_in _ _ _ _) dX6_runAt_7 rfl mk_X6_1 yl_X6_in ys_X6_in (by decide) (by decide) rfl rfl (Nat.le_of_ble_eq_true rfl) (fun h => by cases h) ?_
    refine hg_if_ne (n := 13) (tgt := 16) dX6_runAt_10 rfl (by decide) (fun h10 => ?_) (fun h10 => ?_)
    · refine hg_iload_n (n := 17) dX6_runAt_16 rfl rfl ?_
      refine hg_aload_n (n := 18) dX6_runAt_17 rfl rfl ?_
      refine hg_getI (n := 21) dX6_runAt_18 rfl fl_X6_165 rfl rfl (mo_s hM) ?_
      refine hg_icmp_lt (n := 24) (tgt := 26) dX6_runAt_21 rfl (by decide) (fun h21 => ?_) (fun h21 => ?_)
      · exact absurd h21 hn
      · refine hg_iconst (n := 25) (v := -1) dX6_runAt_24 rfl (by decide) ?_
        refine hg_ireturn dX6_runAt_25 rfl ?_
        exact hQ
    · exact absurd h10 hw

def ra_ (X : MI_) (r w : Nat) : Int32 := if w = 0 then X 59 0 r else if w = 4 then X 64 0 r else if w = 1 then (if X 60 0 r = 0 then 0 else 1) else if w = 2 then (if we_ X r = 0 then 0 else 1) else (if X 63 0 r = 0 then 0 else 1)
set_option maxHeartbeats 4000000 in
set_option maxRecDepth 100000 in
theorem c_X6_runAt {mi : MI_} {ml : ML_} {mr : MR_} {sh : SH_} (hM : mo_ mr sh) (nr : Nat) (hnr : mi 7 0 28 = nI nr) (hnr9 : nr ≤ 100) (r w : Nat) (hr : r < nr) (hw : w ≤ 4) : hg_Det false yX6_runAt md_X6_runAt [hv_r (some (7, 0)), hv_i (nI r), hv_i (nI w)] (mi, ml, mr, sh) (some (hv_i (ra_ mi r w))) (mi, ml, mr, sh) := by
  intro Q hQ
  refine hg_intro rfl rfl rfl (Nat.le_of_ble_eq_true rfl) rfl ?_
  refine hg_iload_n (n := 1) dX6_runAt_0 rfl rfl ?_
  refine hg_if_lt (n := 4) (tgt := 13) dX6_runAt_1 rfl (by decide) (fun h1 => ?_) (fun h1 => ?_)
  · exact absurd h1 (nI_pos (by omega))
  · refine hg_iload_n (n := 5) dX6_runAt_4 rfl rfl ?_
    refine hg_iconst (n := 6) (v := 0) dX6_runAt_5 rfl (by decide) ?_
    refine hg_iconst (n := 7) (v := 4) dX6_runAt_6 rfl (by decide) ?_
    refine hg_callSd (n := 10) (c_X6_in _ _ _ _) dX6_runAt_7 rfl mk_X6_1 yl_X6_in ys_X6_in (by decide) (by decide) rfl rfl (Nat.le_of_ble_eq_true rfl) (fun h => by cases h) ?_
    refine hg_if_ne (n := 13) (tgt := 16) dX6_runAt_10 rfl (by decide) (fun h10 => ?_) (fun h10 => ?_)
    · refine hg_iload_n (n := 17) dX6_runAt_16 rfl rfl ?_
      refine hg_aload_n (n := 18) dX6_runAt_17 rfl rfl ?_
      refine hg_getN (n := 21) (nr) dX6_runAt_18 rfl fl_X6_165 rfl rfl (mo_s hM) hnr ?_
      refine hg_icmp_ltN (n := 24) (tgt := 26) (r) (nr) dX6_runAt_21 rfl (by decide) (by omega) (by omega) (fun h21 => ?_) (fun h21 => ?_)
      · refine hg_iload_n (n := 27) dX6_runAt_26 rfl rfl ?_
        refine hg_if_neN (n := 30) (tgt := 37) (w) dX6_runAt_27 rfl (by decide) (by omega) (fun h27 => ?_) (fun h27 => ?_)
        · refine hg_iload_n (n := 38) dX6_runAt_37 rfl rfl ?_
          refine hg_iconst (n := 39) (v := 4) dX6_runAt_38 rfl (by decide) ?_
          refine hg_icmp_neN (n := 42) (tgt := 49) (w) (4) dX6_runAt_39 rfl (by decide) (by omega) (by omega) (fun h39 => ?_) (fun h39 => ?_)
          · refine hg_iload_n (n := 50) dX6_runAt_49 rfl rfl ?_
            refine hg_iconst (n := 51) (v := 1) dX6_runAt_50 rfl (by decide) ?_
            refine hg_icmp_neN (n := 54) (tgt := 66) (w) (1) dX6_runAt_51 rfl (by decide) (by omega) (by omega) (fun h51 => ?_) (fun h51 => ?_)
            · refine hg_iload_n (n := 67) dX6_runAt_66 rfl rfl ?_
              refine hg_iconst (n := 68) (v := 2) dX6_runAt_67 rfl (by decide) ?_
              refine hg_icmp_neN (n := 71) (tgt := 82) (w) (2) dX6_runAt_68 rfl (by decide) (by omega) (by omega) (fun h68 => ?_) (fun h68 => ?_)
              · refine hg_aload_n (n := 83) dX6_runAt_82 rfl rfl ?_
                refine hg_getR (n := 86) (r := some (63, 0)) dX6_runAt_83 rfl fl_X6_138 rfl rfl (mo_s hM) (mo_r hM 33 (by decide)) ?_
                refine hg_iload_n (n := 87) dX6_runAt_86 rfl rfl ?_
                refine hg_baload (n := 88) (len := 100) (r) dX6_runAt_87 rfl (by decide) rfl (mo_a hM 33 (by decide)) rfl (by omega) (by decide) ?_
                refine hg_if_eq (n := 91) (tgt := 95) dX6_runAt_88 rfl (by decide) (fun h88 => ?_) (fun h88 => ?_)
                · refine hg_iconst (n := 96) (v := 0) dX6_runAt_95 rfl (by decide) ?_
                  refine hg_ireturn dX6_runAt_96 rfl ?_
                  unfold ra_ at hQ
                  rw [if_neg (by omega), if_neg (by omega), if_neg (by omega), if_neg (by omega), if_pos h88] at hQ
                  exact hQ
                · refine hg_iconst (n := 92) (v := 1) dX6_runAt_91 rfl (by decide) ?_
                  refine hg_goto (tgt := 96) dX6_runAt_92 (by decide) ?_
                  refine hg_ireturn dX6_runAt_96 rfl ?_
                  unfold ra_ at hQ
                  rw [if_neg (by omega), if_neg (by omega), if_neg (by omega), if_neg (by omega), if_neg h88] at hQ
                  exact hQ
              · refine hg_aload_n (n := 72) dX6_runAt_71 rfl rfl ?_
                refine hg_iload_n (n := 73) dX6_runAt_72 rfl rfl ?_
                refine hg_callVd (n := 76) (c_X6_isWell hM (r) (by omega)) dX6_runAt_73 rfl mk_X6_180 yl_X6_isWell yv_X6_isWell rfl (mo_s hM) (by decide) (by decide) rfl rfl (Nat.le_of_ble_eq_true rfl) (fun h => by cases h) ?_
                refine hg_if_eq (n := 79) (tgt := 95) dX6_runAt_76 rfl (by decide) (fun h76 => ?_) (fun h76 => ?_)
                · refine hg_iconst (n := 96) (v := 0) dX6_runAt_95 rfl (by decide) ?_
                  refine hg_ireturn dX6_runAt_96 rfl ?_
                  unfold ra_ at hQ
                  rw [if_neg (by omega), if_neg (by omega), if_neg (by omega), if_pos (by omega), if_pos h76] at hQ
                  exact hQ
                · refine hg_goto (tgt := 91) dX6_runAt_79 (by decide) ?_
                  refine hg_iconst (n := 92) (v := 1) dX6_runAt_91 rfl (by decide) ?_
                  refine hg_goto (tgt := 96) dX6_runAt_92 (by decide) ?_
                  refine hg_ireturn dX6_runAt_96 rfl ?_
                  unfold ra_ at hQ
                  rw [if_neg (by omega), if_neg (by omega), if_neg (by omega), if_pos (by omega), if_neg h76] at hQ
                  exact hQ
            · refine hg_aload_n (n := 55) dX6_runAt_54 rfl rfl ?_
              refine hg_getR (n := 58) (r := some (60, 0)) dX6_runAt_55 rfl fl_X6_129 rfl rfl (mo_s hM) (mo_r hM 30 (by decide)) ?_
              refine hg_iload_n (n := 59) dX6_runAt_58 rfl rfl ?_
              refine hg_baload (n := 60) (len := 100) (r) dX6_runAt_59 rfl (by decide) rfl (mo_a hM 30 (by decide)) rfl (by omega) (by decide) ?_
              refine hg_if_eq (n := 63) (tgt := 95) dX6_runAt_60 rfl (by decide) (fun h60 => ?_) (fun h60 => ?_)
              · refine hg_iconst (n := 96) (v := 0) dX6_runAt_95 rfl (by decide) ?_
                refine hg_ireturn dX6_runAt_96 rfl ?_
                unfold ra_ at hQ
                rw [if_neg (by omega), if_neg (by omega), if_pos (by omega), if_pos h60] at hQ
                exact hQ
              · refine hg_goto (tgt := 91) dX6_runAt_63 (by decide) ?_
                refine hg_iconst (n := 92) (v := 1) dX6_runAt_91 rfl (by decide) ?_
                refine hg_goto (tgt := 96) dX6_runAt_92 (by decide) ?_
                refine hg_ireturn dX6_runAt_96 rfl ?_
                unfold ra_ at hQ
                rw [if_neg (by omega), if_neg (by omega), if_pos (by omega), if_neg h60] at hQ
                exact hQ
          · refine hg_aload_n (n := 43) dX6_runAt_42 rfl rfl ?_
            refine hg_getR (n := 46) (r := some (64, 0)) dX6_runAt_43 rfl fl_X6_141 rfl rfl (mo_s hM) (mo_r hM 34 (by decide)) ?_
            refine hg_iload_n (n := 47) dX6_runAt_46 rfl rfl ?_
            refine hg_iaload (n := 48) (len := 100) (r) dX6_runAt_47 rfl (by decide) rfl (mo_a hM 34 (by decide)) rfl (by omega) (by decide) ?_
            refine hg_ireturn dX6_runAt_48 rfl ?_
            unfold ra_ at hQ
            rw [if_neg (by omega), if_pos (by omega)] at hQ
            exact hQ
        · refine hg_aload_n (n := 31) dX6_runAt_30 rfl rfl ?_
          refine hg_getR (n := 34) (r := some (59, 0)) dX6_runAt_31 rfl fl_X6_126 rfl rfl (mo_s hM) (mo_r hM 29 (by decide)) ?_
          refine hg_iload_n (n := 35) dX6_runAt_34 rfl rfl ?_
          refine hg_iaload (n := 36) (len := 100) (r) dX6_runAt_35 rfl (by decide) rfl (mo_a hM 29 (by decide)) rfl (by omega) (by decide) ?_
          refine hg_ireturn dX6_runAt_36 rfl ?_
          unfold ra_ at hQ
          rw [if_pos (by omega)] at hQ
          exact hQ
      · exact absurd h21 (by omega)
    · exact absurd h10 (z_nat3 (a := 0) (b := 4) (by omega) (by omega) (by omega))

set_option maxHeartbeats 4000000 in
set_option maxRecDepth 100000 in
theorem c_X6_paper_b {mi : MI_} {ml : ML_} {mr : MR_} {sh : SH_} (hM : mo_ mr sh) (x a b : Int32) (hb : z_in x 0 (mi 7 0 0 - 1) = 0 ∨ ¬ a ≤ b) : hg_Det false yX6_paper md_X6_paper [hv_r (some (7, 0)), hv_i x, hv_i a, hv_i b] (mi, ml, mr, sh) (some (hv_i (-2))) (mi, ml, mr, sh) := by
  intro Q hQ
  refine hg_intro rfl rfl rfl (Nat.le_of_ble_eq_true rfl) rfl ?_
  refine hg_aload_n (n := 1) dX6_paper_0 rfl rfl ?_
  refine hg_iload_n (n := 2) dX6_paper_1 rfl rfl ?_
  refine hg_callVd (n := 5) (c_X6_isPart hM _) dX6_paper_2 rfl mk_X6_60 yl_X6_isPart yv_X6_isPart rfl (mo_s hM) (by decide) (by decide) rfl rfl (Nat.le_of_ble_eq_true rfl) (fun h => by cases h) ?_
  refine hg_if_eq (n := 8) (tgt := 13) dX6_paper_5 rfl (by decide) (fun h5 => ?_) (fun h5 => ?_)
  · refine hg_bipush (n := 15) (v := -2) dX6_paper_13 rfl (by decide) ?_
    refine hg_ireturn dX6_paper_15 rfl ?_
    exact hQ
  · refine hg_iload_n (n := 9) dX6_paper_8 rfl rfl ?_
    refine hg_iload_n (n := 10) dX6_paper_9 rfl rfl ?_
    refine hg_icmp_le (n := 13) (tgt := 16) dX6_paper_10 rfl (by decide) (fun h10 => ?_) (fun h10 => ?_)
    · exact absurd hb (by simp [h5, h10])
    · refine hg_bipush (n := 15) (v := -2) dX6_paper_13 rfl (by decide) ?_
      refine hg_ireturn dX6_paper_15 rfl ?_
      exact hQ

set_option maxHeartbeats 4000000 in
set_option maxRecDepth 100000 in
theorem c_X6_paper_0 {mi : MI_} {ml : ML_} {mr : MR_} {sh : SH_} (hM : mo_ mr sh) (np : Nat) (hnp : mi 7 0 0 = nI np) (hn12 : np ≤ 12) (p : Nat) (hp : p < np) (a b : Int32) (hab : a ≤ b) (h0 : mi 39 0 p = -1) : hg_Det false yX6_paper md_X6_paper [hv_r (some (7, 0)), hv_i (nI p), hv_i a, hv_i b] (mi, ml, mr, sh) (some (hv_i (-10))) (mi, ml, mr, sh) := by
  intro Q hQ
  refine hg_intro rfl rfl rfl (Nat.le_of_ble_eq_true rfl) rfl ?_
  refine hg_aload_n (n := 1) dX6_paper_0 rfl rfl ?_
  refine hg_iload_n (n := 2) dX6_paper_1 rfl rfl ?_
  refine hg_callVd (n := 5) (c_X6_isPart hM _) dX6_paper_2 rfl mk_X6_60 yl_X6_isPart yv_X6_isPart rfl (mo_s hM) (by decide) (by decide) rfl rfl (Nat.le_of_ble_eq_true rfl) (fun h => by cases h) ?_
  refine hg_if_eq (n := 8) (tgt := 13) dX6_paper_5 rfl (by decide) (fun h5 => ?_) (fun h5 => ?_)
  · exact absurd h5 (by rw [hnp, z_ix2 (by omega) hp]; decide)
  · refine hg_iload_n (n := 9) dX6_paper_8 rfl rfl ?_
    refine hg_iload_n (n := 10) dX6_paper_9 rfl rfl ?_
    refine hg_icmp_le (n := 13) (tgt := 16) dX6_paper_10 rfl (by decide) (fun h10 => ?_) (fun h10 => ?_)
    · refine hg_aload_n (n := 17) dX6_paper_16 rfl rfl ?_
      refine hg_getR (n := 20) (r := some (39, 0)) dX6_paper_17 rfl fl_X6_37 rfl rfl (mo_s hM) (mo_r hM 9 (by decide)) ?_
      refine hg_iload_n (n := 21) dX6_paper_20 rfl rfl ?_
      refine hg_iaload (n := 22) (len := 12) (p) dX6_paper_21 rfl (by decide) rfl (mo_a hM 9 (by decide)) rfl (by omega) (by decide) ?_
      refine hg_istore (n := 24) dX6_paper_22 rfl (by decide) rfl rfl ?_
      refine hg_iload (n := 26) dX6_paper_24 rfl rfl ?_
      refine hg_iconst (n := 27) (v := -1) dX6_paper_26 rfl (by decide) ?_
      refine hg_icmp_ne (n := 30) (tgt := 33) dX6_paper_27 rfl (by decide) (fun h27 => ?_) (fun h27 => ?_)
      · exact absurd h0 h27
      · refine hg_bipush (n := 32) (v := -10) dX6_paper_30 rfl (by decide) ?_
        refine hg_ireturn dX6_paper_32 rfl ?_
        exact hQ
    · exact absurd hab h10

def pp_ (X : MI_) (p r : Nat) (a b : Int32) : Int32 := if X 63 0 r = 0 then (if we_ X r = 0 then -12 else if z_in (ha_ X (6 * p)) a b = 0 then -13 else if X 40 0 (6 * p) ≤ 500 then 1 else -14) else -11
set_option maxHeartbeats 4000000 in
set_option maxRecDepth 100000 in
theorem c_X6_paper {mi : MI_} {ml : ML_} {mr : MR_} {sh : SH_} (hM : mo_ mr sh) (np : Nat) (hnp : mi 7 0 0 = nI np) (hn12 : np ≤ 12) (p : Nat) (hp : p < np) (a b : Int32) (hab : a ≤ b) (r : Nat) (hr : r < 100) (h0 : mi 39 0 p = nI r) : hg_Det false yX6_paper md_X6_paper [hv_r (some (7, 0)), hv_i (nI p), hv_i a, hv_i b] (mi, ml, mr, sh) (some (hv_i (pp_ mi p r a b))) (mi, ml, mr, sh) := by
  intro Q hQ
  refine hg_intro rfl rfl rfl (Nat.le_of_ble_eq_true rfl) rfl ?_
  refine hg_aload_n (n := 1) dX6_paper_0 rfl rfl ?_
  refine hg_iload_n (n := 2) dX6_paper_1 rfl rfl ?_
  refine hg_callVd (n := 5) (c_X6_isPart hM _) dX6_paper_2 rfl mk_X6_60 yl_X6_isPart yv_X6_isPart rfl (mo_s hM) (by decide) (by decide) rfl rfl (Nat.le_of_ble_eq_true rfl) (fun h => by cases h) ?_
  refine hg_if_eq (n := 8) (tgt := 13) dX6_paper_5 rfl (by decide) (fun h5 => ?_) (fun h5 => ?_)
  · exact absurd h5 (by rw [hnp, z_ix2 (by omega) hp]; decide)
  · refine hg_iload_n (n := 9) dX6_paper_8 rfl rfl ?_
    refine hg_iload_n (n := 10) dX6_paper_9 rfl rfl ?_
    refine hg_icmp_le (n := 13) (tgt := 16) dX6_paper_10 rfl (by decide) (fun h10 => ?_) (fun h10 => ?_)
    · refine hg_aload_n (n := 17) dX6_paper_16 rfl rfl ?_
      refine hg_getR (n := 20) (r := some (39, 0)) dX6_paper_17 rfl fl_X6_37 rfl rfl (mo_s hM) (mo_r hM 9 (by decide)) ?_
      refine hg_iload_n (n := 21) dX6_paper_20 rfl rfl ?_
      refine hg_ialoadN (n := 22) (len := 12) (r) (p) dX6_paper_21 rfl (by decide) rfl (mo_a hM 9 (by decide)) rfl (by omega) (by decide) h0 ?_
      refine hg_istore (n := 24) dX6_paper_22 rfl (by decide) rfl rfl ?_
      refine hg_iload (n := 26) dX6_paper_24 rfl rfl ?_
      refine hg_iconst (n := 27) (v := -1) dX6_paper_26 rfl (by decide) ?_
      refine hg_icmp_ne (n := 30) (tgt := 33) dX6_paper_27 rfl (by decide) (fun h27 => ?_) (fun h27 => ?_)
      · refine hg_aload_n (n := 34) dX6_paper_33 rfl rfl ?_
        refine hg_getR (n := 37) (r := some (63, 0)) dX6_paper_34 rfl fl_X6_138 rfl rfl (mo_s hM) (mo_r hM 33 (by decide)) ?_
        refine hg_iload (n := 39) dX6_paper_37 rfl rfl ?_
        refine hg_baload (n := 40) (len := 100) (r) dX6_paper_39 rfl (by decide) rfl (mo_a hM 33 (by decide)) rfl (by omega) (by decide) ?_
        refine hg_if_eq (n := 43) (tgt := 46) dX6_paper_40 rfl (by decide) (fun h40 => ?_) (fun h40 => ?_)
        · refine hg_aload_n (n := 47) dX6_paper_46 rfl rfl ?_
          refine hg_iload (n := 49) dX6_paper_47 rfl rfl ?_
          refine hg_callVd (n := 52) (c_X6_isWell hM (r) (by omega)) dX6_paper_49 rfl mk_X6_180 yl_X6_isWell yv_X6_isWell rfl (mo_s hM) (by decide) (by decide) rfl rfl (Nat.le_of_ble_eq_true rfl) (fun h => by cases h) ?_
          refine hg_if_ne (n := 55) (tgt := 58) dX6_paper_52 rfl (by decide) (fun h52 => ?_) (fun h52 => ?_)
          · refine hg_aload_n (n := 59) dX6_paper_58 rfl rfl ?_
            refine hg_bipush (n := 61) (v := 6) dX6_paper_59 rfl (by decide) ?_
            refine hg_iload_n (n := 62) dX6_paper_61 rfl rfl ?_
            refine hg_imulN (n := 63) (6) (p) dX6_paper_62 rfl ?_
            refine hg_callVd (n := 66) (c_X6_hardness hM (6 * p) (by omega)) dX6_paper_63 rfl mk_X6_72 yl_X6_hardness yv_X6_hardness rfl (mo_s hM) (by decide) (by decide) rfl rfl (Nat.le_of_ble_eq_true rfl) (fun h => by cases h) ?_
            refine hg_iload_n (n := 67) dX6_paper_66 rfl rfl ?_
            refine hg_iload_n (n := 68) dX6_paper_67 rfl rfl ?_
            refine hg_callSd (n := 71) (c_X6_in _ _ _ _) dX6_paper_68 rfl mk_X6_1 yl_X6_in ys_X6_in (by decide) (by decide) rfl rfl (Nat.le_of_ble_eq_true rfl) (fun h => by cases h) ?_
            refine hg_if_ne (n := 74) (tgt := 77) dX6_paper_71 rfl (by decide) (fun h71 => ?_) (fun h71 => ?_)
            · refine hg_aload_n (n := 78) dX6_paper_77 rfl rfl ?_
              refine hg_getR (n := 81) (r := some (40, 0)) dX6_paper_78 rfl fl_X6_40 rfl rfl (mo_s hM) (mo_r hM 10 (by decide)) ?_
              refine hg_bipush (n := 83) (v := 6) dX6_paper_81 rfl (by decide) ?_
              refine hg_iload_n (n := 84) dX6_paper_83 rfl rfl ?_
              refine hg_imulN (n := 85) (6) (p) dX6_paper_84 rfl ?_
              refine hg_iaload (n := 86) (len := 72) (6 * p) dX6_paper_85 rfl (by decide) rfl (mo_a hM 10 (by decide)) rfl (by omega) (by decide) ?_
              refine hg_sipush (n := 89) (v := 500) dX6_paper_86 rfl (by decide) ?_
              refine hg_icmp_le (n := 92) (tgt := 97) dX6_paper_89 rfl (by decide) (fun h89 => ?_) (fun h89 => ?_)
              · refine hg_iconst (n := 98) (v := 1) dX6_paper_97 rfl (by decide) ?_
                refine hg_ireturn dX6_paper_98 rfl ?_
                unfold pp_ at hQ
                rw [if_pos h40, if_neg h52, if_neg h71, if_pos h89] at hQ
                exact hQ
              · refine hg_bipush (n := 94) (v := -14) dX6_paper_92 rfl (by decide) ?_
                refine hg_goto (tgt := 98) dX6_paper_94 (by decide) ?_
                refine hg_ireturn dX6_paper_98 rfl ?_
                unfold pp_ at hQ
                rw [if_pos h40, if_neg h52, if_neg h71, if_neg h89] at hQ
                exact hQ
            · refine hg_bipush (n := 76) (v := -13) dX6_paper_74 rfl (by decide) ?_
              refine hg_ireturn dX6_paper_76 rfl ?_
              unfold pp_ at hQ
              rw [if_pos h40, if_neg h52, if_pos h71] at hQ
              exact hQ
          · refine hg_bipush (n := 57) (v := -12) dX6_paper_55 rfl (by decide) ?_
            refine hg_ireturn dX6_paper_57 rfl ?_
            unfold pp_ at hQ
            rw [if_pos h40, if_pos h52] at hQ
            exact hQ
        · refine hg_bipush (n := 45) (v := -11) dX6_paper_43 rfl (by decide) ?_
          refine hg_ireturn dX6_paper_45 rfl ?_
          unfold pp_ at hQ
          rw [if_neg h40] at hQ
          exact hQ
      · exact absurd h27 (nI_m1 (by omega))
    · exact absurd hab h10

set_option maxHeartbeats 4000000 in
set_option maxRecDepth 100000 in
theorem c_X6_count_b {mi : MI_} {ml : ML_} {mr : MR_} {sh : SH_} (hM : mo_ mr sh) (w : Int32) (hb : z_in w 0 4 = 0) : hg_Det false yX6_count md_X6_count [hv_r (some (7, 0)), hv_i w] (mi, ml, mr, sh) (some (hv_i (-2))) (mi, ml, mr, sh) := by
  intro Q hQ
  refine hg_intro rfl rfl rfl (Nat.le_of_ble_eq_true rfl) rfl ?_
  refine hg_iload_n (n := 1) dX6_count_0 rfl rfl ?_
  refine hg_iconst (n := 2) (v := 0) dX6_count_1 rfl (by decide) ?_
  refine hg_iconst (n := 3) (v := 4) dX6_count_2 rfl (by decide) ?_
  refine hg_callSd (n := 6) (c_X6_in _ _ _ _) dX6_count_3 rfl mk_X6_1 yl_X6_in ys_X6_in (by decide) (by decide) rfl rfl (Nat.le_of_ble_eq_true rfl) (fun h => by cases h) ?_
  refine hg_if_ne (n := 9) (tgt := 12) dX6_count_6 rfl (by decide) (fun h6 => ?_) (fun h6 => ?_)
  · exact absurd hb h6
  · refine hg_bipush (n := 11) (v := -2) dX6_count_9 rfl (by decide) ?_
    refine hg_ireturn dX6_count_11 rfl ?_
    exact hQ

def cd_ (X : MI_) : Nat → Int32
  | 0 => 0
  | c + 1 => cd_ X c + (if X 63 0 c = 0 then 0 else 1)
def co_ (X : MI_) (nr w : Nat) : Int32 := if w = 0 then X 7 0 0 else if w = 1 then X 7 0 28 else if w = 2 then rg_ X 3 else if w = 3 then X 7 0 35 else cd_ X nr
set_option maxHeartbeats 4000000 in
set_option maxRecDepth 100000 in
theorem c_X6_count {mi : MI_} {ml : ML_} {mr : MR_} {sh : SH_} (hM : mo_ mr sh) (nr : Nat) (hnr : mi 7 0 28 = nI nr) (hnr9 : nr ≤ 100) (w : Nat) (hw : w ≤ 4) : hg_Det false yX6_count md_X6_count [hv_r (some (7, 0)), hv_i (nI w)] (mi, ml, mr, sh) (some (hv_i (co_ mi nr w))) (mi, ml, mr, sh) := by
  intro Q hQ
  refine hg_intro rfl rfl rfl (Nat.le_of_ble_eq_true rfl) rfl ?_
  have loop : ∀ m c, c + m = nr → hg_G md_X6_count false sh Q 0 0 16 [some (hv_r (some (7, 0))), some (hv_i (nI w)), some (hv_i (cd_ mi c)), some (hv_i (nI c))] [] (mi, ml, mr, sh) := by
    intro m
    induction m with
    | zero =>
      intro c hc
      refine hg_iload_n (n := 17) dX6_count_16 rfl rfl ?_
      refine hg_aload_n (n := 18) dX6_count_17 rfl rfl ?_
      refine hg_getN (n := 21) (nr) dX6_count_18 rfl fl_X6_165 rfl rfl (mo_s hM) hnr ?_
      refine hg_icmp_geN (n := 24) (tgt := 47) (c) (nr) dX6_count_21 rfl (by decide) (by omega) (by omega) (fun h21 => ?_) (fun h21 => ?_)
      · have e1 := show c = nr by omega
        subst e1
        refine hg_iload_n (n := 48) dX6_count_47 rfl rfl ?_
        refine hg_if_neN (n := 51) (tgt := 58) (w) dX6_count_48 rfl (by decide) (by omega) (fun h48 => ?_) (fun h48 => ?_)
        · refine hg_iload_n (n := 59) dX6_count_58 rfl rfl ?_
          refine hg_iconst (n := 60) (v := 1) dX6_count_59 rfl (by decide) ?_
          refine hg_icmp_neN (n := 63) (tgt := 70) (w) (1) dX6_count_60 rfl (by decide) (by omega) (by omega) (fun h60 => ?_) (fun h60 => ?_)
          · refine hg_iload_n (n := 71) dX6_count_70 rfl rfl ?_
            refine hg_iconst (n := 72) (v := 2) dX6_count_71 rfl (by decide) ?_
            refine hg_icmp_neN (n := 75) (tgt := 82) (w) (2) dX6_count_72 rfl (by decide) (by omega) (by omega) (fun h72 => ?_) (fun h72 => ?_)
            · refine hg_iload_n (n := 83) dX6_count_82 rfl rfl ?_
              refine hg_iconst (n := 84) (v := 3) dX6_count_83 rfl (by decide) ?_
              refine hg_icmp_neN (n := 87) (tgt := 94) (w) (3) dX6_count_84 rfl (by decide) (by omega) (by omega) (fun h84 => ?_) (fun h84 => ?_)
              · refine hg_iload_n (n := 95) dX6_count_94 rfl rfl ?_
                refine hg_ireturn dX6_count_95 rfl ?_
                unfold co_ at hQ
                rw [if_neg (by omega), if_neg (by omega), if_neg (by omega), if_neg (by omega)] at hQ
                exact hQ
              · refine hg_aload_n (n := 88) dX6_count_87 rfl rfl ?_
                refine hg_getI (n := 91) dX6_count_88 rfl fl_X6_183 rfl rfl (mo_s hM) ?_
                refine hg_goto (tgt := 95) dX6_count_91 (by decide) ?_
                refine hg_ireturn dX6_count_95 rfl ?_
                unfold co_ at hQ
                rw [if_neg (by omega), if_neg (by omega), if_neg (by omega), if_pos (by omega)] at hQ
                exact hQ
            · refine hg_aload_n (n := 76) dX6_count_75 rfl rfl ?_
              refine hg_callVd (n := 79) (c_X6_running hM) dX6_count_76 rfl mk_X6_176 yl_X6_running yv_X6_running rfl (mo_s hM) (by decide) (by decide) rfl rfl (Nat.le_of_ble_eq_true rfl) (fun h => by cases h) ?_
              refine hg_goto (tgt := 95) dX6_count_79 (by decide) ?_
              refine hg_ireturn dX6_count_95 rfl ?_
              unfold co_ at hQ
              rw [if_neg (by omega), if_neg (by omega), if_pos (by omega)] at hQ
              exact hQ
          · refine hg_aload_n (n := 64) dX6_count_63 rfl rfl ?_
            refine hg_getI (n := 67) dX6_count_64 rfl fl_X6_165 rfl rfl (mo_s hM) ?_
            refine hg_goto (tgt := 95) dX6_count_67 (by decide) ?_
            refine hg_ireturn dX6_count_95 rfl ?_
            unfold co_ at hQ
            rw [if_neg (by omega), if_pos (by omega)] at hQ
            exact hQ
        · refine hg_aload_n (n := 52) dX6_count_51 rfl rfl ?_
          refine hg_getI (n := 55) dX6_count_52 rfl fl_X6_7 rfl rfl (mo_s hM) ?_
          refine hg_goto (tgt := 95) dX6_count_55 (by decide) ?_
          refine hg_ireturn dX6_count_95 rfl ?_
          unfold co_ at hQ
          rw [if_pos (by omega)] at hQ
          exact hQ
      · exact absurd h21 (by omega)
    | succ m ih =>
      intro c hc
      refine hg_iload_n (n := 17) dX6_count_16 rfl rfl ?_
      refine hg_aload_n (n := 18) dX6_count_17 rfl rfl ?_
      refine hg_getN (n := 21) (nr) dX6_count_18 rfl fl_X6_165 rfl rfl (mo_s hM) hnr ?_
      refine hg_icmp_geN (n := 24) (tgt := 47) (c) (nr) dX6_count_21 rfl (by decide) (by omega) (by omega) (fun h21 => ?_) (fun h21 => ?_)
      · exact absurd h21 (by omega)
      · refine hg_iload_n (n := 25) dX6_count_24 rfl rfl ?_
        refine hg_aload_n (n := 26) dX6_count_25 rfl rfl ?_
        refine hg_getR (n := 29) (r := some (63, 0)) dX6_count_26 rfl fl_X6_138 rfl rfl (mo_s hM) (mo_r hM 33 (by decide)) ?_
        refine hg_iload_n (n := 30) dX6_count_29 rfl rfl ?_
        refine hg_baload (n := 31) (len := 100) (c) dX6_count_30 rfl (by decide) rfl (mo_a hM 33 (by decide)) rfl (by omega) (by decide) ?_
        refine hg_if_eq (n := 34) (tgt := 38) dX6_count_31 rfl (by decide) (fun h31 => ?_) (fun h31 => ?_)
        · refine hg_iconst (n := 39) (v := 0) dX6_count_38 rfl (by decide) ?_
          refine hg_iadd (n := 40) dX6_count_39 rfl ?_
          refine hg_topI (z := cd_ mi (c + 1)) (by rw [cd_, if_pos h31]) ?_
          refine hg_istore_n (n := 41) dX6_count_40 rfl (by decide) rfl rfl ?_
          refine hg_iincN (n := 44) (c) 1 dX6_count_41 rfl rfl (by decide) (by decide) rfl rfl ?_
          refine hg_goto (tgt := 16) dX6_count_44 (by decide) ?_
          exact ih (c + 1) (by omega)
        · refine hg_iconst (n := 35) (v := 1) dX6_count_34 rfl (by decide) ?_
          refine hg_goto (tgt := 39) dX6_count_35 (by decide) ?_
          refine hg_iadd (n := 40) dX6_count_39 rfl ?_
          refine hg_topI (z := cd_ mi (c + 1)) (by rw [cd_, if_neg h31]) ?_
          refine hg_istore_n (n := 41) dX6_count_40 rfl (by decide) rfl rfl ?_
          refine hg_iincN (n := 44) (c) 1 dX6_count_41 rfl rfl (by decide) (by decide) rfl rfl ?_
          refine hg_goto (tgt := 16) dX6_count_44 (by decide) ?_
          exact ih (c + 1) (by omega)
  refine hg_iload_n (n := 1) dX6_count_0 rfl rfl ?_
  refine hg_iconst (n := 2) (v := 0) dX6_count_1 rfl (by decide) ?_
  refine hg_iconst (n := 3) (v := 4) dX6_count_2 rfl (by decide) ?_
  refine hg_callSd (n := 6) (c_X6_in _ _ _ _) dX6_count_3 rfl mk_X6_1 yl_X6_in ys_X6_in (by decide) (by decide) rfl rfl (Nat.le_of_ble_eq_true rfl) (fun h => by cases h) ?_
  refine hg_if_ne (n := 9) (tgt := 12) dX6_count_6 rfl (by decide) (fun h6 => ?_) (fun h6 => ?_)
  · refine hg_iconst (n := 13) (v := 0) dX6_count_12 rfl (by decide) ?_
    refine hg_istore_n (n := 14) dX6_count_13 rfl (by decide) rfl rfl ?_
    refine hg_iconst (n := 15) (v := 0) dX6_count_14 rfl (by decide) ?_
    refine hg_istore_n (n := 16) dX6_count_15 rfl (by decide) rfl rfl ?_
    exact loop nr 0 (by omega)
  · exact absurd h6 (z_nat3 (a := 0) (b := 4) (by omega) (by omega) (by omega))
end
