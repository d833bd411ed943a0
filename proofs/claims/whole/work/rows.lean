section
-- ===== PART A: goes FIRST, ahead of the names: the tables' words, and 'selects' of the private methods out of them =====
/-- a private method of a class that the tables say can be made, by its rows of tables_1 -/
def lw_okq (q : MethodName × Nat) : Prop := (q.1.cls ≠ "java/lang/invoke/MethodHandle" ∧ q.1.cls ≠ "java/lang/invoke/VarHandle") ∧ Cond.instantiable q.1.cls q.2 ∈ tables_1 ∧ Cond.privateMethod q.1 ∈ tables_1 ∧ Cond.instanceMethod q.1 ∈ tables_1
theorem lw_p0 : lw_okq (⟨"HardShop", "partAt", "(I)LHardShop$Part;"⟩, 6) := ⟨⟨by decide +kernel, by decide +kernel⟩, List.mem_of_getElem? (i := 10) (by decide +kernel), List.mem_of_getElem? (i := 202) (by decide +kernel), List.mem_of_getElem? (i := 203) (by decide +kernel)⟩
theorem lw_p1 : lw_okq (⟨"HardShop$Part", "moveWarmth", "(I)V"⟩, 10) := ⟨⟨by decide +kernel, by decide +kernel⟩, List.mem_of_getElem? (i := 127) (by decide +kernel), List.mem_of_getElem? (i := 210) (by decide +kernel), List.mem_of_getElem? (i := 211) (by decide +kernel)⟩
theorem lw_p2 : lw_okq (⟨"HardShop$Part", "flowFrom", "(I)I"⟩, 10) := ⟨⟨by decide +kernel, by decide +kernel⟩, List.mem_of_getElem? (i := 127) (by decide +kernel), List.mem_of_getElem? (i := 214) (by decide +kernel), List.mem_of_getElem? (i := 215) (by decide +kernel)⟩
theorem lw_p3 : lw_okq (⟨"HardShop$Shell", "becomeHot", "(I)V"⟩, 6) := ⟨⟨by decide +kernel, by decide +kernel⟩, List.mem_of_getElem? (i := 134) (by decide +kernel), List.mem_of_getElem? (i := 222) (by decide +kernel), List.mem_of_getElem? (i := 223) (by decide +kernel)⟩
theorem lw_p4 : lw_okq (⟨"HardShop$Shell", "becomeLamellar", "(I)V"⟩, 6) := ⟨⟨by decide +kernel, by decide +kernel⟩, List.mem_of_getElem? (i := 134) (by decide +kernel), List.mem_of_getElem? (i := 229) (by decide +kernel), List.mem_of_getElem? (i := 230) (by decide +kernel)⟩
theorem lw_p5 : lw_okq (⟨"HardShop$Shell", "becomeTough", "(I)V"⟩, 6) := ⟨⟨by decide +kernel, by decide +kernel⟩, List.mem_of_getElem? (i := 134) (by decide +kernel), List.mem_of_getElem? (i := 233) (by decide +kernel), List.mem_of_getElem? (i := 234) (by decide +kernel)⟩
theorem lw_p6 : lw_okq (⟨"HardShop$Shell", "becomeHard", "(I)V"⟩, 6) := ⟨⟨by decide +kernel, by decide +kernel⟩, List.mem_of_getElem? (i := 134) (by decide +kernel), List.mem_of_getElem? (i := 237) (by decide +kernel), List.mem_of_getElem? (i := 238) (by decide +kernel)⟩
theorem lw_p7 : lw_okq (⟨"HardShop$Shell", "draw", "()V"⟩, 6) := ⟨⟨by decide +kernel, by decide +kernel⟩, List.mem_of_getElem? (i := 134) (by decide +kernel), List.mem_of_getElem? (i := 241) (by decide +kernel), List.mem_of_getElem? (i := 242) (by decide +kernel)⟩
theorem lw_p8 : lw_okq (⟨"HardShop", "furnaceAt", "(I)LHardShop$Furnace;"⟩, 6) := ⟨⟨by decide +kernel, by decide +kernel⟩, List.mem_of_getElem? (i := 10) (by decide +kernel), List.mem_of_getElem? (i := 280) (by decide +kernel), List.mem_of_getElem? (i := 281) (by decide +kernel)⟩
theorem lw_p9 : lw_okq (⟨"HardShop$Furnace", "gasByLine", "()I"⟩, 13) := ⟨⟨by decide +kernel, by decide +kernel⟩, List.mem_of_getElem? (i := 48) (by decide +kernel), List.mem_of_getElem? (i := 363) (by decide +kernel), List.mem_of_getElem? (i := 364) (by decide +kernel)⟩
theorem lw_p10 : lw_okq (⟨"HardShop$Furnace", "gasNearer", "(II)I"⟩, 13) := ⟨⟨by decide +kernel, by decide +kernel⟩, List.mem_of_getElem? (i := 48) (by decide +kernel), List.mem_of_getElem? (i := 367) (by decide +kernel), List.mem_of_getElem? (i := 368) (by decide +kernel)⟩
theorem lw_p11 : lw_okq (⟨"HardShop$Furnace", "lineIsOver", "(LHardShop$Run;)Z"⟩, 13) := ⟨⟨by decide +kernel, by decide +kernel⟩, List.mem_of_getElem? (i := 48) (by decide +kernel), List.mem_of_getElem? (i := 376) (by decide +kernel), List.mem_of_getElem? (i := 377) (by decide +kernel)⟩
theorem lw_p12 : lw_okq (⟨"HardShop$Furnace", "countSoak", "(LHardShop$Run;)V"⟩, 13) := ⟨⟨by decide +kernel, by decide +kernel⟩, List.mem_of_getElem? (i := 48) (by decide +kernel), List.mem_of_getElem? (i := 380) (by decide +kernel), List.mem_of_getElem? (i := 381) (by decide +kernel)⟩
theorem lw_p13 : lw_okq (⟨"HardShop$Furnace", "goToNextLine", "()V"⟩, 13) := ⟨⟨by decide +kernel, by decide +kernel⟩, List.mem_of_getElem? (i := 48) (by decide +kernel), List.mem_of_getElem? (i := 386) (by decide +kernel), List.mem_of_getElem? (i := 387) (by decide +kernel)⟩
theorem lw_p14 : lw_okq (⟨"HardShop", "furnacesRunning", "()I"⟩, 6) := ⟨⟨by decide +kernel, by decide +kernel⟩, List.mem_of_getElem? (i := 10) (by decide +kernel), List.mem_of_getElem? (i := 398) (by decide +kernel), List.mem_of_getElem? (i := 399) (by decide +kernel)⟩
theorem lw_p15 : lw_okq (⟨"HardShop", "doubtRuns", "(II)I"⟩, 6) := ⟨⟨by decide +kernel, by decide +kernel⟩, List.mem_of_getElem? (i := 10) (by decide +kernel), List.mem_of_getElem? (i := 411) (by decide +kernel), List.mem_of_getElem? (i := 412) (by decide +kernel)⟩
def lw_privs_1 : List (MethodName × Nat) := [(⟨"HardShop", "partAt", "(I)LHardShop$Part;"⟩, 6), (⟨"HardShop$Part", "moveWarmth", "(I)V"⟩, 10), (⟨"HardShop$Part", "flowFrom", "(I)I"⟩, 10), (⟨"HardShop$Shell", "becomeHot", "(I)V"⟩, 6), (⟨"HardShop$Shell", "becomeLamellar", "(I)V"⟩, 6), (⟨"HardShop$Shell", "becomeTough", "(I)V"⟩, 6), (⟨"HardShop$Shell", "becomeHard", "(I)V"⟩, 6), (⟨"HardShop$Shell", "draw", "()V"⟩, 6), (⟨"HardShop", "furnaceAt", "(I)LHardShop$Furnace;"⟩, 6), (⟨"HardShop$Furnace", "gasByLine", "()I"⟩, 13), (⟨"HardShop$Furnace", "gasNearer", "(II)I"⟩, 13), (⟨"HardShop$Furnace", "lineIsOver", "(LHardShop$Run;)Z"⟩, 13), (⟨"HardShop$Furnace", "countSoak", "(LHardShop$Run;)V"⟩, 13), (⟨"HardShop$Furnace", "goToNextLine", "()V"⟩, 13), (⟨"HardShop", "furnacesRunning", "()I"⟩, 6), (⟨"HardShop", "doubtRuns", "(II)I"⟩, 6)]
theorem lw_r1 : ∀ q ∈ lw_privs_1, lw_okq q := List.forall_mem_cons.mpr ⟨lw_p0, List.forall_mem_cons.mpr ⟨lw_p1, List.forall_mem_cons.mpr ⟨lw_p2, List.forall_mem_cons.mpr ⟨lw_p3, List.forall_mem_cons.mpr ⟨lw_p4, List.forall_mem_cons.mpr ⟨lw_p5, List.forall_mem_cons.mpr ⟨lw_p6, List.forall_mem_cons.mpr ⟨lw_p7, List.forall_mem_cons.mpr ⟨lw_p8, List.forall_mem_cons.mpr ⟨lw_p9, List.forall_mem_cons.mpr ⟨lw_p10, List.forall_mem_cons.mpr ⟨lw_p11, List.forall_mem_cons.mpr ⟨lw_p12, List.forall_mem_cons.mpr ⟨lw_p13, List.forall_mem_cons.mpr ⟨lw_p14, List.forall_mem_cons.mpr ⟨lw_p15, fun _ h => absurd h List.not_mem_nil⟩⟩⟩⟩⟩⟩⟩⟩⟩⟩⟩⟩⟩⟩⟩⟩
theorem lw_p16 : lw_okq (⟨"HardShop$JobList", "plan", "()V"⟩, 5) := ⟨⟨by decide +kernel, by decide +kernel⟩, List.mem_of_getElem? (i := 24) (by decide +kernel), List.mem_of_getElem? (i := 455) (by decide +kernel), List.mem_of_getElem? (i := 456) (by decide +kernel)⟩
theorem lw_p17 : lw_okq (⟨"HardShop$JobList", "nextOf", "(I)I"⟩, 5) := ⟨⟨by decide +kernel, by decide +kernel⟩, List.mem_of_getElem? (i := 24) (by decide +kernel), List.mem_of_getElem? (i := 459) (by decide +kernel), List.mem_of_getElem? (i := 460) (by decide +kernel)⟩
theorem lw_p18 : lw_okq (⟨"HardShop$JobList", "latenessWith", "(II)I"⟩, 5) := ⟨⟨by decide +kernel, by decide +kernel⟩, List.mem_of_getElem? (i := 24) (by decide +kernel), List.mem_of_getElem? (i := 464) (by decide +kernel), List.mem_of_getElem? (i := 465) (by decide +kernel)⟩
theorem lw_p19 : lw_okq (⟨"HardShop", "runsInDoubt", "()I"⟩, 6) := ⟨⟨by decide +kernel, by decide +kernel⟩, List.mem_of_getElem? (i := 10) (by decide +kernel), List.mem_of_getElem? (i := 493) (by decide +kernel), List.mem_of_getElem? (i := 494) (by decide +kernel)⟩
theorem lw_p20 : lw_okq (⟨"HardShopModel", "isPart", "(I)Z"⟩, 39) := ⟨⟨by decide +kernel, by decide +kernel⟩, List.mem_of_getElem? (i := 535) (by decide +kernel), List.mem_of_getElem? (i := 533) (by decide +kernel), List.mem_of_getElem? (i := 534) (by decide +kernel)⟩
theorem lw_p21 : lw_okq (⟨"HardShopModel", "steps", "(II)V"⟩, 39) := ⟨⟨by decide +kernel, by decide +kernel⟩, List.mem_of_getElem? (i := 535) (by decide +kernel), List.mem_of_getElem? (i := 538) (by decide +kernel), List.mem_of_getElem? (i := 539) (by decide +kernel)⟩
theorem lw_p22 : lw_okq (⟨"HardShopModel", "change", "(II)V"⟩, 39) := ⟨⟨by decide +kernel, by decide +kernel⟩, List.mem_of_getElem? (i := 535) (by decide +kernel), List.mem_of_getElem? (i := 542) (by decide +kernel), List.mem_of_getElem? (i := 543) (by decide +kernel)⟩
theorem lw_p23 : lw_okq (⟨"HardShopModel", "turn", "(IIII)I"⟩, 39) := ⟨⟨by decide +kernel, by decide +kernel⟩, List.mem_of_getElem? (i := 535) (by decide +kernel), List.mem_of_getElem? (i := 546) (by decide +kernel), List.mem_of_getElem? (i := 547) (by decide +kernel)⟩
theorem lw_p24 : lw_okq (⟨"HardShopModel", "innermost", "(I)I"⟩, 39) := ⟨⟨by decide +kernel, by decide +kernel⟩, List.mem_of_getElem? (i := 535) (by decide +kernel), List.mem_of_getElem? (i := 550) (by decide +kernel), List.mem_of_getElem? (i := 551) (by decide +kernel)⟩
theorem lw_p25 : lw_okq (⟨"HardShopModel", "hardness", "(I)I"⟩, 39) := ⟨⟨by decide +kernel, by decide +kernel⟩, List.mem_of_getElem? (i := 535) (by decide +kernel), List.mem_of_getElem? (i := 559) (by decide +kernel), List.mem_of_getElem? (i := 560) (by decide +kernel)⟩
theorem lw_p26 : lw_okq (⟨"HardShopModel", "massOf", "(I)I"⟩, 39) := ⟨⟨by decide +kernel, by decide +kernel⟩, List.mem_of_getElem? (i := 535) (by decide +kernel), List.mem_of_getElem? (i := 714) (by decide +kernel), List.mem_of_getElem? (i := 715) (by decide +kernel)⟩
theorem lw_p27 : lw_okq (⟨"HardShopModel", "loadOf", "(I)I"⟩, 39) := ⟨⟨by decide +kernel, by decide +kernel⟩, List.mem_of_getElem? (i := 535) (by decide +kernel), List.mem_of_getElem? (i := 730) (by decide +kernel), List.mem_of_getElem? (i := 731) (by decide +kernel)⟩
theorem lw_p28 : lw_okq (⟨"HardShopModel", "ticks", "(I)V"⟩, 39) := ⟨⟨by decide +kernel, by decide +kernel⟩, List.mem_of_getElem? (i := 535) (by decide +kernel), List.mem_of_getElem? (i := 738) (by decide +kernel), List.mem_of_getElem? (i := 739) (by decide +kernel)⟩
theorem lw_p29 : lw_okq (⟨"HardShopModel", "liveAt", "(II)I"⟩, 39) := ⟨⟨by decide +kernel, by decide +kernel⟩, List.mem_of_getElem? (i := 535) (by decide +kernel), List.mem_of_getElem? (i := 742) (by decide +kernel), List.mem_of_getElem? (i := 743) (by decide +kernel)⟩
theorem lw_p30 : lw_okq (⟨"HardShopModel", "running", "()I"⟩, 39) := ⟨⟨by decide +kernel, by decide +kernel⟩, List.mem_of_getElem? (i := 535) (by decide +kernel), List.mem_of_getElem? (i := 746) (by decide +kernel), List.mem_of_getElem? (i := 747) (by decide +kernel)⟩
theorem lw_p31 : lw_okq (⟨"HardShopModel", "isWell", "(I)Z"⟩, 39) := ⟨⟨by decide +kernel, by decide +kernel⟩, List.mem_of_getElem? (i := 535) (by decide +kernel), List.mem_of_getElem? (i := 766) (by decide +kernel), List.mem_of_getElem? (i := 767) (by decide +kernel)⟩
def lw_privs_2 : List (MethodName × Nat) := [(⟨"HardShop$JobList", "plan", "()V"⟩, 5), (⟨"HardShop$JobList", "nextOf", "(I)I"⟩, 5), (⟨"HardShop$JobList", "latenessWith", "(II)I"⟩, 5), (⟨"HardShop", "runsInDoubt", "()I"⟩, 6), (⟨"HardShopModel", "isPart", "(I)Z"⟩, 39), (⟨"HardShopModel", "steps", "(II)V"⟩, 39), (⟨"HardShopModel", "change", "(II)V"⟩, 39), (⟨"HardShopModel", "turn", "(IIII)I"⟩, 39), (⟨"HardShopModel", "innermost", "(I)I"⟩, 39), (⟨"HardShopModel", "hardness", "(I)I"⟩, 39), (⟨"HardShopModel", "massOf", "(I)I"⟩, 39), (⟨"HardShopModel", "loadOf", "(I)I"⟩, 39), (⟨"HardShopModel", "ticks", "(I)V"⟩, 39), (⟨"HardShopModel", "liveAt", "(II)I"⟩, 39), (⟨"HardShopModel", "running", "()I"⟩, 39), (⟨"HardShopModel", "isWell", "(I)Z"⟩, 39)]
theorem lw_r2 : ∀ q ∈ lw_privs_2, lw_okq q := List.forall_mem_cons.mpr ⟨lw_p16, List.forall_mem_cons.mpr ⟨lw_p17, List.forall_mem_cons.mpr ⟨lw_p18, List.forall_mem_cons.mpr ⟨lw_p19, List.forall_mem_cons.mpr ⟨lw_p20, List.forall_mem_cons.mpr ⟨lw_p21, List.forall_mem_cons.mpr ⟨lw_p22, List.forall_mem_cons.mpr ⟨lw_p23, List.forall_mem_cons.mpr ⟨lw_p24, List.forall_mem_cons.mpr ⟨lw_p25, List.forall_mem_cons.mpr ⟨lw_p26, List.forall_mem_cons.mpr ⟨lw_p27, List.forall_mem_cons.mpr ⟨lw_p28, List.forall_mem_cons.mpr ⟨lw_p29, List.forall_mem_cons.mpr ⟨lw_p30, List.forall_mem_cons.mpr ⟨lw_p31, fun _ h => absurd h List.not_mem_nil⟩⟩⟩⟩⟩⟩⟩⟩⟩⟩⟩⟩⟩⟩⟩⟩
theorem lw_p32 : lw_okq (⟨"HardShopModel", "weigh", "()V"⟩, 39) := ⟨⟨by decide +kernel, by decide +kernel⟩, List.mem_of_getElem? (i := 535) (by decide +kernel), List.mem_of_getElem? (i := 786) (by decide +kernel), List.mem_of_getElem? (i := 787) (by decide +kernel)⟩
theorem lw_p33 : lw_okq (⟨"HardShopModel", "lateBy", "(II)I"⟩, 39) := ⟨⟨by decide +kernel, by decide +kernel⟩, List.mem_of_getElem? (i := 535) (by decide +kernel), List.mem_of_getElem? (i := 791) (by decide +kernel), List.mem_of_getElem? (i := 792) (by decide +kernel)⟩
def lw_privs_3 : List (MethodName × Nat) := [(⟨"HardShopModel", "weigh", "()V"⟩, 39), (⟨"HardShopModel", "lateBy", "(II)I"⟩, 39)]
theorem lw_r3 : ∀ q ∈ lw_privs_3, lw_okq q := List.forall_mem_cons.mpr ⟨lw_p32, List.forall_mem_cons.mpr ⟨lw_p33, fun _ h => absurd h List.not_mem_nil⟩⟩
def lw_privs : List (MethodName × Nat) := lw_privs_1 ++ (lw_privs_2 ++ (lw_privs_3))
def lw_tbl : List Cond := k2_sels lw_privs ++ tables_1
theorem lw_privs_ok : ∀ q ∈ lw_privs, lw_okq q := by
  show ∀ q ∈ lw_privs_1 ++ (lw_privs_2 ++ (lw_privs_3)), lw_okq q
  exact List.forall_mem_append.mpr ⟨lw_r1, List.forall_mem_append.mpr ⟨lw_r2, lw_r3⟩⟩
def RX0 : String := "HardShop$Furnace"
def TX0 : u_T := fun k => match k with
  | 0 => ("HardShop$Furnace", "places", "[LHardShop$Part;", true)
  | 1 => ("HardShop$Furnace", "lost", "[Z", true)
  | 2 => ("HardShop$Furnace", "drift", "[I", true)
  | 3 => ("HardShop$Furnace", "ops", "[I", true)
  | 4 => ("HardShop$Furnace", "goals", "[I", true)
  | 5 => ("HardShop$Furnace", "lengths", "[I", true)
  | 6 => ("HardShop$Furnace", "lineCount", "I", false)
  | 7 => ("HardShop$Furnace", "lineNow", "I", false)
  | 8 => ("HardShop$Furnace", "error", "I", false)
  | 9 => ("HardShop$Furnace", "firstUnsurveyed", "I", false)
  | 10 => ("HardShop$Furnace", "gas", "I", false)
  | 11 => ("HardShop$Furnace", "counted", "I", false)
  | _ => ("HardShop$Furnace", "current", "LHardShop$Run;", false)
def tyX0 : Nat → FieldType := fun k => match k with
  | 0 => .array (.object "HardShop$Part")
  | 1 => .array .boolean
  | 2 => .array .int
  | 3 => .array .int
  | 4 => .array .int
  | 5 => .array .int
  | 6 => .int
  | 7 => .int
  | 8 => .int
  | 9 => .int
  | 10 => .int
  | 11 => .int
  | _ => .object "HardShop$Run"
abbrev wsX00 : List Cond := u_ws RX0 TX0 13
theorem nmX0 : ∀ a, a < 13 → ∀ b, b < 13 → a ≠ b → (TX0 a).2.1 ≠ (TX0 b).2.1 := by decide +kernel
theorem tyX0_ok : ∀ k, k < 13 → parseFieldDescriptor (TX0 k).2.2.1 = some (tyX0 k) := by decide +kernel
abbrev cX0_init : ByteArray := prog_2_method_1_code
def yX0_init : MethodName := ⟨RX0, "<init>", "()V"⟩
abbrev cX0_isRunning : ByteArray := prog_2_method_2_code
def yX0_isRunning : MethodName := ⟨RX0, "isRunning", "()Z"⟩
abbrev cX0_addLine : ByteArray := prog_2_method_3_code
def yX0_addLine : MethodName := ⟨RX0, "addLine", "(III)I"⟩
abbrev cX0_massInside : ByteArray := prog_2_method_4_code
def yX0_massInside : MethodName := ⟨RX0, "massInside", "()I"⟩
abbrev cX0_partsInside : ByteArray := prog_2_method_5_code
def yX0_partsInside : MethodName := ⟨RX0, "partsInside", "()I"⟩
abbrev cX0_begin : ByteArray := prog_2_method_6_code
def yX0_begin : MethodName := ⟨RX0, "begin", "(LHardShop$Run;)V"⟩
abbrev cX0_end : ByteArray := prog_2_method_7_code
def yX0_end : MethodName := ⟨RX0, "end", "(Z)V"⟩
abbrev cX0_doTick : ByteArray := prog_2_method_8_code
def yX0_doTick : MethodName := ⟨RX0, "doTick", "()V"⟩
abbrev cX0_gasByLine : ByteArray := prog_2_method_9_code
def yX0_gasByLine : MethodName := ⟨RX0, "gasByLine", "()I"⟩
abbrev cX0_gasNearer : ByteArray := prog_2_method_10_code
def yX0_gasNearer : MethodName := ⟨RX0, "gasNearer", "(II)I"⟩
abbrev cX0_lineIsOver : ByteArray := prog_2_method_11_code
def yX0_lineIsOver : MethodName := ⟨RX0, "lineIsOver", "(LHardShop$Run;)Z"⟩
abbrev cX0_countSoak : ByteArray := prog_2_method_12_code
def yX0_countSoak : MethodName := ⟨RX0, "countSoak", "(LHardShop$Run;)V"⟩
abbrev cX0_goToNextLine : ByteArray := prog_2_method_13_code
def yX0_goToNextLine : MethodName := ⟨RX0, "goToNextLine", "()V"⟩
abbrev cX0_tell : ByteArray := prog_2_method_14_code
def yX0_tell : MethodName := ⟨RX0, "tell", "(I)I"⟩
abbrev cX0_digestFrom : ByteArray := prog_2_method_15_code
def yX0_digestFrom : MethodName := ⟨RX0, "digestFrom", "(J)J"⟩
def RX1 : String := "HardShop$JobList"
def TX1 : u_T := fun k => match k with
  | 0 => ("HardShop$JobList", "times", "[I", true)
  | 1 => ("HardShop$JobList", "dues", "[I", true)
  | 2 => ("HardShop$JobList", "leastBehind", "[I", true)
  | 3 => ("HardShop$JobList", "best", "[I", true)
  | _ => ("HardShop$JobList", "size", "I", false)
def tyX1 : Nat → FieldType := fun k => match k with
  | 0 => .array .int
  | 1 => .array .int
  | 2 => .array .int
  | 3 => .array .int
  | _ => .int
abbrev wsX10 : List Cond := u_ws RX1 TX1 5
theorem nmX1 : ∀ a, a < 5 → ∀ b, b < 5 → a ≠ b → (TX1 a).2.1 ≠ (TX1 b).2.1 := by decide +kernel
theorem tyX1_ok : ∀ k, k < 5 → parseFieldDescriptor (TX1 k).2.2.1 = some (tyX1 k) := by decide +kernel
abbrev cX1_init : ByteArray := prog_3_method_1_code
def yX1_init : MethodName := ⟨RX1, "<init>", "()V"⟩
abbrev cX1_add : ByteArray := prog_3_method_2_code
def yX1_add : MethodName := ⟨RX1, "add", "(II)I"⟩
abbrev cX1_removeAll : ByteArray := prog_3_method_3_code
def yX1_removeAll : MethodName := ⟨RX1, "removeAll", "()I"⟩
abbrev cX1_leastLateness : ByteArray := prog_3_method_4_code
def yX1_leastLateness : MethodName := ⟨RX1, "leastLateness", "()I"⟩
abbrev cX1_plan : ByteArray := prog_3_method_5_code
def yX1_plan : MethodName := ⟨RX1, "plan", "()V"⟩
abbrev cX1_nextOf : ByteArray := prog_3_method_6_code
def yX1_nextOf : MethodName := ⟨RX1, "nextOf", "(I)I"⟩
abbrev cX1_latenessWith : ByteArray := prog_3_method_7_code
def yX1_latenessWith : MethodName := ⟨RX1, "latenessWith", "(II)I"⟩
def RX2 : String := "HardShop$Part"
def TX2 : u_T := fun k => match k with
  | 0 => ("HardShop$Part", "number", "I", true)
  | 1 => ("HardShop$Part", "mass", "I", true)
  | 2 => ("HardShop$Part", "shells", "[LHardShop$Shell;", true)
  | 3 => ("HardShop$Part", "k", "I", true)
  | 4 => ("HardShop$Part", "s", "I", true)
  | 5 => ("HardShop$Part", "p", "I", true)
  | 6 => ("HardShop$Part", "b", "I", true)
  | 7 => ("HardShop$Part", "allTaken", "J", false)
  | 8 => ("HardShop$Part", "inFurnace", "Z", false)
  | _ => ("HardShop$Part", "latestRun", "LHardShop$Run;", false)
def tyX2 : Nat → FieldType := fun k => match k with
  | 0 => .int
  | 1 => .int
  | 2 => .array (.object "HardShop$Shell")
  | 3 => .int
  | 4 => .int
  | 5 => .int
  | 6 => .int
  | 7 => .long
  | 8 => .boolean
  | _ => .object "HardShop$Run"
abbrev wsX20 : List Cond := u_ws RX2 TX2 10
theorem nmX2 : ∀ a, a < 10 → ∀ b, b < 10 → a ≠ b → (TX2 a).2.1 ≠ (TX2 b).2.1 := by decide +kernel
theorem tyX2_ok : ∀ k, k < 10 → parseFieldDescriptor (TX2 k).2.2.1 = some (tyX2 k) := by decide +kernel
abbrev cX2_init : ByteArray := prog_4_method_1_code
def yX2_init : MethodName := ⟨RX2, "<init>", "(IIIIIII)V"⟩
abbrev cX2_stepBeside : ByteArray := prog_4_method_2_code
def yX2_stepBeside : MethodName := ⟨RX2, "stepBeside", "(I)V"⟩
abbrev cX2_moveWarmth : ByteArray := prog_4_method_3_code
def yX2_moveWarmth : MethodName := ⟨RX2, "moveWarmth", "(I)V"⟩
abbrev cX2_flowFrom : ByteArray := prog_4_method_4_code
def yX2_flowFrom : MethodName := ⟨RX2, "flowFrom", "(I)I"⟩
abbrev cX2_innermostWarmth : ByteArray := prog_4_method_5_code
def yX2_innermostWarmth : MethodName := ⟨RX2, "innermostWarmth", "()I"⟩
abbrev cX2_warmthAstray : ByteArray := prog_4_method_6_code
def yX2_warmthAstray : MethodName := ⟨RX2, "warmthAstray", "()J"⟩
abbrev cX2_digestFrom : ByteArray := prog_4_method_7_code
def yX2_digestFrom : MethodName := ⟨RX2, "digestFrom", "(J)J"⟩
def RX3 : String := "HardShop$Run"
def TX3 : u_T := fun k => match k with
  | 0 => ("HardShop$Run", "furnace", "I", true)
  | 1 => ("HardShop$Run", "inDoubt", "Z", false)
  | 2 => ("HardShop$Run", "tooFewProbes", "Z", false)
  | 3 => ("HardShop$Run", "ticks", "I", false)
  | 4 => ("HardShop$Run", "over", "Z", false)
  | _ => ("HardShop$Run", "wentToEnd", "Z", false)
def tyX3 : Nat → FieldType := fun k => match k with
  | 0 => .int
  | 1 => .boolean
  | 2 => .boolean
  | 3 => .int
  | 4 => .boolean
  | _ => .boolean
abbrev wsX30 : List Cond := u_ws RX3 TX3 6
theorem nmX3 : ∀ a, a < 6 → ∀ b, b < 6 → a ≠ b → (TX3 a).2.1 ≠ (TX3 b).2.1 := by decide +kernel
theorem tyX3_ok : ∀ k, k < 6 → parseFieldDescriptor (TX3 k).2.2.1 = some (tyX3 k) := by decide +kernel
abbrev cX3_init : ByteArray := prog_5_method_1_code
def yX3_init : MethodName := ⟨RX3, "<init>", "(I)V"⟩
abbrev cX3_end : ByteArray := prog_5_method_2_code
def yX3_end : MethodName := ⟨RX3, "end", "(Z)V"⟩
abbrev cX3_isWell : ByteArray := prog_5_method_3_code
def yX3_isWell : MethodName := ⟨RX3, "isWell", "()Z"⟩
abbrev cX3_tell : ByteArray := prog_5_method_4_code
def yX3_tell : MethodName := ⟨RX3, "tell", "(I)I"⟩
abbrev cX3_digestFrom : ByteArray := prog_5_method_5_code
def yX3_digestFrom : MethodName := ⟨RX3, "digestFrom", "(J)J"⟩
def RX4 : String := "HardShop$Shell"
def TX4 : u_T := fun k => match k with
  | 0 => ("HardShop$Shell", "warmth", "I", false)
  | 1 => ("HardShop$Shell", "hot", "I", false)
  | 2 => ("HardShop$Shell", "lamellar", "I", false)
  | 3 => ("HardShop$Shell", "tough", "I", false)
  | 4 => ("HardShop$Shell", "hard", "I", false)
  | _ => ("HardShop$Shell", "drawn", "I", false)
def tyX4 : Nat → FieldType := fun k => match k with
  | 0 => .int
  | 1 => .int
  | 2 => .int
  | 3 => .int
  | 4 => .int
  | _ => .int
abbrev wsX40 : List Cond := u_ws RX4 TX4 6
theorem nmX4 : ∀ a, a < 6 → ∀ b, b < 6 → a ≠ b → (TX4 a).2.1 ≠ (TX4 b).2.1 := by decide +kernel
theorem tyX4_ok : ∀ k, k < 6 → parseFieldDescriptor (TX4 k).2.2.1 = some (tyX4 k) := by decide +kernel
abbrev cX4_init : ByteArray := prog_6_method_1_code
def yX4_init : MethodName := ⟨RX4, "<init>", "()V"⟩
abbrev cX4_change : ByteArray := prog_6_method_2_code
def yX4_change : MethodName := ⟨RX4, "change", "(II)V"⟩
abbrev cX4_becomeHot : ByteArray := prog_6_method_3_code
def yX4_becomeHot : MethodName := ⟨RX4, "becomeHot", "(I)V"⟩
abbrev cX4_becomeLamellar : ByteArray := prog_6_method_4_code
def yX4_becomeLamellar : MethodName := ⟨RX4, "becomeLamellar", "(I)V"⟩
abbrev cX4_becomeTough : ByteArray := prog_6_method_5_code
def yX4_becomeTough : MethodName := ⟨RX4, "becomeTough", "(I)V"⟩
abbrev cX4_becomeHard : ByteArray := prog_6_method_6_code
def yX4_becomeHard : MethodName := ⟨RX4, "becomeHard", "(I)V"⟩
abbrev cX4_draw : ByteArray := prog_6_method_7_code
def yX4_draw : MethodName := ⟨RX4, "draw", "()V"⟩
abbrev cX4_hardness : ByteArray := prog_6_method_8_code
def yX4_hardness : MethodName := ⟨RX4, "hardness", "()I"⟩
abbrev cX4_tell : ByteArray := prog_6_method_9_code
def yX4_tell : MethodName := ⟨RX4, "tell", "(I)I"⟩
def RX5 : String := "HardShop"
def TX5 : u_T := fun k => match k with
  | 0 => ("HardShop", "parts", "[LHardShop$Part;", true)
  | 1 => ("HardShop", "furnaces", "[LHardShop$Furnace;", true)
  | 2 => ("HardShop", "runs", "[LHardShop$Run;", true)
  | 3 => ("HardShop", "jobs", "LHardShop$JobList;", true)
  | 4 => ("HardShop", "partCount", "I", false)
  | _ => ("HardShop", "runCount", "I", false)
def tyX5 : Nat → FieldType := fun k => match k with
  | 0 => .array (.object "HardShop$Part")
  | 1 => .array (.object "HardShop$Furnace")
  | 2 => .array (.object "HardShop$Run")
  | 3 => .object "HardShop$JobList"
  | 4 => .int
  | _ => .int
abbrev wsX50 : List Cond := u_ws RX5 TX5 6
theorem nmX5 : ∀ a, a < 6 → ∀ b, b < 6 → a ≠ b → (TX5 a).2.1 ≠ (TX5 b).2.1 := by decide +kernel
theorem tyX5_ok : ∀ k, k < 6 → parseFieldDescriptor (TX5 k).2.2.1 = some (tyX5 k) := by decide +kernel
abbrev cX5_init : ByteArray := prog_1_method_1_code
def yX5_init : MethodName := ⟨RX5, "<init>", "()V"⟩
abbrev cX5_part : ByteArray := prog_1_method_2_code
def yX5_part : MethodName := ⟨RX5, "part", "(IIIIII)I"⟩
abbrev cX5_step : ByteArray := prog_1_method_3_code
def yX5_step : MethodName := ⟨RX5, "step", "(III)I"⟩
abbrev cX5_shell : ByteArray := prog_1_method_4_code
def yX5_shell : MethodName := ⟨RX5, "shell", "(III)I"⟩
abbrev cX5_taken : ByteArray := prog_1_method_5_code
def yX5_taken : MethodName := ⟨RX5, "taken", "(I)J"⟩
abbrev cX5_kept : ByteArray := prog_1_method_6_code
def yX5_kept : MethodName := ⟨RX5, "kept", "(I)J"⟩
abbrev cX5_line : ByteArray := prog_1_method_7_code
def yX5_line : MethodName := ⟨RX5, "line", "(IIII)I"⟩
abbrev cX5_clear : ByteArray := prog_1_method_8_code
def yX5_clear : MethodName := ⟨RX5, "clear", "(I)I"⟩
abbrev cX5_load : ByteArray := prog_1_method_9_code
def yX5_load : MethodName := ⟨RX5, "load", "(III)I"⟩
abbrev cX5_unload : ByteArray := prog_1_method_10_code
def yX5_unload : MethodName := ⟨RX5, "unload", "(II)I"⟩
abbrev cX5_probe : ByteArray := prog_1_method_11_code
def yX5_probe : MethodName := ⟨RX5, "probe", "(IIZI)I"⟩
abbrev cX5_run : ByteArray := prog_1_method_12_code
def yX5_run : MethodName := ⟨RX5, "run", "(I)I"⟩
abbrev cX5_tick : ByteArray := prog_1_method_13_code
def yX5_tick : MethodName := ⟨RX5, "tick", "(I)I"⟩
abbrev cX5_stop : ByteArray := prog_1_method_14_code
def yX5_stop : MethodName := ⟨RX5, "stop", "(I)I"⟩
abbrev cX5_survey : ByteArray := prog_1_method_15_code
def yX5_survey : MethodName := ⟨RX5, "survey", "(II)I"⟩
abbrev cX5_about : ByteArray := prog_1_method_16_code
def yX5_about : MethodName := ⟨RX5, "about", "(II)I"⟩
abbrev cX5_runAt : ByteArray := prog_1_method_17_code
def yX5_runAt : MethodName := ⟨RX5, "runAt", "(II)I"⟩
abbrev cX5_paper : ByteArray := prog_1_method_18_code
def yX5_paper : MethodName := ⟨RX5, "paper", "(III)I"⟩
abbrev cX5_job : ByteArray := prog_1_method_19_code
def yX5_job : MethodName := ⟨RX5, "job", "(II)I"⟩
abbrev cX5_clearJobs : ByteArray := prog_1_method_20_code
def yX5_clearJobs : MethodName := ⟨RX5, "clearJobs", "()I"⟩
abbrev cX5_lateness : ByteArray := prog_1_method_21_code
def yX5_lateness : MethodName := ⟨RX5, "lateness", "()I"⟩
abbrev cX5_order : ByteArray := prog_1_method_22_code
def yX5_order : MethodName := ⟨RX5, "order", "(I)I"⟩
abbrev cX5_count : ByteArray := prog_1_method_23_code
def yX5_count : MethodName := ⟨RX5, "count", "(I)I"⟩
abbrev cX5_digest : ByteArray := prog_1_method_24_code
def yX5_digest : MethodName := ⟨RX5, "digest", "()J"⟩
abbrev cX5_within : ByteArray := prog_1_method_25_code
def yX5_within : MethodName := ⟨RX5, "within", "(III)Z"⟩
abbrev cX5_lineIsAsTold : ByteArray := prog_1_method_26_code
def yX5_lineIsAsTold : MethodName := ⟨RX5, "lineIsAsTold", "(III)Z"⟩
abbrev cX5_partAt : ByteArray := prog_1_method_27_code
def yX5_partAt : MethodName := ⟨RX5, "partAt", "(I)LHardShop$Part;"⟩
abbrev cX5_furnaceAt : ByteArray := prog_1_method_28_code
def yX5_furnaceAt : MethodName := ⟨RX5, "furnaceAt", "(I)LHardShop$Furnace;"⟩
abbrev cX5_furnacesRunning : ByteArray := prog_1_method_29_code
def yX5_furnacesRunning : MethodName := ⟨RX5, "furnacesRunning", "()I"⟩
abbrev cX5_doubtRuns : ByteArray := prog_1_method_30_code
def yX5_doubtRuns : MethodName := ⟨RX5, "doubtRuns", "(II)I"⟩
abbrev cX5_runsInDoubt : ByteArray := prog_1_method_31_code
def yX5_runsInDoubt : MethodName := ⟨RX5, "runsInDoubt", "()I"⟩
abbrev cX5_truth : ByteArray := prog_1_method_32_code
def yX5_truth : MethodName := ⟨RX5, "truth", "(Z)I"⟩
def RX6 : String := "HardShopModel"
def TX6 : u_T := fun k => match k with
  | 0 => ("HardShopModel", "parts", "I", false)
  | 1 => ("HardShopModel", "shells", "[I", true)
  | 2 => ("HardShopModel", "masses", "[I", true)
  | 3 => ("HardShopModel", "inner", "[I", true)
  | 4 => ("HardShopModel", "outer", "[I", true)
  | 5 => ("HardShopModel", "rateP", "[I", true)
  | 6 => ("HardShopModel", "rateB", "[I", true)
  | 7 => ("HardShopModel", "took", "[J", true)
  | 8 => ("HardShopModel", "where", "[I", true)
  | 9 => ("HardShopModel", "runOf", "[I", true)
  | 10 => ("HardShopModel", "warmth", "[I", true)
  | 11 => ("HardShopModel", "share", "[I", true)
  | 12 => ("HardShopModel", "drawn", "[I", true)
  | 13 => ("HardShopModel", "flow", "[I", true)
  | 14 => ("HardShopModel", "gas", "[I", true)
  | 15 => ("HardShopModel", "error", "[I", true)
  | 16 => ("HardShopModel", "lines", "[I", true)
  | 17 => ("HardShopModel", "ops", "[I", true)
  | 18 => ("HardShopModel", "lineA", "[I", true)
  | 19 => ("HardShopModel", "lineB", "[I", true)
  | 20 => ("HardShopModel", "place", "[I", true)
  | 21 => ("HardShopModel", "isLive", "[Z", true)
  | 22 => ("HardShopModel", "drift", "[I", true)
  | 23 => ("HardShopModel", "runs", "[Z", true)
  | 24 => ("HardShopModel", "atLine", "[I", true)
  | 25 => ("HardShopModel", "counted", "[I", true)
  | 26 => ("HardShopModel", "ownRun", "[I", true)
  | 27 => ("HardShopModel", "since", "[I", true)
  | 28 => ("HardShopModel", "runMany", "I", false)
  | 29 => ("HardShopModel", "runFurnace", "[I", true)
  | 30 => ("HardShopModel", "runOver", "[Z", true)
  | 31 => ("HardShopModel", "runEnded", "[Z", true)
  | 32 => ("HardShopModel", "runBlind", "[Z", true)
  | 33 => ("HardShopModel", "runDoubt", "[Z", true)
  | 34 => ("HardShopModel", "runTicks", "[I", true)
  | 35 => ("HardShopModel", "jobs", "I", false)
  | 36 => ("HardShopModel", "times", "[I", true)
  | 37 => ("HardShopModel", "dues", "[I", true)
  | _ => ("HardShopModel", "late", "[I", true)
def tyX6 : Nat → FieldType := fun k => match k with
  | 0 => .int
  | 1 => .array .int
  | 2 => .array .int
  | 3 => .array .int
  | 4 => .array .int
  | 5 => .array .int
  | 6 => .array .int
  | 7 => .array .long
  | 8 => .array .int
  | 9 => .array .int
  | 10 => .array .int
  | 11 => .array .int
  | 12 => .array .int
  | 13 => .array .int
  | 14 => .array .int
  | 15 => .array .int
  | 16 => .array .int
  | 17 => .array .int
  | 18 => .array .int
  | 19 => .array .int
  | 20 => .array .int
  | 21 => .array .boolean
  | 22 => .array .int
  | 23 => .array .boolean
  | 24 => .array .int
  | 25 => .array .int
  | 26 => .array .int
  | 27 => .array .int
  | 28 => .int
  | 29 => .array .int
  | 30 => .array .boolean
  | 31 => .array .boolean
  | 32 => .array .boolean
  | 33 => .array .boolean
  | 34 => .array .int
  | 35 => .int
  | 36 => .array .int
  | 37 => .array .int
  | _ => .array .int
abbrev wsX60 : List Cond := u_ws RX6 TX6 39
theorem nmX6 : ∀ a, a < 39 → ∀ b, b < 39 → a ≠ b → (TX6 a).2.1 ≠ (TX6 b).2.1 := by decide +kernel
theorem tyX6_ok : ∀ k, k < 39 → parseFieldDescriptor (TX6 k).2.2.1 = some (tyX6 k) := by decide +kernel
abbrev cX6_in : ByteArray := prog_8_method_2_code
def yX6_in : MethodName := ⟨RX6, "in", "(III)Z"⟩
abbrev cX6_part : ByteArray := prog_8_method_3_code
def yX6_part : MethodName := ⟨RX6, "part", "(IIIIII)I"⟩
abbrev cX6_isPart : ByteArray := prog_8_method_4_code
def yX6_isPart : MethodName := ⟨RX6, "isPart", "(I)Z"⟩
abbrev cX6_steps : ByteArray := prog_8_method_5_code
def yX6_steps : MethodName := ⟨RX6, "steps", "(II)V"⟩
abbrev cX6_turn : ByteArray := prog_8_method_6_code
def yX6_turn : MethodName := ⟨RX6, "turn", "(IIII)I"⟩
abbrev cX6_change : ByteArray := prog_8_method_7_code
def yX6_change : MethodName := ⟨RX6, "change", "(II)V"⟩
abbrev cX6_hardness : ByteArray := prog_8_method_8_code
def yX6_hardness : MethodName := ⟨RX6, "hardness", "(I)I"⟩
abbrev cX6_innermost : ByteArray := prog_8_method_9_code
def yX6_innermost : MethodName := ⟨RX6, "innermost", "(I)I"⟩
abbrev cX6_step : ByteArray := prog_8_method_10_code
def yX6_step : MethodName := ⟨RX6, "step", "(III)I"⟩
abbrev cX6_shell : ByteArray := prog_8_method_11_code
def yX6_shell : MethodName := ⟨RX6, "shell", "(III)I"⟩
abbrev cX6_taken : ByteArray := prog_8_method_12_code
def yX6_taken : MethodName := ⟨RX6, "taken", "(I)J"⟩
abbrev cX6_kept : ByteArray := prog_8_method_13_code
def yX6_kept : MethodName := ⟨RX6, "kept", "(I)J"⟩
abbrev cX6_init : ByteArray := prog_8_method_14_code
def yX6_init : MethodName := ⟨RX6, "<init>", "()V"⟩
abbrev cX6_isFurnace : ByteArray := prog_8_method_15_code
def yX6_isFurnace : MethodName := ⟨RX6, "isFurnace", "(I)Z"⟩
abbrev cX6_isPlace : ByteArray := prog_8_method_16_code
def yX6_isPlace : MethodName := ⟨RX6, "isPlace", "(I)Z"⟩
abbrev cX6_line : ByteArray := prog_8_method_17_code
def yX6_line : MethodName := ⟨RX6, "line", "(IIII)I"⟩
abbrev cX6_clear : ByteArray := prog_8_method_18_code
def yX6_clear : MethodName := ⟨RX6, "clear", "(I)I"⟩
abbrev cX6_massOf : ByteArray := prog_8_method_19_code
def yX6_massOf : MethodName := ⟨RX6, "massOf", "(I)I"⟩
abbrev cX6_loadOf : ByteArray := prog_8_method_20_code
def yX6_loadOf : MethodName := ⟨RX6, "loadOf", "(I)I"⟩
abbrev cX6_load : ByteArray := prog_8_method_21_code
def yX6_load : MethodName := ⟨RX6, "load", "(III)I"⟩
abbrev cX6_unload : ByteArray := prog_8_method_22_code
def yX6_unload : MethodName := ⟨RX6, "unload", "(II)I"⟩
abbrev cX6_probe : ByteArray := prog_8_method_23_code
def yX6_probe : MethodName := ⟨RX6, "probe", "(IIZI)I"⟩
abbrev cX6_run : ByteArray := prog_8_method_24_code
def yX6_run : MethodName := ⟨RX6, "run", "(I)I"⟩
abbrev cX6_liveAt : ByteArray := prog_8_method_25_code
def yX6_liveAt : MethodName := ⟨RX6, "liveAt", "(II)I"⟩
abbrev cX6_ticks : ByteArray := prog_8_method_26_code
def yX6_ticks : MethodName := ⟨RX6, "ticks", "(I)V"⟩
abbrev cX6_running : ByteArray := prog_8_method_27_code
def yX6_running : MethodName := ⟨RX6, "running", "()I"⟩
abbrev cX6_tick : ByteArray := prog_8_method_28_code
def yX6_tick : MethodName := ⟨RX6, "tick", "(I)I"⟩
abbrev cX6_stop : ByteArray := prog_8_method_29_code
def yX6_stop : MethodName := ⟨RX6, "stop", "(I)I"⟩
abbrev cX6_survey : ByteArray := prog_8_method_30_code
def yX6_survey : MethodName := ⟨RX6, "survey", "(II)I"⟩
abbrev cX6_about : ByteArray := prog_8_method_31_code
def yX6_about : MethodName := ⟨RX6, "about", "(II)I"⟩
abbrev cX6_isWell : ByteArray := prog_8_method_32_code
def yX6_isWell : MethodName := ⟨RX6, "isWell", "(I)Z"⟩
abbrev cX6_runAt : ByteArray := prog_8_method_33_code
def yX6_runAt : MethodName := ⟨RX6, "runAt", "(II)I"⟩
abbrev cX6_paper : ByteArray := prog_8_method_34_code
def yX6_paper : MethodName := ⟨RX6, "paper", "(III)I"⟩
abbrev cX6_job : ByteArray := prog_8_method_35_code
def yX6_job : MethodName := ⟨RX6, "job", "(II)I"⟩
abbrev cX6_clearJobs : ByteArray := prog_8_method_36_code
def yX6_clearJobs : MethodName := ⟨RX6, "clearJobs", "()I"⟩
abbrev cX6_lateBy : ByteArray := prog_8_method_37_code
def yX6_lateBy : MethodName := ⟨RX6, "lateBy", "(II)I"⟩
abbrev cX6_weigh : ByteArray := prog_8_method_38_code
def yX6_weigh : MethodName := ⟨RX6, "weigh", "()V"⟩
abbrev cX6_lateness : ByteArray := prog_8_method_39_code
def yX6_lateness : MethodName := ⟨RX6, "lateness", "()I"⟩
abbrev cX6_order : ByteArray := prog_8_method_40_code
def yX6_order : MethodName := ⟨RX6, "order", "(I)I"⟩
abbrev cX6_count : ByteArray := prog_8_method_41_code
def yX6_count : MethodName := ⟨RX6, "count", "(I)I"⟩
abbrev cX6_digest : ByteArray := prog_8_method_42_code
def yX6_digest : MethodName := ⟨RX6, "digest", "()J"⟩
def RJ9 : String := "java/lang/Math"
def TJ9 : u_T := fun k => match k with
  | _ => ("", "", "", false)
def tyJ9 : Nat → FieldType := fun k => match k with
  | _ => .int
abbrev wsJ90 : List Cond := u_ws RJ9 TJ9 0
theorem nmJ9 : ∀ a, a < 0 → ∀ b, b < 0 → a ≠ b → (TJ9 a).2.1 ≠ (TJ9 b).2.1 := by decide +kernel
theorem tyJ9_ok : ∀ k, k < 0 → parseFieldDescriptor (TJ9 k).2.2.1 = some (tyJ9 k) := by decide +kernel
abbrev cJ9_max_7cf53 : ByteArray := prog_9_method_65_code
def yJ9_max_7cf53 : MethodName := ⟨RJ9, "max", "(II)I"⟩
abbrev cJ9_min_7cf53 : ByteArray := prog_9_method_69_code
def yJ9_min_7cf53 : MethodName := ⟨RJ9, "min", "(II)I"⟩
def RL : String := "HardShopLaw"
abbrev cL_law : ByteArray := code
def yL_law : MethodName := ⟨RL, "law", "([I)Z"⟩
abbrev vwCl : List vw_C := [(RX0, TX0, 13), (RX1, TX1, 5), (RX2, TX2, 10), (RX3, TX3, 6), (RX4, TX4, 6), (RX5, TX5, 6), (RX6, TX6, 39)]
end
section
/-! values, memory, kinds -/
abbrev V_ : Type := Int32 ⊕ Int64 ⊕ Option (Nat × Nat)
abbrev hv_i (x : Int32) : V_ := .inl x
abbrev hv_l (x : Int64) : V_ := .inr (.inl x)
abbrev hv_r (r : Option (Nat × Nat)) : V_ := .inr (.inr r)
def hv_c (ad : Nat → Nat → Nat) (v : V_) : Value := match v with
  | .inl x => .int x
  | .inr (.inl x) => .long x
  | .inr (.inr none) => .null
  | .inr (.inr (some q)) => .ref (ad q.1 q.2)
def hv_cat (v : V_) : Nat := match v with
  | .inr (.inl _) => 2
  | _ => 1
theorem hv_cat_c (ad : Nat → Nat → Nat) (v : V_) : (hv_c ad v).category = hv_cat v := by
  rcases v with x | x | (_ | q) <;> rfl
abbrev MI_ : Type := Nat → Nat → Nat → Int32
abbrev ML_ : Type := Nat → Nat → Nat → Int64
abbrev MR_ : Type := Nat → Nat → Nat → Option (Nat × Nat)
abbrev SH_ : Type := Nat → Nat → Option Nat
abbrev Me_ : Type := MI_ × ML_ × MR_ × SH_
def u_3 {α : Type} (m : Nat → Nat → Nat → α) (k i f : Nat) (x : α) : Nat → Nat → Nat → α := fun k' i' f' => if k' = k ∧ i' = i ∧ f' = f then x else m k' i' f'
def u_2 {α : Type} (m : Nat → Nat → α) (k i : Nat) (x : α) : Nat → Nat → α := fun k' i' => if k' = k ∧ i' = i then x else m k' i'
/-- a new cell: all its fields -/
def u_n {α : Type} (m : Nat → Nat → Nat → α) (k i : Nat) (x : α) : Nat → Nat → Nat → α := fun k' i' f' => if k' = k ∧ i' = i then x else m k' i' f'
/-- a kind's class, or its array's kind of element -/
def kd_ (k : Nat) : Nat ⊕ Nat := match k with
  | 1 => .inl 5
  | 2 => .inl 1
  | 3 => .inl 0
  | 4 => .inl 2
  | 5 => .inl 3
  | 6 => .inl 4
  | 7 => .inl 6
  | 8 => .inr 3
  | 9 => .inr 4
  | 10 => .inr 5
  | 15 => .inr 3
  | 16 => .inr 2
  | 21 => .inr 6
  | 37 => .inr 1
  | 51 => .inr 2
  | 53 => .inr 2
  | 60 => .inr 2
  | 61 => .inr 2
  | 62 => .inr 2
  | 63 => .inr 2
  | _ => .inr 0
def et_ (a : Nat) : FieldType := match a with
  | 0 => .int
  | 1 => .long
  | 2 => .boolean
  | 3 => .object RX2
  | 4 => .object RX0
  | 5 => .object RX3
  | _ => .object RX4
def ft_ (c : Nat) : Nat → FieldType := match c with
  | 0 => tyX0
  | 1 => tyX1
  | 2 => tyX2
  | 3 => tyX3
  | 4 => tyX4
  | 5 => tyX5
  | _ => tyX6
/-- a field's or an element's type: 0 an int, 1 a long, 2 a reference -/
def sort_ (ty : FieldType) : Nat := match ty with
  | .long => 1
  | .object _ => 2
  | .array _ => 2
  | _ => 0
def hm_v (ad : Nat → Nat → Nat) (ty : FieldType) (M : Me_) (k i f : Nat) : Value := match sort_ ty with
  | 0 => .int (M.1 k i f)
  | 1 => .long (M.2.1 k i f)
  | _ => hv_c ad (hv_r (M.2.2.1 k i f))
abbrev Hd_ : Type := (Nat → ClassId) × (Nat → Nat → Nat) × (Nat → ClassId)
abbrev tys_ (D : Hd_) : List (ClassId × FieldType) := [(D.2.2 0, .int), (D.2.2 1, .long), (D.2.2 2, .boolean), (D.2.2 3, .object RX2), (D.2.2 4, .object RX0), (D.2.2 5, .object RX3), (D.2.2 6, .object RX4)]
def nf_ (c : Nat) : Nat := match vwCl[c]? with
  | some q => q.2.2
  | none => 0
/-- a live cell of the memory, as the heap holds it -/
def hm_at (D : Hd_) (ad : Nat → Nat → Nat) (M : Me_) (U : State) (H : Heap) (k i n : Nat) : Prop := if k = 0 then
    (∃ scr : Cell, H[ad k i]? = some scr ∧ U.isArrayOf scr .int ∧ scr.vm ≠ .unknown ∧ scr.slots.size = n ∧ ∀ j : Nat, j < n → scr.slots[j]? = some (.int (M.1 k i j)))
  else match kd_ k with
    | .inl c => t_OB (ad k i) (D.1 c) (nf_ c) (D.2.1 c) H (fun f => hm_v ad (ft_ c f) M k i f)
    | .inr a => H[ad k i]? = some (arrV (D.2.2 a) n (fun j => hm_v ad (et_ a) M k i j))
def hm_R (D : Hd_) (ad : Nat → Nat → Nat) (base : Nat) (M : Me_) (U : State) (H : Heap) : Prop :=
  (∀ k i n, M.2.2.2 k i = some n → hm_at D ad M U H k i n) ∧ (∀ k i k' i' n n', M.2.2.2 k i = some n → M.2.2.2 k' i' = some n' → ad k i = ad k' i' → k = k' ∧ i = i') ∧ (∀ k i n, M.2.2.2 k i = some n → k ≠ 0 → base ≤ ad k i) ∧ base ≤ H.size ∧ (∀ k i f n q, M.2.2.2 k i = some n → M.2.2.1 k i f = some q → ∃ n', M.2.2.2 q.1 q.2 = some n')
/-- the words that every method may use -/
def gtbl : List Cond := lw_tbl.filter goodWord
theorem in_g {w : Cond} (i : Nat) (h : lw_tbl[i]? = some w) (hg : goodWord w = true) : w ∈ gtbl := List.mem_filter.mpr ⟨List.mem_of_getElem? h, hg⟩
theorem in_t {w : Cond} (i : Nat) (h : tables_1[i]? = some w) (hg : goodWord w = true) : w ∈ gtbl := List.mem_filter.mpr ⟨List.mem_append_right _ (List.mem_of_getElem? h), hg⟩
theorem gtbl_good {y : MethodName} {cc : ByteArray} {nL : Nat} {ret : Option FieldType} (h : Cond.code y cc nL ret ∈ gtbl) : GoodIn gtbl (Cond.code y cc nL ret :: gtbl) := fun w hw => by
  have hm : w ∈ gtbl := by
    rcases List.mem_cons.mp hw with rfl | h2
    · exact h
    · exact h2
  exact ⟨hm, good_of_word (List.mem_filter.mp hm).2⟩
/-- what the class table says, and the words that go with the state -/
def hm_K (D : Hd_) (U : State) : Prop := va_K (D.1, D.2.1) vwCl (tys_ D) U ∧
  (va_Nw (.methodLinkNest RX5 29 yX1_init RX5) U ∧ va_Nw (.methodLinkNest RX5 34 yX0_init RX5) U ∧ va_Nw (.methodLinkNest RX2 36 yX4_init RX5) U ∧ va_Nw (.methodLinkNest RX4 49 yX5_within RX5) U ∧ va_Nw (.methodLinkNest RX0 115 yX5_truth RX5) U ∧ va_Nw (.methodLinkNest RX3 25 yX5_truth RX5) U) ∧
  (va_AO RX2 U ∧ va_AO RX0 U ∧ va_AO RX3 U ∧ va_AO RX4 U)
theorem hm_K.warm {D : Hd_} {s U : State} (hW : s.WarmedH U.vm) (h : hm_K D s) : hm_K D U := by
  obtain ⟨h1, ⟨a1, a2, a3, a4, a5, a6⟩, b1, b2, b3, b4⟩ := h
  exact ⟨va_K.moved hW.alike h1, ⟨a1.warmM hW, a2.warmM hW, a3.warmM hW, a4.warmM hW, a5.warmM hW, a6.warmM hW⟩, b1.moved hW.alike, b2.moved hW.alike, b3.moved hW.alike, b4.moved hW.alike⟩
theorem hm_at.moved {D : Hd_} {ad : Nat → Nat → Nat} {M : Me_} {u U : State} {H : Heap} {k i n : Nat} (hvm : u.vm.Alike U.vm) (h : hm_at D ad M u H k i n) : hm_at D ad M U H k i n := by
  unfold hm_at at h ⊢
  by_cases hk : k = 0
  · rw [if_pos hk] at h ⊢
    obtain ⟨scr, h1, h2, h3⟩ := h
    exact ⟨scr, h1, State.isArrayOf_alike hvm h2, h3⟩
  · rw [if_neg hk] at h ⊢
    exact h
theorem hm_R.moved {D : Hd_} {ad : Nat → Nat → Nat} {base : Nat} {M : Me_} {u U : State} {H : Heap} (hvm : u.vm.Alike U.vm) (h : hm_R D ad base M u H) : hm_R D ad base M U H := ⟨fun k i n hn => (h.1 k i n hn).moved hvm, h.2⟩
end
section
/-! locals -/
def hl_as (ad : Nat → Nat → Nat) : Nat → List (Option V_) → List (Nat × Value)
  | _, [] => []
  | k, none :: r => hl_as ad (k + 1) r
  | k, some v :: r => (k, hv_c ad v) :: hl_as ad (k + 1) r
theorem hl_mem {ad : Nat → Nat → Nat} {q : Nat × Value} : ∀ {ls : List (Option V_)} {k : Nat}, q ∈ hl_as ad k ls ↔ ∃ j v, ls[j]? = some (some v) ∧ q = (k + j, hv_c ad v)
  | [], k => by simp [hl_as]
  | none :: r, k => by
    rw [hl_as, hl_mem]
    constructor
    · rintro ⟨j, v, h1, h2⟩
      exact ⟨j + 1, v, by simpa using h1, by rw [h2]; congr 1; omega⟩
    · rintro ⟨j, v, h1, h2⟩
      cases j with
      | zero => simp at h1
      | succ j => exact ⟨j, v, by simpa using h1, by rw [h2]; congr 1; omega⟩
  | some w :: r, k => by
    rw [hl_as, List.mem_cons, hl_mem]
    constructor
    · rintro (h | ⟨j, v, h1, h2⟩)
      · exact ⟨0, w, rfl, h⟩
      · exact ⟨j + 1, v, by simpa using h1, by rw [h2]; congr 1; omega⟩
    · rintro ⟨j, v, h1, h2⟩
      cases j with
      | zero =>
        simp at h1
        subst h1
        exact Or.inl h2
      | succ j => exact Or.inr ⟨j, v, by simpa using h1, by rw [h2]; congr 1; omega⟩
theorem hl_at {ad : Nat → Nat → Nat} {arr : Array Slot} {nL : Nat} {ls : List (Option V_)} {j : Nat} {v : V_} (h : lv_has arr nL (hl_as ad 0 ls)) (hj : ls[j]? = some (some v)) : arr[j]? = some (.val (hv_c ad v)) := h.2.2 (j, hv_c ad v) (hl_mem.mpr ⟨j, v, hj, by simp⟩)
def hl_nl (ls : List (Option V_)) (i : Nat) : Bool := match i with
  | 0 => true
  | j + 1 => match ls[j]? with
    | some (some (.inr (.inl _))) => false
    | _ => true
theorem hl_nl_ok {ls : List (Option V_)} {j : Nat} {v : V_} (h : hl_nl ls (j + 1) = true) (hj : ls[j]? = some (some v)) : hv_cat v = 1 := by
  rcases v with x | x | x
  · rfl
  · simp [hl_nl, hj] at h
  · rfl
theorem hl_set1 {ad : Nat → Nat → Nat} {arr : Array Slot} {nL i : Nat} {ls : List (Option V_)} {v : V_} (hn : hl_nl ls i = true)
    (h : lv_has arr nL ((i, hv_c ad v) :: (hl_as ad 0 ls).filter (fun q => !(q.1 == i) && !(q.1 + 1 == i && q.2.category == 2)))) : lv_has arr nL (hl_as ad 0 (ls.set i (some v))) := by
  refine ⟨h.1, h.2.1, fun q hq => h.2.2 q ?_⟩
  obtain ⟨j, w, h1, rfl⟩ := hl_mem.mp hq
  by_cases hj : j = i
  · subst hj
    have hlt : j < ls.length := by
      have := (List.getElem?_eq_some_iff.mp h1).1
      simpa using this
    rw [List.getElem?_set_self hlt] at h1
    cases h1
    simp
  · rw [List.getElem?_set_ne (Ne.symm hj)] at h1
    refine List.mem_cons_of_mem _ (List.mem_filter.mpr ⟨hl_mem.mpr ⟨j, w, h1, rfl⟩, ?_⟩)
    by_cases h2 : j + 1 = i
    · subst h2
      have := hl_nl_ok hn h1
      simp [hv_cat_c, this]
    · simp [hj, h2]
theorem hl_set2 {ad : Nat → Nat → Nat} {arr : Array Slot} {nL i : Nat} {ls : List (Option V_)} {v : V_} (hn : hl_nl ls i = true)
    (h : lv_has arr nL ((i, hv_c ad v) :: (hl_as ad 0 ls).filter (fun q => !(q.1 == i) && (!(q.1 == i + 1) && !(q.1 + 1 == i && q.2.category == 2))))) : lv_has arr nL (hl_as ad 0 ((ls.set i (some v)).set (i + 1) none)) := by
  refine ⟨h.1, h.2.1, fun q hq => h.2.2 q ?_⟩
  obtain ⟨j, w, h1, rfl⟩ := hl_mem.mp hq
  have hj1 : j ≠ i + 1 := by
    intro e
    subst e
    rw [List.getElem?_set] at h1
    split at h1
    · split at h1 <;> simp at h1
    · omega
  rw [List.getElem?_set_ne (Ne.symm hj1)] at h1
  by_cases hj : j = i
  · subst hj
    have hlt : j < ls.length := by
      have := (List.getElem?_eq_some_iff.mp h1).1
      simpa using this
    rw [List.getElem?_set_self hlt] at h1
    cases h1
    simp
  · rw [List.getElem?_set_ne (Ne.symm hj)] at h1
    refine List.mem_cons_of_mem _ (List.mem_filter.mpr ⟨hl_mem.mpr ⟨j, w, h1, rfl⟩, ?_⟩)
    by_cases h2 : j + 1 = i
    · subst h2
      have := hl_nl_ok hn h1
      simp [hv_cat_c, this]
      omega
    · simp [hj, hj1, h2]
/-! the judgement: method's data = code, own class, name, locals, result's type, room (frames, locals, cells, slots) -/
abbrev Md_ : Type := ByteArray × String × String × Nat × Option FieldType × Nat × Nat × Nat × Nat
abbrev md_cc (d : Md_) : ByteArray := d.1
abbrev md_own (d : Md_) : String := d.2.1
abbrev md_nm (d : Md_) : String := d.2.2.1
abbrev md_nL (d : Md_) : Nat := d.2.2.2.1
abbrev md_ret (d : Md_) : Option FieldType := d.2.2.2.2.1
abbrev md_fr (d : Md_) : Nat := d.2.2.2.2.2.1
abbrev md_lo (d : Md_) : Nat := d.2.2.2.2.2.2.1
abbrev md_mc (d : Md_) : Nat := d.2.2.2.2.2.2.2.1
abbrev md_ms (d : Md_) : Nat := d.2.2.2.2.2.2.2.2
abbrev md_rm (d : Md_) : Room := { frames := md_fr d, cells := md_mc d, slots := md_ms d, locals := md_lo d }
/-- what stands fast inside a method -/
def hg_X (d : Md_) (p : Program) (R : Room) (s : State) (m : MethodId) (args : Array Value) (meth : Method) (c : Code) (D : Hd_) : Prop :=
  p.tables.exec = Jvm.exec ∧ c.code = md_cc d ∧ meth.sig.returnType = md_ret d ∧ c.maxLocals = md_nL d ∧ s.vm.findClass (md_own d) = some m.cls ∧ (∀ w ∈ gtbl, w.before args s = true) ∧ meth.locks = false ∧ meth.name = md_nm d ∧ md_fr d ≤ R.frames ∧ md_lo d ≤ R.locals ∧ md_mc d ≤ R.cells ∧ md_ms d ≤ R.slots ∧ hm_K D s
/-- a method's end: answer and memory; cells stay where they were -/
def hg_Q (D : Hd_) (base : Nat) (sh0 : SH_) (ad0 : Nat → Nat → Nat) (al : Bool) (Q : Option V_ → Me_ → Prop) : Array Value → State → Outcome → State → Prop := fun _ _ oc t =>
  ∃ (v : Option V_) (M' : Me_) (ad' : Nat → Nat → Nat), oc = .returned (v.map (hv_c ad')) ∧ Q v M' ∧ hm_R D ad' base M' t t.heap ∧ (∀ k i n, sh0 k i = some n → ad' k i = ad0 k i) ∧ (al = false → ad' = ad0)
/-- all that moves inside a method -/
def hg_Y (d : Md_) (al : Bool) (sh0 : SH_) (bc bs : Nat) (ls : List (Option V_)) (M : Me_) (s : State) (D : Hd_) (ad0 ad : Nat → Nat → Nat) (base : Nat) (H : Heap) (locs : List Loc) (cells slots : Nat) (arr : Array Slot) : Prop :=
  hm_R D ad base M s H ∧ (∀ q ∈ locs, base ≤ q.base) ∧ cells + bc ≤ md_mc d ∧ slots + bs ≤ md_ms d ∧ (∀ k i n, sh0 k i = some n → ad k i = ad0 k i) ∧ (al = false → ad = ad0) ∧ lv_has arr (md_nL d) (hl_as ad 0 ls)
def hg_G (d : Md_) (al : Bool) (sh0 : SH_) (Q : Option V_ → Me_ → Prop) (bc bs : Nat) (pc : Nat) (ls : List (Option V_)) (st : List V_) (M : Me_) : Prop :=
  ∀ (p : Program) (l : Launch) (e : Env) (R : Room) (s : State) (m : MethodId) (args : Array Value) (below : List Frame) (meth : Method) (c : Code) (D : Hd_) (ad0 ad : Nat → Nat → Nat) (base : Nat) (H : Heap) (locs : List Loc) (cells slots : Nat) (arr : Array Slot),
    hg_X d p R s m args meth c D → hg_Y d al sh0 bc bs ls M s D ad0 ad base H locs cells slots arr →
    W p l e R s m args below meth c H locs cells slots (MQ below (hg_Q D base sh0 ad0 al Q) args s (md_mc d) (md_ms d) (fun q => base ≤ q)) (F0 m pc arr (st.map (hv_c ad)))
section HG
variable {d : Md_} {al : Bool} {sh0 : SH_} {Q : Option V_ → Me_ → Prop} {bc bs : Nat} {pc n : Nat} {ls : List (Option V_)} {st st' : List V_} {M : Me_}
theorem hg_pure (h : ∀ (p : Program) (l : Launch) (e : Env) (R : Room) (s : State) (m : MethodId) (args : Array Value) (below : List Frame) (meth : Method) (c : Code) (D : Hd_) (ad : Nat → Nat → Nat) (base : Nat) (H : Heap) (locs : List Loc) (cells slots : Nat) (arr : Array Slot) (Qf : State → Prop),
      hg_X d p R s m args meth c D → hm_R D ad base M s H → lv_has arr (md_nL d) (hl_as ad 0 ls) → cells ≤ R.cells → slots ≤ R.slots → W p l e R s m args below meth c H locs cells slots Qf (F0 m n arr (st'.map (hv_c ad))) → W p l e R s m args below meth c H locs cells slots Qf (F0 m pc arr (st.map (hv_c ad))))
    (kk : hg_G d al sh0 Q bc bs n ls st' M) : hg_G d al sh0 Q bc bs pc ls st M := by
  intro p l e R s m args below meth c D ad0 ad base H locs cells slots arr X Y
  exact h p l e R s m args below meth c D ad base H locs cells slots arr _ X Y.1 Y.2.2.2.2.2.2 (by have := X.2.2.2.2.2.2.2.2.2.2.1; have := Y.2.2.1; omega) (by have := X.2.2.2.2.2.2.2.2.2.2.2.1; have := Y.2.2.2.1; omega) (kk p l e R s m args below meth c D ad0 ad base H locs cells slots arr X Y)
theorem hg_iconst {k : Int} {v : Int32} (hd : decode (md_cc d) pc = .ok (.iconst k, 1)) (hn : pc + 1 = n) (hv : Int32.ofInt k = v) (kk : hg_G d al sh0 Q bc bs n ls (hv_i v :: st) M) : hg_G d al sh0 Q bc bs pc ls (st) M := by
  subst hn
  exact hg_pure (fun _ _ _ _ _ _ _ _ _ _ _ _ _ _ _ _ _ _ _ X _ hq _ _ k => lv_iconst X.1 X.2.1 hd hv k) kk
theorem hg_bipush {k : Int} {v : Int32} (hd : decode (md_cc d) pc = .ok (.bipush k, 2)) (hn : pc + 2 = n) (hv : (Int8.ofInt k).toInt32 = v) (kk : hg_G d al sh0 Q bc bs n ls (hv_i v :: st) M) : hg_G d al sh0 Q bc bs pc ls (st) M := by
  subst hn
  exact hg_pure (fun _ _ _ _ _ _ _ _ _ _ _ _ _ _ _ _ _ _ _ X _ hq _ _ k => lv_bipush X.1 X.2.1 hd hv k) kk
theorem hg_sipush {k : Int} {v : Int32} (hd : decode (md_cc d) pc = .ok (.sipush k, 3)) (hn : pc + 3 = n) (hv : (Int16.ofInt k).toInt32 = v) (kk : hg_G d al sh0 Q bc bs n ls (hv_i v :: st) M) : hg_G d al sh0 Q bc bs pc ls (st) M := by
  subst hn
  exact hg_pure (fun _ _ _ _ _ _ _ _ _ _ _ _ _ _ _ _ _ _ _ X _ hq _ _ k => lv_sipush X.1 X.2.1 hd hv k) kk
theorem hg_lconst {k : Fin 2} {v : Int64} (hd : decode (md_cc d) pc = .ok (.lconst k, 1)) (hn : pc + 1 = n) (hv : Int64.ofNat (k : Nat) = v) (kk : hg_G d al sh0 Q bc bs n ls (hv_l v :: st) M) : hg_G d al sh0 Q bc bs pc ls (st) M := by
  subst hn
  exact hg_pure (fun _ _ _ _ _ _ _ _ _ _ _ _ _ _ _ _ _ _ _ X _ hq _ _ k => lv_lconst X.1 X.2.1 hd hv k) kk
theorem hg_ldc {k : Nat} {v : Int32} (hd : decode (md_cc d) pc = .ok (.ldc k, 2)) (hn : pc + 2 = n) (hw : Cond.constant (md_own d) k v ∈ gtbl) (kk : hg_G d al sh0 Q bc bs n ls (hv_i v :: st) M) : hg_G d al sh0 Q bc bs pc ls (st) M := by
  subst hn
  exact hg_pure (fun _ _ _ _ _ _ _ _ _ _ _ _ _ _ _ _ _ _ _ X _ hq _ _ k => lv_ldc X.1 X.2.1 X.2.2.2.2.1 (X.2.2.2.2.2.1 _ hw) hd k) kk
theorem hg_ldc2 {k : Nat} {v : Int64} (hd : decode (md_cc d) pc = .ok (.ldc2_w k, 3)) (hn : pc + 3 = n) (hw : Cond.constantLong (md_own d) k v ∈ gtbl) (kk : hg_G d al sh0 Q bc bs n ls (hv_l v :: st) M) : hg_G d al sh0 Q bc bs pc ls (st) M := by
  subst hn
  exact hg_pure (fun _ _ _ _ _ _ _ _ _ _ _ _ _ _ _ _ _ _ _ X _ hq _ _ k => lv_ldc2 X.1 X.2.1 X.2.2.2.2.1 (X.2.2.2.2.2.1 _ hw) hd k) kk
theorem hg_null  (hd : decode (md_cc d) pc = .ok (.aconst_null, 1)) (hn : pc + 1 = n)  (kk : hg_G d al sh0 Q bc bs n ls (hv_r none :: st) M) : hg_G d al sh0 Q bc bs pc ls (st) M := by
  subst hn
  exact hg_pure (fun _ _ _ _ _ _ _ _ _ _ _ _ _ _ _ _ _ _ _ X _ hq _ _ k => lv_null X.1 X.2.1 hd k) kk
theorem hg_iadd {x y : Int32} (hd : decode (md_cc d) pc = .ok (.iadd, 1)) (hn : pc + 1 = n)  (kk : hg_G d al sh0 Q bc bs n ls (hv_i (x + y) :: st) M) : hg_G d al sh0 Q bc bs pc ls (hv_i y :: hv_i x :: st) M := by
  subst hn
  exact hg_pure (fun _ _ _ _ _ _ _ _ _ _ _ _ _ _ _ _ _ _ _ X _ hq _ _ k => lv_iadd X.1 X.2.1 hd k) kk
theorem hg_isub {x y : Int32} (hd : decode (md_cc d) pc = .ok (.isub, 1)) (hn : pc + 1 = n)  (kk : hg_G d al sh0 Q bc bs n ls (hv_i (x - y) :: st) M) : hg_G d al sh0 Q bc bs pc ls (hv_i y :: hv_i x :: st) M := by
  subst hn
  exact hg_pure (fun _ _ _ _ _ _ _ _ _ _ _ _ _ _ _ _ _ _ _ X _ hq _ _ k => lv_isub X.1 X.2.1 hd k) kk
theorem hg_imul {x y : Int32} (hd : decode (md_cc d) pc = .ok (.imul, 1)) (hn : pc + 1 = n)  (kk : hg_G d al sh0 Q bc bs n ls (hv_i (x * y) :: st) M) : hg_G d al sh0 Q bc bs pc ls (hv_i y :: hv_i x :: st) M := by
  subst hn
  exact hg_pure (fun _ _ _ _ _ _ _ _ _ _ _ _ _ _ _ _ _ _ _ X _ hq _ _ k => lv_imul X.1 X.2.1 hd k) kk
theorem hg_iand {x y : Int32} (hd : decode (md_cc d) pc = .ok (.iand, 1)) (hn : pc + 1 = n)  (kk : hg_G d al sh0 Q bc bs n ls (hv_i (x &&& y) :: st) M) : hg_G d al sh0 Q bc bs pc ls (hv_i y :: hv_i x :: st) M := by
  subst hn
  exact hg_pure (fun _ _ _ _ _ _ _ _ _ _ _ _ _ _ _ _ _ _ _ X _ hq _ _ k => lv_iand X.1 X.2.1 hd k) kk
theorem hg_ior {x y : Int32} (hd : decode (md_cc d) pc = .ok (.ior, 1)) (hn : pc + 1 = n)  (kk : hg_G d al sh0 Q bc bs n ls (hv_i (x ||| y) :: st) M) : hg_G d al sh0 Q bc bs pc ls (hv_i y :: hv_i x :: st) M := by
  subst hn
  exact hg_pure (fun _ _ _ _ _ _ _ _ _ _ _ _ _ _ _ _ _ _ _ X _ hq _ _ k => lv_ior X.1 X.2.1 hd k) kk
theorem hg_ishl {x y : Int32} (hd : decode (md_cc d) pc = .ok (.ishl, 1)) (hn : pc + 1 = n)  (kk : hg_G d al sh0 Q bc bs n ls (hv_i (x <<< (y &&& 31)) :: st) M) : hg_G d al sh0 Q bc bs pc ls (hv_i y :: hv_i x :: st) M := by
  subst hn
  exact hg_pure (fun _ _ _ _ _ _ _ _ _ _ _ _ _ _ _ _ _ _ _ X _ hq _ _ k => lv_ishl X.1 X.2.1 hd k) kk
theorem hg_ishr {x y : Int32} (hd : decode (md_cc d) pc = .ok (.ishr, 1)) (hn : pc + 1 = n)  (kk : hg_G d al sh0 Q bc bs n ls (hv_i (x >>> (y &&& 31)) :: st) M) : hg_G d al sh0 Q bc bs pc ls (hv_i y :: hv_i x :: st) M := by
  subst hn
  exact hg_pure (fun _ _ _ _ _ _ _ _ _ _ _ _ _ _ _ _ _ _ _ X _ hq _ _ k => lv_ishr X.1 X.2.1 hd k) kk
theorem hg_idiv {x y : Int32} (hd : decode (md_cc d) pc = .ok (.idiv, 1)) (hn : pc + 1 = n) (hy : ¬ y = 0) (kk : hg_G d al sh0 Q bc bs n ls (hv_i (x / y) :: st) M) : hg_G d al sh0 Q bc bs pc ls (hv_i y :: hv_i x :: st) M := by
  subst hn
  exact hg_pure (fun _ _ _ _ _ _ _ _ _ _ _ _ _ _ _ _ _ _ _ X _ hq _ _ k => lv_idiv X.1 X.2.1 hd hy k) kk
theorem hg_ladd {x y : Int64} (hd : decode (md_cc d) pc = .ok (.ladd, 1)) (hn : pc + 1 = n)  (kk : hg_G d al sh0 Q bc bs n ls (hv_l (x + y) :: st) M) : hg_G d al sh0 Q bc bs pc ls (hv_l y :: hv_l x :: st) M := by
  subst hn
  exact hg_pure (fun _ _ _ _ _ _ _ _ _ _ _ _ _ _ _ _ _ _ _ X _ hq _ _ k => lv_ladd X.1 X.2.1 hd k) kk
theorem hg_lsub {x y : Int64} (hd : decode (md_cc d) pc = .ok (.lsub, 1)) (hn : pc + 1 = n)  (kk : hg_G d al sh0 Q bc bs n ls (hv_l (x - y) :: st) M) : hg_G d al sh0 Q bc bs pc ls (hv_l y :: hv_l x :: st) M := by
  subst hn
  exact hg_pure (fun _ _ _ _ _ _ _ _ _ _ _ _ _ _ _ _ _ _ _ X _ hq _ _ k => lv_lsub X.1 X.2.1 hd k) kk
theorem hg_lmul {x y : Int64} (hd : decode (md_cc d) pc = .ok (.lmul, 1)) (hn : pc + 1 = n)  (kk : hg_G d al sh0 Q bc bs n ls (hv_l (x * y) :: st) M) : hg_G d al sh0 Q bc bs pc ls (hv_l y :: hv_l x :: st) M := by
  subst hn
  exact hg_pure (fun _ _ _ _ _ _ _ _ _ _ _ _ _ _ _ _ _ _ _ X _ hq _ _ k => lv_lmul X.1 X.2.1 hd k) kk
theorem hg_lneg {x : Int64} (hd : decode (md_cc d) pc = .ok (.lneg, 1)) (hn : pc + 1 = n)  (kk : hg_G d al sh0 Q bc bs n ls (hv_l (-x) :: st) M) : hg_G d al sh0 Q bc bs pc ls (hv_l x :: st) M := by
  subst hn
  exact hg_pure (fun _ _ _ _ _ _ _ _ _ _ _ _ _ _ _ _ _ _ _ X _ hq _ _ k => lv_lneg X.1 X.2.1 hd k) kk
theorem hg_i2l {x : Int32} (hd : decode (md_cc d) pc = .ok (.i2l, 1)) (hn : pc + 1 = n)  (kk : hg_G d al sh0 Q bc bs n ls (hv_l x.toInt64 :: st) M) : hg_G d al sh0 Q bc bs pc ls (hv_i x :: st) M := by
  subst hn
  exact hg_pure (fun _ _ _ _ _ _ _ _ _ _ _ _ _ _ _ _ _ _ _ X _ hq _ _ k => lv_i2l X.1 X.2.1 hd rfl k) kk
theorem hg_lcmp {x y : Int64} (hd : decode (md_cc d) pc = .ok (.lcmp, 1)) (hn : pc + 1 = n)  (kk : hg_G d al sh0 Q bc bs n ls (hv_i (lg_cmp x y) :: st) M) : hg_G d al sh0 Q bc bs pc ls (hv_l y :: hv_l x :: st) M := by
  subst hn
  exact hg_pure (fun _ _ _ _ _ _ _ _ _ _ _ _ _ _ _ _ _ _ _ X _ hq _ _ k => W.lcmp X.1 X.2.1 hd k) kk
theorem hg_dup {v : V_} (hd : decode (md_cc d) pc = .ok (.dup, 1)) (hn : pc + 1 = n) (hv : hv_cat v = 1) (kk : hg_G d al sh0 Q bc bs n ls (v :: v :: st) M) : hg_G d al sh0 Q bc bs pc ls (v :: st) M := by
  subst hn
  exact hg_pure (fun _ _ _ _ _ _ _ _ _ _ _ _ _ _ _ _ _ _ _ X _ hq _ _ k => lv_dup X.1 X.2.1 hd ((hv_cat_c _ _).trans hv) k) kk
theorem hg_dup2 {v w : V_} (hd : decode (md_cc d) pc = .ok (.dup2, 1)) (hn : pc + 1 = n) (hv : hv_cat v = 1) (hw : hv_cat w = 1) (kk : hg_G d al sh0 Q bc bs n ls (v :: w :: v :: w :: st) M) : hg_G d al sh0 Q bc bs pc ls (v :: w :: st) M := by
  subst hn
  exact hg_pure (fun _ _ _ _ _ _ _ _ _ _ _ _ _ _ _ _ _ _ _ X _ hq _ _ k => lv_dup2_11 X.1 X.2.1 hd ((hv_cat_c _ _).trans hv) ((hv_cat_c _ _).trans hw) k) kk
theorem hg_dup_x1 {v w : V_} (hd : decode (md_cc d) pc = .ok (.dup_x1, 1)) (hn : pc + 1 = n) (hv : hv_cat v = 1) (hw : hv_cat w = 1) (kk : hg_G d al sh0 Q bc bs n ls (v :: w :: v :: st) M) : hg_G d al sh0 Q bc bs pc ls (v :: w :: st) M := by
  subst hn
  exact hg_pure (fun _ _ _ _ _ _ _ _ _ _ _ _ _ _ _ _ _ _ _ X _ hq _ _ k => lv_dup_x1 X.1 X.2.1 hd ((hv_cat_c _ _).trans hv) ((hv_cat_c _ _).trans hw) k) kk
theorem hg_iload_n {k : Fin 4} {x : Int32} (hd : decode (md_cc d) pc = .ok (.iload_n k, 1)) (hn : pc + 1 = n) (hl : ls[(k : Nat)]? = some (some (hv_i x))) (kk : hg_G d al sh0 Q bc bs n ls (hv_i x :: st) M) : hg_G d al sh0 Q bc bs pc ls (st) M := by
  subst hn
  exact hg_pure (fun _ _ _ _ _ _ _ _ _ _ _ _ _ _ _ _ _ _ _ X _ hq _ _ k => lv_iload_n X.1 X.2.1 hd rfl (hl_at hq hl) k) kk
theorem hg_iload {k : Nat} {x : Int32} (hd : decode (md_cc d) pc = .ok (.iload k, 2)) (hn : pc + 2 = n) (hl : ls[k]? = some (some (hv_i x))) (kk : hg_G d al sh0 Q bc bs n ls (hv_i x :: st) M) : hg_G d al sh0 Q bc bs pc ls (st) M := by
  subst hn
  exact hg_pure (fun _ _ _ _ _ _ _ _ _ _ _ _ _ _ _ _ _ _ _ X _ hq _ _ k => lv_iload X.1 X.2.1 hd (hl_at hq hl) k) kk
theorem hg_lload_n {k : Fin 4} {x : Int64} (hd : decode (md_cc d) pc = .ok (.lload_n k, 1)) (hn : pc + 1 = n) (hl : ls[(k : Nat)]? = some (some (hv_l x))) (kk : hg_G d al sh0 Q bc bs n ls (hv_l x :: st) M) : hg_G d al sh0 Q bc bs pc ls (st) M := by
  subst hn
  exact hg_pure (fun _ _ _ _ _ _ _ _ _ _ _ _ _ _ _ _ _ _ _ X _ hq _ _ k => lv_lload_n X.1 X.2.1 hd rfl (hl_at hq hl) k) kk
theorem hg_lload {k : Nat} {x : Int64} (hd : decode (md_cc d) pc = .ok (.lload k, 2)) (hn : pc + 2 = n) (hl : ls[k]? = some (some (hv_l x))) (kk : hg_G d al sh0 Q bc bs n ls (hv_l x :: st) M) : hg_G d al sh0 Q bc bs pc ls (st) M := by
  subst hn
  exact hg_pure (fun _ _ _ _ _ _ _ _ _ _ _ _ _ _ _ _ _ _ _ X _ hq _ _ k => lv_lload X.1 X.2.1 hd (hl_at hq hl) k) kk
theorem hg_aload_n {k : Fin 4} {r : Option (Nat × Nat)} (hd : decode (md_cc d) pc = .ok (.aload_n k, 1)) (hn : pc + 1 = n) (hl : ls[(k : Nat)]? = some (some (hv_r r))) (kk : hg_G d al sh0 Q bc bs n ls (hv_r r :: st) M) : hg_G d al sh0 Q bc bs pc ls st M := by
  subst hn
  cases r with
  | none => exact hg_pure (fun _ _ _ _ _ _ _ _ _ _ _ _ _ _ _ _ _ _ _ X _ hq _ _ k => lv_aload_nN X.1 X.2.1 hd rfl (hl_at hq hl) k) kk
  | some q => exact hg_pure (fun _ _ _ _ _ _ _ _ _ _ _ _ _ _ _ _ _ _ _ X _ hq _ _ k => lv_aload_n X.1 X.2.1 hd rfl (hl_at hq hl) k) kk
theorem hg_aload {k : Nat} {r : Option (Nat × Nat)} (hd : decode (md_cc d) pc = .ok (.aload k, 2)) (hn : pc + 2 = n) (hl : ls[k]? = some (some (hv_r r))) (kk : hg_G d al sh0 Q bc bs n ls (hv_r r :: st) M) : hg_G d al sh0 Q bc bs pc ls st M := by
  subst hn
  cases r with
  | none => exact hg_pure (fun _ _ _ _ _ _ _ _ _ _ _ _ _ _ _ _ _ _ _ X _ hq _ _ k => lv_aloadN X.1 X.2.1 hd (hl_at hq hl) k) kk
  | some q => exact hg_pure (fun _ _ _ _ _ _ _ _ _ _ _ _ _ _ _ _ _ _ _ X _ hq _ _ k => lv_aload X.1 X.2.1 hd (hl_at hq hl) k) kk
theorem hg_istore_n {k : Fin 4} {x : Int32} (hd : decode (md_cc d) pc = .ok (.istore_n k, 1)) (hn : pc + 1 = n) (hi : (k : Nat) < md_nL d) (hz : hl_nl ls (k : Nat) = true) {ls' : List (Option V_)} (he : ls.set (k : Nat) (some (hv_i x)) = ls') (kk : hg_G d al sh0 Q bc bs n ls' st M) : hg_G d al sh0 Q bc bs pc ls (hv_i x :: st) M := by
  subst hn he
  intro p l e R s m args below meth c D ad0 ad base H locs cells slots arr X Y
  exact lv_istore_n X.1 X.2.1 hd rfl Y.2.2.2.2.2.2 hi rfl (fun arr' h' => kk p l e R s m args below meth c D ad0 ad base H locs cells slots arr' X ⟨Y.1, Y.2.1, Y.2.2.1, Y.2.2.2.1, Y.2.2.2.2.1, Y.2.2.2.2.2.1, hl_set1 (v := hv_i x) hz h'⟩)
theorem hg_istore {k : Nat} {x : Int32} (hd : decode (md_cc d) pc = .ok (.istore k, 2)) (hn : pc + 2 = n) (hi : k < md_nL d) (hz : hl_nl ls k = true) {ls' : List (Option V_)} (he : ls.set k (some (hv_i x)) = ls') (kk : hg_G d al sh0 Q bc bs n ls' st M) : hg_G d al sh0 Q bc bs pc ls (hv_i x :: st) M := by
  subst hn he
  intro p l e R s m args below meth c D ad0 ad base H locs cells slots arr X Y
  exact lv_istore X.1 X.2.1 hd Y.2.2.2.2.2.2 hi rfl (fun arr' h' => kk p l e R s m args below meth c D ad0 ad base H locs cells slots arr' X ⟨Y.1, Y.2.1, Y.2.2.1, Y.2.2.2.1, Y.2.2.2.2.1, Y.2.2.2.2.2.1, hl_set1 (v := hv_i x) hz h'⟩)
theorem hg_lstore_n {k : Fin 4} {x : Int64} (hd : decode (md_cc d) pc = .ok (.lstore_n k, 1)) (hn : pc + 1 = n) (hi : (k : Nat) + 1 < md_nL d) (hz : hl_nl ls (k : Nat) = true) {ls' : List (Option V_)} (he : (ls.set (k : Nat) (some (hv_l x))).set ((k : Nat) + 1) none = ls') (kk : hg_G d al sh0 Q bc bs n ls' st M) : hg_G d al sh0 Q bc bs pc ls (hv_l x :: st) M := by
  subst hn he
  intro p l e R s m args below meth c D ad0 ad base H locs cells slots arr X Y
  exact lv_lstore_n X.1 X.2.1 hd rfl Y.2.2.2.2.2.2 hi rfl (fun arr' h' => kk p l e R s m args below meth c D ad0 ad base H locs cells slots arr' X ⟨Y.1, Y.2.1, Y.2.2.1, Y.2.2.2.1, Y.2.2.2.2.1, Y.2.2.2.2.2.1, hl_set2 (v := hv_l x) hz h'⟩)
theorem hg_astore_n {k : Fin 4} {r : Option (Nat × Nat)} (hd : decode (md_cc d) pc = .ok (.astore_n k, 1)) (hn : pc + 1 = n) (hi : (k : Nat) < md_nL d) (hz : hl_nl ls (k : Nat) = true) {ls' : List (Option V_)} (he : ls.set (k : Nat) (some (hv_r r)) = ls') (kk : hg_G d al sh0 Q bc bs n ls' st M) : hg_G d al sh0 Q bc bs pc ls (hv_r r :: st) M := by
  subst hn he
  intro p l e R s m args below meth c D ad0 ad base H locs cells slots arr X Y
  cases r with
  | none => exact lv_astore_nN X.1 X.2.1 hd rfl Y.2.2.2.2.2.2 hi rfl (fun arr' h' => kk p l e R s m args below meth c D ad0 ad base H locs cells slots arr' X ⟨Y.1, Y.2.1, Y.2.2.1, Y.2.2.2.1, Y.2.2.2.2.1, Y.2.2.2.2.2.1, hl_set1 (v := hv_r none) hz h'⟩)
  | some q => exact lv_astore_n X.1 X.2.1 hd rfl Y.2.2.2.2.2.2 hi rfl (fun arr' h' => kk p l e R s m args below meth c D ad0 ad base H locs cells slots arr' X ⟨Y.1, Y.2.1, Y.2.2.1, Y.2.2.2.1, Y.2.2.2.2.1, Y.2.2.2.2.2.1, hl_set1 (v := hv_r (some q)) hz h'⟩)
theorem hg_astore {k : Nat} {r : Option (Nat × Nat)} (hd : decode (md_cc d) pc = .ok (.astore k, 2)) (hn : pc + 2 = n) (hi : k < md_nL d) (hz : hl_nl ls k = true) {ls' : List (Option V_)} (he : ls.set k (some (hv_r r)) = ls') (kk : hg_G d al sh0 Q bc bs n ls' st M) : hg_G d al sh0 Q bc bs pc ls (hv_r r :: st) M := by
  subst hn he
  intro p l e R s m args below meth c D ad0 ad base H locs cells slots arr X Y
  cases r with
  | none => exact lv_astoreN X.1 X.2.1 hd Y.2.2.2.2.2.2 hi rfl (fun arr' h' => kk p l e R s m args below meth c D ad0 ad base H locs cells slots arr' X ⟨Y.1, Y.2.1, Y.2.2.1, Y.2.2.2.1, Y.2.2.2.2.1, Y.2.2.2.2.2.1, hl_set1 (v := hv_r none) hz h'⟩)
  | some q => exact lv_astore X.1 X.2.1 hd Y.2.2.2.2.2.2 hi rfl (fun arr' h' => kk p l e R s m args below meth c D ad0 ad base H locs cells slots arr' X ⟨Y.1, Y.2.1, Y.2.2.1, Y.2.2.2.1, Y.2.2.2.2.1, Y.2.2.2.2.2.1, hl_set1 (v := hv_r (some q)) hz h'⟩)
theorem hg_iinc {k : Nat} {z : Int} {x v : Int32} (hd : decode (md_cc d) pc = .ok (.iinc k z, 3)) (hn : pc + 3 = n) (hl : ls[k]? = some (some (hv_i x))) (hv : x + Int32.ofInt z = v) (hi : k < md_nL d) (hz : hl_nl ls k = true) {ls' : List (Option V_)} (he : ls.set k (some (hv_i v)) = ls') (kk : hg_G d al sh0 Q bc bs n ls' st M) : hg_G d al sh0 Q bc bs pc ls st M := by
  subst hn he
  intro p l e R s m args below meth c D ad0 ad base H locs cells slots arr X Y
  obtain ⟨j, hj⟩ := List.getElem?_of_mem (hl_mem (ad := ad) (k := 0).mpr ⟨k, hv_i x, hl, rfl⟩)
  rw [Nat.zero_add] at hj
  exact lv_iinc X.1 X.2.1 hd Y.2.2.2.2.2.2 hj hv hi rfl (fun arr' h' => kk p l e R s m args below meth c D ad0 ad base H locs cells slots arr' X ⟨Y.1, Y.2.1, Y.2.2.1, Y.2.2.2.1, Y.2.2.2.2.1, Y.2.2.2.2.2.1, hl_set1 (v := hv_i v) hz h'⟩)
theorem hg_icmp_lt {x y : Int32} {off : Int} {tgt : Nat} (hd : decode (md_cc d) pc = .ok (.if_icmp .lt off, 3)) (hn : pc + 3 = n) (ht : (pc : Int) + off = (tgt : Int)) (kt : x < y → hg_G d al sh0 Q bc bs tgt ls st M) (kf : ¬ x < y → hg_G d al sh0 Q bc bs n ls st M) : hg_G d al sh0 Q bc bs pc ls (hv_i y :: hv_i x :: st) M := by
  subst hn
  intro p l e R s m args below meth c D ad0 ad base H locs cells slots arr X Y
  exact lv_icmp_lt X.1 X.2.1 hd ht (fun h => kt h p l e R s m args below meth c D ad0 ad base H locs cells slots arr X Y) (fun h => kf h p l e R s m args below meth c D ad0 ad base H locs cells slots arr X Y)
theorem hg_if_lt {x : Int32} {off : Int} {tgt : Nat} (hd : decode (md_cc d) pc = .ok (.ifCond .lt off, 3)) (hn : pc + 3 = n) (ht : (pc : Int) + off = (tgt : Int)) (kt : x < 0 → hg_G d al sh0 Q bc bs tgt ls st M) (kf : ¬ x < 0 → hg_G d al sh0 Q bc bs n ls st M) : hg_G d al sh0 Q bc bs pc ls (hv_i x :: st) M := by
  subst hn
  intro p l e R s m args below meth c D ad0 ad base H locs cells slots arr X Y
  exact lv_if_lt X.1 X.2.1 hd ht (fun h => kt h p l e R s m args below meth c D ad0 ad base H locs cells slots arr X Y) (fun h => kf h p l e R s m args below meth c D ad0 ad base H locs cells slots arr X Y)
theorem hg_icmp_ge {x y : Int32} {off : Int} {tgt : Nat} (hd : decode (md_cc d) pc = .ok (.if_icmp .ge off, 3)) (hn : pc + 3 = n) (ht : (pc : Int) + off = (tgt : Int)) (kt : y ≤ x → hg_G d al sh0 Q bc bs tgt ls st M) (kf : ¬ y ≤ x → hg_G d al sh0 Q bc bs n ls st M) : hg_G d al sh0 Q bc bs pc ls (hv_i y :: hv_i x :: st) M := by
  subst hn
  intro p l e R s m args below meth c D ad0 ad base H locs cells slots arr X Y
  exact lv_icmp_ge X.1 X.2.1 hd ht (fun h => kt h p l e R s m args below meth c D ad0 ad base H locs cells slots arr X Y) (fun h => kf h p l e R s m args below meth c D ad0 ad base H locs cells slots arr X Y)
theorem hg_if_ge {x : Int32} {off : Int} {tgt : Nat} (hd : decode (md_cc d) pc = .ok (.ifCond .ge off, 3)) (hn : pc + 3 = n) (ht : (pc : Int) + off = (tgt : Int)) (kt : 0 ≤ x → hg_G d al sh0 Q bc bs tgt ls st M) (kf : ¬ 0 ≤ x → hg_G d al sh0 Q bc bs n ls st M) : hg_G d al sh0 Q bc bs pc ls (hv_i x :: st) M := by
  subst hn
  intro p l e R s m args below meth c D ad0 ad base H locs cells slots arr X Y
  exact lv_if_ge X.1 X.2.1 hd ht (fun h => kt h p l e R s m args below meth c D ad0 ad base H locs cells slots arr X Y) (fun h => kf h p l e R s m args below meth c D ad0 ad base H locs cells slots arr X Y)
theorem hg_icmp_eq {x y : Int32} {off : Int} {tgt : Nat} (hd : decode (md_cc d) pc = .ok (.if_icmp .eq off, 3)) (hn : pc + 3 = n) (ht : (pc : Int) + off = (tgt : Int)) (kt : x = y → hg_G d al sh0 Q bc bs tgt ls st M) (kf : ¬ x = y → hg_G d al sh0 Q bc bs n ls st M) : hg_G d al sh0 Q bc bs pc ls (hv_i y :: hv_i x :: st) M := by
  subst hn
  intro p l e R s m args below meth c D ad0 ad base H locs cells slots arr X Y
  exact lv_icmp_eq X.1 X.2.1 hd ht (fun h => kt h p l e R s m args below meth c D ad0 ad base H locs cells slots arr X Y) (fun h => kf h p l e R s m args below meth c D ad0 ad base H locs cells slots arr X Y)
theorem hg_if_eq {x : Int32} {off : Int} {tgt : Nat} (hd : decode (md_cc d) pc = .ok (.ifCond .eq off, 3)) (hn : pc + 3 = n) (ht : (pc : Int) + off = (tgt : Int)) (kt : x = 0 → hg_G d al sh0 Q bc bs tgt ls st M) (kf : ¬ x = 0 → hg_G d al sh0 Q bc bs n ls st M) : hg_G d al sh0 Q bc bs pc ls (hv_i x :: st) M := by
  subst hn
  intro p l e R s m args below meth c D ad0 ad base H locs cells slots arr X Y
  exact lv_if_eq X.1 X.2.1 hd ht (fun h => kt h p l e R s m args below meth c D ad0 ad base H locs cells slots arr X Y) (fun h => kf h p l e R s m args below meth c D ad0 ad base H locs cells slots arr X Y)
theorem hg_icmp_ne {x y : Int32} {off : Int} {tgt : Nat} (hd : decode (md_cc d) pc = .ok (.if_icmp .ne off, 3)) (hn : pc + 3 = n) (ht : (pc : Int) + off = (tgt : Int)) (kt : ¬ x = y → hg_G d al sh0 Q bc bs tgt ls st M) (kf : x = y → hg_G d al sh0 Q bc bs n ls st M) : hg_G d al sh0 Q bc bs pc ls (hv_i y :: hv_i x :: st) M := by
  subst hn
  intro p l e R s m args below meth c D ad0 ad base H locs cells slots arr X Y
  exact lv_icmp_ne X.1 X.2.1 hd ht (fun h => kt h p l e R s m args below meth c D ad0 ad base H locs cells slots arr X Y) (fun h => kf h p l e R s m args below meth c D ad0 ad base H locs cells slots arr X Y)
theorem hg_if_ne {x : Int32} {off : Int} {tgt : Nat} (hd : decode (md_cc d) pc = .ok (.ifCond .ne off, 3)) (hn : pc + 3 = n) (ht : (pc : Int) + off = (tgt : Int)) (kt : ¬ x = 0 → hg_G d al sh0 Q bc bs tgt ls st M) (kf : x = 0 → hg_G d al sh0 Q bc bs n ls st M) : hg_G d al sh0 Q bc bs pc ls (hv_i x :: st) M := by
  subst hn
  intro p l e R s m args below meth c D ad0 ad base H locs cells slots arr X Y
  exact lv_if_ne X.1 X.2.1 hd ht (fun h => kt h p l e R s m args below meth c D ad0 ad base H locs cells slots arr X Y) (fun h => kf h p l e R s m args below meth c D ad0 ad base H locs cells slots arr X Y)
theorem hg_icmp_gt {x y : Int32} {off : Int} {tgt : Nat} (hd : decode (md_cc d) pc = .ok (.if_icmp .gt off, 3)) (hn : pc + 3 = n) (ht : (pc : Int) + off = (tgt : Int)) (kt : y < x → hg_G d al sh0 Q bc bs tgt ls st M) (kf : ¬ y < x → hg_G d al sh0 Q bc bs n ls st M) : hg_G d al sh0 Q bc bs pc ls (hv_i y :: hv_i x :: st) M := by
  subst hn
  intro p l e R s m args below meth c D ad0 ad base H locs cells slots arr X Y
  exact lv_icmp_gt X.1 X.2.1 hd ht (fun h => kt h p l e R s m args below meth c D ad0 ad base H locs cells slots arr X Y) (fun h => kf h p l e R s m args below meth c D ad0 ad base H locs cells slots arr X Y)
theorem hg_if_gt {x : Int32} {off : Int} {tgt : Nat} (hd : decode (md_cc d) pc = .ok (.ifCond .gt off, 3)) (hn : pc + 3 = n) (ht : (pc : Int) + off = (tgt : Int)) (kt : 0 < x → hg_G d al sh0 Q bc bs tgt ls st M) (kf : ¬ 0 < x → hg_G d al sh0 Q bc bs n ls st M) : hg_G d al sh0 Q bc bs pc ls (hv_i x :: st) M := by
  subst hn
  intro p l e R s m args below meth c D ad0 ad base H locs cells slots arr X Y
  exact lv_if_gt X.1 X.2.1 hd ht (fun h => kt h p l e R s m args below meth c D ad0 ad base H locs cells slots arr X Y) (fun h => kf h p l e R s m args below meth c D ad0 ad base H locs cells slots arr X Y)
theorem hg_icmp_le {x y : Int32} {off : Int} {tgt : Nat} (hd : decode (md_cc d) pc = .ok (.if_icmp .le off, 3)) (hn : pc + 3 = n) (ht : (pc : Int) + off = (tgt : Int)) (kt : x ≤ y → hg_G d al sh0 Q bc bs tgt ls st M) (kf : ¬ x ≤ y → hg_G d al sh0 Q bc bs n ls st M) : hg_G d al sh0 Q bc bs pc ls (hv_i y :: hv_i x :: st) M := by
  subst hn
  intro p l e R s m args below meth c D ad0 ad base H locs cells slots arr X Y
  exact lv_icmp_le X.1 X.2.1 hd ht (fun h => kt h p l e R s m args below meth c D ad0 ad base H locs cells slots arr X Y) (fun h => kf h p l e R s m args below meth c D ad0 ad base H locs cells slots arr X Y)
theorem hg_if_le {x : Int32} {off : Int} {tgt : Nat} (hd : decode (md_cc d) pc = .ok (.ifCond .le off, 3)) (hn : pc + 3 = n) (ht : (pc : Int) + off = (tgt : Int)) (kt : x ≤ 0 → hg_G d al sh0 Q bc bs tgt ls st M) (kf : ¬ x ≤ 0 → hg_G d al sh0 Q bc bs n ls st M) : hg_G d al sh0 Q bc bs pc ls (hv_i x :: st) M := by
  subst hn
  intro p l e R s m args below meth c D ad0 ad base H locs cells slots arr X Y
  exact lv_if_le X.1 X.2.1 hd ht (fun h => kt h p l e R s m args below meth c D ad0 ad base H locs cells slots arr X Y) (fun h => kf h p l e R s m args below meth c D ad0 ad base H locs cells slots arr X Y)
theorem hg_goto {off : Int} {tgt : Nat} (hd : decode (md_cc d) pc = .ok (.goto off, 3)) (ht : (pc : Int) + off = (tgt : Int)) (kk : hg_G d al sh0 Q bc bs tgt ls st M) : hg_G d al sh0 Q bc bs pc ls st M :=
  hg_pure (fun _ _ _ _ _ _ _ _ _ _ _ _ _ _ _ _ _ _ _ X _ _ _ _ k => lv_goto X.1 X.2.1 hd ht k) kk
theorem hg_ifnull {r : Option (Nat × Nat)} {off : Int} {tgt : Nat} (hd : decode (md_cc d) pc = .ok (.ifnull off, 3)) (hn : pc + 3 = n) (ht : (pc : Int) + off = (tgt : Int)) (kt : r = none → hg_G d al sh0 Q bc bs tgt ls st M) (kf : ∀ q, r = some q → hg_G d al sh0 Q bc bs n ls st M) : hg_G d al sh0 Q bc bs pc ls (hv_r r :: st) M := by
  subst hn
  cases r with
  | none => exact hg_pure (fun _ _ _ _ _ _ _ _ _ _ _ _ _ _ _ _ _ _ _ X _ _ _ _ k => lv_ifnullN X.1 X.2.1 hd ht k) (kt rfl)
  | some q => exact hg_pure (fun _ _ _ _ _ _ _ _ _ _ _ _ _ _ _ _ _ _ _ X _ _ _ _ k => lv_ifnull X.1 X.2.1 hd k) (kf q rfl)
theorem hg_ifnonnull {r : Option (Nat × Nat)} {off : Int} {tgt : Nat} (hd : decode (md_cc d) pc = .ok (.ifnonnull off, 3)) (hn : pc + 3 = n) (ht : (pc : Int) + off = (tgt : Int)) (kt : ∀ q, r = some q → hg_G d al sh0 Q bc bs tgt ls st M) (kf : r = none → hg_G d al sh0 Q bc bs n ls st M) : hg_G d al sh0 Q bc bs pc ls (hv_r r :: st) M := by
  subst hn
  cases r with
  | none => exact hg_pure (fun _ _ _ _ _ _ _ _ _ _ _ _ _ _ _ _ _ _ _ X _ _ _ _ k => lv_ifnonnullN X.1 X.2.1 hd k) (kf rfl)
  | some q => exact hg_pure (fun _ _ _ _ _ _ _ _ _ _ _ _ _ _ _ _ _ _ _ X _ _ _ _ k => lv_ifnonnull X.1 X.2.1 hd ht k) (kt q rfl)
theorem hg_tableIn {dflt lo hi : Int} {offs : Array Int} {len : Nat} {x : Int32} {off : Int} {tgt : Nat} (hd : decode (md_cc d) pc = .ok (.tableswitch dflt lo hi offs, len)) (h1 : ¬ x.toInt < lo) (h2 : ¬ hi < x.toInt) (ho : offs[(x.toInt - lo).toNat]? = some off) (ht : (pc : Int) + off = (tgt : Int)) (kk : hg_G d al sh0 Q bc bs tgt ls st M) : hg_G d al sh0 Q bc bs pc ls (hv_i x :: st) M :=
  hg_pure (fun _ _ _ _ _ _ _ _ _ _ _ _ _ _ _ _ _ _ _ X _ _ _ _ k => lv_tableIn X.1 X.2.1 hd h1 h2 ho ht k) kk
theorem hg_tableOut {dflt lo hi : Int} {offs : Array Int} {len : Nat} {x : Int32} {tgt : Nat} (hd : decode (md_cc d) pc = .ok (.tableswitch dflt lo hi offs, len)) (h : x.toInt < lo ∨ hi < x.toInt) (ht : (pc : Int) + dflt = (tgt : Int)) (kk : hg_G d al sh0 Q bc bs tgt ls st M) : hg_G d al sh0 Q bc bs pc ls (hv_i x :: st) M :=
  hg_pure (fun _ _ _ _ _ _ _ _ _ _ _ _ _ _ _ _ _ _ _ X _ _ _ _ k => lv_tableOut X.1 X.2.1 hd h ht k) kk
end HG
end
section
/-! memory: fields, arrays -/
/-- a class's table -/
def hc_C (c : Nat) (C : String) (T : u_T) (N : Nat) : Prop := vwCl[c]? = some (C, T, N) ∧ (∀ w ∈ u_ws C T N, w ∈ gtbl) ∧ (∀ k, k < N → parseFieldDescriptor (T k).2.2.1 = some (ft_ c k)) ∧ (∀ a, a < N → ∀ b, b < N → a ≠ b → (T a).2.1 ≠ (T b).2.1) ∧ Cond.instantiable C N ∈ gtbl ∧ Cond.initialized C ∈ gtbl
/-- a field, as class 'own' spells it -/
def hf_L (own : String) (idx c f : Nat) (fin : Bool) : Prop := ∃ (C : String) (T : u_T) (N : Nat), hc_C c C T N ∧ f < N ∧ Cond.fieldLink own idx (T f).1 (T f).2.1 (T f).2.2.1 ∈ gtbl ∧ (T f).2.2.2 = fin ∧ (T f).1 = C
theorem nf_of {c : Nat} {q : vw_C} (h : vwCl[c]? = some q) : nf_ c = q.2.2 := by simp [nf_, h]
/-- M' is M but for one place -/
def hm_up (M M' : Me_) (k i f : Nat) : Prop := M'.2.2.2 = M.2.2.2 ∧ ∀ k' i' f', ¬ (k' = k ∧ i' = i ∧ f' = f) → M'.1 k' i' f' = M.1 k' i' f' ∧ M'.2.1 k' i' f' = M.2.1 k' i' f' ∧ M'.2.2.1 k' i' f' = M.2.2.1 k' i' f'
theorem hm_v_same {ad : Nat → Nat → Nat} {ty : FieldType} {M M' : Me_} {k i f : Nat} (h : M'.1 k i f = M.1 k i f ∧ M'.2.1 k i f = M.2.1 k i f ∧ M'.2.2.1 k i f = M.2.2.1 k i f) : hm_v ad ty M' k i f = hm_v ad ty M k i f := by
  unfold hm_v
  split
  · rw [h.1]
  · rw [h.2.1]
  · rw [h.2.2]
theorem t_OB.toV {o : Nat} {cC : ClassId} {N : Nat} {iS : Nat → Nat} {H : Heap} {V V' : Nat → Value} (h : t_OB o cC N iS H V) (hv : ∀ k, V k = V' k) : t_OB o cC N iS H V' := h.to (fun k _ => hv k)
theorem arrV_to {cA : ClassId} {n : Nat} {f g : Nat → Value} (h : ∀ j, f j = g j) : arrV cA n f = arrV cA n g := by rw [funext h]
/-- a cell whose own place of the heap, and whose own rows of the memory, are as they were -/
theorem hm_at.kept {D : Hd_} {ad : Nat → Nat → Nat} {M M' : Me_} {U : State} {H H' : Heap} {k i n : Nat} (h : hm_at D ad M U H k i n) (hq : H'[ad k i]? = H[ad k i]?) (hm : ∀ f, M'.1 k i f = M.1 k i f ∧ M'.2.1 k i f = M.2.1 k i f ∧ M'.2.2.1 k i f = M.2.2.1 k i f) : hm_at D ad M' U H' k i n := by
  unfold hm_at at h ⊢
  by_cases hk : k = 0
  · rw [if_pos hk] at h ⊢
    obtain ⟨scr, h1, h2, h3, h4, h5⟩ := h
    exact ⟨scr, by rw [hq]; exact h1, h2, h3, h4, fun j hj => by rw [h5 j hj, (hm j).1]⟩
  · rw [if_neg hk] at h ⊢
    split
    · rename_i c hc
      rw [hc] at h
      exact (h.kept hq).toV (fun f => (hm_v_same (hm f)).symm)
    · rename_i a hc
      rw [hc] at h
      rw [hq, h, arrV_to (fun f => (hm_v_same (hm f)).symm)]
theorem hm_R.put {D : Hd_} {ad : Nat → Nat → Nat} {base : Nat} {M M' : Me_} {U : State} {H H' : Heap} {k i f n0 : Nat} (h : hm_R D ad base M U H) (hup : hm_up M M' k i f) (hl : M.2.2.2 k i = some n0) (hz : H'.size = H.size) (hq : ∀ q : Nat, q ≠ ad k i → H'[q]? = H[q]?) (ha : hm_at D ad M' U H' k i n0) (hlv : M'.2.2.1 k i f = M.2.2.1 k i f ∨ ∀ q, M'.2.2.1 k i f = some q → ∃ n', M.2.2.2 q.1 q.2 = some n') : hm_R D ad base M' U H' := by
  obtain ⟨h1, h2, h3, h4, h5⟩ := h
  refine ⟨fun k' i' n hn => ?_, ?_, ?_, by rw [hz]; exact h4, fun k' i' f' n q hn hq' => ?_⟩
  · rw [hup.1] at hn
    by_cases e : k' = k ∧ i' = i
    · obtain ⟨rfl, rfl⟩ := e
      rw [hl] at hn
      cases hn
      exact ha
    · exact (h1 k' i' n hn).kept (hq _ (fun z => e (h2 k' i' k i n n0 hn hl z))) (fun f' => hup.2 k' i' f' (fun z => e ⟨z.1, z.2.1⟩))
  · rw [hup.1]; exact h2
  · rw [hup.1]; exact h3
  · rw [hup.1] at hn ⊢
    by_cases e : k' = k ∧ i' = i ∧ f' = f
    · obtain ⟨rfl, rfl, rfl⟩ := e
      rcases hlv with h | h
      · rw [h] at hq'
        exact h5 _ _ _ _ _ hn hq'
      · exact h q hq'
    · rw [(hup.2 k' i' f' e).2.2] at hq'
      exact h5 _ _ _ _ _ hn hq'
theorem hm_upI {mi : MI_} {ml : ML_} {mr : MR_} {sh : SH_} {k i f : Nat} {x : Int32} : hm_up (mi, ml, mr, sh) (u_3 mi k i f x, ml, mr, sh) k i f := ⟨rfl, fun k' i' f' h => ⟨by simp [u_3, h], rfl, rfl⟩⟩
theorem hm_upL {mi : MI_} {ml : ML_} {mr : MR_} {sh : SH_} {k i f : Nat} {x : Int64} : hm_up (mi, ml, mr, sh) (mi, u_3 ml k i f x, mr, sh) k i f := ⟨rfl, fun k' i' f' h => ⟨rfl, by simp [u_3, h], rfl⟩⟩
theorem hm_upR {mi : MI_} {ml : ML_} {mr : MR_} {sh : SH_} {k i f : Nat} {x : Option (Nat × Nat)} : hm_up (mi, ml, mr, sh) (mi, ml, u_3 mr k i f x, sh) k i f := ⟨rfl, fun k' i' f' h => ⟨rfl, rfl, by simp [u_3, h]⟩⟩
theorem kd_ne0 {k c : Nat} (h : kd_ k = .inl c) : k ≠ 0 := by
  intro e
  subst e
  cases h
theorem hm_obj {D : Hd_} {ad : Nat → Nat → Nat} {M : Me_} {U : State} {H : Heap} {k i n c : Nat} (h : hm_at D ad M U H k i n) (hk : kd_ k = .inl c) : t_OB (ad k i) (D.1 c) (nf_ c) (D.2.1 c) H (fun f => hm_v ad (ft_ c f) M k i f) := by
  unfold hm_at at h
  rw [if_neg (kd_ne0 hk), hk] at h
  exact h
theorem hm_arr {D : Hd_} {ad : Nat → Nat → Nat} {M : Me_} {U : State} {H : Heap} {k i n a : Nat} (h : hm_at D ad M U H k i n) (h0 : k ≠ 0) (hk : kd_ k = .inr a) : H[ad k i]? = some (arrV (D.2.2 a) n (fun j => hm_v ad (et_ a) M k i j)) := by
  unfold hm_at at h
  rw [if_neg h0, hk] at h
  exact h
section HM
variable {d : Md_} {al : Bool} {sh0 : SH_} {Q : Option V_ → Me_ → Prop} {bc bs : Nat} {pc n : Nat} {ls : List (Option V_)} {st : List V_} {M M' : Me_}
theorem hg_get {k i len c f idx : Nat} {fin : Bool} {v : V_} (hd : decode (md_cc d) pc = .ok (.getfield idx, 3)) (hn : pc + 3 = n) (hL : hf_L (md_own d) idx c f fin) (hk : kd_ k = .inl c) (hs : M.2.2.2 k i = some len) (hv : ∀ ad, hm_v ad (ft_ c f) M k i f = hv_c ad v) (kk : hg_G d al sh0 Q bc bs n ls (v :: st) M) : hg_G d al sh0 Q bc bs pc ls (hv_r (some (k, i)) :: st) M := by
  subst hn
  obtain ⟨C, T, N, ⟨hc, hin, hty, hnm, -, -⟩, hf, hlk, hfin, hdecl⟩ := hL
  refine hg_pure (fun p l e R s m args below meth cd D ad base H locs cells slots arr Qf X hR hq _ _ kk => ?_) kk
  obtain ⟨cell, q1, q2, q3, q4⟩ := hm_obj (hR.1 k i len hs) hk
  have hK : va_K (D.1, D.2.1) vwCl (tys_ D) s := X.2.2.2.2.2.2.2.2.2.2.2.2.1
  obtain ⟨hS, hfc, kC, hkC, hkind⟩ := hK.1 c _ hc
  obtain ⟨cf, kf, fi, fd, hi, hsl⟩ := hS f hf
  have hN : f < nf_ c := by rw [nf_of hc]; exact hf
  refine W.getf X.1 X.2.1 X.2.2.2.2.1 (X.2.2.2.2.2.1 _ hlk) hi (u_facts hfc hkC (u_lays X.2.2.2.2.2.1 hin hf) hi).1 q1 (by rw [q3]; exact fun h => by cases h) (v := hv_c ad v) ?_ rfl rfl hd kk
  rw [hsl]
  exact (q4 f hN).trans (congrArg some (hv ad))
theorem hg_putG {k i len c f idx : Nat} {v : V_} (hd : decode (md_cc d) pc = .ok (.putfield idx, 3)) (hn : pc + 3 = n) {fin : Bool} (hL : hf_L (md_own d) idx c f fin) (hfo : fin = true → md_nm d = "<init>" ∧ ∃ C T N, vwCl[c]? = some (C, T, N) ∧ C = md_own d) (hk : kd_ k = .inl c) (hs : M.2.2.2 k i = some len) (hup : hm_up M M' k i f) (hv : ∀ ad, hm_v ad (ft_ c f) M' k i f = hv_c ad v)
    (hna : ∀ ad, narrow (ft_ c f) (hv_c ad v) = hv_c ad v) (hfi : ∀ ad, fits (ft_ c f) (hv_c ad v) = true) (hlv : M'.2.2.1 k i f = M.2.2.1 k i f ∨ ∀ q, M'.2.2.1 k i f = some q → ∃ n', M.2.2.2 q.1 q.2 = some n') (kk : hg_G d al sh0 Q bc bs n ls st M') : hg_G d al sh0 Q bc bs pc ls (v :: hv_r (some (k, i)) :: st) M := by
  subst hn
  obtain ⟨C, T, N, ⟨hc, hin, hty, hnm, -, -⟩, hf, hlk, hfin, hdecl⟩ := hL
  intro p l e R s m args below meth cd D ad0 ad base H locs cells slots arr X Y
  have hR := Y.1
  obtain ⟨cell, q1, q2, q3, q4⟩ := hm_obj (hR.1 k i len hs) hk
  have hK : va_K (D.1, D.2.1) vwCl (tys_ D) s := X.2.2.2.2.2.2.2.2.2.2.2.2.1
  have hts := X.2.2.2.2.2.1
  have hap := va_apart (own := C) hts hin (ft_ c) hty hnm hK hc
  obtain ⟨hS, hfc, kC, hkC, hkind⟩ := hK.1 c _ hc
  obtain ⟨cf, kf, fi, fd, hi, hsl⟩ := hS f hf
  have eN : nf_ c = N := nf_of hc
  have hN : f < nf_ c := by rw [eN]; exact hf
  have hst := (u_facts hfc hkC (u_lays hts hin hf) hi).1
  have hlay := hts _ (hin _ (u_in_lay hf))
  unfold u_lay at hlay
  have fin2 : ∀ H' : Heap, H'[ad k i]? = some (cell.setSlot (D.2.1 c f) (hv_c ad v)) → H'.size = H.size → (∀ q, q ≠ ad k i → H'[q]? = H[q]?) → W p l e R s m args below meth cd H' (locs ++ [⟨ad k i, fd.slot⟩]) cells slots (MQ below (hg_Q D base sh0 ad0 al Q) args s (md_mc d) (md_ms d) (fun q => base ≤ q)) (F0 m (pc + 3) arr (st.map (hv_c ad))) := by
    intro H' e1 e2 e3
    refine kk p l e R s m args below meth cd D ad0 ad base H' (locs ++ [⟨ad k i, fd.slot⟩]) cells slots arr X ⟨hR.put hup hs e2 e3 ?_ hlv, fun q hq => ?_, Y.2.2⟩
    · unfold hm_at
      rw [if_neg (kd_ne0 hk), hk]
      refine t_OB.toV (V := updV (fun f => hm_v ad (ft_ c f) M k i f) f (hv_c ad v)) ⟨_, e1, q2, q3, fun j hj => t_set q4 (fun a b ha hb => hap a b (by rw [← eN]; exact ha) (by rw [← eN]; exact hb)) hN (hv_c ad v) j hj⟩ (fun j => ?_)
      by_cases hj : j = f
      · subst hj
        simp [updV, hv ad]
      · simp only [updV, if_neg hj]
        exact (hm_v_same (hup.2 k i j (fun z => hj z.2.2))).symm
    · rcases List.mem_append.mp hq with h1 | h1
      · exact Y.2.1 q h1
      · rw [List.mem_singleton.mp h1]
        exact hR.2.2.1 k i len hs (kd_ne0 hk)
  cases fin with
  | false =>
    rw [if_neg (by rw [hfin]; decide)] at hlay
    have h6 := u_store hfc hkC hkind hlay hi (hty f hf) (hna ad) (hfi ad)
    refine W.putK X.1 X.2.1 (f := fd) ⟨X.2.2.2.2.1, hts _ hlk, ⟨_, _, _, hi⟩, hst⟩ (by rw [q2]; exact h6) q1 q3 (by rw [hsl]; exact k2_hasslot (q4 f hN)) rfl rfl hd fun H' e1 e2 e3 => ?_
    rw [hsl] at e1
    exact fin2 H' e1 e2 e3
  | true =>
    rw [if_pos hfin] at hlay
    obtain ⟨hnmI, C', T', N', hc', hown'⟩ := hfo rfl
    have hCo : C = md_own d := by
      rw [hc] at hc'
      cases hc'
      exact hown'
    have hcf : m.cls = cf := by
      obtain ⟨_, _, c', _, _, _, -, -, hf', -, -, -, hown2, -⟩ := Cond.laysFinal_spec hlay
      have e1 : c' = cf := by have := hi.symm.trans hf'; simp at this; exact this.1.symm
      rw [hdecl, hCo] at hown2
      rw [← e1]; exact Option.some.inj (X.2.2.2.2.1.symm.trans hown2)
    have h6 := u_fits hfc hkC hkind (Or.inr hlay) hi (hty f hf) (hna ad) (hfi ad)
    refine W.putFinK X.1 X.2.1 X.2.2.2.2.1 (hts _ hlk) hi hst hcf (X.2.2.2.2.2.2.2.1.trans hnmI) (by rw [q2]; exact h6) q1 q3 (by rw [hsl]; exact k2_hasslot (q4 f hN)) rfl rfl hd fun H' e1 e2 e3 => ?_
    rw [hsl] at e1
    exact fin2 H' e1 e2 e3
variable {mi : MI_} {ml : ML_} {mr : MR_} {sh : SH_}
theorem hg_getI {k i len c f idx : Nat} {fin : Bool} (hd : decode (md_cc d) pc = .ok (.getfield idx, 3)) (hn : pc + 3 = n) (hL : hf_L (md_own d) idx c f fin) (hk : kd_ k = .inl c) (hty : sort_ (ft_ c f) = 0) (hs : sh k i = some len) (kk : hg_G d al sh0 Q bc bs n ls (hv_i (mi k i f) :: st) (mi, ml, mr, sh)) : hg_G d al sh0 Q bc bs pc ls (hv_r (some (k, i)) :: st) (mi, ml, mr, sh) :=
  hg_get hd hn hL hk hs (fun ad => by unfold hm_v; rw [hty]; rfl) kk
theorem hg_getL {k i len c f idx : Nat} {fin : Bool} (hd : decode (md_cc d) pc = .ok (.getfield idx, 3)) (hn : pc + 3 = n) (hL : hf_L (md_own d) idx c f fin) (hk : kd_ k = .inl c) (hty : sort_ (ft_ c f) = 1) (hs : sh k i = some len) (kk : hg_G d al sh0 Q bc bs n ls (hv_l (ml k i f) :: st) (mi, ml, mr, sh)) : hg_G d al sh0 Q bc bs pc ls (hv_r (some (k, i)) :: st) (mi, ml, mr, sh) :=
  hg_get hd hn hL hk hs (fun ad => by unfold hm_v; rw [hty]; rfl) kk
theorem hg_getR {k i len c f idx : Nat} {fin : Bool} {r : Option (Nat × Nat)} (hd : decode (md_cc d) pc = .ok (.getfield idx, 3)) (hn : pc + 3 = n) (hL : hf_L (md_own d) idx c f fin) (hk : kd_ k = .inl c) (hty : sort_ (ft_ c f) = 2) (hs : sh k i = some len) (hr : mr k i f = r) (kk : hg_G d al sh0 Q bc bs n ls (hv_r r :: st) (mi, ml, mr, sh)) : hg_G d al sh0 Q bc bs pc ls (hv_r (some (k, i)) :: st) (mi, ml, mr, sh) := by
  subst hr
  exact hg_get hd hn hL hk hs (fun ad => by unfold hm_v; rw [hty]; rfl) kk
theorem fits_int (x : Int32) : fits .int (.int x) = true := rfl
theorem nar_ty {ty : FieldType} (h : ty = .int) (x : Int32) : narrow ty (.int x) = .int x ∧ fits ty (.int x) = true := by subst h; exact ⟨rfl, rfl⟩
theorem nar_tl {ty : FieldType} (h : ty = .long) (x : Int64) : narrow ty (.long x) = .long x ∧ fits ty (.long x) = true := by subst h; exact ⟨rfl, rfl⟩
theorem nar_tz {ty : FieldType} (h : ty = .boolean) {x : Int32} (hx : x = 0 ∨ x = 1) : narrow ty (.int x) = .int x ∧ fits ty (.int x) = true := by subst h; rcases hx with rfl | rfl <;> exact ⟨by decide, by decide⟩
theorem nar_tr {ty : FieldType} (h : sort_ ty = 2) (ad : Nat → Nat → Nat) (r : Option (Nat × Nat)) : narrow ty (hv_c ad (hv_r r)) = hv_c ad (hv_r r) ∧ fits ty (hv_c ad (hv_r r)) = true := by
  cases ty <;> simp [sort_] at h <;> cases r <;> exact ⟨rfl, rfl⟩
theorem hg_putI {k i len c f idx : Nat} {x : Int32} (hd : decode (md_cc d) pc = .ok (.putfield idx, 3)) (hn : pc + 3 = n) (hL : hf_L (md_own d) idx c f false) (hk : kd_ k = .inl c) (hty : ft_ c f = .int) (hs : sh k i = some len) (kk : hg_G d al sh0 Q bc bs n ls st (u_3 mi k i f x, ml, mr, sh)) : hg_G d al sh0 Q bc bs pc ls (hv_i x :: hv_r (some (k, i)) :: st) (mi, ml, mr, sh) :=
  hg_putG hd hn hL (fun h => by cases h) hk hs hm_upI (fun ad => by unfold hm_v; rw [hty]; simp [sort_, u_3, hv_c]) (fun _ => (nar_ty hty x).1) (fun _ => (nar_ty hty x).2) (Or.inl rfl) kk
theorem hg_putIF {k i len c f idx : Nat} {x : Int32} {C : String} {T : u_T} {N : Nat} (hd : decode (md_cc d) pc = .ok (.putfield idx, 3)) (hn : pc + 3 = n) (hL : hf_L (md_own d) idx c f true) (hnm : md_nm d = "<init>") (hcl : vwCl[c]? = some (C, T, N)) (hC : C = md_own d) (hk : kd_ k = .inl c) (hty : ft_ c f = .int) (hs : sh k i = some len) (kk : hg_G d al sh0 Q bc bs n ls st (u_3 mi k i f x, ml, mr, sh)) : hg_G d al sh0 Q bc bs pc ls (hv_i x :: hv_r (some (k, i)) :: st) (mi, ml, mr, sh) :=
  hg_putG hd hn hL (fun _ => ⟨hnm, C, T, N, hcl, hC⟩) hk hs hm_upI (fun ad => by unfold hm_v; rw [hty]; simp [sort_, u_3, hv_c]) (fun _ => (nar_ty hty x).1) (fun _ => (nar_ty hty x).2) (Or.inl rfl) kk
theorem hg_putZ {k i len c f idx : Nat} {x : Int32} (hd : decode (md_cc d) pc = .ok (.putfield idx, 3)) (hn : pc + 3 = n) (hL : hf_L (md_own d) idx c f false) (hk : kd_ k = .inl c) (hty : ft_ c f = .boolean) (hx : x = 0 ∨ x = 1) (hs : sh k i = some len) (kk : hg_G d al sh0 Q bc bs n ls st (u_3 mi k i f x, ml, mr, sh)) : hg_G d al sh0 Q bc bs pc ls (hv_i x :: hv_r (some (k, i)) :: st) (mi, ml, mr, sh) :=
  hg_putG hd hn hL (fun h => by cases h) hk hs hm_upI (fun ad => by unfold hm_v; rw [hty]; simp [sort_, u_3, hv_c]) (fun _ => (nar_tz hty hx).1) (fun _ => (nar_tz hty hx).2) (Or.inl rfl) kk
theorem hg_putL {k i len c f idx : Nat} {x : Int64} (hd : decode (md_cc d) pc = .ok (.putfield idx, 3)) (hn : pc + 3 = n) (hL : hf_L (md_own d) idx c f false) (hk : kd_ k = .inl c) (hty : ft_ c f = .long) (hs : sh k i = some len) (kk : hg_G d al sh0 Q bc bs n ls st (mi, u_3 ml k i f x, mr, sh)) : hg_G d al sh0 Q bc bs pc ls (hv_l x :: hv_r (some (k, i)) :: st) (mi, ml, mr, sh) :=
  hg_putG hd hn hL (fun h => by cases h) hk hs hm_upL (fun ad => by unfold hm_v; rw [hty]; simp [sort_, u_3, hv_c]) (fun _ => (nar_tl hty x).1) (fun _ => (nar_tl hty x).2) (Or.inl rfl) kk
theorem hg_putR {k i len c f idx : Nat} {r : Option (Nat × Nat)} (hd : decode (md_cc d) pc = .ok (.putfield idx, 3)) (hn : pc + 3 = n) (hL : hf_L (md_own d) idx c f false) (hk : kd_ k = .inl c) (hty : sort_ (ft_ c f) = 2) (hs : sh k i = some len) (hr : ∀ q, r = some q → ∃ n', sh q.1 q.2 = some n') (kk : hg_G d al sh0 Q bc bs n ls st (mi, ml, u_3 mr k i f r, sh)) : hg_G d al sh0 Q bc bs pc ls (hv_r r :: hv_r (some (k, i)) :: st) (mi, ml, mr, sh) :=
  hg_putG hd hn hL (fun h => by cases h) hk hs hm_upR (fun ad => by unfold hm_v; rw [hty]; simp [u_3]) (fun _ => (nar_tr hty _ r).1) (fun _ => (nar_tr hty _ r).2) (Or.inr (fun q h => hr q (by simpa [u_3] using h))) kk
theorem hg_putRF {k i len c f idx : Nat} {r : Option (Nat × Nat)} {C : String} {T : u_T} {N : Nat} (hd : decode (md_cc d) pc = .ok (.putfield idx, 3)) (hn : pc + 3 = n) (hL : hf_L (md_own d) idx c f true) (hnm : md_nm d = "<init>") (hcl : vwCl[c]? = some (C, T, N)) (hC : C = md_own d) (hk : kd_ k = .inl c) (hty : sort_ (ft_ c f) = 2) (hs : sh k i = some len) (hr : ∀ q, r = some q → ∃ n', sh q.1 q.2 = some n') (kk : hg_G d al sh0 Q bc bs n ls st (mi, ml, u_3 mr k i f r, sh)) : hg_G d al sh0 Q bc bs pc ls (hv_r r :: hv_r (some (k, i)) :: st) (mi, ml, mr, sh) :=
  hg_putG hd hn hL (fun _ => ⟨hnm, C, T, N, hcl, hC⟩) hk hs hm_upR (fun ad => by unfold hm_v; rw [hty]; simp [u_3]) (fun _ => (nar_tr hty _ r).1) (fun _ => (nar_tr hty _ r).2) (Or.inr (fun q h => hr q (by simpa [u_3] using h))) kk
end HM
end
section
/-! arrays -/
theorem nI_vin {x : Int32} {j n : Nat} (hx : x = nI j) (hj : j < n) (hn : n < 2 ^ 31) : vp_in x n ∧ x.toNatClampNeg = j := by
  subst hx
  exact ⟨vp_in_nI hj hn, nI_clamp (by omega)⟩
section HA
variable {d : Md_} {al : Bool} {sh0 : SH_} {Q : Option V_ → Me_ → Prop} {bc bs : Nat} {pc n : Nat} {ls : List (Option V_)} {st : List V_} {M M' : Me_}
theorem tys_at (D : Hd_) : ∀ a, a < 7 → (tys_ D)[a]? = some (D.2.2 a, et_ a) := by
  intro a ha
  match a, ha with
  | 0, _ => rfl
  | 1, _ => rfl
  | 2, _ => rfl
  | 3, _ => rfl
  | 4, _ => rfl
  | 5, _ => rfl
  | 6, _ => rfl
  | a + 7, h => omega
theorem kd_arr {k a : Nat} (h : kd_ k = .inr a) : a < 7 := by
  unfold kd_ at h
  split at h <;> cases h <;> decide
theorem hg_aldG {ins : Instr} {k i len a j : Nat} {x : Int32} {v : V_} (hn : pc + 1 = n) (h0 : k ≠ 0) (hk : kd_ k = .inr a) (hs : M.2.2.2 k i = some len) (hx : x = nI j) (hj : j < len) (hlen : len < 2 ^ 31) (hv : ∀ ad, hm_v ad (et_ a) M k i j = hv_c ad v)
    (hstep : ∀ (p : Program) (l : Launch) (e : Env) (R : Room) (s : State) (m : MethodId) (args : Array Value) (below : List Frame) (meth : Method) (c : Code) (D : Hd_) (ad : Nat → Nat → Nat) (H : Heap) (locs : List Loc) (cells slots : Nat) (arr : Array Slot) (Qf : State → Prop) (cell : Cell), hg_X d p R s m args meth c D → H[ad k i]? = some cell → s.isArrayOf cell (et_ a) → cell.vm ≠ .unknown → ¬ (x < 0 ∨ cell.slots.size ≤ x.toNatClampNeg) → cell.slots[x.toNatClampNeg]? = some (hv_c ad v) →
      W p l e R s m args below meth c H locs cells slots Qf (F0 m (pc + 1) arr (hv_c ad v :: st.map (hv_c ad))) → W p l e R s m args below meth c H locs cells slots Qf (F0 m pc arr (.int x :: .ref (ad k i) :: st.map (hv_c ad))))
    (kk : hg_G d al sh0 Q bc bs n ls (v :: st) M) : hg_G d al sh0 Q bc bs pc ls (hv_i x :: hv_r (some (k, i)) :: st) M := by
  subst hn
  obtain ⟨hin, hcl⟩ := nI_vin hx hj hlen
  refine hg_pure (fun p l e R s m args below meth c D ad base H locs cells slots arr Qf X hR hq _ _ kk => ?_) kk
  have hc := hm_arr (hR.1 k i len hs) h0 hk
  have hK : va_K (D.1, D.2.1) vwCl (tys_ D) s := X.2.2.2.2.2.2.2.2.2.2.2.2.1
  refine hstep p l e R s m args below meth c D ad H locs cells slots arr Qf _ X hc ((hK.2 a _ (tys_at D a (kd_arr hk))).1 len _) (fun q => by cases q) (by rw [arrV_size]; exact hin) ?_ kk
  rw [hcl, arrV_read _ _ hj]
  exact congrArg some (hv ad)
variable {mi : MI_} {ml : ML_} {mr : MR_} {sh : SH_}
theorem hg_iaload (j : Nat) {k i len : Nat} {x : Int32} (hd : decode (md_cc d) pc = .ok (.iaload, 1)) (hn : pc + 1 = n) (h0 : k ≠ 0) (hk : kd_ k = .inr 0) (hs : sh k i = some len) (hx : x = nI j) (hj : j < len) (hlen : len < 2 ^ 31) (kk : hg_G d al sh0 Q bc bs n ls (hv_i (mi k i j) :: st) (mi, ml, mr, sh)) : hg_G d al sh0 Q bc bs pc ls (hv_i x :: hv_r (some (k, i)) :: st) (mi, ml, mr, sh) :=
  hg_aldG (ins := .iaload) (v := hv_i (mi k i j)) hn h0 hk hs hx hj hlen (fun _ => rfl) (fun _ _ _ _ _ _ _ _ _ _ _ _ _ _ _ _ _ _ _ X h1 h2 h3 h4 h5 k => W.iald X.1 X.2.1 h1 h2 h3 h4 h5 rfl rfl hd k) kk
theorem hg_baload (j : Nat) {k i len : Nat} {x : Int32} (hd : decode (md_cc d) pc = .ok (.baload, 1)) (hn : pc + 1 = n) (h0 : k ≠ 0) (hk : kd_ k = .inr 2) (hs : sh k i = some len) (hx : x = nI j) (hj : j < len) (hlen : len < 2 ^ 31) (kk : hg_G d al sh0 Q bc bs n ls (hv_i (mi k i j) :: st) (mi, ml, mr, sh)) : hg_G d al sh0 Q bc bs pc ls (hv_i x :: hv_r (some (k, i)) :: st) (mi, ml, mr, sh) :=
  hg_aldG (ins := .baload) (v := hv_i (mi k i j)) hn h0 hk hs hx hj hlen (fun _ => rfl) (fun _ _ _ _ _ _ _ _ _ _ _ _ _ _ _ _ _ _ _ X h1 h2 h3 h4 h5 k => W.zald X.1 X.2.1 h1 h2 h3 h4 h5 rfl rfl hd k) kk
theorem hg_laload (j : Nat) {k i len : Nat} {x : Int32} (hd : decode (md_cc d) pc = .ok (.laload, 1)) (hn : pc + 1 = n) (h0 : k ≠ 0) (hk : kd_ k = .inr 1) (hs : sh k i = some len) (hx : x = nI j) (hj : j < len) (hlen : len < 2 ^ 31) (kk : hg_G d al sh0 Q bc bs n ls (hv_l (ml k i j) :: st) (mi, ml, mr, sh)) : hg_G d al sh0 Q bc bs pc ls (hv_i x :: hv_r (some (k, i)) :: st) (mi, ml, mr, sh) :=
  hg_aldG (ins := .laload) (v := hv_l (ml k i j)) hn h0 hk hs hx hj hlen (fun _ => rfl) (fun _ _ _ _ _ _ _ _ _ _ _ _ _ _ _ _ _ _ _ X h1 h2 h3 h4 h5 k => W.lald X.1 X.2.1 h1 h2 h3 h4 h5 rfl rfl hd k) kk
theorem hg_aaload (j : Nat) {k i len a : Nat} {x : Int32} {r : Option (Nat × Nat)} (hd : decode (md_cc d) pc = .ok (.aaload, 1)) (hn : pc + 1 = n) (h0 : k ≠ 0) (hk : kd_ k = .inr a) (ha : sort_ (et_ a) = 2) (hs : sh k i = some len) (hx : x = nI j) (hj : j < len) (hlen : len < 2 ^ 31) (hr : mr k i j = r) (kk : hg_G d al sh0 Q bc bs n ls (hv_r r :: st) (mi, ml, mr, sh)) : hg_G d al sh0 Q bc bs pc ls (hv_i x :: hv_r (some (k, i)) :: st) (mi, ml, mr, sh) := by
  subst hr
  have hre : (et_ a).isReference = true := by
    revert ha
    cases et_ a <;> simp [sort_, FieldType.isReference]
  exact hg_aldG (ins := .aaload) (v := hv_r (mr k i j)) hn h0 hk hs hx hj hlen (fun _ => by unfold hm_v; rw [ha]; rfl) (fun _ _ _ _ _ _ _ _ _ _ _ _ _ _ _ _ _ _ _ X h1 h2 h3 h4 h5 k => W.aald X.1 X.2.1 h1 h2 hre h3 h4 h5 rfl rfl hd k) kk
/-- the script -/
theorem hg_script (j : Nat) {i len : Nat} {x : Int32} (hd : decode (md_cc d) pc = .ok (.iaload, 1)) (hn : pc + 1 = n) (hs : sh 0 i = some len) (hx : x = nI j) (hj : j < len) (hlen : len < 2 ^ 31) (kk : hg_G d al sh0 Q bc bs n ls (hv_i (mi 0 i j) :: st) (mi, ml, mr, sh)) : hg_G d al sh0 Q bc bs pc ls (hv_i x :: hv_r (some (0, i)) :: st) (mi, ml, mr, sh) := by
  subst hn
  obtain ⟨hin, hcl⟩ := nI_vin hx hj hlen
  refine hg_pure (fun p l e R s m args below meth c D ad base H locs cells slots arr Qf X hR hq _ _ kk => ?_) kk
  have h := hR.1 0 i len hs
  unfold hm_at at h
  rw [if_pos rfl] at h
  obtain ⟨scr, h1, h2, h3, h4, h5⟩ := h
  exact W.iald (v := .int (mi 0 i j)) X.1 X.2.1 h1 h2 h3 (by rw [h4]; exact hin) (by rw [hcl]; exact h5 j hj) rfl rfl hd kk
theorem hg_scriptlen {i len : Nat} (hd : decode (md_cc d) pc = .ok (.arraylength, 1)) (hn : pc + 1 = n) (hs : sh 0 i = some len) (kk : hg_G d al sh0 Q bc bs n ls (hv_i (nI len) :: st) (mi, ml, mr, sh)) : hg_G d al sh0 Q bc bs pc ls (hv_r (some (0, i)) :: st) (mi, ml, mr, sh) := by
  subst hn
  refine hg_pure (fun p l e R s m args below meth c D ad base H locs cells slots arr Qf X hR hq _ _ kk => ?_) kk
  have h := hR.1 0 i len hs
  unfold hm_at at h
  rw [if_pos rfl] at h
  obtain ⟨scr, h1, h2, h3, h4, h5⟩ := h
  exact W.alen X.1 X.2.1 h1 h2 (by rw [h4]; rfl) rfl rfl hd kk
theorem hg_alen {k i len a : Nat} (hd : decode (md_cc d) pc = .ok (.arraylength, 1)) (hn : pc + 1 = n) (h0 : k ≠ 0) (hk : kd_ k = .inr a) (hs : sh k i = some len) (kk : hg_G d al sh0 Q bc bs n ls (hv_i (nI len) :: st) (mi, ml, mr, sh)) : hg_G d al sh0 Q bc bs pc ls (hv_r (some (k, i)) :: st) (mi, ml, mr, sh) := by
  subst hn
  refine hg_pure (fun p l e R s m args below meth c D ad base H locs cells slots arr Qf X hR hq _ _ kk => ?_) kk
  have hc := hm_arr (hR.1 k i len hs) h0 hk
  have hK : va_K (D.1, D.2.1) vwCl (tys_ D) s := X.2.2.2.2.2.2.2.2.2.2.2.2.1
  exact W.alen X.1 X.2.1 hc ((hK.2 a _ (tys_at D a (kd_arr hk))).1 len _) (by rw [arrV_size]; rfl) rfl rfl hd kk
theorem hg_astG {k i len a j : Nat} {x : Int32} {v : V_} (hn : pc + 1 = n) (h0 : k ≠ 0) (hk : kd_ k = .inr a) (hs : M.2.2.2 k i = some len) (hx : x = nI j) (hj : j < len) (hlen : len < 2 ^ 31) (hup : hm_up M M' k i j) (hv : ∀ ad, hm_v ad (et_ a) M' k i j = hv_c ad v) (hlv : M'.2.2.1 k i j = M.2.2.1 k i j ∨ ∀ q, M'.2.2.1 k i j = some q → ∃ n', M.2.2.2 q.1 q.2 = some n')
    (hstep : ∀ (p : Program) (l : Launch) (e : Env) (R : Room) (s : State) (m : MethodId) (args : Array Value) (below : List Frame) (meth : Method) (c : Code) (D : Hd_) (ad : Nat → Nat → Nat) (base : Nat) (H : Heap) (locs : List Loc) (cells slots : Nat) (arr : Array Slot) (Qf : State → Prop) (cell : Cell), hg_X d p R s m args meth c D → hm_R D ad base M s H → H[ad k i]? = some cell → cell.cls = D.2.2 a → cell.vm = .none → s.isArrayOf cell (et_ a) → cell.vm ≠ .unknown → ¬ (x < 0 ∨ cell.slots.size ≤ x.toNatClampNeg) →
      (∀ H' : Heap, H'[ad k i]? = some (cell.setSlot x.toNatClampNeg (hv_c ad v)) → H'.size = H.size → (∀ q, q ≠ ad k i → H'[q]? = H[q]?) → W p l e R s m args below meth c H' (locs ++ [⟨ad k i, x.toNatClampNeg⟩]) cells slots Qf (F0 m (pc + 1) arr (st.map (hv_c ad)))) → W p l e R s m args below meth c H locs cells slots Qf (F0 m pc arr (hv_c ad v :: .int x :: .ref (ad k i) :: st.map (hv_c ad))))
    (kk : hg_G d al sh0 Q bc bs n ls st M') : hg_G d al sh0 Q bc bs pc ls (v :: hv_i x :: hv_r (some (k, i)) :: st) M := by
  subst hn
  obtain ⟨hin, hcl⟩ := nI_vin hx hj hlen
  intro p l e R s m args below meth c D ad0 ad base H locs cells slots arr X Y
  have hR := Y.1
  have hc := hm_arr (hR.1 k i len hs) h0 hk
  have hK : va_K (D.1, D.2.1) vwCl (tys_ D) s := X.2.2.2.2.2.2.2.2.2.2.2.2.1
  refine hstep p l e R s m args below meth c D ad base H locs cells slots arr _ _ X hR hc rfl rfl ((hK.2 a _ (tys_at D a (kd_arr hk))).1 len _) (fun q => by cases q) (by rw [arrV_size]; exact hin) fun H' e1 e2 e3 => ?_
  rw [hcl] at e1 ⊢
  refine kk p l e R s m args below meth c D ad0 ad base H' (locs ++ [⟨ad k i, j⟩]) cells slots arr X ⟨hR.put hup hs e2 e3 ?_ hlv, fun q hq => ?_, Y.2.2⟩
  · unfold hm_at
    rw [if_neg h0, hk]
    rw [e1, arrV_store]
    refine congrArg some (arrV_to (fun j' => ?_))
    by_cases hjj : j' = j
    · subst hjj
      simp only [updV, if_pos rfl]
      exact (hv ad).symm
    · simp only [updV, if_neg hjj]
      exact (hm_v_same (hup.2 k i j' (fun z => hjj z.2.2))).symm
  · rcases List.mem_append.mp hq with h1 | h1
    · exact Y.2.1 q h1
    · rw [List.mem_singleton.mp h1]
      exact hR.2.2.1 k i len hs h0
theorem hg_iastore (j : Nat) {k i len : Nat} {x y : Int32} (hd : decode (md_cc d) pc = .ok (.iastore, 1)) (hn : pc + 1 = n) (h0 : k ≠ 0) (hk : kd_ k = .inr 0) (hs : sh k i = some len) (hx : x = nI j) (hj : j < len) (hlen : len < 2 ^ 31) (kk : hg_G d al sh0 Q bc bs n ls st (u_3 mi k i j y, ml, mr, sh)) : hg_G d al sh0 Q bc bs pc ls (hv_i y :: hv_i x :: hv_r (some (k, i)) :: st) (mi, ml, mr, sh) :=
  hg_astG (M := (mi, ml, mr, sh)) (v := hv_i y) hn h0 hk hs hx hj hlen hm_upI (fun _ => by simp [hm_v, et_, sort_, u_3, hv_c]) (Or.inl rfl) (fun _ _ _ _ _ _ _ _ _ _ _ _ _ _ _ _ _ _ _ _ X _ h1 _ _ h2 h3 h4 k => W.iast X.1 X.2.1 h1 h2 h3 h4 rfl rfl hd k) kk
theorem hg_bastore (j : Nat) {k i len : Nat} {x y : Int32} (hd : decode (md_cc d) pc = .ok (.bastore, 1)) (hn : pc + 1 = n) (h0 : k ≠ 0) (hk : kd_ k = .inr 2) (hy : y = 0 ∨ y = 1) (hs : sh k i = some len) (hx : x = nI j) (hj : j < len) (hlen : len < 2 ^ 31) (kk : hg_G d al sh0 Q bc bs n ls st (u_3 mi k i j y, ml, mr, sh)) : hg_G d al sh0 Q bc bs pc ls (hv_i y :: hv_i x :: hv_r (some (k, i)) :: st) (mi, ml, mr, sh) :=
  hg_astG (M := (mi, ml, mr, sh)) (v := hv_i y) hn h0 hk hs hx hj hlen hm_upI (fun _ => by simp [hm_v, et_, sort_, u_3, hv_c]) (Or.inl rfl) (fun _ _ _ _ _ _ _ _ _ _ _ _ _ _ _ _ _ _ _ _ X _ h1 _ _ h2 h3 h4 k => W.zast X.1 X.2.1 h1 h2 h3 h4 rfl rfl hd (by rw [(nar_tz rfl hy).1]; exact k)) kk
theorem hg_lastore (j : Nat) {k i len : Nat} {x : Int32} {y : Int64} (hd : decode (md_cc d) pc = .ok (.lastore, 1)) (hn : pc + 1 = n) (h0 : k ≠ 0) (hk : kd_ k = .inr 1) (hs : sh k i = some len) (hx : x = nI j) (hj : j < len) (hlen : len < 2 ^ 31) (kk : hg_G d al sh0 Q bc bs n ls st (mi, u_3 ml k i j y, mr, sh)) : hg_G d al sh0 Q bc bs pc ls (hv_l y :: hv_i x :: hv_r (some (k, i)) :: st) (mi, ml, mr, sh) :=
  hg_astG (M := (mi, ml, mr, sh)) (v := hv_l y) hn h0 hk hs hx hj hlen hm_upL (fun _ => by simp [hm_v, et_, sort_, u_3, hv_c]) (Or.inl rfl) (fun _ _ _ _ _ _ _ _ _ _ _ _ _ _ _ _ _ _ _ _ X _ h1 _ _ h2 h3 h4 k => W.last X.1 X.2.1 h1 h2 h3 h4 rfl rfl hd k) kk
theorem hg_aastoreN (j : Nat) {k i len a : Nat} {C : String} {x : Int32} (hd : decode (md_cc d) pc = .ok (.aastore, 1)) (hn : pc + 1 = n) (h0 : k ≠ 0) (hk : kd_ k = .inr a) (ha : et_ a = .object C) (hs : sh k i = some len) (hx : x = nI j) (hj : j < len) (hlen : len < 2 ^ 31) (kk : hg_G d al sh0 Q bc bs n ls st (mi, ml, u_3 mr k i j none, sh)) : hg_G d al sh0 Q bc bs pc ls (hv_r none :: hv_i x :: hv_r (some (k, i)) :: st) (mi, ml, mr, sh) :=
  hg_astG (M := (mi, ml, mr, sh)) (v := hv_r none) hn h0 hk hs hx hj hlen hm_upR (fun _ => by simp [hm_v, ha, sort_, u_3]) (Or.inr (fun q h => by simp [u_3] at h)) (fun _ _ _ _ _ _ _ _ _ _ _ _ _ _ _ _ _ _ _ _ X _ h1 _ _ h2 h3 h4 k => va_WaastN X.1 X.2.1 h1 (by rw [← ha]; exact h2) h3 h4 rfl rfl hd k) kk
theorem hg_aastore (j : Nat) {k i len a c k' i' n' : Nat} {C : String} {T : u_T} {N : Nat} {x : Int32} (hd : decode (md_cc d) pc = .ok (.aastore, 1)) (hn : pc + 1 = n) (h0 : k ≠ 0) (hk : kd_ k = .inr a) (hC : hc_C c C T N) (ha : et_ a = .object C) (hs : sh k i = some len) (hx : x = nI j) (hj : j < len) (hlen : len < 2 ^ 31) (hk' : kd_ k' = .inl c) (hs' : sh k' i' = some n') (kk : hg_G d al sh0 Q bc bs n ls st (mi, ml, u_3 mr k i j (some (k', i')), sh)) : hg_G d al sh0 Q bc bs pc ls (hv_r (some (k', i')) :: hv_i x :: hv_r (some (k, i)) :: st) (mi, ml, mr, sh) := by
  refine hg_astG (M := (mi, ml, mr, sh)) (v := hv_r (some (k', i'))) hn h0 hk hs hx hj hlen hm_upR (fun _ => by simp [hm_v, ha, sort_, u_3]) (Or.inr (fun q h => by simp [u_3] at h; subst h; exact ⟨n', hs'⟩)) (fun p l e R s m args below meth cd D ad base H locs cells slots arr Qf cell X hR h1 hcl hvm h2 h3 h4 kk => ?_) kk
  have hK : va_K (D.1, D.2.1) vwCl (tys_ D) s := X.2.2.2.2.2.2.2.2.2.2.2.2.1
  obtain ⟨cellV, g1, g2, g3, -⟩ := hm_obj (hR.1 k' i' n' hs') hk'
  have hcls := (hK.1 c _ hC.1).2
  have hra := (hK.2 a _ (tys_at D a (kd_arr hk))).2
  rw [show ((D.2.2 a, et_ a) : ClassId × FieldType).2 = .object C from ha] at hra
  obtain ⟨kA, comp, k1, k2, k3, -⟩ := hra
  have hcomp : comp = D.1 c := Option.some.inj (k3.symm.trans hcls.1)
  subst hcomp
  have hcls2 := hcls
  obtain ⟨-, kC, hkC, -⟩ := hcls2
  exact W.aast X.1 X.2.1 h1 (fun q h => by rw [hvm] at h; cases h) h3 (by rw [hcl]; exact k1) k2 rfl hkC ⟨fun q => h4 (Or.inl q), Nat.not_le.mp fun q => h4 (Or.inr q)⟩ g1 (fun q h => by rw [g3] at h; cases h) (by rw [g2]; exact hkC) (by rw [g2]; exact va_assign hcls) rfl rfl hd kk
end HA
end
section
/-! ends, calls, beginnings -/
def hl_in : List V_ → List (Option V_)
  | [] => []
  | v :: r => if hv_cat v = 2 then some v :: none :: hl_in r else some v :: hl_in r
def hl_pad (n : Nat) (ls : List (Option V_)) : List (Option V_) := ls ++ List.replicate (n - ls.length) none
theorem hl_as_none {ad : Nat → Nat → Nat} : ∀ {n k : Nat}, hl_as ad k (List.replicate n none) = []
  | 0, _ => rfl
  | n + 1, k => by rw [List.replicate_succ, hl_as]; exact hl_as_none
theorem hl_as_in {ad : Nat → Nat → Nat} {n : Nat} : ∀ {as : List V_} {k : Nat}, hl_as ad k (hl_in as ++ List.replicate n none) = lv_args k (as.map (hv_c ad))
  | [], k => by simp [hl_in, lv_args, hl_as_none]
  | v :: r, k => by
    rw [hl_in, List.map_cons, lv_args, hv_cat_c]
    by_cases h : hv_cat v = 2
    · rw [if_pos h, if_pos h]
      show (k, hv_c ad v) :: hl_as ad (k + 1 + 1) (hl_in r ++ List.replicate n none) = _
      rw [hl_as_in]
    · rw [if_neg h, if_neg h]
      show (k, hv_c ad v) :: hl_as ad (k + 1) (hl_in r ++ List.replicate n none) = _
      rw [hl_as_in]
theorem hl_in_len {ad : Nat → Nat → Nat} : ∀ {as : List V_}, (lg_sl (as.map (hv_c ad))).length = (hl_in as).length
  | [] => rfl
  | v :: r => by
    have ih := @hl_in_len ad r
    unfold lg_sl at ih ⊢
    rw [List.map_cons, List.flatMap_cons, List.length_append, ih, hv_cat_c, hl_in]
    by_cases h : hv_cat v = 2
    · rw [if_pos h, if_pos h]; simp; omega
    · rw [if_neg h, if_neg h]; simp; omega
def hg_Ok (al : Bool) (y : MethodName) (d : Md_) (as : List V_) (M : Me_) (Q : Option V_ → Me_ → Prop) : Prop :=
  ∀ (l : Launch) (D : Hd_) (ad : Nat → Nat → Nat) (base : Nat), Met l y (Cond.code y (md_cc d) (md_nL d) (md_ret d) :: gtbl) (md_rm d) (va_Pc (as.map (hv_c ad)) (fun U => hm_K D U ∧ hm_R D ad base M U U.heap)) (hg_Q D base M.2.2.2 ad al Q) (md_mc d) (md_ms d) (fun q => base ≤ q)
theorem hg_intro {al : Bool} {y : MethodName} {d : Md_} {as : List V_} {M : Me_} {Q : Option V_ → Me_ → Prop} {ls : List (Option V_)} (hy : plainName y.cls = true) (hcls : y.cls = md_own d) (hnm : y.name = md_nm d) (hlen : (hl_in as).length ≤ md_nL d) (hls : hl_pad (md_nL d) (hl_in as) = ls)
    (kk : hg_G d al M.2.2.2 Q (md_mc d) (md_ms d) 0 ls [] M) : hg_Ok al y d as M Q := by
  subst hls
  intro l D ad base
  refine Met.ofW (cc := md_cc d) (maxL := md_nL d) (ret := md_ret d) hy rfl ?_
  intro p e s m args below meth c s₁ B hml hv
  obtain ⟨rfl, hK, hR⟩ := hv
  have hts0 := atoms_spec (ws := Cond.code y (md_cc d) (md_nL d) (md_ret d) :: gtbl) B.pre
  have hown : s.vm.findClass (md_own d) = some m.cls := by rw [← hcls]; exact findClass_of_methodNamed B.named
  have hin : meth.name = md_nm d := by rw [← hnm]; exact (name_of_methodNamed B.named B.method).1
  have hl := lv_entry (as.map (hv_c ad)) (n := md_nL d) (by rw [hl_in_len]; exact hlen)
  rw [lg_entry_eq]
  refine kk p l e _ s m _ below meth c D ad ad base s.heap [] 0 0 _ ⟨B.exec, B.bytes, B.returns, hml, hown, fun w hw => hts0 w (List.mem_cons_of_mem _ hw), B.notSynchronized, hin, Nat.le_refl _, Nat.le_refl _, Nat.le_refl _, Nat.le_refl _, hK⟩ ⟨hR, (fun q h => by cases h), by omega, by omega, fun _ _ _ _ => rfl, fun _ => rfl, ?_⟩
  unfold hl_pad
  rw [hl_as_in]
  exact hl
section HE
variable {d : Md_} {al : Bool} {sh0 : SH_} {Q : Option V_ → Me_ → Prop} {bc bs : Nat} {pc n : Nat} {ls : List (Option V_)} {st : List V_} {M : Me_}
theorem hg_ireturn {x : Int32} (hd : decode (md_cc d) pc = .ok (.ireturn, 1)) (hr : md_ret d = some .int) (h : Q (some (hv_i x)) M) : hg_G d al sh0 Q bc bs pc ls [hv_i x] M := by
  intro p l e R s m args below meth c D ad0 ad base H locs cells slots arr X Y
  refine W.widen (k := md_mc d) (n := md_ms d) (by have := Y.2.2.1; omega) (by have := Y.2.2.2.1; omega) ?_
  exact W.iret X.1 X.2.1 (X.2.2.1.trans hr) (fun t ht hW => ⟨some (hv_i x), M, ad, rfl, h, by rw [ht]; exact Y.1.moved hW.alike, Y.2.2.2.2.1, Y.2.2.2.2.2.1⟩) Y.2.1 hd X.2.2.2.2.2.2.1
theorem hg_zreturn {x : Int32} (hd : decode (md_cc d) pc = .ok (.ireturn, 1)) (hr : md_ret d = some .boolean) (hx : x = 0 ∨ x = 1) (h : Q (some (hv_i x)) M) : hg_G d al sh0 Q bc bs pc ls [hv_i x] M := by
  intro p l e R s m args below meth c D ad0 ad base H locs cells slots arr X Y
  refine W.widen (k := md_mc d) (n := md_ms d) (by have := Y.2.2.1; omega) (by have := Y.2.2.2.1; omega) ?_
  exact W.zret X.1 X.2.1 (X.2.2.1.trans hr) (nar_tz rfl hx).1 (fun t ht hW => ⟨some (hv_i x), M, ad, rfl, h, by rw [ht]; exact Y.1.moved hW.alike, Y.2.2.2.2.1, Y.2.2.2.2.2.1⟩) Y.2.1 hd X.2.2.2.2.2.2.1
theorem hg_lreturn {x : Int64} (hd : decode (md_cc d) pc = .ok (.lreturn, 1)) (hr : md_ret d = some .long) (h : Q (some (hv_l x)) M) : hg_G d al sh0 Q bc bs pc ls [hv_l x] M := by
  intro p l e R s m args below meth c D ad0 ad base H locs cells slots arr X Y
  refine W.widen (k := md_mc d) (n := md_ms d) (by have := Y.2.2.1; omega) (by have := Y.2.2.2.1; omega) ?_
  exact W.lret X.1 X.2.1 (X.2.2.1.trans hr) (fun t ht hW => ⟨some (hv_l x), M, ad, rfl, h, by rw [ht]; exact Y.1.moved hW.alike, Y.2.2.2.2.1, Y.2.2.2.2.2.1⟩) Y.2.1 hd X.2.2.2.2.2.2.1
theorem hg_areturn {r : Option (Nat × Nat)} {C : String} (hd : decode (md_cc d) pc = .ok (.areturn, 1)) (hr : md_ret d = some (.object C)) (h : Q (some (hv_r r)) M) : hg_G d al sh0 Q bc bs pc ls [hv_r r] M := by
  intro p l e R s m args below meth c D ad0 ad base H locs cells slots arr X Y
  refine W.widen (k := md_mc d) (n := md_ms d) (by have := Y.2.2.1; omega) (by have := Y.2.2.2.1; omega) ?_
  exact W.aret X.1 X.2.1 (X.2.2.1.trans hr) (Or.inl ⟨_, rfl⟩) (by cases r with | none => exact Or.inl rfl | some q => exact Or.inr ⟨_, rfl⟩) (fun t ht hW => ⟨some (hv_r r), M, ad, rfl, h, by rw [ht]; exact Y.1.moved hW.alike, Y.2.2.2.2.1, Y.2.2.2.2.2.1⟩) Y.2.1 hd X.2.2.2.2.2.2.1
theorem hg_return (hd : decode (md_cc d) pc = .ok (.return_, 1)) (hr : md_ret d = none) (h : Q none M) : hg_G d al sh0 Q bc bs pc ls [] M := by
  intro p l e R s m args below meth c D ad0 ad base H locs cells slots arr X Y
  refine W.widen (k := md_mc d) (n := md_ms d) (by have := Y.2.2.1; omega) (by have := Y.2.2.2.1; omega) ?_
  exact W.vret X.1 X.2.1 (X.2.2.1.trans hr) (fun t ht hW => ⟨none, M, ad, rfl, h, by rw [ht]; exact Y.1.moved hW.alike, Y.2.2.2.2.1, Y.2.2.2.2.2.1⟩) Y.2.1 hd X.2.2.2.2.2.2.1
/-- live references -/
def hv_lv (sh : SH_) (v : V_) : Prop := match v with
  | .inr (.inr (some q)) => ∃ n, sh q.1 q.2 = some n
  | _ => True
theorem hv_c_same {ad ad' : Nat → Nat → Nat} {sh : SH_} (h : ∀ k i n, sh k i = some n → ad' k i = ad k i) {v : V_} (hv : hv_lv sh v) : hv_c ad' v = hv_c ad v := by
  rcases v with x | x | (_ | q)
  · rfl
  · rfl
  · rfl
  · obtain ⟨n, hn⟩ := hv
    show Value.ref _ = Value.ref _
    rw [h _ _ _ hn]
theorem hl_as_same {ad ad' : Nat → Nat → Nat} {sh : SH_} (h : ∀ k i n, sh k i = some n → ad' k i = ad k i) : ∀ {ls : List (Option V_)} {k : Nat}, (∀ v, some v ∈ ls → hv_lv sh v) → hl_as ad' k ls = hl_as ad k ls
  | [], _, _ => rfl
  | none :: r, k, hv => by rw [hl_as, hl_as]; exact hl_as_same h (fun v hm => hv v (List.mem_cons_of_mem _ hm))
  | some w :: r, k, hv => by rw [hl_as, hl_as, hv_c_same h (hv w List.mem_cons_self), hl_as_same h (fun v hm => hv v (List.mem_cons_of_mem _ hm))]
theorem hv_cats (ad : Nat → Nat → Nat) (rest : List V_) : ((rest.map (hv_c ad)).map fun v => v.category).sum = (rest.map hv_cat).sum := by
  rw [List.map_map]
  exact congrArg List.sum (List.map_congr_left (fun v _ => hv_cat_c ad v))
theorem hm_K.call {D : Hd_} {U : State} {g : JFrame} {mk : MethodId} {a : Array Value} (h : hm_K D U) : hm_K D (U.calling g mk a) := hm_K.warm (U := U.calling g mk a) (State.WarmedH.refl U) h
theorem hg_blind {D : Hd_} {ad : Nat → Nat → Nat} {base : Nat} {M : Me_} {av : List Value} : FrameBlind (va_Pc av (fun U => hm_K D U ∧ hm_R D ad base M U U.heap)) := by
  intro a U g mk q
  obtain ⟨q0, q1, q2⟩ := q
  exact ⟨q0, q1.call, q2.moved (U := U.calling g mk a) (Vm.Alike.refl U.vm)⟩
/-- behind a call -/
theorem hg_after {dy : Md_} {al' : Bool} {rest : List V_} {Q' : Option V_ → Me_ → Prop} {as : Array Value} (hn : pc + 3 = n) (hal : al' = true → al = true ∧ (∀ v ∈ rest, hv_lv M.2.2.2 v) ∧ (∀ v, some v ∈ ls → hv_lv M.2.2.2 v) ∧ ∀ k i n, sh0 k i = some n → ∃ n', M.2.2.2 k i = some n')
    (hb : md_mc dy ≤ bc ∧ md_ms dy ≤ bs) (kk : ∀ v M', Q' v M' → hg_G d al sh0 Q (bc - md_mc dy) (bs - md_ms dy) n ls (v.toList ++ rest) M')
    {p : Program} {l : Launch} {e : Env} {R : Room} {s : State} {m : MethodId} {args : Array Value} {below : List Frame} {meth : Method} {c : Code} {D : Hd_} {ad0 ad : Nat → Nat → Nat} {base : Nat} {H : Heap} {locs : List Loc} {cells slots : Nat} {arr : Array Slot} {stk : List Value}
    (X : hg_X d p R s m args meth c D) (Y : hg_Y d al sh0 bc bs ls M s D ad0 ad base H locs cells slots arr)
    (hr : va_Run p l e R s m args below meth c H locs cells slots (md_mc dy) (md_ms dy) (F0 m pc arr stk) (rest.map (hv_c ad)) (hg_Q D base M.2.2.2 ad al' Q' as) (fun q => base ≤ q)) :
    W p l e R s m args below meth c H locs cells slots (MQ below (hg_Q D base sh0 ad0 al Q) args s (md_mc d) (md_ms d) (fun q => base ≤ q)) (F0 m pc arr stk) := by
  subst hn
  intro T hT X0
  obtain ⟨v, st₀, t, T', L, h0, X', hL, e1, e2, ⟨v', M', ad', hv, hq, hR', hext, hsame⟩, st⟩ := hr T hT X0
  cases hv
  have hR2 : hm_R D ad' base M' s T'.heap := by
    rw [e1]
    exact hR'.moved (by rw [← e2]; exact X'.warmed.alike.symm)
  have key : rest.map (hv_c ad') = rest.map (hv_c ad) ∧ hl_as ad' 0 ls = hl_as ad 0 ls ∧ (∀ k i n, sh0 k i = some n → ad' k i = ad0 k i) ∧ (al = false → ad' = ad0) := by
    cases hz : al' with
    | false =>
      have := hsame hz
      subst this
      exact ⟨rfl, rfl, Y.2.2.2.2.1, Y.2.2.2.2.2.1⟩
    | true =>
      obtain ⟨h1, h2, h3, h4⟩ := hal hz
      refine ⟨List.map_congr_left (fun w hw => hv_c_same hext (h2 w hw)), hl_as_same hext h3, fun k i n hn => ?_, fun h => by rw [h1] at h; cases h⟩
      obtain ⟨n', hn'⟩ := h4 k i n hn
      rw [hext k i n' hn']
      exact Y.2.2.2.2.1 k i n hn
  obtain ⟨k1, k2, k3, k4⟩ := key
  obtain ⟨t2, a1, b1⟩ := kk v' M' hq p l e R s m args below meth c D ad0 ad' base T'.heap (locs ++ L) (cells + md_mc dy) (slots + md_ms dy) arr X ⟨hR2, fun q hq => by
      rcases List.mem_append.mp hq with h | h
      · exact Y.2.1 q h
      · exact hL q h, by have := Y.2.2.1; omega, by have := Y.2.2.2.1; omega, k3, k4, by rw [k2]; exact Y.2.2.2.2.2.2⟩ T' rfl X'
  refine ⟨t2, st t2 ?_, b1⟩
  have e3 : (v'.toList ++ rest).map (hv_c ad') = (v'.map (hv_c ad')).toList ++ rest.map (hv_c ad) := by
    rw [List.map_append, k1]
    cases v' <;> rfl
  rw [e3] at a1
  exact a1
end HE
end
section
/-! the calls -/
section HC
variable {d : Md_} {al : Bool} {sh0 : SH_} {Q : Option V_ → Me_ → Prop} {bc bs : Nat} {pc n : Nat} {ls : List (Option V_)} {rest : List V_} {M : Me_}
/-- what every call of y needs of the tables -/
def hy_L (y : MethodName) (dy : Md_) (na : Nat) : Prop := Cond.code y (md_cc dy) (md_nL dy) (md_ret dy) ∈ gtbl ∧ Cond.initialized y.cls ∈ gtbl ∧ (y.cls ≠ "java/lang/invoke/MethodHandle" ∧ y.cls ≠ "java/lang/invoke/VarHandle" ∧ (parseMethodDescriptor y.desc).map (fun d => d.parameters.length) = some na)
/-- an instance method of the class number c -/
def hy_V (y : MethodName) (c : Nat) : Prop := ∃ (C : String) (T : u_T) (N : Nat), hc_C c C T N ∧ Cond.instanceMethod y ∈ gtbl ∧ Cond.selects C y y ∈ gtbl
abbrev hg_rm (d dy : Md_) : Prop := md_fr dy + 1 ≤ md_fr d ∧ 8 + (md_nL dy + 11) + md_lo dy ≤ md_lo d
abbrev hg_al (al al' : Bool) (sh0 : SH_) (M : Me_) (rest : List V_) (ls : List (Option V_)) : Prop := al' = true → al = true ∧ (∀ v ∈ rest, hv_lv M.2.2.2 v) ∧ (∀ v, some v ∈ ls → hv_lv M.2.2.2 v) ∧ ∀ k i n, sh0 k i = some n → ∃ n', M.2.2.2 k i = some n'
theorem hg_callB {own : String} {idx na : Nat} {y : MethodName} {dy : Md_} {R : Room} {s : State} {args : Array Value} (hts : ∀ w ∈ gtbl, w.before args s = true) (hL : hy_L y dy na) (hl : Cond.methodLink own idx y ∈ gtbl) (hR : md_fr dy + 1 ≤ R.frames ∧ 8 + (md_nL dy + 11) + md_lo dy ≤ R.locals) : CallB R s args own idx y (md_cc dy) (md_nL dy) (md_ret dy) (Cond.code y (md_cc dy) (md_nL dy) (md_ret dy) :: gtbl) (md_rm dy) (md_mc dy) (md_ms dy) na :=
  callB_of na hts (gtbl_good hL.1) rfl rfl rfl (hts _ hL.2.1) (hts _ hl) hL.2.2 hR
theorem hg_callV {y : MethodName} {dy : Md_} {al' : Bool} {as : List V_} {k i len c idx na : Nat} {Q' : Option V_ → Me_ → Prop} {stk : List V_} (hd : decode (md_cc d) pc = .ok (.invokevirtual idx, 3)) (hn : pc + 3 = n) (hl : Cond.methodLink (md_own d) idx y ∈ gtbl) (hL : hy_L y dy na) (hV : hy_V y c) (hk : kd_ k = .inl c) (hs : M.2.2.2 k i = some len) (hrm : hg_rm d dy) (hc8 : (rest.map hv_cat).sum ≤ 8) (hb : md_mc dy ≤ bc ∧ md_ms dy ≤ bs) (hal : hg_al al al' sh0 M rest ls) (hlen : as.length = na) (hstk : stk = as.reverse ++ hv_r (some (k, i)) :: rest)
    (hOk : hg_Ok al' y dy (hv_r (some (k, i)) :: as) M Q') (kk : ∀ v M', Q' v M' → hg_G d al sh0 Q (bc - md_mc dy) (bs - md_ms dy) n ls (v.toList ++ rest) M') : hg_G d al sh0 Q bc bs pc ls stk M := by
  subst hstk
  intro p l e R s m args below meth cd D ad0 ad base H locs cells slots arr X Y
  have hts := X.2.2.2.2.2.1
  obtain ⟨C, T, N, hC, hin, hsel⟩ := hV
  have hK : va_K (D.1, D.2.1) vwCl (tys_ D) s := X.2.2.2.2.2.2.2.2.2.2.2.2.1
  obtain ⟨cell, q1, q2, q3, -⟩ := hm_obj (Y.1.1 k i len hs) hk
  have hX9 := X.2.2.2.2.2.2.2.2
  refine hg_after (dy := dy) hn hal hb kk X Y (va_runV (As := as.map (hv_c ad)) (C := C) (b := ad k i) ⟨X.1, X.2.1, X.2.2.2.1, X.2.2.2.2.1, hts⟩ (hOk l D ad base) ⟨hg_callB hts hL hl ⟨Nat.le_trans hrm.1 hX9.1, Nat.le_trans hrm.2 hX9.2.1⟩, hts _ hin, hts _ hsel⟩ ⟨hg_blind, ⟨cell, q1, by rw [q3]; rfl, by rw [q2]; exact (hK.1 c _ hC.1).2.1⟩, fun U hU hW => ⟨rfl, hm_K.warm hW hX9.2.2.2.2, by rw [hU]; exact Y.1.moved hW.alike⟩⟩ rfl (by rw [List.length_map]; exact hlen) Y.2.2.2.2.2.2.1 ?_ ?_ hd ⟨by have := hX9.2.2.1; have := Y.2.2.1; omega, by have := hX9.2.2.2.1; have := Y.2.2.2.1; omega⟩)
  · show (as.reverse ++ hv_r (some (k, i)) :: rest).map (hv_c ad) = (as.map (hv_c ad)).reverse ++ Value.ref (ad k i) :: rest.map (hv_c ad)
    rw [List.map_append, List.map_reverse]
    rfl
  · exact lv_room (by rw [hv_cats]; exact hc8)
theorem hg_callS {y : MethodName} {dy : Md_} {al' : Bool} {as : List V_} {idx na : Nat} {Q' : Option V_ → Me_ → Prop} {stk : List V_} (hd : decode (md_cc d) pc = .ok (.invokestatic idx, 3)) (hn : pc + 3 = n) (hl : Cond.methodLink (md_own d) idx y ∈ gtbl) (hL : hy_L y dy na) (hV : Cond.static y ∈ gtbl) (hrm : hg_rm d dy) (hc8 : (rest.map hv_cat).sum ≤ 8) (hb : md_mc dy ≤ bc ∧ md_ms dy ≤ bs) (hal : hg_al al al' sh0 M rest ls) (hlen : as.length = na) (hstk : stk = as.reverse ++ rest)
    (hOk : hg_Ok al' y dy as M Q') (kk : ∀ v M', Q' v M' → hg_G d al sh0 Q (bc - md_mc dy) (bs - md_ms dy) n ls (v.toList ++ rest) M') : hg_G d al sh0 Q bc bs pc ls stk M := by
  subst hstk
  intro p l e R s m args below meth cd D ad0 ad base H locs cells slots arr X Y
  have hts := X.2.2.2.2.2.1
  have hX9 := X.2.2.2.2.2.2.2.2
  refine hg_after (dy := dy) hn hal hb kk X Y (va_runS (As := as.map (hv_c ad)) ⟨X.1, X.2.1, X.2.2.2.1, X.2.2.2.2.1, hts⟩ (hOk l D ad base) ⟨hg_callB hts hL hl ⟨Nat.le_trans hrm.1 hX9.1, Nat.le_trans hrm.2 hX9.2.1⟩, hts _ hV⟩ ⟨hg_blind, fun U hU hW => ⟨rfl, hm_K.warm hW hX9.2.2.2.2, by rw [hU]; exact Y.1.moved hW.alike⟩⟩ rfl (by rw [List.length_map]; exact hlen) Y.2.2.2.2.2.2.1 ?_ ?_ hd ⟨by have := hX9.2.2.1; have := Y.2.2.1; omega, by have := hX9.2.2.2.1; have := Y.2.2.2.1; omega⟩)
  · show (as.reverse ++ rest).map (hv_c ad) = (as.map (hv_c ad)).reverse ++ rest.map (hv_c ad)
    rw [List.map_append, List.map_reverse]
  · exact lv_room (by rw [hv_cats]; exact hc8)
theorem hg_callSN {y : MethodName} {dy : Md_} {al' : Bool} {as : List V_} {idx na : Nat} {Q' : Option V_ → Me_ → Prop} {stk : List V_} {host : String} (hd : decode (md_cc d) pc = .ok (.invokestatic idx, 3)) (hn : pc + 3 = n) (hl : ∀ D U, hm_K D U → va_Nw (.methodLinkNest (md_own d) idx y host) U) (hL : hy_L y dy na) (hV : Cond.static y ∈ gtbl) (hrm : hg_rm d dy) (hc8 : (rest.map hv_cat).sum ≤ 8) (hb : md_mc dy ≤ bc ∧ md_ms dy ≤ bs) (hal : hg_al al al' sh0 M rest ls) (hlen : as.length = na) (hstk : stk = as.reverse ++ rest)
    (hOk : hg_Ok al' y dy as M Q') (kk : ∀ v M', Q' v M' → hg_G d al sh0 Q (bc - md_mc dy) (bs - md_ms dy) n ls (v.toList ++ rest) M') : hg_G d al sh0 Q bc bs pc ls stk M := by
  subst hstk
  intro p l e R s m args below meth cd D ad0 ad base H locs cells slots arr X Y
  have hts := X.2.2.2.2.2.1
  have hX9 := X.2.2.2.2.2.2.2.2
  refine hg_after (dy := dy) hn hal hb kk X Y (va_runSN (As := as.map (hv_c ad)) ⟨X.1, X.2.1, X.2.2.2.1, X.2.2.2.2.1, hts⟩ (hOk l D ad base) ⟨va_cnB na hts (gtbl_good hL.1) rfl rfl rfl (hl D s hX9.2.2.2.2) (hts _ hL.2.1) hL.2.2 ⟨Nat.le_trans hrm.1 hX9.1, Nat.le_trans hrm.2 hX9.2.1⟩, hts _ hV, trivial⟩ ⟨hg_blind, fun U hU hW => ⟨rfl, hm_K.warm hW hX9.2.2.2.2, by rw [hU]; exact Y.1.moved hW.alike⟩⟩ rfl (by rw [List.length_map]; exact hlen) Y.2.2.2.2.2.2.1 ?_ ?_ hd ⟨by have := hX9.2.2.1; have := Y.2.2.1; omega, by have := hX9.2.2.2.1; have := Y.2.2.2.1; omega⟩)
  · show (as.reverse ++ rest).map (hv_c ad) = (as.map (hv_c ad)).reverse ++ rest.map (hv_c ad)
    rw [List.map_append, List.map_reverse]
  · exact lv_room (by rw [hv_cats]; exact hc8)
theorem hg_callI {y : MethodName} {dy : Md_} {al' : Bool} {as : List V_} {k i idx na : Nat} {Q' : Option V_ → Me_ → Prop} {stk : List V_} (hd : decode (md_cc d) pc = .ok (.invokespecial idx, 3)) (hn : pc + 3 = n) (hl : Cond.methodLink (md_own d) idx y ∈ gtbl) (hL : hy_L y dy na) (hy1 : y.name = "<init>") (hret : md_ret dy = none) (hV : Cond.instanceMethod y ∈ gtbl) (hrm : hg_rm d dy) (hc8 : (rest.map hv_cat).sum ≤ 8) (hb : md_mc dy ≤ bc ∧ md_ms dy ≤ bs) (hal : hg_al al al' sh0 M rest ls) (hlen : as.length = na) (hstk : stk = as.reverse ++ hv_r (some (k, i)) :: rest)
    (hOk : hg_Ok al' y dy (hv_r (some (k, i)) :: as) M Q') (kk : ∀ v M', Q' v M' → hg_G d al sh0 Q (bc - md_mc dy) (bs - md_ms dy) n ls (v.toList ++ rest) M') : hg_G d al sh0 Q bc bs pc ls stk M := by
  subst hstk
  intro p l e R s m args below meth cd D ad0 ad base H locs cells slots arr X Y
  have hts := X.2.2.2.2.2.1
  have hX9 := X.2.2.2.2.2.2.2.2
  have hCB := hg_callB (R := R) hts hL hl ⟨Nat.le_trans hrm.1 hX9.1, Nat.le_trans hrm.2 hX9.2.1⟩
  have hM := hOk l D ad base
  rw [hret] at hCB hM
  refine hg_after (dy := dy) hn hal hb kk X Y (va_runI (As := as.map (hv_c ad)) (b := ad k i) ⟨X.1, X.2.1, X.2.2.2.1, X.2.2.2.2.1, hts⟩ hM ⟨hCB, hy1, hts _ hV⟩ ⟨hg_blind, fun U hU hW => ⟨rfl, hm_K.warm hW hX9.2.2.2.2, by rw [hU]; exact Y.1.moved hW.alike⟩⟩ rfl (by rw [List.length_map]; exact hlen) Y.2.2.2.2.2.2.1 ?_ ?_ hd ⟨by have := hX9.2.2.1; have := Y.2.2.1; omega, by have := hX9.2.2.2.1; have := Y.2.2.2.1; omega⟩)
  · show (as.reverse ++ hv_r (some (k, i)) :: rest).map (hv_c ad) = (as.map (hv_c ad)).reverse ++ Value.ref (ad k i) :: rest.map (hv_c ad)
    rw [List.map_append, List.map_reverse]
    rfl
  · exact lv_room (by rw [hv_cats]; exact hc8)
theorem hg_callIN {y : MethodName} {dy : Md_} {al' : Bool} {as : List V_} {k i idx na : Nat} {Q' : Option V_ → Me_ → Prop} {stk : List V_} {host : String} (hd : decode (md_cc d) pc = .ok (.invokespecial idx, 3)) (hn : pc + 3 = n) (hl : ∀ D U, hm_K D U → va_Nw (.methodLinkNest (md_own d) idx y host) U) (hL : hy_L y dy na) (hy1 : y.name = "<init>") (hret : md_ret dy = none) (hV : Cond.instanceMethod y ∈ gtbl) (hrm : hg_rm d dy) (hc8 : (rest.map hv_cat).sum ≤ 8) (hb : md_mc dy ≤ bc ∧ md_ms dy ≤ bs) (hal : hg_al al al' sh0 M rest ls) (hlen : as.length = na) (hstk : stk = as.reverse ++ hv_r (some (k, i)) :: rest)
    (hOk : hg_Ok al' y dy (hv_r (some (k, i)) :: as) M Q') (kk : ∀ v M', Q' v M' → hg_G d al sh0 Q (bc - md_mc dy) (bs - md_ms dy) n ls (v.toList ++ rest) M') : hg_G d al sh0 Q bc bs pc ls stk M := by
  subst hstk
  intro p l e R s m args below meth cd D ad0 ad base H locs cells slots arr X Y
  have hts := X.2.2.2.2.2.1
  have hX9 := X.2.2.2.2.2.2.2.2
  have hCB := va_cnB (R := R) na hts (gtbl_good hL.1) rfl (rm := md_rm dy) rfl rfl (hl D s hX9.2.2.2.2) (hts _ hL.2.1) hL.2.2 ⟨Nat.le_trans hrm.1 hX9.1, Nat.le_trans hrm.2 hX9.2.1⟩
  have hM := hOk l D ad base
  rw [hret] at hCB hM
  refine hg_after (dy := dy) hn hal hb kk X Y (va_runIN (As := as.map (hv_c ad)) (b := ad k i) ⟨X.1, X.2.1, X.2.2.2.1, X.2.2.2.2.1, hts⟩ hM ⟨hCB, hy1, hts _ hV⟩ ⟨hg_blind, fun U hU hW => ⟨rfl, hm_K.warm hW hX9.2.2.2.2, by rw [hU]; exact Y.1.moved hW.alike⟩⟩ rfl (by rw [List.length_map]; exact hlen) Y.2.2.2.2.2.2.1 ?_ ?_ hd ⟨by have := hX9.2.2.1; have := Y.2.2.1; omega, by have := hX9.2.2.2.1; have := Y.2.2.2.1; omega⟩)
  · show (as.reverse ++ hv_r (some (k, i)) :: rest).map (hv_c ad) = (as.map (hv_c ad)).reverse ++ Value.ref (ad k i) :: rest.map (hv_c ad)
    rw [List.map_append, List.map_reverse]
    rfl
  · exact lv_room (by rw [hv_cats]; exact hc8)
variable {st : List V_}
theorem hg_objInit {k i idx : Nat} (hd : decode (md_cc d) pc = .ok (.invokespecial idx, 3)) (hn : pc + 3 = n) (hl : Cond.methodLink (md_own d) idx objectInit ∈ gtbl) (hi : Cond.instanceMethod objectInit ∈ gtbl) (hc : Cond.code objectInit ⟨#[0xb1]⟩ 1 none ∈ gtbl) (hf : 1 ≤ md_fr d) (hlo : (st.map hv_cat).sum + 12 ≤ md_lo d) (kk : hg_G d al sh0 Q bc bs n ls st M) : hg_G d al sh0 Q bc bs pc ls (hv_r (some (k, i)) :: st) M := by
  subst hn
  refine hg_pure (fun p l e R s m args below meth c D ad base H locs cells slots arr Qf X hR hq _ _ kk => ?_) kk
  have hts := X.2.2.2.2.2.1
  have hX9 := X.2.2.2.2.2.2.2.2
  refine W.objInit X.1 X.2.1 X.2.2.2.2.1 (hts _ hl) (hts _ hi) (hts _ hc) rfl (by rw [X.2.2.2.1]; exact hq.1) rfl hd (Nat.le_trans hf hX9.1) ?_ kk
  show 2 * 0 + _ + 12 ≤ _
  rw [hv_cats]
  have := hX9.2.1
  omega
theorem hg_min {x y : Int32} {idx : Nat} (hd : decode (md_cc d) pc = .ok (.invokestatic idx, 3)) (hn : pc + 3 = n) (hl : Cond.methodLink (md_own d) idx Lib.Math.min.name ∈ gtbl) (hs : Cond.static Lib.Math.min.name ∈ gtbl) (hi : Cond.initialized "java/lang/Math" ∈ gtbl) (hc : Cond.code Lib.Math.min.name Lib.Math.min.code 2 (some .int) ∈ gtbl) (hf : 1 ≤ md_fr d) (hlo : (st.map hv_cat).sum + 13 ≤ md_lo d) (kk : hg_G d al sh0 Q bc bs n ls (hv_i (if y < x then y else x) :: st) M) : hg_G d al sh0 Q bc bs pc ls (hv_i y :: hv_i x :: st) M := by
  subst hn
  refine hg_pure (fun p l e R s m args below meth c D ad base H locs cells slots arr Qf X hR hq hc1 hc2 kk => ?_) kk
  have hts := X.2.2.2.2.2.1
  have hX9 := X.2.2.2.2.2.2.2.2
  exact va_mmin X.1 X.2.1 (by rw [X.2.2.2.1]; exact hq.1.symm) X.2.2.2.2.1 (hts _ hl) (hts _ hs) (hts _ hi) (hts _ hc) (Nat.le_trans hf hX9.1) (by rw [hv_cats]; have := hX9.2.1; omega) hc1 hc2 hd kk
theorem hg_max {x y : Int32} {idx : Nat} (hd : decode (md_cc d) pc = .ok (.invokestatic idx, 3)) (hn : pc + 3 = n) (hl : Cond.methodLink (md_own d) idx Lib.Math.max.name ∈ gtbl) (hs : Cond.static Lib.Math.max.name ∈ gtbl) (hi : Cond.initialized "java/lang/Math" ∈ gtbl) (hc : Cond.code Lib.Math.max.name Lib.Math.max.code 2 (some .int) ∈ gtbl) (hf : 1 ≤ md_fr d) (hlo : (st.map hv_cat).sum + 13 ≤ md_lo d) (kk : hg_G d al sh0 Q bc bs n ls (hv_i (if x < y then y else x) :: st) M) : hg_G d al sh0 Q bc bs pc ls (hv_i y :: hv_i x :: st) M := by
  subst hn
  refine hg_pure (fun p l e R s m args below meth c D ad base H locs cells slots arr Qf X hR hq hc1 hc2 kk => ?_) kk
  have hts := X.2.2.2.2.2.1
  have hX9 := X.2.2.2.2.2.2.2.2
  exact va_mmax X.1 X.2.1 (by rw [X.2.2.2.1]; exact hq.1.symm) X.2.2.2.2.1 (hts _ hl) (hts _ hs) (hts _ hi) (hts _ hc) (Nat.le_trans hf hX9.1) (by rw [hv_cats]; have := hX9.2.1; omega) hc1 hc2 hd kk
end HC
end
section
/-! new cells -/
theorem hm_at.addr {D : Hd_} {ad : Nat → Nat → Nat} {M : Me_} {U : State} {H : Heap} {k i n : Nat} (h : hm_at D ad M U H k i n) : ad k i < H.size := by
  unfold hm_at at h
  by_cases hk : k = 0
  · rw [if_pos hk] at h
    obtain ⟨scr, h1, -⟩ := h
    exact (Array.getElem?_eq_some_iff.mp h1).1
  · rw [if_neg hk] at h
    split at h
    · obtain ⟨cell, h1, -⟩ := h
      exact (Array.getElem?_eq_some_iff.mp h1).1
    · exact (Array.getElem?_eq_some_iff.mp h).1
theorem hm_v_ad {ad ad' : Nat → Nat → Nat} {ty : FieldType} {M M' : Me_} {k i f : Nat} (h : M'.1 k i f = M.1 k i f ∧ M'.2.1 k i f = M.2.1 k i f ∧ M'.2.2.1 k i f = M.2.2.1 k i f) (hv : hv_c ad' (hv_r (M.2.2.1 k i f)) = hv_c ad (hv_r (M.2.2.1 k i f))) : hm_v ad' ty M' k i f = hm_v ad ty M k i f := by
  unfold hm_v
  split
  · rw [h.1]
  · rw [h.2.1]
  · rw [h.2.2]; exact hv
abbrev hm_new (mi : MI_) (ml : ML_) (mr : MR_) (sh : SH_) (k i n : Nat) : Me_ := (u_n mi k i 0, u_n ml k i 0, u_n mr k i none, u_2 sh k i (some n))
theorem hm_R.grow {D : Hd_} {ad : Nat → Nat → Nat} {base : Nat} {mi : MI_} {ml : ML_} {mr : MR_} {sh : SH_} {U : State} {H H' : Heap} {k i n0 : Nat} (h : hm_R D ad base (mi, ml, mr, sh) U H) (h0 : k ≠ 0) (hs : sh k i = none) (hz : H'.size = H.size + 1) (hq : ∀ q : Nat, q < H.size → H'[q]? = H[q]?) (ha : hm_at D (u_2 ad k i H.size) (hm_new mi ml mr sh k i n0) U H' k i n0) :
    hm_R D (u_2 ad k i H.size) base (hm_new mi ml mr sh k i n0) U H' ∧ ∀ k' i' n, sh k' i' = some n → u_2 ad k i H.size k' i' = ad k' i' := by
  obtain ⟨h1, h2, h3, h4, h5⟩ := h
  have hne : ∀ {k' i' n'}, sh k' i' = some n' → ¬ (k' = k ∧ i' = i) := by
    rintro k' i' n' hl ⟨rfl, rfl⟩
    rw [hs] at hl
    cases hl
  have had : ∀ {k' i' n'}, sh k' i' = some n' → u_2 ad k i H.size k' i' = ad k' i' := fun hl => by simp only [u_2, if_neg (hne hl)]
  have hlive : ∀ {k' i' n'}, u_2 sh k i (some n0) k' i' = some n' → (k' = k ∧ i' = i ∧ n' = n0) ∨ (sh k' i' = some n' ∧ ¬ (k' = k ∧ i' = i)) := by
    intro k' i' n' hl
    by_cases e : k' = k ∧ i' = i
    · simp only [u_2, if_pos e] at hl
      cases hl
      exact Or.inl ⟨e.1, e.2, rfl⟩
    · simp only [u_2, if_neg e] at hl
      exact Or.inr ⟨hl, e⟩
  refine ⟨⟨fun k' i' n hn => ?_, fun k1 i1 k2 i2 n1 n2 l1 l2 e => ?_, fun k' i' n hn hk' => ?_, by omega, fun k' i' f n q hn hr => ?_⟩, fun _ _ _ hl => had hl⟩
  · rcases hlive hn with ⟨rfl, rfl, rfl⟩ | ⟨hl, e⟩
    · exact ha
    · have hold := h1 k' i' n hl
      have hlt := hold.addr
      have hm : ∀ f, (hm_new mi ml mr sh k i n0).1 k' i' f = mi k' i' f ∧ (hm_new mi ml mr sh k i n0).2.1 k' i' f = ml k' i' f ∧ (hm_new mi ml mr sh k i n0).2.2.1 k' i' f = mr k' i' f := fun f => ⟨by simp only [u_n, if_neg e], by simp only [u_n, if_neg e], by simp only [u_n, if_neg e]⟩
      have hv : ∀ f, hv_c (u_2 ad k i H.size) (hv_r (mr k' i' f)) = hv_c ad (hv_r (mr k' i' f)) := by
        intro f
        cases hr : mr k' i' f with
        | none => rfl
        | some q =>
          obtain ⟨n', hn'⟩ := h5 k' i' f n q hl hr
          show Value.ref _ = Value.ref _
          rw [had hn']
      have ea := had hl
      unfold hm_at at hold ⊢
      by_cases hk : k' = 0
      · rw [if_pos hk] at hold ⊢
        obtain ⟨scr, g1, g2, g3, g4, g5⟩ := hold
        exact ⟨scr, by rw [ea, hq _ hlt]; exact g1, g2, g3, g4, fun j hj => by rw [g5 j hj, (hm j).1]⟩
      · rw [if_neg hk] at hold ⊢
        split
        · rename_i c hc
          rw [hc] at hold
          rw [ea]
          exact (t_OB.kept hold (hq _ hlt)).toV (fun f => (hm_v_ad (hm f) (hv f)).symm)
        · rename_i a hc
          rw [hc] at hold
          rw [ea, hq _ hlt, hold]
          exact congrArg some (arrV_to (fun f => (hm_v_ad (hm f) (hv f)).symm))
  · rcases hlive l1 with ⟨rfl, rfl, rfl⟩ | ⟨a1, e1⟩ <;> rcases hlive l2 with ⟨rfl, rfl, rfl⟩ | ⟨a2, e2⟩
    · exact ⟨rfl, rfl⟩
    · have := (h1 _ _ _ a2).addr
      rw [had a2] at e
      simp only [u_2, and_self, if_true] at e
      omega
    · have := (h1 _ _ _ a1).addr
      rw [had a1] at e
      simp only [u_2, and_self, if_true] at e
      omega
    · rw [had a1, had a2] at e
      exact h2 _ _ _ _ _ _ a1 a2 e
  · rcases hlive hn with ⟨rfl, rfl, rfl⟩ | ⟨hl, e⟩
    · simp only [u_2, and_self, if_true]
      exact h4
    · rw [had hl]
      exact h3 _ _ _ hl hk'
  · rcases hlive hn with ⟨rfl, rfl, rfl⟩ | ⟨hl, e⟩
    · simp [u_n] at hr
    · simp only [u_n, if_neg e] at hr
      obtain ⟨n', hn'⟩ := h5 k' i' f n q hl hr
      exact ⟨n', by simp only [u_2, if_neg (hne hn')]; exact hn'⟩
theorem def_sort {ty : FieldType} (h : ty ≠ .float ∧ ty ≠ .double) {ad : Nat → Nat → Nat} {mi : MI_} {ml : ML_} {mr : MR_} {sh : SH_} {k i n f : Nat} : defaultValue ty = hm_v ad ty (hm_new mi ml mr sh k i n) k i f := by
  cases ty <;> first | exact absurd rfl h.1 | exact absurd rfl h.2 | simp [hm_v, sort_, defaultValue, u_n, hv_c]
section HN
variable {d : Md_} {al : Bool} {sh0 : SH_} {Q : Option V_ → Me_ → Prop} {bc bs : Nat} {pc n : Nat} {ls : List (Option V_)} {st : List V_} {mi : MI_} {ml : ML_} {mr : MR_} {sh : SH_}
/-- what a maker of cells needs: the id is free, what it holds lives -/
abbrev hg_fr (al : Bool) (sh0 sh : SH_) (k i : Nat) (ls : List (Option V_)) (st : List V_) : Prop := al = true ∧ k ≠ 0 ∧ sh k i = none ∧ sh0 k i = none ∧ (∀ v ∈ st, hv_lv sh v) ∧ (∀ v, some v ∈ ls → hv_lv sh v)
theorem hg_grown {k i n0 : Nat} (hf : hg_fr al sh0 sh k i ls st) (hb : 1 ≤ bc ∧ n0 ≤ bs) (kk : hg_G d al sh0 Q (bc - 1) (bs - n0) n ls (hv_r (some (k, i)) :: st) (hm_new mi ml mr sh k i n0))
    {p : Program} {l : Launch} {e : Env} {R : Room} {s : State} {m : MethodId} {args : Array Value} {below : List Frame} {meth : Method} {c : Code} {D : Hd_} {ad0 ad : Nat → Nat → Nat} {base : Nat} {H H' : Heap} {locs : List Loc} {cells slots : Nat} {arr : Array Slot}
    (X : hg_X d p R s m args meth c D) (Y : hg_Y d al sh0 bc bs ls (mi, ml, mr, sh) s D ad0 ad base H locs cells slots arr) (hz : H'.size = H.size + 1) (hq : ∀ q : Nat, q < H.size → H'[q]? = H[q]?) (ha : hm_at D (u_2 ad k i H.size) (hm_new mi ml mr sh k i n0) s H' k i n0) :
    W p l e R s m args below meth c H' locs (cells + 1) (slots + n0) (MQ below (hg_Q D base sh0 ad0 al Q) args s (md_mc d) (md_ms d) (fun q => base ≤ q)) (F0 m n arr (.ref H.size :: st.map (hv_c ad))) := by
  obtain ⟨f1, f2, f3, f4, f5, f6⟩ := hf
  obtain ⟨hR, hsame⟩ := Y.1.grow f2 f3 hz hq ha
  have e1 : (hv_r (some (k, i)) :: st).map (hv_c (u_2 ad k i H.size)) = .ref H.size :: st.map (hv_c ad) := by
    rw [List.map_cons, List.map_congr_left (fun v hv => hv_c_same hsame (f5 v hv))]
    simp [hv_c, u_2]
  have h := kk p l e R s m args below meth c D ad0 (u_2 ad k i H.size) base H' locs (cells + 1) (slots + n0) arr X ⟨hR, Y.2.1, by have := Y.2.2.1; omega, by have := Y.2.2.2.1; omega, fun k' i' n hn => ?_, (fun h => by rw [f1] at h; cases h), by rw [hl_as_same hsame f6]; exact Y.2.2.2.2.2.2⟩
  · rw [e1] at h
    exact h
  · have : ¬ (k' = k ∧ i' = i) := by
      rintro ⟨rfl, rfl⟩
      rw [f4] at hn
      cases hn
    simp only [u_2, if_neg this]
    exact Y.2.2.2.2.1 k' i' n hn
theorem hg_new {k i c idx : Nat} {C : String} {T : u_T} {N : Nat} (hd : decode (md_cc d) pc = .ok (.new idx, 3)) (hn : pc + 3 = n) (hw : Cond.classLink (md_own d) idx C ∈ gtbl) (hC : hc_C c C T N) (hnf : ∀ f, f < N → ft_ c f ≠ .float ∧ ft_ c f ≠ .double) (hk : kd_ k = .inl c) (hf : hg_fr al sh0 sh k i ls st) (hb : 1 ≤ bc ∧ N ≤ bs)
    (kk : hg_G d al sh0 Q (bc - 1) (bs - N) n ls (hv_r (some (k, i)) :: st) (hm_new mi ml mr sh k i N)) : hg_G d al sh0 Q bc bs pc ls st (mi, ml, mr, sh) := by
  subst hn
  intro p l e R s m args below meth cd D ad0 ad base H locs cells slots arr X Y
  have hts := X.2.2.2.2.2.1
  have hX9 := X.2.2.2.2.2.2.2.2
  have hK : va_K (D.1, D.2.1) vwCl (tys_ D) s := X.2.2.2.2.2.2.2.2.2.2.2.2.1
  obtain ⟨hc, hin, hty, hnm, hins, hini⟩ := hC
  have hKn := hK.1 c _ hc
  refine W.newcK X.1 X.2.1 X.2.2.2.2.1 (hts _ hw) (hts _ hins) (hts _ hini) rfl hd (by have := hX9.2.2.1; have := Y.2.2.1; omega) (by have := hX9.2.2.2.1; have := Y.2.2.2.1; omega) hKn.2.1 rfl fun H1 kC hkC e1 z1 o1 => ?_
  refine hg_grown hf hb kk X Y z1 o1 ?_
  unfold hm_at
  rw [if_neg hf.2.1, hk]
  have hb2 := u_born (ft_ c) hts hin hKn hkC e1 hty
  have ea : u_2 ad k i H.size k i = H.size := by simp [u_2]
  rw [ea]
  show t_OB H.size (D.1 c) (nf_ c) (D.2.1 c) H1 _
  rw [nf_of hc]
  exact hb2.to (fun f hf2 => def_sort (hnf f hf2))
theorem hg_newarray {k i a : Nat} {at9 : ArrayType} {x : Int32} {N : Nat} (hd : decode (md_cc d) pc = .ok (.newarray at9, 2)) (hn : pc + 2 = n) (hw : Cond.arrayClass (newarray.typeOf at9) ∈ gtbl) (hty : newarray.typeOf at9 = et_ a) (ha3 : a < 3) (hx : x = nI N) (hN : N < 1000) (hk : kd_ k = .inr a) (hf : hg_fr al sh0 sh k i ls st) (hb : 1 ≤ bc ∧ N ≤ bs)
    (kk : hg_G d al sh0 Q (bc - 1) (bs - N) n ls (hv_r (some (k, i)) :: st) (hm_new mi ml mr sh k i N)) : hg_G d al sh0 Q bc bs pc ls (hv_i x :: st) (mi, ml, mr, sh) := by
  subst hn hx
  intro p l e R s m args below meth cd D ad0 ad base H locs cells slots arr X Y
  have hts := X.2.2.2.2.2.1
  have hX9 := X.2.2.2.2.2.2.2.2
  have hK : va_K (D.1, D.2.1) vwCl (tys_ D) s := X.2.2.2.2.2.2.2.2.2.2.2.2.1
  have hra := (hK.2 a _ (tys_at D a (by omega))).2
  refine va_newaK X.1 X.2.1 (hts _ hw) rfl hd rfl (nI_pos (by omega)) (nI_clamp (by omega)) (by
    have : componentBytes (newarray.typeOf at9) ≤ 8 := by cases at9 <;> decide
    have := Nat.mul_le_mul (Nat.le_of_lt hN) this
    omega) (by have := hX9.2.2.1; have := Y.2.2.1; omega) (by have := hX9.2.2.2.1; have := Y.2.2.2.1; omega) rfl fun H1 cA e1 z1 o1 hAr hNm => ?_
  have hcA : cA = D.2.2 a := by
    rw [hty] at hNm
    match a, ha3 with
    | 0, _ => exact Option.some.inj (hNm.symm.trans hra)
    | 1, _ => exact Option.some.inj (hNm.symm.trans hra)
    | 2, _ => exact Option.some.inj (hNm.symm.trans hra)
  refine hg_grown hf hb kk X Y z1 o1 ?_
  unfold hm_at
  rw [if_neg hf.2.1, hk]
  have ea : u_2 ad k i H.size k i = H.size := by simp [u_2]
  rw [ea]
  refine e1.trans (congrArg some ?_)
  rw [hcA]
  refine arrV_to (fun j => ?_)
  rw [hty]
  refine def_sort ?_
  match a, ha3 with
  | 0, _ => exact ⟨by decide, by decide⟩
  | 1, _ => exact ⟨by decide, by decide⟩
  | 2, _ => exact ⟨by decide, by decide⟩
theorem hg_anewarray {k i a idx : Nat} {C : String} {x : Int32} {N : Nat} (hd : decode (md_cc d) pc = .ok (.anewarray idx, 3)) (hn : pc + 3 = n) (hw : Cond.classLink (md_own d) idx C ∈ gtbl) (hAO : ∀ D U, hm_K D U → va_AO C U) (hty : et_ a = .object C) (hx : x = nI N) (hN : N < 1000) (hk : kd_ k = .inr a) (hf : hg_fr al sh0 sh k i ls st) (hb : 1 ≤ bc ∧ N ≤ bs)
    (kk : hg_G d al sh0 Q (bc - 1) (bs - N) n ls (hv_r (some (k, i)) :: st) (hm_new mi ml mr sh k i N)) : hg_G d al sh0 Q bc bs pc ls (hv_i x :: st) (mi, ml, mr, sh) := by
  subst hn hx
  intro p l e R s m args below meth cd D ad0 ad base H locs cells slots arr X Y
  have hts := X.2.2.2.2.2.1
  have hX9 := X.2.2.2.2.2.2.2.2
  have hK : va_K (D.1, D.2.1) vwCl (tys_ D) s := X.2.2.2.2.2.2.2.2.2.2.2.2.1
  have hra := (hK.2 a _ (tys_at D a (kd_arr hk))).2
  rw [show ((D.2.2 a, et_ a) : ClassId × FieldType).2 = .object C from hty] at hra
  obtain ⟨kA', comp', -, -, -, k4⟩ := hra
  have hcl : (nI N).toNatClampNeg = N := nI_clamp (by omega)
  refine W.anew X.1 X.2.1 X.2.2.2.2.1 (hts _ hw) (va_AO.use (hAO D s hX9.2.2.2.2)) rfl hd rfl (nI_pos (by omega)) (by rw [hcl]; omega) (by have := hX9.2.2.1; have := Y.2.2.1; omega) (by rw [hcl]; have := hX9.2.2.2.1; have := Y.2.2.2.1; omega) fun cA kA comp f1 f2 f3 f4 => ?_
  have hcA : cA = D.2.2 a := Option.some.inj (f1.symm.trans k4)
  rw [hcl]
  refine hg_grown hf hb kk X Y (by rw [Array.size_push]) (fun q hq => by rw [Array.getElem?_push, if_neg (Nat.ne_of_lt hq)]) ?_
  unfold hm_at
  rw [if_neg hf.2.1, hk]
  have ea : u_2 ad k i H.size k i = H.size := by simp [u_2]
  rw [ea, Array.getElem?_push_size, arrV_new]
  refine congrArg some ?_
  rw [hcA]
  refine arrV_to (fun j => ?_)
  rw [hty]
  simp [hm_v, sort_, u_n, hv_c]
end HN
end
