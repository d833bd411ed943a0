-- ===== PART A: goes FIRST, ahead of the names: the tables' words, and 'selects' of the private methods out of them =====
/-- a private method of a class that the tables say can be made, by its rows of tables_1 -/
def lw_okq (q : MethodName × Nat) : Prop := (q.1.cls ≠ "java/lang/invoke/MethodHandle" ∧ q.1.cls ≠ "java/lang/invoke/VarHandle") ∧ Cond.instantiable q.1.cls q.2 ∈ tables_1 ∧ Cond.privateMethod q.1 ∈ tables_1 ∧ Cond.instanceMethod q.1 ∈ tables_1
theorem lw_p0 : lw_okq (⟨"HardShop", "partAt", "(I)LHardShop$Part;"⟩, 6) := ⟨⟨by decide +kernel, by decide +kernel⟩, List.mem_of_getElem? (i := 10) (by decide +kernel), List.mem_of_getElem? (i := 202) (by decide +kernel), List.mem_of_getElem? (i := 203) (by decide +kernel)⟩
theorem lw_p1 : lw_okq (⟨"HardShop$Part", "moveWarmth", "(I)V"⟩, 10) := ⟨⟨by decide +kernel, by decide +kernel⟩, List.mem_of_getElem? (i := 127) (by decide +kernel), List.mem_of_getElem? (i := 210) (by decide +kernel), List.mem_of_getElem? (i := 211) (by decide +kernel)⟩
theorem lw_p2 : lw_okq (⟨"HardShop$Part", "flowFrom", "(I)I"⟩, 10) := ⟨⟨by decide +kernel, by decide +kernel⟩, List.mem_of_getElem? (i := 127) (by decide +kernel), List.mem_of_getElem? (i := 214) (by decide +kernel), List.mem_of_getElem? (i := 215) (by decide +kernel)⟩
theorem lw_p3 : lw_okq (⟨"HardShop$Shell", "becomeHot", "(I)V"⟩, 6) := ⟨⟨by decide +kernel, by decide +kernel⟩, List.mem_of_getElem? (i := 134) (by decide +kernel), List.mem_of_getElem? (i := 222) (by decide +kernel), List.mem_of_getElem? (i := 223) (by decide +kernel)⟩
theorem lw_p4 : lw_okq (⟨"HardShop$Shell", "becomeLamellar", "(I)V"⟩, 6) := ⟨⟨by decide +kernel, by decide +kernel⟩, List.mem_of_getElem? (i := 134) (by decide +kernel), List.mem_of_getElem? (i := 229) (by decide +kernel), List.mem_of_getElem? (i := 230) (by decide +kernel)⟩
theorem lw_p5 : lw_okq (⟨"HardShop$Shell", "becomeTough", "(I)V"⟩, 6) := ⟨⟨by decide +kernel, by decide +kernel⟩, List.mem_of_getElem? (i := 134) (by decide +kernel), List.mem_of_getElem? (i := 233) (by decide +kernel), List.mem_of_getElem? (i := 234) (by decide +kernel)⟩
theorem lw_p6 : lw_okq (⟨"HardShop$Shell", "becomeHard", "(I)V"⟩, 6) := ⟨⟨by decide +kernel, by decide +kernel⟩, List.mem_of_getElem? (i := 134) (by decide +kernel), List.mem_of_getElem? (i := 237) (by decide +kernel), List.mem_of_getElem? (i := 238) (by decide +kernel)⟩
theorem lw_p7 : lw_okq (⟨"HardShop$Shell", "draw", "()V"⟩, 6) := ⟨⟨by decide +kernel, by decide +kernel⟩, List.mem_of_getElem? (i := 134) (by decide +kernel), List.mem_of_getElem? (i := 241) (by decide +kernel), List.mem_of_getElem? (i := 242) (by decide +kernel)⟩
theorem lw_p8 : lw_okq (⟨"HardShop", "furnaceAt", "(I)LHardShop$Furnace;"⟩, 6) := ⟨⟨by decide +kernel, by decide +kernel⟩, List.mem_of_getElem? (i := 10) (by decide +kernel), List.mem_of_getElem? (i := 280) (by decide +kernel), List.mem_of_getElem? (i := 281) (by decide +kernel)⟩
theorem lw_p9 : lw_okq (⟨"HardShop$Furnace", "gasByLine", "()I"⟩, 13) := ⟨⟨by decide +kernel, by decide +kernel⟩, List.mem_of_getElem? (i := 48) (by decide +kernel), List.mem_of_getElem? (i := 363) (by decide +kernel), List.mem_of_getElem? (i := 364) (by decide +kernel)⟩
theorem lw_p10 : lw_okq (⟨"HardShop$Furnace", "gasNearer", "(II)I"⟩, 13) := ⟨⟨by decide +kernel, by decide +kernel⟩, List.mem_of_getElem? (i := 48) (by decide +kernel), List.mem_of_getElem? (i := 367) (by decide +kernel), List.mem_of_getElem? (i := 368) (by decide +kernel)⟩
theorem lw_p11 : lw_okq (⟨"HardShop$Furnace", "lineIsOver", "(LHardShop$Run;)Z"⟩, 13) := ⟨⟨by decide +kernel, by decide +kernel⟩, List.mem_of_getElem? (i := 48) (by decide +kernel), List.mem_of_getElem? (i := 376) (by decide +kernel), List.mem_of_getElem? (i := 377) (by decide +kernel)⟩
theorem lw_p12 : lw_okq (⟨"HardShop$Furnace", "countSoak", "(LHardShop$Run;)V"⟩, 13) := ⟨⟨by decide +kernel, by decide +kernel⟩, List.mem_of_getElem? (i := 48) (by decide +kernel), List.mem_of_getElem? (i := 380) (by decide +kernel), List.mem_of_getElem? (i := 381) (by decide +kernel)⟩
theorem lw_p13 : lw_okq (⟨"HardShop$Furnace", "goToNextLine", "()V"⟩, 13) := ⟨⟨by decide +kernel, by decide +kernel⟩, List.mem_of_getElem? (i := 48) (by decide +kernel), List.mem_of_getElem? (i := 386) (by decide +kernel), List.mem_of_getElem? (i := 387) (by decide +kernel)⟩
theorem lw_p14 : lw_okq (⟨"HardShop", "furnacesRunning", "()I"⟩, 6) := ⟨⟨by decide +kernel, by decide +kernel⟩, List.mem_of_getElem? (i := 10) (by decide +kernel), List.mem_of_getElem? (i := 398) (by decide +kernel), List.mem_of_getElem? (i := 399) (by decide +kernel)⟩
theorem lw_p15 : lw_okq (⟨"HardShop", "doubtRuns", "(II)I"⟩, 6) := ⟨⟨by decide +kernel, by decide +kernel⟩, List.mem_of_getElem? (i := 10) (by decide +kernel), List.mem_of_getElem? (i := 411) (by decide +kernel), List.mem_of_getElem? (i := 412) (by decide +kernel)⟩
def lw_privs_1 : List (MethodName × Nat) := [(⟨"HardShop", "partAt", "(I)LHardShop$Part;"⟩, 6), (⟨"HardShop$Part", "moveWarmth", "(I)V"⟩, 10), (⟨"HardShop$Part", "flowFrom", "(I)I"⟩, 10), (⟨"HardShop$Shell", "becomeHot", "(I)V"⟩, 6), (⟨"HardShop$Shell", "becomeLamellar", "(I)V"⟩, 6), (⟨"HardShop$Shell", "becomeTough", "(I)V"⟩, 6), (⟨"HardShop$Shell", "becomeHard", "(I)V"⟩, 6), (⟨"HardShop$Shell", "draw", "()V"⟩, 6), (⟨"HardShop", "furnaceAt", "(I)LHardShop$Furnace;"⟩, 6), (⟨"HardShop$Furnace", "gasByLine", "()I"⟩, 13), (⟨"HardShop$Furnace", "gasNearer", "(II)I"⟩, 13), (⟨"HardShop$Furnace", "lineIsOver", "(LHardShop$Run;)Z"⟩, 13), (⟨"HardShop$Furnace", "countSoak", "(LHardShop$Run;)V"⟩, 13), (⟨"HardShop$Furnace", "goToNextLine", "()V"⟩, 13), (⟨"HardShop", "furnacesRunning", "()I"⟩, 6), (⟨"HardShop", "doubtRuns", "(II)I"⟩, 6)]
theorem lw_r1 : ∀ q ∈ lw_privs_1, lw_okq q := List.forall_mem_cons.mpr ⟨lw_p0, List.forall_mem_cons.mpr ⟨lw_p1, List.forall_mem_cons.mpr ⟨lw_p2, List.forall_mem_cons.mpr ⟨lw_p3, List.forall_mem_cons.mpr ⟨lw_p4, List.forall_mem_cons.mpr ⟨lw_p5, List.forall_mem_cons.mpr ⟨lw_p6, List.forall_mem_cons.mpr ⟨lw_p7, List.forall_mem_cons.mpr ⟨lw_p8, List.forall_mem_cons.mpr ⟨lw_p9, List.forall_mem_cons.mpr ⟨lw_p10, List.forall_mem_cons.mpr ⟨lw_p11, List.forall_mem_cons.mpr ⟨lw_p12, List.forall_mem_cons.mpr ⟨lw_p13, List.forall_mem_cons.mpr ⟨lw_p14, List.forall_mem_cons.mpr ⟨lw_p15, fun _ h => absurd h List.not_mem_nil⟩⟩⟩⟩⟩⟩⟩⟩⟩⟩⟩⟩⟩⟩⟩⟩
theorem lw_p16 : lw_okq (⟨"HardShop$JobList", "plan", "()V"⟩, 5) := ⟨⟨by decide +kernel, by decide +kernel⟩, List.mem_of_getElem? (i := 24) (by decide +kernel), List.mem_of_getElem? (i := 455) (by decide +kernel), List.mem_of_getElem? (i := 456) (by decide +kernel)⟩
theorem lw_p17 : lw_okq (⟨"HardShop$JobList", "nextOf", "(I)I"⟩, 5) := ⟨⟨by decide +kernel, by decide +kernel⟩, List.mem_of_getElem? (i := 24) (by decide +kernel), List.mem_of_getElem? (i := 459) (by decide +kernel), List.mem_of_getElem? (i := 460) (by decide +kernel)⟩
theorem lw_p18 : lw_okq (⟨"HardShop$JobList", "latenessWith", "(II)I"⟩, 5) := ⟨⟨by decide +kernel, by decide +kernel⟩, List.mem_of_getElem? (i := 24) (by decide +kernel), List.mem_of_getElem? (i := 464) (by decide +kernel), List.mem_of_getElem? (i := 465) (by decide +kernel)⟩
theorem lw_p19 : lw_okq (⟨"HardShop", "runsInDoubt", "()I"⟩, 6) := ⟨⟨by decide +kernel, by decide +kernel⟩, List.mem_of_getElem? (i := 10) (by decide +kernel), List.mem_of_getElem? (i := 493) (by decide +kernel), List.mem_of_getElem? (i := 494) (by decide +kernel)⟩
theorem lw_p20 : lw_okq (⟨"HardShopModel", "isPart", "(I)Z"⟩, 39) := ⟨⟨by decide +kernel, by decide +kernel⟩, List.mem_of_getElem? (i := 535) (by decide +kernel), List.mem_of_getElem? (i := 533) (by decide +kernel), List.mem_of_getElem? (i := 534) (by decide +kernel)⟩
theorem lw_p21 : lw_okq (⟨"HardShopModel", "steps", "(II)V"⟩, 39) := ⟨⟨by decide +kernel, by decide +kernel⟩, List.mem_of_getElem? (i := 535) (by decide +kernel), List.mem_of_getElem? (i := 538) (by decide +kernel), List.mem_of_getElem? (i := 539) (by decide +kernel)⟩
theorem lw_p22 : lw_okq (⟨"HardShopModel", "change", "(II)V"⟩, 39) := ⟨⟨by decide +kernel, by decide +kernel⟩, List.mem_of_getElem? (i := 535) (by decide +kernel), List.mem_of_getElem? (i := 542) (by decide +kernel), List.mem_of_getElem? (i := 543) (by decide +kernel)⟩
theorem lw_p23 : lw_okq (⟨"HardShopModel", "turn", "(IIII)I"⟩, 39) := ⟨⟨by decide +kernel, by decide +kernel⟩, List.mem_of_getElem? (i := 535) (by decide +kernel), List.mem_of_getElem? (i := 546) (by decide +kernel), List.mem_of_getElem? (i := 547) (by decide +kernel)⟩
theorem lw_p24 : lw_okq (⟨"HardShopModel", "innermost", "(I)I"⟩, 39) := ⟨⟨by decide +kernel, by decide +kernel⟩, List.mem_of_getElem? (i := 535) (by decide +kernel), List.mem_of_getElem? (i := 550) (by decide +kernel), List.mem_of_getElem? (i := 551) (by decide +kernel)⟩
theorem lw_p25 : lw_okq (⟨"HardShopModel", "hardness", "(I)I"⟩, 39) := ⟨⟨by decide +kernel, by decide +kernel⟩, List.mem_of_getElem? (i := 535) (by decide +kernel), List.mem_of_getElem? (i := 559) (by decide +kernel), List.mem_of_getElem? (i := 560) (by decide +kernel)⟩
theorem lw_p26 : lw_okq (⟨"HardShopModel", "massOf", "(I)I"⟩, 39) := ⟨⟨by decide +kernel, by decide +kernel⟩, List.mem_of_getElem? (i := 535) (by decide +kernel), List.mem_of_getElem? (i := 714) (by decide +kernel), List.mem_of_getElem? (i := 715) (by decide +kernel)⟩
theorem lw_p27 : lw_okq (⟨"HardShopModel", "loadOf", "(I)I"⟩, 39) := ⟨⟨by decide +kernel, by decide +kernel⟩, List.mem_of_getElem? (i := 535) (by decide +kernel), List.mem_of_getElem? (i := 730) (by decide +kernel), List.mem_of_getElem? (i := 731) (by decide +kernel)⟩
theorem lw_p28 : lw_okq (⟨"HardShopModel", "ticks", "(I)V"⟩, 39) := ⟨⟨by decide +kernel, by decide +kernel⟩, List.mem_of_getElem? (i := 535) (by decide +kernel), List.mem_of_getElem? (i := 738) (by decide +kernel), List.mem_of_getElem? (i := 739) (by decide +kernel)⟩
theorem lw_p29 : lw_okq (⟨"HardShopModel", "liveAt", "(II)I"⟩, 39) := ⟨⟨by decide +kernel, by decide +kernel⟩, List.mem_of_getElem? (i := 535) (by decide +kernel), List.mem_of_getElem? (i := 742) (by decide +kernel), List.mem_of_getElem? (i := 743) (by decide +kernel)⟩
theorem lw_p30 : lw_okq (⟨"HardShopModel", "running", "()I"⟩, 39) := ⟨⟨by decide +kernel, by decide +kernel⟩, List.mem_of_getElem? (i := 535) (by decide +kernel), List.mem_of_getElem? (i := 746) (by decide +kernel), List.mem_of_getElem? (i := 747) (by decide +kernel)⟩
theorem lw_p31 : lw_okq (⟨"HardShopModel", "isWell", "(I)Z"⟩, 39) := ⟨⟨by decide +kernel, by decide +kernel⟩, List.mem_of_getElem? (i := 535) (by decide +kernel), List.mem_of_getElem? (i := 766) (by decide +kernel), List.mem_of_getElem? (i := 767) (by decide +kernel)⟩
def lw_privs_2 : List (MethodName × Nat) := [(⟨"HardShop$JobList", "plan", "()V"⟩, 5), (⟨"HardShop$JobList", "nextOf", "(I)I"⟩, 5), (⟨"HardShop$JobList", "latenessWith", "(II)I"⟩, 5), (⟨"HardShop", "runsInDoubt", "()I"⟩, 6), (⟨"HardShopModel", "isPart", "(I)Z"⟩, 39), (⟨"HardShopModel", "steps", "(II)V"⟩, 39), (⟨"HardShopModel", "change", "(II)V"⟩, 39), (⟨"HardShopModel", "turn", "(IIII)I"⟩, 39), (⟨"HardShopModel", "innermost", "(I)I"⟩, 39), (⟨"HardShopModel", "hardness", "(I)I"⟩, 39), (⟨"HardShopModel", "massOf", "(I)I"⟩, 39), (⟨"HardShopModel", "loadOf", "(I)I"⟩, 39), (⟨"HardShopModel", "ticks", "(I)V"⟩, 39), (⟨"HardShopModel", "liveAt", "(II)I"⟩, 39), (⟨"HardShopModel", "running", "()I"⟩, 39), (⟨"HardShopModel", "isWell", "(I)Z"⟩, 39)]
theorem lw_r2 : ∀ q ∈ lw_privs_2, lw_okq q := List.forall_mem_cons.mpr ⟨lw_p16, List.forall_mem_cons.mpr ⟨lw_p17, List.forall_mem_cons.mpr ⟨lw_p18, List.forall_mem_cons.mpr ⟨lw_p19, List.forall_mem_cons.mpr ⟨lw_p20, List.forall_mem_cons.mpr ⟨lw_p21, List.forall_mem_cons.mpr ⟨lw_p22, List.forall_mem_cons.mpr ⟨lw_p23, List.forall_mem_cons.mpr ⟨lw_p24, List.forall_mem_cons.mpr ⟨lw_p25, List.forall_mem_cons.mpr ⟨lw_p26, List.forall_mem_cons.mpr ⟨lw_p27, List.forall_mem_cons.mpr ⟨lw_p28, List.forall_mem_cons.mpr ⟨lw_p29, List.forall_mem_cons.mpr ⟨lw_p30, List.forall_mem_cons.mpr ⟨lw_p31, fun _ h => absurd h List.not_mem_nil⟩⟩⟩⟩⟩⟩⟩⟩⟩⟩⟩⟩⟩⟩⟩⟩
theorem lw_p32 : lw_okq (⟨"HardShopModel", "weigh", "()V"⟩, 39) := ⟨⟨by decide +kernel, by decide +kernel⟩, List.mem_of_getElem? (i := 535) (by decide +kernel), List.mem_of_getElem? (i := 786) (by decide +kernel), List.mem_of_getElem? (i := 787) (by decide +kernel)⟩
theorem lw_p33 : lw_okq (⟨"HardShopModel", "lateBy", "(II)I"⟩, 39) := ⟨⟨by decide +kernel, by decide +kernel⟩, List.mem_of_getElem? (i := 535) (by decide +kernel), List.mem_of_getElem? (i := 791) (by decide +kernel), List.mem_of_getElem? (i := 792) (by decide +kernel)⟩
def lw_privs_3 : List (MethodName × Nat) := [(⟨"HardShopModel", "weigh", "()V"⟩, 39), (⟨"HardShopModel", "lateBy", "(II)I"⟩, 39)]
theorem lw_r3 : ∀ q ∈ lw_privs_3, lw_okq q := List.forall_mem_cons.mpr ⟨lw_p32, List.forall_mem_cons.mpr ⟨lw_p33, fun _ h => absurd h List.not_mem_nil⟩⟩
def lw_privs : List (MethodName × Nat) := lw_privs_1 ++ (lw_privs_2 ++ (lw_privs_3))
def lw_tbl : List Cond := k2_sels lw_privs ++ tables_1
theorem lw_privs_ok : ∀ q ∈ lw_privs, lw_okq q := by
  show ∀ q ∈ lw_privs_1 ++ (lw_privs_2 ++ (lw_privs_3)), lw_okq q
  exact List.forall_mem_append.mpr ⟨lw_r1, List.forall_mem_append.mpr ⟨lw_r2, lw_r3⟩⟩
def RX0 : String := "HardShop$Furnace"
def TX0 : u_T := fun k => match k with
  | 0 => ("HardShop$Furnace", "places", "[LHardShop$Part;", true)
  | 1 => ("HardShop$Furnace", "lost", "[Z", true)
  | 2 => ("HardShop$Furnace", "drift", "[I", true)
  | 3 => ("HardShop$Furnace", "ops", "[I", true)
  | 4 => ("HardShop$Furnace", "goals", "[I", true)
  | 5 => ("HardShop$Furnace", "lengths", "[I", true)
  | 6 => ("HardShop$Furnace", "lineCount", "I", false)
  | 7 => ("HardShop$Furnace", "lineNow", "I", false)
  | 8 => ("HardShop$Furnace", "error", "I", false)
  | 9 => ("HardShop$Furnace", "firstUnsurveyed", "I", false)
  | 10 => ("HardShop$Furnace", "gas", "I", false)
  | 11 => ("HardShop$Furnace", "counted", "I", false)
  | _ => ("HardShop$Furnace", "current", "LHardShop$Run;", false)
def tyX0 : Nat → FieldType := fun k => match k with
  | 0 => .array (.object "HardShop$Part")
  | 1 => .array .boolean
  | 2 => .array .int
  | 3 => .array .int
  | 4 => .array .int
  | 5 => .array .int
  | 6 => .int
  | 7 => .int
  | 8 => .int
  | 9 => .int
  | 10 => .int
  | 11 => .int
  | _ => .object "HardShop$Run"
abbrev wsX00 : List Cond := u_ws RX0 TX0 13
theorem nmX0 : ∀ a, a < 13 → ∀ b, b < 13 → a ≠ b → (TX0 a).2.1 ≠ (TX0 b).2.1 := by decide +kernel
theorem tyX0_ok : ∀ k, k < 13 → parseFieldDescriptor (TX0 k).2.2.1 = some (tyX0 k) := by decide +kernel
abbrev cX0_init : ByteArray := prog_2_method_1_code
def yX0_init : MethodName := ⟨RX0, "<init>", "()V"⟩
abbrev cX0_isRunning : ByteArray := prog_2_method_2_code
def yX0_isRunning : MethodName := ⟨RX0, "isRunning", "()Z"⟩
abbrev cX0_addLine : ByteArray := prog_2_method_3_code
def yX0_addLine : MethodName := ⟨RX0, "addLine", "(III)I"⟩
abbrev cX0_massInside : ByteArray := prog_2_method_4_code
def yX0_massInside : MethodName := ⟨RX0, "massInside", "()I"⟩
abbrev cX0_partsInside : ByteArray := prog_2_method_5_code
def yX0_partsInside : MethodName := ⟨RX0, "partsInside", "()I"⟩
abbrev cX0_begin : ByteArray := prog_2_method_6_code
def yX0_begin : MethodName := ⟨RX0, "begin", "(LHardShop$Run;)V"⟩
abbrev cX0_end : ByteArray := prog_2_method_7_code
def yX0_end : MethodName := ⟨RX0, "end", "(Z)V"⟩
abbrev cX0_doTick : ByteArray := prog_2_method_8_code
def yX0_doTick : MethodName := ⟨RX0, "doTick", "()V"⟩
abbrev cX0_gasByLine : ByteArray := prog_2_method_9_code
def yX0_gasByLine : MethodName := ⟨RX0, "gasByLine", "()I"⟩
abbrev cX0_gasNearer : ByteArray := prog_2_method_10_code
def yX0_gasNearer : MethodName := ⟨RX0, "gasNearer", "(II)I"⟩
abbrev cX0_lineIsOver : ByteArray := prog_2_method_11_code
def yX0_lineIsOver : MethodName := ⟨RX0, "lineIsOver", "(LHardShop$Run;)Z"⟩
abbrev cX0_countSoak : ByteArray := prog_2_method_12_code
def yX0_countSoak : MethodName := ⟨RX0, "countSoak", "(LHardShop$Run;)V"⟩
abbrev cX0_goToNextLine : ByteArray := prog_2_method_13_code
def yX0_goToNextLine : MethodName := ⟨RX0, "goToNextLine", "()V"⟩
abbrev cX0_tell : ByteArray := prog_2_method_14_code
def yX0_tell : MethodName := ⟨RX0, "tell", "(I)I"⟩
abbrev cX0_digestFrom : ByteArray := prog_2_method_15_code
def yX0_digestFrom : MethodName := ⟨RX0, "digestFrom", "(J)J"⟩
def RX1 : String := "HardShop$JobList"
def TX1 : u_T := fun k => match k with
  | 0 => ("HardShop$JobList", "times", "[I", true)
  | 1 => ("HardShop$JobList", "dues", "[I", true)
  | 2 => ("HardShop$JobList", "leastBehind", "[I", true)
  | 3 => ("HardShop$JobList", "best", "[I", true)
  | _ => ("HardShop$JobList", "size", "I", false)
def tyX1 : Nat → FieldType := fun k => match k with
  | 0 => .array .int
  | 1 => .array .int
  | 2 => .array .int
  | 3 => .array .int
  | _ => .int
abbrev wsX10 : List Cond := u_ws RX1 TX1 5
theorem nmX1 : ∀ a, a < 5 → ∀ b, b < 5 → a ≠ b → (TX1 a).2.1 ≠ (TX1 b).2.1 := by decide +kernel
theorem tyX1_ok : ∀ k, k < 5 → parseFieldDescriptor (TX1 k).2.2.1 = some (tyX1 k) := by decide +kernel
abbrev cX1_init : ByteArray := prog_3_method_1_code
def yX1_init : MethodName := ⟨RX1, "<init>", "()V"⟩
abbrev cX1_add : ByteArray := prog_3_method_2_code
def yX1_add : MethodName := ⟨RX1, "add", "(II)I"⟩
abbrev cX1_removeAll : ByteArray := prog_3_method_3_code
def yX1_removeAll : MethodName := ⟨RX1, "removeAll", "()I"⟩
abbrev cX1_leastLateness : ByteArray := prog_3_method_4_code
def yX1_leastLateness : MethodName := ⟨RX1, "leastLateness", "()I"⟩
abbrev cX1_plan : ByteArray := prog_3_method_5_code
def yX1_plan : MethodName := ⟨RX1, "plan", "()V"⟩
abbrev cX1_nextOf : ByteArray := prog_3_method_6_code
def yX1_nextOf : MethodName := ⟨RX1, "nextOf", "(I)I"⟩
abbrev cX1_latenessWith : ByteArray := prog_3_method_7_code
def yX1_latenessWith : MethodName := ⟨RX1, "latenessWith", "(II)I"⟩
def RX2 : String := "HardShop$Part"
def TX2 : u_T := fun k => match k with
  | 0 => ("HardShop$Part", "number", "I", true)
  | 1 => ("HardShop$Part", "mass", "I", true)
  | 2 => ("HardShop$Part", "shells", "[LHardShop$Shell;", true)
  | 3 => ("HardShop$Part", "k", "I", true)
  | 4 => ("HardShop$Part", "s", "I", true)
  | 5 => ("HardShop$Part", "p", "I", true)
  | 6 => ("HardShop$Part", "b", "I", true)
  | 7 => ("HardShop$Part", "allTaken", "J", false)
  | 8 => ("HardShop$Part", "inFurnace", "Z", false)
  | _ => ("HardShop$Part", "latestRun", "LHardShop$Run;", false)
def tyX2 : Nat → FieldType := fun k => match k with
  | 0 => .int
  | 1 => .int
  | 2 => .array (.object "HardShop$Shell")
  | 3 => .int
  | 4 => .int
  | 5 => .int
  | 6 => .int
  | 7 => .long
  | 8 => .boolean
  | _ => .object "HardShop$Run"
abbrev wsX20 : List Cond := u_ws RX2 TX2 10
theorem nmX2 : ∀ a, a < 10 → ∀ b, b < 10 → a ≠ b → (TX2 a).2.1 ≠ (TX2 b).2.1 := by decide +kernel
theorem tyX2_ok : ∀ k, k < 10 → parseFieldDescriptor (TX2 k).2.2.1 = some (tyX2 k) := by decide +kernel
abbrev cX2_init : ByteArray := prog_4_method_1_code
def yX2_init : MethodName := ⟨RX2, "<init>", "(IIIIIII)V"⟩
abbrev cX2_stepBeside : ByteArray := prog_4_method_2_code
def yX2_stepBeside : MethodName := ⟨RX2, "stepBeside", "(I)V"⟩
abbrev cX2_moveWarmth : ByteArray := prog_4_method_3_code
def yX2_moveWarmth : MethodName := ⟨RX2, "moveWarmth", "(I)V"⟩
abbrev cX2_flowFrom : ByteArray := prog_4_method_4_code
def yX2_flowFrom : MethodName := ⟨RX2, "flowFrom", "(I)I"⟩
abbrev cX2_innermostWarmth : ByteArray := prog_4_method_5_code
def yX2_innermostWarmth : MethodName := ⟨RX2, "innermostWarmth", "()I"⟩
abbrev cX2_warmthAstray : ByteArray := prog_4_method_6_code
def yX2_warmthAstray : MethodName := ⟨RX2, "warmthAstray", "()J"⟩
abbrev cX2_digestFrom : ByteArray := prog_4_method_7_code
def yX2_digestFrom : MethodName := ⟨RX2, "digestFrom", "(J)J"⟩
def RX3 : String := "HardShop$Run"
def TX3 : u_T := fun k => match k with
  | 0 => ("HardShop$Run", "furnace", "I", true)
  | 1 => ("HardShop$Run", "inDoubt", "Z", false)
  | 2 => ("HardShop$Run", "tooFewProbes", "Z", false)
  | 3 => ("HardShop$Run", "ticks", "I", false)
  | 4 => ("HardShop$Run", "over", "Z", false)
  | _ => ("HardShop$Run", "wentToEnd", "Z", false)
def tyX3 : Nat → FieldType := fun k => match k with
  | 0 => .int
  | 1 => .boolean
  | 2 => .boolean
  | 3 => .int
  | 4 => .boolean
  | _ => .boolean
abbrev wsX30 : List Cond := u_ws RX3 TX3 6
theorem nmX3 : ∀ a, a < 6 → ∀ b, b < 6 → a ≠ b → (TX3 a).2.1 ≠ (TX3 b).2.1 := by decide +kernel
theorem tyX3_ok : ∀ k, k < 6 → parseFieldDescriptor (TX3 k).2.2.1 = some (tyX3 k) := by decide +kernel
abbrev cX3_init : ByteArray := prog_5_method_1_code
def yX3_init : MethodName := ⟨RX3, "<init>", "(I)V"⟩
abbrev cX3_end : ByteArray := prog_5_method_2_code
def yX3_end : MethodName := ⟨RX3, "end", "(Z)V"⟩
abbrev cX3_isWell : ByteArray := prog_5_method_3_code
def yX3_isWell : MethodName := ⟨RX3, "isWell", "()Z"⟩
abbrev cX3_tell : ByteArray := prog_5_method_4_code
def yX3_tell : MethodName := ⟨RX3, "tell", "(I)I"⟩
abbrev cX3_digestFrom : ByteArray := prog_5_method_5_code
def yX3_digestFrom : MethodName := ⟨RX3, "digestFrom", "(J)J"⟩
def RX4 : String := "HardShop$Shell"
def TX4 : u_T := fun k => match k with
  | 0 => ("HardShop$Shell", "warmth", "I", false)
  | 1 => ("HardShop$Shell", "hot", "I", false)
  | 2 => ("HardShop$Shell", "lamellar", "I", false)
  | 3 => ("HardShop$Shell", "tough", "I", false)
  | 4 => ("HardShop$Shell", "hard", "I", false)
  | _ => ("HardShop$Shell", "drawn", "I", false)
def tyX4 : Nat → FieldType := fun k => match k with
  | 0 => .int
  | 1 => .int
  | 2 => .int
  | 3 => .int
  | 4 => .int
  | _ => .int
abbrev wsX40 : List Cond := u_ws RX4 TX4 6
theorem nmX4 : ∀ a, a < 6 → ∀ b, b < 6 → a ≠ b → (TX4 a).2.1 ≠ (TX4 b).2.1 := by decide +kernel
theorem tyX4_ok : ∀ k, k < 6 → parseFieldDescriptor (TX4 k).2.2.1 = some (tyX4 k) := by decide +kernel
abbrev cX4_init : ByteArray := prog_6_method_1_code
def yX4_init : MethodName := ⟨RX4, "<init>", "()V"⟩
abbrev cX4_change : ByteArray := prog_6_method_2_code
def yX4_change : MethodName := ⟨RX4, "change", "(II)V"⟩
abbrev cX4_becomeHot : ByteArray := prog_6_method_3_code
def yX4_becomeHot : MethodName := ⟨RX4, "becomeHot", "(I)V"⟩
abbrev cX4_becomeLamellar : ByteArray := prog_6_method_4_code
def yX4_becomeLamellar : MethodName := ⟨RX4, "becomeLamellar", "(I)V"⟩
abbrev cX4_becomeTough : ByteArray := prog_6_method_5_code
def yX4_becomeTough : MethodName := ⟨RX4, "becomeTough", "(I)V"⟩
abbrev cX4_becomeHard : ByteArray := prog_6_method_6_code
def yX4_becomeHard : MethodName := ⟨RX4, "becomeHard", "(I)V"⟩
abbrev cX4_draw : ByteArray := prog_6_method_7_code
def yX4_draw : MethodName := ⟨RX4, "draw", "()V"⟩
abbrev cX4_hardness : ByteArray := prog_6_method_8_code
def yX4_hardness : MethodName := ⟨RX4, "hardness", "()I"⟩
abbrev cX4_tell : ByteArray := prog_6_method_9_code
def yX4_tell : MethodName := ⟨RX4, "tell", "(I)I"⟩
def RX5 : String := "HardShop"
def TX5 : u_T := fun k => match k with
  | 0 => ("HardShop", "parts", "[LHardShop$Part;", true)
  | 1 => ("HardShop", "furnaces", "[LHardShop$Furnace;", true)
  | 2 => ("HardShop", "runs", "[LHardShop$Run;", true)
  | 3 => ("HardShop", "jobs", "LHardShop$JobList;", true)
  | 4 => ("HardShop", "partCount", "I", false)
  | _ => ("HardShop", "runCount", "I", false)
def tyX5 : Nat → FieldType := fun k => match k with
  | 0 => .array (.object "HardShop$Part")
  | 1 => .array (.object "HardShop$Furnace")
  | 2 => .array (.object "HardShop$Run")
  | 3 => .object "HardShop$JobList"
  | 4 => .int
  | _ => .int
abbrev wsX50 : List Cond := u_ws RX5 TX5 6
theorem nmX5 : ∀ a, a < 6 → ∀ b, b < 6 → a ≠ b → (TX5 a).2.1 ≠ (TX5 b).2.1 := by decide +kernel
theorem tyX5_ok : ∀ k, k < 6 → parseFieldDescriptor (TX5 k).2.2.1 = some (tyX5 k) := by decide +kernel
abbrev cX5_init : ByteArray := prog_1_method_1_code
def yX5_init : MethodName := ⟨RX5, "<init>", "()V"⟩
abbrev cX5_part : ByteArray := prog_1_method_2_code
def yX5_part : MethodName := ⟨RX5, "part", "(IIIIII)I"⟩
abbrev cX5_step : ByteArray := prog_1_method_3_code
def yX5_step : MethodName := ⟨RX5, "step", "(III)I"⟩
abbrev cX5_shell : ByteArray := prog_1_method_4_code
def yX5_shell : MethodName := ⟨RX5, "shell", "(III)I"⟩
abbrev cX5_taken : ByteArray := prog_1_method_5_code
def yX5_taken : MethodName := ⟨RX5, "taken", "(I)J"⟩
abbrev cX5_kept : ByteArray := prog_1_method_6_code
def yX5_kept : MethodName := ⟨RX5, "kept", "(I)J"⟩
abbrev cX5_line : ByteArray := prog_1_method_7_code
def yX5_line : MethodName := ⟨RX5, "line", "(IIII)I"⟩
abbrev cX5_clear : ByteArray := prog_1_method_8_code
def yX5_clear : MethodName := ⟨RX5, "clear", "(I)I"⟩
abbrev cX5_load : ByteArray := prog_1_method_9_code
def yX5_load : MethodName := ⟨RX5, "load", "(III)I"⟩
abbrev cX5_unload : ByteArray := prog_1_method_10_code
def yX5_unload : MethodName := ⟨RX5, "unload", "(II)I"⟩
abbrev cX5_probe : ByteArray := prog_1_method_11_code
def yX5_probe : MethodName := ⟨RX5, "probe", "(IIZI)I"⟩
abbrev cX5_run : ByteArray := prog_1_method_12_code
def yX5_run : MethodName := ⟨RX5, "run", "(I)I"⟩
abbrev cX5_tick : ByteArray := prog_1_method_13_code
def yX5_tick : MethodName := ⟨RX5, "tick", "(I)I"⟩
abbrev cX5_stop : ByteArray := prog_1_method_14_code
def yX5_stop : MethodName := ⟨RX5, "stop", "(I)I"⟩
abbrev cX5_survey : ByteArray := prog_1_method_15_code
def yX5_survey : MethodName := ⟨RX5, "survey", "(II)I"⟩
abbrev cX5_about : ByteArray := prog_1_method_16_code
def yX5_about : MethodName := ⟨RX5, "about", "(II)I"⟩
abbrev cX5_runAt : ByteArray := prog_1_method_17_code
def yX5_runAt : MethodName := ⟨RX5, "runAt", "(II)I"⟩
abbrev cX5_paper : ByteArray := prog_1_method_18_code
def yX5_paper : MethodName := ⟨RX5, "paper", "(III)I"⟩
abbrev cX5_job : ByteArray := prog_1_method_19_code
def yX5_job : MethodName := ⟨RX5, "job", "(II)I"⟩
abbrev cX5_clearJobs : ByteArray := prog_1_method_20_code
def yX5_clearJobs : MethodName := ⟨RX5, "clearJobs", "()I"⟩
abbrev cX5_lateness : ByteArray := prog_1_method_21_code
def yX5_lateness : MethodName := ⟨RX5, "lateness", "()I"⟩
abbrev cX5_order : ByteArray := prog_1_method_22_code
def yX5_order : MethodName := ⟨RX5, "order", "(I)I"⟩
abbrev cX5_count : ByteArray := prog_1_method_23_code
def yX5_count : MethodName := ⟨RX5, "count", "(I)I"⟩
abbrev cX5_digest : ByteArray := prog_1_method_24_code
def yX5_digest : MethodName := ⟨RX5, "digest", "()J"⟩
abbrev cX5_within : ByteArray := prog_1_method_25_code
def yX5_within : MethodName := ⟨RX5, "within", "(III)Z"⟩
abbrev cX5_lineIsAsTold : ByteArray := prog_1_method_26_code
def yX5_lineIsAsTold : MethodName := ⟨RX5, "lineIsAsTold", "(III)Z"⟩
abbrev cX5_partAt : ByteArray := prog_1_method_27_code
def yX5_partAt : MethodName := ⟨RX5, "partAt", "(I)LHardShop$Part;"⟩
abbrev cX5_furnaceAt : ByteArray := prog_1_method_28_code
def yX5_furnaceAt : MethodName := ⟨RX5, "furnaceAt", "(I)LHardShop$Furnace;"⟩
abbrev cX5_furnacesRunning : ByteArray := prog_1_method_29_code
def yX5_furnacesRunning : MethodName := ⟨RX5, "furnacesRunning", "()I"⟩
abbrev cX5_doubtRuns : ByteArray := prog_1_method_30_code
def yX5_doubtRuns : MethodName := ⟨RX5, "doubtRuns", "(II)I"⟩
abbrev cX5_runsInDoubt : ByteArray := prog_1_method_31_code
def yX5_runsInDoubt : MethodName := ⟨RX5, "runsInDoubt", "()I"⟩
abbrev cX5_truth : ByteArray := prog_1_method_32_code
def yX5_truth : MethodName := ⟨RX5, "truth", "(Z)I"⟩
def RX6 : String := "HardShopModel"
def TX6 : u_T := fun k => match k with
  | 0 => ("HardShopModel", "parts", "I", false)
  | 1 => ("HardShopModel", "shells", "[I", true)
  | 2 => ("HardShopModel", "masses", "[I", true)
  | 3 => ("HardShopModel", "inner", "[I", true)
  | 4 => ("HardShopModel", "outer", "[I", true)
  | 5 => ("HardShopModel", "rateP", "[I", true)
  | 6 => ("HardShopModel", "rateB", "[I", true)
  | 7 => ("HardShopModel", "took", "[J", true)
  | 8 => ("HardShopModel", "where", "[I", true)
  | 9 => ("HardShopModel", "runOf", "[I", true)
  | 10 => ("HardShopModel", "warmth", "[I", true)
  | 11 => ("HardShopModel", "share", "[I", true)
  | 12 => ("HardShopModel", "drawn", "[I", true)
  | 13 => ("HardShopModel", "flow", "[I", true)
  | 14 => ("HardShopModel", "gas", "[I", true)
  | 15 => ("HardShopModel", "error", "[I", true)
  | 16 => ("HardShopModel", "lines", "[I", true)
  | 17 => ("HardShopModel", "ops", "[I", true)
  | 18 => ("HardShopModel", "lineA", "[I", true)
  | 19 => ("HardShopModel", "lineB", "[I", true)
  | 20 => ("HardShopModel", "place", "[I", true)
  | 21 => ("HardShopModel", "isLive", "[Z", true)
  | 22 => ("HardShopModel", "drift", "[I", true)
  | 23 => ("HardShopModel", "runs", "[Z", true)
  | 24 => ("HardShopModel", "atLine", "[I", true)
  | 25 => ("HardShopModel", "counted", "[I", true)
  | 26 => ("HardShopModel", "ownRun", "[I", true)
  | 27 => ("HardShopModel", "since", "[I", true)
  | 28 => ("HardShopModel", "runMany", "I", false)
  | 29 => ("HardShopModel", "runFurnace", "[I", true)
  | 30 => ("HardShopModel", "runOver", "[Z", true)
  | 31 => ("HardShopModel", "runEnded", "[Z", true)
  | 32 => ("HardShopModel", "runBlind", "[Z", true)
  | 33 => ("HardShopModel", "runDoubt", "[Z", true)
  | 34 => ("HardShopModel", "runTicks", "[I", true)
  | 35 => ("HardShopModel", "jobs", "I", false)
  | 36 => ("HardShopModel", "times", "[I", true)
  | 37 => ("HardShopModel", "dues", "[I", true)
  | _ => ("HardShopModel", "late", "[I", true)
def tyX6 : Nat → FieldType := fun k => match k with
  | 0 => .int
  | 1 => .array .int
  | 2 => .array .int
  | 3 => .array .int
  | 4 => .array .int
  | 5 => .array .int
  | 6 => .array .int
  | 7 => .array .long
  | 8 => .array .int
  | 9 => .array .int
  | 10 => .array .int
  | 11 => .array .int
  | 12 => .array .int
  | 13 => .array .int
  | 14 => .array .int
  | 15 => .array .int
  | 16 => .array .int
  | 17 => .array .int
  | 18 => .array .int
  | 19 => .array .int
  | 20 => .array .int
  | 21 => .array .boolean
  | 22 => .array .int
  | 23 => .array .boolean
  | 24 => .array .int
  | 25 => .array .int
  | 26 => .array .int
  | 27 => .array .int
  | 28 => .int
  | 29 => .array .int
  | 30 => .array .boolean
  | 31 => .array .boolean
  | 32 => .array .boolean
  | 33 => .array .boolean
  | 34 => .array .int
  | 35 => .int
  | 36 => .array .int
  | 37 => .array .int
  | _ => .array .int
abbrev wsX60 : List Cond := u_ws RX6 TX6 39
theorem nmX6 : ∀ a, a < 39 → ∀ b, b < 39 → a ≠ b → (TX6 a).2.1 ≠ (TX6 b).2.1 := by decide +kernel
theorem tyX6_ok : ∀ k, k < 39 → parseFieldDescriptor (TX6 k).2.2.1 = some (tyX6 k) := by decide +kernel
abbrev cX6_in : ByteArray := prog_8_method_2_code
def yX6_in : MethodName := ⟨RX6, "in", "(III)Z"⟩
abbrev cX6_part : ByteArray := prog_8_method_3_code
def yX6_part : MethodName := ⟨RX6, "part", "(IIIIII)I"⟩
abbrev cX6_isPart : ByteArray := prog_8_method_4_code
def yX6_isPart : MethodName := ⟨RX6, "isPart", "(I)Z"⟩
abbrev cX6_steps : ByteArray := prog_8_method_5_code
def yX6_steps : MethodName := ⟨RX6, "steps", "(II)V"⟩
abbrev cX6_turn : ByteArray := prog_8_method_6_code
def yX6_turn : MethodName := ⟨RX6, "turn", "(IIII)I"⟩
abbrev cX6_change : ByteArray := prog_8_method_7_code
def yX6_change : MethodName := ⟨RX6, "change", "(II)V"⟩
abbrev cX6_hardness : ByteArray := prog_8_method_8_code
def yX6_hardness : MethodName := ⟨RX6, "hardness", "(I)I"⟩
abbrev cX6_innermost : ByteArray := prog_8_method_9_code
def yX6_innermost : MethodName := ⟨RX6, "innermost", "(I)I"⟩
abbrev cX6_step : ByteArray := prog_8_method_10_code
def yX6_step : MethodName := ⟨RX6, "step", "(III)I"⟩
abbrev cX6_shell : ByteArray := prog_8_method_11_code
def yX6_shell : MethodName := ⟨RX6, "shell", "(III)I"⟩
abbrev cX6_taken : ByteArray := prog_8_method_12_code
def yX6_taken : MethodName := ⟨RX6, "taken", "(I)J"⟩
abbrev cX6_kept : ByteArray := prog_8_method_13_code
def yX6_kept : MethodName := ⟨RX6, "kept", "(I)J"⟩
abbrev cX6_init : ByteArray := prog_8_method_14_code
def yX6_init : MethodName := ⟨RX6, "<init>", "()V"⟩
abbrev cX6_isFurnace : ByteArray := prog_8_method_15_code
def yX6_isFurnace : MethodName := ⟨RX6, "isFurnace", "(I)Z"⟩
abbrev cX6_isPlace : ByteArray := prog_8_method_16_code
def yX6_isPlace : MethodName := ⟨RX6, "isPlace", "(I)Z"⟩
abbrev cX6_line : ByteArray := prog_8_method_17_code
def yX6_line : MethodName := ⟨RX6, "line", "(IIII)I"⟩
abbrev cX6_clear : ByteArray := prog_8_method_18_code
def yX6_clear : MethodName := ⟨RX6, "clear", "(I)I"⟩
abbrev cX6_massOf : ByteArray := prog_8_method_19_code
def yX6_massOf : MethodName := ⟨RX6, "massOf", "(I)I"⟩
abbrev cX6_loadOf : ByteArray := prog_8_method_20_code
def yX6_loadOf : MethodName := ⟨RX6, "loadOf", "(I)I"⟩
abbrev cX6_load : ByteArray := prog_8_method_21_code
def yX6_load : MethodName := ⟨RX6, "load", "(III)I"⟩
abbrev cX6_unload : ByteArray := prog_8_method_22_code
def yX6_unload : MethodName := ⟨RX6, "unload", "(II)I"⟩
abbrev cX6_probe : ByteArray := prog_8_method_23_code
def yX6_probe : MethodName := ⟨RX6, "probe", "(IIZI)I"⟩
abbrev cX6_run : ByteArray := prog_8_method_24_code
def yX6_run : MethodName := ⟨RX6, "run", "(I)I"⟩
abbrev cX6_liveAt : ByteArray := prog_8_method_25_code
def yX6_liveAt : MethodName := ⟨RX6, "liveAt", "(II)I"⟩
abbrev cX6_ticks : ByteArray := prog_8_method_26_code
def yX6_ticks : MethodName := ⟨RX6, "ticks", "(I)V"⟩
abbrev cX6_running : ByteArray := prog_8_method_27_code
def yX6_running : MethodName := ⟨RX6, "running", "()I"⟩
abbrev cX6_tick : ByteArray := prog_8_method_28_code
def yX6_tick : MethodName := ⟨RX6, "tick", "(I)I"⟩
abbrev cX6_stop : ByteArray := prog_8_method_29_code
def yX6_stop : MethodName := ⟨RX6, "stop", "(I)I"⟩
abbrev cX6_survey : ByteArray := prog_8_method_30_code
def yX6_survey : MethodName := ⟨RX6, "survey", "(II)I"⟩
abbrev cX6_about : ByteArray := prog_8_method_31_code
def yX6_about : MethodName := ⟨RX6, "about", "(II)I"⟩
abbrev cX6_isWell : ByteArray := prog_8_method_32_code
def yX6_isWell : MethodName := ⟨RX6, "isWell", "(I)Z"⟩
abbrev cX6_runAt : ByteArray := prog_8_method_33_code
def yX6_runAt : MethodName := ⟨RX6, "runAt", "(II)I"⟩
abbrev cX6_paper : ByteArray := prog_8_method_34_code
def yX6_paper : MethodName := ⟨RX6, "paper", "(III)I"⟩
abbrev cX6_job : ByteArray := prog_8_method_35_code
def yX6_job : MethodName := ⟨RX6, "job", "(II)I"⟩
abbrev cX6_clearJobs : ByteArray := prog_8_method_36_code
def yX6_clearJobs : MethodName := ⟨RX6, "clearJobs", "()I"⟩
abbrev cX6_lateBy : ByteArray := prog_8_method_37_code
def yX6_lateBy : MethodName := ⟨RX6, "lateBy", "(II)I"⟩
abbrev cX6_weigh : ByteArray := prog_8_method_38_code
def yX6_weigh : MethodName := ⟨RX6, "weigh", "()V"⟩
abbrev cX6_lateness : ByteArray := prog_8_method_39_code
def yX6_lateness : MethodName := ⟨RX6, "lateness", "()I"⟩
abbrev cX6_order : ByteArray := prog_8_method_40_code
def yX6_order : MethodName := ⟨RX6, "order", "(I)I"⟩
abbrev cX6_count : ByteArray := prog_8_method_41_code
def yX6_count : MethodName := ⟨RX6, "count", "(I)I"⟩
abbrev cX6_digest : ByteArray := prog_8_method_42_code
def yX6_digest : MethodName := ⟨RX6, "digest", "()J"⟩
def RJ9 : String := "java/lang/Math"
def TJ9 : u_T := fun k => match k with
  | _ => ("", "", "", false)
def tyJ9 : Nat → FieldType := fun k => match k with
  | _ => .int
abbrev wsJ90 : List Cond := u_ws RJ9 TJ9 0
theorem nmJ9 : ∀ a, a < 0 → ∀ b, b < 0 → a ≠ b → (TJ9 a).2.1 ≠ (TJ9 b).2.1 := by decide +kernel
theorem tyJ9_ok : ∀ k, k < 0 → parseFieldDescriptor (TJ9 k).2.2.1 = some (tyJ9 k) := by decide +kernel
abbrev cJ9_max_7cf53 : ByteArray := prog_9_method_65_code
def yJ9_max_7cf53 : MethodName := ⟨RJ9, "max", "(II)I"⟩
abbrev cJ9_min_7cf53 : ByteArray := prog_9_method_69_code
def yJ9_min_7cf53 : MethodName := ⟨RJ9, "min", "(II)I"⟩
def RL : String := "HardShopLaw"
abbrev cL_law : ByteArray := code
def yL_law : MethodName := ⟨RL, "law", "([I)Z"⟩
abbrev vwCl : List vw_C := [(RX0, TX0, 13), (RX1, TX1, 5), (RX2, TX2, 10), (RX3, TX3, 6), (RX4, TX4, 6), (RX5, TX5, 6), (RX6, TX6, 39)]
