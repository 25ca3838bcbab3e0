section
-- ===== PART A: goes FIRST, ahead of the names: the tables' words, and 'selects' of the private methods out of them =====
/-- a private method of a class that the tables say can be made, by its rows of tables_1 -/
def lw_okq (q : MethodName × Nat) : Prop := (q.1.cls ≠ "java/lang/invoke/MethodHandle" ∧ q.1.cls ≠ "java/lang/invoke/VarHandle") ∧ Cond.instantiable q.1.cls q.2 ∈ tables_1 ∧ Cond.privateMethod q.1 ∈ tables_1 ∧ Cond.instanceMethod q.1 ∈ tables_1
theorem lw_p0 : lw_okq (⟨"SittingDesk", "layRows", "()V"⟩, 9) := ⟨⟨by decide +kernel, by decide +kernel⟩, List.mem_of_getElem? (i := 9) (by decide +kernel), List.mem_of_getElem? (i := 177) (by decide +kernel), List.mem_of_getElem? (i := 178) (by decide +kernel)⟩
theorem lw_p1 : lw_okq (⟨"SittingDesk$Row", "isQuick", "(II)Z"⟩, 6) := ⟨⟨by decide +kernel, by decide +kernel⟩, List.mem_of_getElem? (i := 54) (by decide +kernel), List.mem_of_getElem? (i := 193) (by decide +kernel), List.mem_of_getElem? (i := 194) (by decide +kernel)⟩
theorem lw_p2 : lw_okq (⟨"SittingDesk", "cutSittings", "(LSittingDesk$Row;)V"⟩, 9) := ⟨⟨by decide +kernel, by decide +kernel⟩, List.mem_of_getElem? (i := 9) (by decide +kernel), List.mem_of_getElem? (i := 205) (by decide +kernel), List.mem_of_getElem? (i := 206) (by decide +kernel)⟩
theorem lw_p3 : lw_okq (⟨"SittingDesk", "isCut", "(II)Z"⟩, 9) := ⟨⟨by decide +kernel, by decide +kernel⟩, List.mem_of_getElem? (i := 9) (by decide +kernel), List.mem_of_getElem? (i := 209) (by decide +kernel), List.mem_of_getElem? (i := 210) (by decide +kernel)⟩
theorem lw_p4 : lw_okq (⟨"SittingDesk", "isJoined", "(I)Z"⟩, 9) := ⟨⟨by decide +kernel, by decide +kernel⟩, List.mem_of_getElem? (i := 9) (by decide +kernel), List.mem_of_getElem? (i := 231) (by decide +kernel), List.mem_of_getElem? (i := 232) (by decide +kernel)⟩
theorem lw_p5 : lw_okq (⟨"SittingDesk", "countingClicks", "()I"⟩, 9) := ⟨⟨by decide +kernel, by decide +kernel⟩, List.mem_of_getElem? (i := 9) (by decide +kernel), List.mem_of_getElem? (i := 272) (by decide +kernel), List.mem_of_getElem? (i := 273) (by decide +kernel)⟩
theorem lw_p6 : lw_okq (⟨"SittingDesk", "allSittings", "()I"⟩, 9) := ⟨⟨by decide +kernel, by decide +kernel⟩, List.mem_of_getElem? (i := 9) (by decide +kernel), List.mem_of_getElem? (i := 276) (by decide +kernel), List.mem_of_getElem? (i := 277) (by decide +kernel)⟩
theorem lw_p7 : lw_okq (⟨"SittingDesk", "presentPersons", "()I"⟩, 9) := ⟨⟨by decide +kernel, by decide +kernel⟩, List.mem_of_getElem? (i := 9) (by decide +kernel), List.mem_of_getElem? (i := 280) (by decide +kernel), List.mem_of_getElem? (i := 281) (by decide +kernel)⟩
theorem lw_p8 : lw_okq (⟨"SittingDesk", "quickPersons", "()I"⟩, 9) := ⟨⟨by decide +kernel, by decide +kernel⟩, List.mem_of_getElem? (i := 9) (by decide +kernel), List.mem_of_getElem? (i := 284) (by decide +kernel), List.mem_of_getElem? (i := 285) (by decide +kernel)⟩
theorem lw_p9 : lw_okq (⟨"SittingDesk", "joinedMarks", "()I"⟩, 9) := ⟨⟨by decide +kernel, by decide +kernel⟩, List.mem_of_getElem? (i := 9) (by decide +kernel), List.mem_of_getElem? (i := 288) (by decide +kernel), List.mem_of_getElem? (i := 289) (by decide +kernel)⟩
theorem lw_p10 : lw_okq (⟨"SittingDesk", "isFunnel", "(I)Z"⟩, 9) := ⟨⟨by decide +kernel, by decide +kernel⟩, List.mem_of_getElem? (i := 9) (by decide +kernel), List.mem_of_getElem? (i := 305) (by decide +kernel), List.mem_of_getElem? (i := 306) (by decide +kernel)⟩
theorem lw_p11 : lw_okq (⟨"SittingDesk$Seeker", "seekFrom", "(ILSittingDesk$Funnel;LSittingDesk$Row;)V"⟩, 4) := ⟨⟨by decide +kernel, by decide +kernel⟩, List.mem_of_getElem? (i := 113) (by decide +kernel), List.mem_of_getElem? (i := 318) (by decide +kernel), List.mem_of_getElem? (i := 319) (by decide +kernel)⟩
theorem lw_p12 : lw_okq (⟨"SittingDesk", "digestWith", "(ILSittingDesk$Row;)I"⟩, 9) := ⟨⟨by decide +kernel, by decide +kernel⟩, List.mem_of_getElem? (i := 9) (by decide +kernel), List.mem_of_getElem? (i := 376) (by decide +kernel), List.mem_of_getElem? (i := 377) (by decide +kernel)⟩
theorem lw_p13 : lw_okq (⟨"SittingDeskModel", "isClick", "(I)Z"⟩, 23) := ⟨⟨by decide +kernel, by decide +kernel⟩, List.mem_of_getElem? (i := 380) (by decide +kernel), List.mem_of_getElem? (i := 473) (by decide +kernel), List.mem_of_getElem? (i := 474) (by decide +kernel)⟩
theorem lw_p14 : lw_okq (⟨"SittingDeskModel", "personOf", "(I)I"⟩, 23) := ⟨⟨by decide +kernel, by decide +kernel⟩, List.mem_of_getElem? (i := 380) (by decide +kernel), List.mem_of_getElem? (i := 493) (by decide +kernel), List.mem_of_getElem? (i := 494) (by decide +kernel)⟩
theorem lw_p15 : lw_okq (⟨"SittingDeskModel", "gather", "(I)V"⟩, 23) := ⟨⟨by decide +kernel, by decide +kernel⟩, List.mem_of_getElem? (i := 380) (by decide +kernel), List.mem_of_getElem? (i := 497) (by decide +kernel), List.mem_of_getElem? (i := 498) (by decide +kernel)⟩
def lw_privs_1 : List (MethodName × Nat) := [(⟨"SittingDesk", "layRows", "()V"⟩, 9), (⟨"SittingDesk$Row", "isQuick", "(II)Z"⟩, 6), (⟨"SittingDesk", "cutSittings", "(LSittingDesk$Row;)V"⟩, 9), (⟨"SittingDesk", "isCut", "(II)Z"⟩, 9), (⟨"SittingDesk", "isJoined", "(I)Z"⟩, 9), (⟨"SittingDesk", "countingClicks", "()I"⟩, 9), (⟨"SittingDesk", "allSittings", "()I"⟩, 9), (⟨"SittingDesk", "presentPersons", "()I"⟩, 9), (⟨"SittingDesk", "quickPersons", "()I"⟩, 9), (⟨"SittingDesk", "joinedMarks", "()I"⟩, 9), (⟨"SittingDesk", "isFunnel", "(I)Z"⟩, 9), (⟨"SittingDesk$Seeker", "seekFrom", "(ILSittingDesk$Funnel;LSittingDesk$Row;)V"⟩, 4), (⟨"SittingDesk", "digestWith", "(ILSittingDesk$Row;)I"⟩, 9), (⟨"SittingDeskModel", "isClick", "(I)Z"⟩, 23), (⟨"SittingDeskModel", "personOf", "(I)I"⟩, 23), (⟨"SittingDeskModel", "gather", "(I)V"⟩, 23)]
theorem lw_r1 : ∀ q ∈ lw_privs_1, lw_okq q := List.forall_mem_cons.mpr ⟨lw_p0, List.forall_mem_cons.mpr ⟨lw_p1, List.forall_mem_cons.mpr ⟨lw_p2, List.forall_mem_cons.mpr ⟨lw_p3, List.forall_mem_cons.mpr ⟨lw_p4, List.forall_mem_cons.mpr ⟨lw_p5, List.forall_mem_cons.mpr ⟨lw_p6, List.forall_mem_cons.mpr ⟨lw_p7, List.forall_mem_cons.mpr ⟨lw_p8, List.forall_mem_cons.mpr ⟨lw_p9, List.forall_mem_cons.mpr ⟨lw_p10, List.forall_mem_cons.mpr ⟨lw_p11, List.forall_mem_cons.mpr ⟨lw_p12, List.forall_mem_cons.mpr ⟨lw_p13, List.forall_mem_cons.mpr ⟨lw_p14, List.forall_mem_cons.mpr ⟨lw_p15, fun _ h => absurd h List.not_mem_nil⟩⟩⟩⟩⟩⟩⟩⟩⟩⟩⟩⟩⟩⟩⟩⟩
theorem lw_p16 : lw_okq (⟨"SittingDeskModel", "isAhead", "(II)Z"⟩, 23) := ⟨⟨by decide +kernel, by decide +kernel⟩, List.mem_of_getElem? (i := 380) (by decide +kernel), List.mem_of_getElem? (i := 501) (by decide +kernel), List.mem_of_getElem? (i := 502) (by decide +kernel)⟩
theorem lw_p17 : lw_okq (⟨"SittingDeskModel", "isCut", "(I)Z"⟩, 23) := ⟨⟨by decide +kernel, by decide +kernel⟩, List.mem_of_getElem? (i := 380) (by decide +kernel), List.mem_of_getElem? (i := 505) (by decide +kernel), List.mem_of_getElem? (i := 506) (by decide +kernel)⟩
theorem lw_p18 : lw_okq (⟨"SittingDeskModel", "placeIn", "(I)I"⟩, 23) := ⟨⟨by decide +kernel, by decide +kernel⟩, List.mem_of_getElem? (i := 380) (by decide +kernel), List.mem_of_getElem? (i := 509) (by decide +kernel), List.mem_of_getElem? (i := 510) (by decide +kernel)⟩
theorem lw_p19 : lw_okq (⟨"SittingDeskModel", "clicksOf", "(I)I"⟩, 23) := ⟨⟨by decide +kernel, by decide +kernel⟩, List.mem_of_getElem? (i := 380) (by decide +kernel), List.mem_of_getElem? (i := 517) (by decide +kernel), List.mem_of_getElem? (i := 518) (by decide +kernel)⟩
theorem lw_p20 : lw_okq (⟨"SittingDeskModel", "birth", "()I"⟩, 23) := ⟨⟨by decide +kernel, by decide +kernel⟩, List.mem_of_getElem? (i := 380) (by decide +kernel), List.mem_of_getElem? (i := 521) (by decide +kernel), List.mem_of_getElem? (i := 522) (by decide +kernel)⟩
theorem lw_p21 : lw_okq (⟨"SittingDeskModel", "counted", "(I)I"⟩, 23) := ⟨⟨by decide +kernel, by decide +kernel⟩, List.mem_of_getElem? (i := 380) (by decide +kernel), List.mem_of_getElem? (i := 539) (by decide +kernel), List.mem_of_getElem? (i := 540) (by decide +kernel)⟩
theorem lw_p22 : lw_okq (⟨"SittingDeskModel", "isFunnel", "(I)Z"⟩, 23) := ⟨⟨by decide +kernel, by decide +kernel⟩, List.mem_of_getElem? (i := 380) (by decide +kernel), List.mem_of_getElem? (i := 553) (by decide +kernel), List.mem_of_getElem? (i := 554) (by decide +kernel)⟩
theorem lw_p23 : lw_okq (⟨"SittingDeskModel", "findWays", "(I)V"⟩, 23) := ⟨⟨by decide +kernel, by decide +kernel⟩, List.mem_of_getElem? (i := 380) (by decide +kernel), List.mem_of_getElem? (i := 561) (by decide +kernel), List.mem_of_getElem? (i := 562) (by decide +kernel)⟩
theorem lw_p24 : lw_okq (⟨"SittingDeskModel", "endOf", "(III)I"⟩, 23) := ⟨⟨by decide +kernel, by decide +kernel⟩, List.mem_of_getElem? (i := 380) (by decide +kernel), List.mem_of_getElem? (i := 565) (by decide +kernel), List.mem_of_getElem? (i := 566) (by decide +kernel)⟩
theorem lw_p25 : lw_okq (⟨"SittingDeskModel", "isWay", "(IIII)Z"⟩, 23) := ⟨⟨by decide +kernel, by decide +kernel⟩, List.mem_of_getElem? (i := 380) (by decide +kernel), List.mem_of_getElem? (i := 569) (by decide +kernel), List.mem_of_getElem? (i := 570) (by decide +kernel)⟩
theorem lw_p26 : lw_okq (⟨"SittingDeskModel", "suits", "(IIII)Z"⟩, 23) := ⟨⟨by decide +kernel, by decide +kernel⟩, List.mem_of_getElem? (i := 380) (by decide +kernel), List.mem_of_getElem? (i := 573) (by decide +kernel), List.mem_of_getElem? (i := 574) (by decide +kernel)⟩
theorem lw_p27 : lw_okq (⟨"SittingDeskModel", "reachOf", "(I)I"⟩, 23) := ⟨⟨by decide +kernel, by decide +kernel⟩, List.mem_of_getElem? (i := 380) (by decide +kernel), List.mem_of_getElem? (i := 585) (by decide +kernel), List.mem_of_getElem? (i := 586) (by decide +kernel)⟩
theorem lw_p28 : lw_okq (⟨"SittingDeskModel", "cameIn", "(I)Z"⟩, 23) := ⟨⟨by decide +kernel, by decide +kernel⟩, List.mem_of_getElem? (i := 380) (by decide +kernel), List.mem_of_getElem? (i := 602) (by decide +kernel), List.mem_of_getElem? (i := 603) (by decide +kernel)⟩
def lw_privs_2 : List (MethodName × Nat) := [(⟨"SittingDeskModel", "isAhead", "(II)Z"⟩, 23), (⟨"SittingDeskModel", "isCut", "(I)Z"⟩, 23), (⟨"SittingDeskModel", "placeIn", "(I)I"⟩, 23), (⟨"SittingDeskModel", "clicksOf", "(I)I"⟩, 23), (⟨"SittingDeskModel", "birth", "()I"⟩, 23), (⟨"SittingDeskModel", "counted", "(I)I"⟩, 23), (⟨"SittingDeskModel", "isFunnel", "(I)Z"⟩, 23), (⟨"SittingDeskModel", "findWays", "(I)V"⟩, 23), (⟨"SittingDeskModel", "endOf", "(III)I"⟩, 23), (⟨"SittingDeskModel", "isWay", "(IIII)Z"⟩, 23), (⟨"SittingDeskModel", "suits", "(IIII)Z"⟩, 23), (⟨"SittingDeskModel", "reachOf", "(I)I"⟩, 23), (⟨"SittingDeskModel", "cameIn", "(I)Z"⟩, 23)]
theorem lw_r2 : ∀ q ∈ lw_privs_2, lw_okq q := List.forall_mem_cons.mpr ⟨lw_p16, List.forall_mem_cons.mpr ⟨lw_p17, List.forall_mem_cons.mpr ⟨lw_p18, List.forall_mem_cons.mpr ⟨lw_p19, List.forall_mem_cons.mpr ⟨lw_p20, List.forall_mem_cons.mpr ⟨lw_p21, List.forall_mem_cons.mpr ⟨lw_p22, List.forall_mem_cons.mpr ⟨lw_p23, List.forall_mem_cons.mpr ⟨lw_p24, List.forall_mem_cons.mpr ⟨lw_p25, List.forall_mem_cons.mpr ⟨lw_p26, List.forall_mem_cons.mpr ⟨lw_p27, List.forall_mem_cons.mpr ⟨lw_p28, fun _ h => absurd h List.not_mem_nil⟩⟩⟩⟩⟩⟩⟩⟩⟩⟩⟩⟩⟩
def lw_privs : List (MethodName × Nat) := lw_privs_1 ++ (lw_privs_2)
def lw_tbl : List Cond := k2_sels lw_privs ++ tables_1
theorem lw_privs_ok : ∀ q ∈ lw_privs, lw_okq q := by
  show ∀ q ∈ lw_privs_1 ++ (lw_privs_2), lw_okq q
  exact List.forall_mem_append.mpr ⟨lw_r1, lw_r2⟩
def RX0 : String := "SittingDesk$Clicks"
def TX0 : u_T := fun k => match k with
  | 0 => ("SittingDesk$Clicks", "time", "[I", true)
  | 1 => ("SittingDesk$Clicks", "who", "[I", true)
  | 2 => ("SittingDesk$Clicks", "sort", "[I", true)
  | 3 => ("SittingDesk$Clicks", "struck", "[Z", true)
  | 4 => ("SittingDesk$Clicks", "byTime", "[I", true)
  | _ => ("SittingDesk$Clicks", "size", "I", false)
def tyX0 : Nat → FieldType := fun k => match k with
  | 0 => .array .int
  | 1 => .array .int
  | 2 => .array .int
  | 3 => .array .boolean
  | 4 => .array .int
  | _ => .int
theorem nmX0 : ∀ a, a < 6 → ∀ b, b < 6 → a ≠ b → (TX0 a).2.1 ≠ (TX0 b).2.1 := by decide +kernel
theorem tyX0_ok : ∀ k, k < 6 → parseFieldDescriptor (TX0 k).2.2.1 = some (tyX0 k) := by decide +kernel
abbrev cX0_init : ByteArray := prog_2_method_1_code
def yX0_init : MethodName := ⟨RX0, "<init>", "()V"⟩
abbrev cX0_has : ByteArray := prog_2_method_2_code
def yX0_has : MethodName := ⟨RX0, "has", "(I)Z"⟩
abbrev cX0_add : ByteArray := prog_2_method_3_code
def yX0_add : MethodName := ⟨RX0, "add", "(III)I"⟩
def RX1 : String := "SittingDesk$Funnel"
def TX1 : u_T := fun k => match k with
  | 0 => ("SittingDesk$Funnel", "steps", "[I", true)
  | 1 => ("SittingDesk$Funnel", "size", "I", false)
  | 2 => ("SittingDesk$Funnel", "ordered", "Z", false)
  | 3 => ("SittingDesk$Funnel", "window", "I", false)
  | _ => ("SittingDesk$Funnel", "bar", "I", false)
def tyX1 : Nat → FieldType := fun k => match k with
  | 0 => .array .int
  | 1 => .int
  | 2 => .boolean
  | 3 => .int
  | _ => .int
theorem nmX1 : ∀ a, a < 5 → ∀ b, b < 5 → a ≠ b → (TX1 a).2.1 ≠ (TX1 b).2.1 := by decide +kernel
theorem tyX1_ok : ∀ k, k < 5 → parseFieldDescriptor (TX1 k).2.2.1 = some (tyX1 k) := by decide +kernel
abbrev cX1_init : ByteArray := prog_3_method_1_code
def yX1_init : MethodName := ⟨RX1, "<init>", "()V"⟩
abbrev cX1_open : ByteArray := prog_3_method_2_code
def yX1_open : MethodName := ⟨RX1, "open", "(ZII)V"⟩
abbrev cX1_taking : ByteArray := prog_3_method_3_code
def yX1_taking : MethodName := ⟨RX1, "taking", "(II)I"⟩
abbrev cX1_depthOf : ByteArray := prog_3_method_4_code
def yX1_depthOf : MethodName := ⟨RX1, "depthOf", "(I)I"⟩
abbrev cX1_hasFirst : ByteArray := prog_3_method_5_code
def yX1_hasFirst : MethodName := ⟨RX1, "hasFirst", "(II)Z"⟩
def RX2 : String := "SittingDesk$Row"
def TX2 : u_T := fun k => match k with
  | 0 => ("SittingDesk$Row", "all", "LSittingDesk$Clicks;", true)
  | 1 => ("SittingDesk$Row", "clicks", "[I", true)
  | 2 => ("SittingDesk$Row", "size", "I", false)
  | 3 => ("SittingDesk$Row", "owned", "I", false)
  | 4 => ("SittingDesk$Row", "quick", "Z", false)
  | _ => ("SittingDesk$Row", "sittings", "I", false)
def tyX2 : Nat → FieldType := fun k => match k with
  | 0 => .object "SittingDesk$Clicks"
  | 1 => .array .int
  | 2 => .int
  | 3 => .int
  | 4 => .boolean
  | _ => .int
theorem nmX2 : ∀ a, a < 6 → ∀ b, b < 6 → a ≠ b → (TX2 a).2.1 ≠ (TX2 b).2.1 := by decide +kernel
theorem tyX2_ok : ∀ k, k < 6 → parseFieldDescriptor (TX2 k).2.2.1 = some (tyX2 k) := by decide +kernel
abbrev cX2_init : ByteArray := prog_4_method_1_code
def yX2_init : MethodName := ⟨RX2, "<init>", "(LSittingDesk$Clicks;)V"⟩
abbrev cX2_has : ByteArray := prog_4_method_2_code
def yX2_has : MethodName := ⟨RX2, "has", "(I)Z"⟩
abbrev cX2_timeAt : ByteArray := prog_4_method_3_code
def yX2_timeAt : MethodName := ⟨RX2, "timeAt", "(I)I"⟩
abbrev cX2_sortAt : ByteArray := prog_4_method_4_code
def yX2_sortAt : MethodName := ⟨RX2, "sortAt", "(I)I"⟩
abbrev cX2_empty : ByteArray := prog_4_method_5_code
def yX2_empty : MethodName := ⟨RX2, "empty", "()V"⟩
abbrev cX2_take : ByteArray := prog_4_method_6_code
def yX2_take : MethodName := ⟨RX2, "take", "(I)V"⟩
abbrev cX2_dropIfQuick : ByteArray := prog_4_method_7_code
def yX2_dropIfQuick : MethodName := ⟨RX2, "dropIfQuick", "(II)V"⟩
abbrev cX2_isQuick : ByteArray := prog_4_method_8_code
def yX2_isQuick : MethodName := ⟨RX2, "isQuick", "(II)Z"⟩
abbrev cX2_birth : ByteArray := prog_4_method_9_code
def yX2_birth : MethodName := ⟨RX2, "birth", "(I)I"⟩
abbrev cX2_isIn : ByteArray := prog_4_method_10_code
def yX2_isIn : MethodName := ⟨RX2, "isIn", "(I)Z"⟩
def RX3 : String := "SittingDesk$Seeker"
def TX3 : u_T := fun k => match k with
  | 0 => ("SittingDesk$Seeker", "firstPlace", "[I", true)
  | 1 => ("SittingDesk$Seeker", "lastPlace", "[I", true)
  | 2 => ("SittingDesk$Seeker", "depth", "I", false)
  | _ => ("SittingDesk$Seeker", "end", "I", false)
def tyX3 : Nat → FieldType := fun k => match k with
  | 0 => .array .int
  | 1 => .array .int
  | 2 => .int
  | _ => .int
theorem nmX3 : ∀ a, a < 4 → ∀ b, b < 4 → a ≠ b → (TX3 a).2.1 ≠ (TX3 b).2.1 := by decide +kernel
theorem tyX3_ok : ∀ k, k < 4 → parseFieldDescriptor (TX3 k).2.2.1 = some (tyX3 k) := by decide +kernel
abbrev cX3_init : ByteArray := prog_5_method_1_code
def yX3_init : MethodName := ⟨RX3, "<init>", "()V"⟩
abbrev cX3_tellWays : ByteArray := prog_5_method_2_code
def yX3_tellWays : MethodName := ⟨RX3, "tellWays", "(LSittingDesk$Funnel;LSittingDesk$Row;)I"⟩
abbrev cX3_farthest : ByteArray := prog_5_method_3_code
def yX3_farthest : MethodName := ⟨RX3, "farthest", "(LSittingDesk$Funnel;LSittingDesk$Row;)I"⟩
abbrev cX3_seekFrom : ByteArray := prog_5_method_4_code
def yX3_seekFrom : MethodName := ⟨RX3, "seekFrom", "(ILSittingDesk$Funnel;LSittingDesk$Row;)V"⟩
def RX4 : String := "SittingDesk"
def TX4 : u_T := fun k => match k with
  | 0 => ("SittingDesk", "clicks", "LSittingDesk$Clicks;", true)
  | 1 => ("SittingDesk", "personOf", "[I", true)
  | 2 => ("SittingDesk", "rules", "[I", true)
  | 3 => ("SittingDesk", "rows", "[LSittingDesk$Row;", true)
  | 4 => ("SittingDesk", "placeOf", "[I", true)
  | 5 => ("SittingDesk", "sittingOf", "[I", true)
  | 6 => ("SittingDesk", "funnels", "[LSittingDesk$Funnel;", true)
  | 7 => ("SittingDesk", "funnelCount", "I", false)
  | _ => ("SittingDesk", "seeker", "LSittingDesk$Seeker;", true)
def tyX4 : Nat → FieldType := fun k => match k with
  | 0 => .object "SittingDesk$Clicks"
  | 1 => .array .int
  | 2 => .array .int
  | 3 => .array (.object "SittingDesk$Row")
  | 4 => .array .int
  | 5 => .array .int
  | 6 => .array (.object "SittingDesk$Funnel")
  | 7 => .int
  | _ => .object "SittingDesk$Seeker"
theorem nmX4 : ∀ a, a < 9 → ∀ b, b < 9 → a ≠ b → (TX4 a).2.1 ≠ (TX4 b).2.1 := by decide +kernel
theorem tyX4_ok : ∀ k, k < 9 → parseFieldDescriptor (TX4 k).2.2.1 = some (tyX4 k) := by decide +kernel
abbrev cX4_init : ByteArray := prog_1_method_1_code
def yX4_init : MethodName := ⟨RX4, "<init>", "()V"⟩
abbrev cX4_click : ByteArray := prog_1_method_2_code
def yX4_click : MethodName := ⟨RX4, "click", "(III)I"⟩
abbrev cX4_strike : ByteArray := prog_1_method_3_code
def yX4_strike : MethodName := ⟨RX4, "strike", "(IZ)I"⟩
abbrev cX4_join : ByteArray := prog_1_method_4_code
def yX4_join : MethodName := ⟨RX4, "join", "(II)I"⟩
abbrev cX4_rule : ByteArray := prog_1_method_5_code
def yX4_rule : MethodName := ⟨RX4, "rule", "(II)I"⟩
abbrev cX4_told : ByteArray := prog_1_method_6_code
def yX4_told : MethodName := ⟨RX4, "told", "(II)I"⟩
abbrev cX4_person : ByteArray := prog_1_method_7_code
def yX4_person : MethodName := ⟨RX4, "person", "(II)I"⟩
abbrev cX4_row : ByteArray := prog_1_method_8_code
def yX4_row : MethodName := ⟨RX4, "row", "(II)I"⟩
abbrev cX4_sitting : ByteArray := prog_1_method_9_code
def yX4_sitting : MethodName := ⟨RX4, "sitting", "(III)I"⟩
abbrev cX4_count : ByteArray := prog_1_method_10_code
def yX4_count : MethodName := ⟨RX4, "count", "(I)I"⟩
abbrev cX4_funnel : ByteArray := prog_1_method_11_code
def yX4_funnel : MethodName := ⟨RX4, "funnel", "(ZII)I"⟩
abbrev cX4_step : ByteArray := prog_1_method_12_code
def yX4_step : MethodName := ⟨RX4, "step", "(II)I"⟩
abbrev cX4_ways : ByteArray := prog_1_method_13_code
def yX4_ways : MethodName := ⟨RX4, "ways", "(II)I"⟩
abbrev cX4_way : ByteArray := prog_1_method_14_code
def yX4_way : MethodName := ⟨RX4, "way", "(IIII)I"⟩
abbrev cX4_reach : ByteArray := prog_1_method_15_code
def yX4_reach : MethodName := ⟨RX4, "reach", "(II)I"⟩
abbrev cX4_reached : ByteArray := prog_1_method_16_code
def yX4_reached : MethodName := ⟨RX4, "reached", "(II)I"⟩
abbrev cX4_born : ByteArray := prog_1_method_17_code
def yX4_born : MethodName := ⟨RX4, "born", "(I)I"⟩
abbrev cX4_came : ByteArray := prog_1_method_18_code
def yX4_came : MethodName := ⟨RX4, "came", "(II)I"⟩
abbrev cX4_digest : ByteArray := prog_1_method_19_code
def yX4_digest : MethodName := ⟨RX4, "digest", "()I"⟩
abbrev cX4_digestWith : ByteArray := prog_1_method_20_code
def yX4_digestWith : MethodName := ⟨RX4, "digestWith", "(ILSittingDesk$Row;)I"⟩
abbrev cX4_isWho : ByteArray := prog_1_method_21_code
def yX4_isWho : MethodName := ⟨RX4, "isWho", "(I)Z"⟩
abbrev cX4_isName : ByteArray := prog_1_method_22_code
def yX4_isName : MethodName := ⟨RX4, "isName", "(I)Z"⟩
abbrev cX4_isSort : ByteArray := prog_1_method_23_code
def yX4_isSort : MethodName := ⟨RX4, "isSort", "(I)Z"⟩
abbrev cX4_isWeek : ByteArray := prog_1_method_24_code
def yX4_isWeek : MethodName := ⟨RX4, "isWeek", "(I)Z"⟩
abbrev cX4_isFunnel : ByteArray := prog_1_method_25_code
def yX4_isFunnel : MethodName := ⟨RX4, "isFunnel", "(I)Z"⟩
abbrev cX4_isJoined : ByteArray := prog_1_method_26_code
def yX4_isJoined : MethodName := ⟨RX4, "isJoined", "(I)Z"⟩
abbrev cX4_bit : ByteArray := prog_1_method_27_code
def yX4_bit : MethodName := ⟨RX4, "bit", "(Z)I"⟩
abbrev cX4_layRows : ByteArray := prog_1_method_28_code
def yX4_layRows : MethodName := ⟨RX4, "layRows", "()V"⟩
abbrev cX4_cutSittings : ByteArray := prog_1_method_29_code
def yX4_cutSittings : MethodName := ⟨RX4, "cutSittings", "(LSittingDesk$Row;)V"⟩
abbrev cX4_isCut : ByteArray := prog_1_method_30_code
def yX4_isCut : MethodName := ⟨RX4, "isCut", "(II)Z"⟩
abbrev cX4_countingClicks : ByteArray := prog_1_method_31_code
def yX4_countingClicks : MethodName := ⟨RX4, "countingClicks", "()I"⟩
abbrev cX4_allSittings : ByteArray := prog_1_method_32_code
def yX4_allSittings : MethodName := ⟨RX4, "allSittings", "()I"⟩
abbrev cX4_presentPersons : ByteArray := prog_1_method_33_code
def yX4_presentPersons : MethodName := ⟨RX4, "presentPersons", "()I"⟩
abbrev cX4_quickPersons : ByteArray := prog_1_method_34_code
def yX4_quickPersons : MethodName := ⟨RX4, "quickPersons", "()I"⟩
abbrev cX4_joinedMarks : ByteArray := prog_1_method_35_code
def yX4_joinedMarks : MethodName := ⟨RX4, "joinedMarks", "()I"⟩
def RX5 : String := "SittingDeskModel"
def TX5 : u_T := fun k => match k with
  | 0 => ("SittingDeskModel", "clicks", "I", false)
  | 1 => ("SittingDeskModel", "times", "[I", true)
  | 2 => ("SittingDeskModel", "whos", "[I", true)
  | 3 => ("SittingDeskModel", "sorts", "[I", true)
  | 4 => ("SittingDeskModel", "struck", "[Z", true)
  | 5 => ("SittingDeskModel", "joined", "[I", true)
  | 6 => ("SittingDeskModel", "rules", "[I", true)
  | 7 => ("SittingDeskModel", "funnels", "I", false)
  | 8 => ("SittingDeskModel", "ordered", "[Z", true)
  | 9 => ("SittingDeskModel", "windows", "[I", true)
  | 10 => ("SittingDeskModel", "bars", "[I", true)
  | 11 => ("SittingDeskModel", "stepMany", "[I", true)
  | 12 => ("SittingDeskModel", "steps", "[I", true)
  | 13 => ("SittingDeskModel", "row", "[I", true)
  | 14 => ("SittingDeskModel", "sits", "[I", true)
  | 15 => ("SittingDeskModel", "rowMany", "I", false)
  | 16 => ("SittingDeskModel", "sittings", "I", false)
  | 17 => ("SittingDeskModel", "quick", "Z", false)
  | 18 => ("SittingDeskModel", "between", "[I", true)
  | 19 => ("SittingDeskModel", "middle", "I", false)
  | 20 => ("SittingDeskModel", "wayFrom", "[I", true)
  | 21 => ("SittingDeskModel", "wayTo", "[I", true)
  | _ => ("SittingDeskModel", "wayMany", "I", false)
def tyX5 : Nat → FieldType := fun k => match k with
  | 0 => .int
  | 1 => .array .int
  | 2 => .array .int
  | 3 => .array .int
  | 4 => .array .boolean
  | 5 => .array .int
  | 6 => .array .int
  | 7 => .int
  | 8 => .array .boolean
  | 9 => .array .int
  | 10 => .array .int
  | 11 => .array .int
  | 12 => .array .int
  | 13 => .array .int
  | 14 => .array .int
  | 15 => .int
  | 16 => .int
  | 17 => .boolean
  | 18 => .array .int
  | 19 => .int
  | 20 => .array .int
  | 21 => .array .int
  | _ => .int
theorem nmX5 : ∀ a, a < 23 → ∀ b, b < 23 → a ≠ b → (TX5 a).2.1 ≠ (TX5 b).2.1 := by decide +kernel
theorem tyX5_ok : ∀ k, k < 23 → parseFieldDescriptor (TX5 k).2.2.1 = some (tyX5 k) := by decide +kernel
abbrev cX5_init : ByteArray := prog_7_method_1_code
def yX5_init : MethodName := ⟨RX5, "<init>", "()V"⟩
abbrev cX5_in : ByteArray := prog_7_method_3_code
def yX5_in : MethodName := ⟨RX5, "in", "(JJJ)Z"⟩
abbrev cX5_isWho : ByteArray := prog_7_method_4_code
def yX5_isWho : MethodName := ⟨RX5, "isWho", "(I)Z"⟩
abbrev cX5_isClick : ByteArray := prog_7_method_5_code
def yX5_isClick : MethodName := ⟨RX5, "isClick", "(I)Z"⟩
abbrev cX5_personOf : ByteArray := prog_7_method_6_code
def yX5_personOf : MethodName := ⟨RX5, "personOf", "(I)I"⟩
abbrev cX5_click : ByteArray := prog_7_method_7_code
def yX5_click : MethodName := ⟨RX5, "click", "(III)I"⟩
abbrev cX5_strike : ByteArray := prog_7_method_8_code
def yX5_strike : MethodName := ⟨RX5, "strike", "(IZ)I"⟩
abbrev cX5_join : ByteArray := prog_7_method_9_code
def yX5_join : MethodName := ⟨RX5, "join", "(II)I"⟩
abbrev cX5_rule : ByteArray := prog_7_method_10_code
def yX5_rule : MethodName := ⟨RX5, "rule", "(II)I"⟩
abbrev cX5_isAhead : ByteArray := prog_7_method_11_code
def yX5_isAhead : MethodName := ⟨RX5, "isAhead", "(II)Z"⟩
abbrev cX5_isCut : ByteArray := prog_7_method_12_code
def yX5_isCut : MethodName := ⟨RX5, "isCut", "(I)Z"⟩
abbrev cX5_gather : ByteArray := prog_7_method_13_code
def yX5_gather : MethodName := ⟨RX5, "gather", "(I)V"⟩
abbrev cX5_placeIn : ByteArray := prog_7_method_14_code
def yX5_placeIn : MethodName := ⟨RX5, "placeIn", "(I)I"⟩
abbrev cX5_told : ByteArray := prog_7_method_15_code
def yX5_told : MethodName := ⟨RX5, "told", "(II)I"⟩
abbrev cX5_clicksOf : ByteArray := prog_7_method_16_code
def yX5_clicksOf : MethodName := ⟨RX5, "clicksOf", "(I)I"⟩
abbrev cX5_birth : ByteArray := prog_7_method_17_code
def yX5_birth : MethodName := ⟨RX5, "birth", "()I"⟩
abbrev cX5_person : ByteArray := prog_7_method_18_code
def yX5_person : MethodName := ⟨RX5, "person", "(II)I"⟩
abbrev cX5_row : ByteArray := prog_7_method_19_code
def yX5_row : MethodName := ⟨RX5, "row", "(II)I"⟩
abbrev cX5_sitting : ByteArray := prog_7_method_20_code
def yX5_sitting : MethodName := ⟨RX5, "sitting", "(III)I"⟩
abbrev cX5_counted : ByteArray := prog_7_method_21_code
def yX5_counted : MethodName := ⟨RX5, "counted", "(I)I"⟩
abbrev cX5_count : ByteArray := prog_7_method_22_code
def yX5_count : MethodName := ⟨RX5, "count", "(I)I"⟩
abbrev cX5_funnel : ByteArray := prog_7_method_23_code
def yX5_funnel : MethodName := ⟨RX5, "funnel", "(ZII)I"⟩
abbrev cX5_isFunnel : ByteArray := prog_7_method_24_code
def yX5_isFunnel : MethodName := ⟨RX5, "isFunnel", "(I)Z"⟩
abbrev cX5_step : ByteArray := prog_7_method_25_code
def yX5_step : MethodName := ⟨RX5, "step", "(II)I"⟩
abbrev cX5_suits : ByteArray := prog_7_method_26_code
def yX5_suits : MethodName := ⟨RX5, "suits", "(IIII)Z"⟩
abbrev cX5_isWay : ByteArray := prog_7_method_27_code
def yX5_isWay : MethodName := ⟨RX5, "isWay", "(IIII)Z"⟩
abbrev cX5_endOf : ByteArray := prog_7_method_28_code
def yX5_endOf : MethodName := ⟨RX5, "endOf", "(III)I"⟩
abbrev cX5_findWays : ByteArray := prog_7_method_29_code
def yX5_findWays : MethodName := ⟨RX5, "findWays", "(I)V"⟩
abbrev cX5_ways : ByteArray := prog_7_method_30_code
def yX5_ways : MethodName := ⟨RX5, "ways", "(II)I"⟩
abbrev cX5_way : ByteArray := prog_7_method_31_code
def yX5_way : MethodName := ⟨RX5, "way", "(IIII)I"⟩
abbrev cX5_reachOf : ByteArray := prog_7_method_32_code
def yX5_reachOf : MethodName := ⟨RX5, "reachOf", "(I)I"⟩
abbrev cX5_reach : ByteArray := prog_7_method_33_code
def yX5_reach : MethodName := ⟨RX5, "reach", "(II)I"⟩
abbrev cX5_reached : ByteArray := prog_7_method_34_code
def yX5_reached : MethodName := ⟨RX5, "reached", "(II)I"⟩
abbrev cX5_cameIn : ByteArray := prog_7_method_35_code
def yX5_cameIn : MethodName := ⟨RX5, "cameIn", "(I)Z"⟩
abbrev cX5_born : ByteArray := prog_7_method_36_code
def yX5_born : MethodName := ⟨RX5, "born", "(I)I"⟩
abbrev cX5_came : ByteArray := prog_7_method_37_code
def yX5_came : MethodName := ⟨RX5, "came", "(II)I"⟩
abbrev cX5_digest : ByteArray := prog_7_method_38_code
def yX5_digest : MethodName := ⟨RX5, "digest", "()I"⟩
def RJ9 : String := "java/lang/Math"
def TJ9 : u_T := fun k => match k with
  | _ => ("", "", "", false)
def tyJ9 : Nat → FieldType := fun k => match k with
  | _ => .int
abbrev cJ9_max_7cf53 : ByteArray := prog_8_method_65_code
def yJ9_max_7cf53 : MethodName := ⟨RJ9, "max", "(II)I"⟩
def RL : String := "SittingDeskLaw"
abbrev cL_law : ByteArray := code
def yL_law : MethodName := ⟨RL, "law", "([I)Z"⟩
abbrev vwCl : List vw_C := [(RX0, TX0, 6), (RX1, TX1, 5), (RX2, TX2, 6), (RX3, TX3, 4), (RX4, TX4, 9), (RX5, TX5, 23)]
def sd_gt : List Cond := lw_tbl.filter goodWord
theorem sd_gt0 {w : Cond} (k : Nat) (h : (k2_sels lw_privs)[k]? = some w) (hg : goodWord w = true) : w ∈ sd_gt := List.mem_filter.mpr ⟨List.mem_append_left _ (List.mem_of_getElem? h), hg⟩
theorem sd_gt1 {w : Cond} (k : Nat) (h : tables_1_1[k]? = some w) (hg : goodWord w = true) : w ∈ sd_gt := List.mem_filter.mpr ⟨List.mem_append_right _ (List.mem_append_left _ (List.mem_of_getElem? h)), hg⟩
theorem sd_gt2 {w : Cond} (k : Nat) (h : tables_1_2[k]? = some w) (hg : goodWord w = true) : w ∈ sd_gt := List.mem_filter.mpr ⟨List.mem_append_right _ (List.mem_append_right _ (List.mem_append_left _ (List.mem_of_getElem? h))), hg⟩
theorem sd_gt3 {w : Cond} (k : Nat) (h : tables_1_3[k]? = some w) (hg : goodWord w = true) : w ∈ sd_gt := List.mem_filter.mpr ⟨List.mem_append_right _ (List.mem_append_right _ (List.mem_append_right _ (List.mem_of_getElem? h))), hg⟩
def sd_MV (y : MethodName) (b : ByteArray) (n : Nat) (r : Option FieldType) (np : Nat) : Prop := n ≤ 10 ∧ Cond.instanceMethod y ∈ sd_gt ∧ Cond.selects y.cls y y ∈ sd_gt ∧ Cond.initialized y.cls ∈ sd_gt ∧ Cond.code y b n r ∈ sd_gt ∧ y.cls ≠ "java/lang/invoke/MethodHandle" ∧ y.cls ≠ "java/lang/invoke/VarHandle" ∧ (parseMethodDescriptor y.desc).map (fun d => d.parameters.length) = some np
def sd_MS (y : MethodName) (b : ByteArray) (n : Nat) (r : Option FieldType) (np : Nat) : Prop := n ≤ 10 ∧ Cond.static y ∈ sd_gt ∧ Cond.initialized y.cls ∈ sd_gt ∧ Cond.code y b n r ∈ sd_gt ∧ y.cls ≠ "java/lang/invoke/MethodHandle" ∧ y.cls ≠ "java/lang/invoke/VarHandle" ∧ (parseMethodDescriptor y.desc).map (fun d => d.parameters.length) = some np
theorem ws_X4_layRows : Cond.selects yX4_layRows.cls yX4_layRows yX4_layRows ∈ sd_gt := sd_gt0 0 rfl rfl
theorem ws_X2_isQuick : Cond.selects yX2_isQuick.cls yX2_isQuick yX2_isQuick ∈ sd_gt := sd_gt0 1 rfl rfl
theorem ws_X4_cutSittings : Cond.selects yX4_cutSittings.cls yX4_cutSittings yX4_cutSittings ∈ sd_gt := sd_gt0 2 rfl rfl
theorem ws_X4_isCut : Cond.selects yX4_isCut.cls yX4_isCut yX4_isCut ∈ sd_gt := sd_gt0 3 rfl rfl
theorem ws_X4_isJoined : Cond.selects yX4_isJoined.cls yX4_isJoined yX4_isJoined ∈ sd_gt := sd_gt0 4 rfl rfl
theorem ws_X4_countingClicks : Cond.selects yX4_countingClicks.cls yX4_countingClicks yX4_countingClicks ∈ sd_gt := sd_gt0 5 rfl rfl
theorem ws_X4_allSittings : Cond.selects yX4_allSittings.cls yX4_allSittings yX4_allSittings ∈ sd_gt := sd_gt0 6 rfl rfl
theorem ws_X4_presentPersons : Cond.selects yX4_presentPersons.cls yX4_presentPersons yX4_presentPersons ∈ sd_gt := sd_gt0 7 rfl rfl
theorem ws_X4_quickPersons : Cond.selects yX4_quickPersons.cls yX4_quickPersons yX4_quickPersons ∈ sd_gt := sd_gt0 8 rfl rfl
theorem ws_X4_joinedMarks : Cond.selects yX4_joinedMarks.cls yX4_joinedMarks yX4_joinedMarks ∈ sd_gt := sd_gt0 9 rfl rfl
theorem ws_X4_isFunnel : Cond.selects yX4_isFunnel.cls yX4_isFunnel yX4_isFunnel ∈ sd_gt := sd_gt0 10 rfl rfl
theorem ws_X3_seekFrom : Cond.selects yX3_seekFrom.cls yX3_seekFrom yX3_seekFrom ∈ sd_gt := sd_gt0 11 rfl rfl
theorem ws_X4_digestWith : Cond.selects yX4_digestWith.cls yX4_digestWith yX4_digestWith ∈ sd_gt := sd_gt0 12 rfl rfl
theorem ws_X5_isClick : Cond.selects yX5_isClick.cls yX5_isClick yX5_isClick ∈ sd_gt := sd_gt0 13 rfl rfl
theorem ws_X5_personOf : Cond.selects yX5_personOf.cls yX5_personOf yX5_personOf ∈ sd_gt := sd_gt0 14 rfl rfl
theorem ws_X5_gather : Cond.selects yX5_gather.cls yX5_gather yX5_gather ∈ sd_gt := sd_gt0 15 rfl rfl
theorem ws_X5_isAhead : Cond.selects yX5_isAhead.cls yX5_isAhead yX5_isAhead ∈ sd_gt := sd_gt0 16 rfl rfl
theorem ws_X5_isCut : Cond.selects yX5_isCut.cls yX5_isCut yX5_isCut ∈ sd_gt := sd_gt0 17 rfl rfl
theorem ws_X5_placeIn : Cond.selects yX5_placeIn.cls yX5_placeIn yX5_placeIn ∈ sd_gt := sd_gt0 18 rfl rfl
theorem ws_X5_clicksOf : Cond.selects yX5_clicksOf.cls yX5_clicksOf yX5_clicksOf ∈ sd_gt := sd_gt0 19 rfl rfl
theorem ws_X5_birth : Cond.selects yX5_birth.cls yX5_birth yX5_birth ∈ sd_gt := sd_gt0 20 rfl rfl
theorem ws_X5_counted : Cond.selects yX5_counted.cls yX5_counted yX5_counted ∈ sd_gt := sd_gt0 21 rfl rfl
theorem ws_X5_isFunnel : Cond.selects yX5_isFunnel.cls yX5_isFunnel yX5_isFunnel ∈ sd_gt := sd_gt0 22 rfl rfl
theorem ws_X5_findWays : Cond.selects yX5_findWays.cls yX5_findWays yX5_findWays ∈ sd_gt := sd_gt0 23 rfl rfl
theorem ws_X5_endOf : Cond.selects yX5_endOf.cls yX5_endOf yX5_endOf ∈ sd_gt := sd_gt0 24 rfl rfl
theorem ws_X5_isWay : Cond.selects yX5_isWay.cls yX5_isWay yX5_isWay ∈ sd_gt := sd_gt0 25 rfl rfl
theorem ws_X5_suits : Cond.selects yX5_suits.cls yX5_suits yX5_suits ∈ sd_gt := sd_gt0 26 rfl rfl
theorem ws_X5_reachOf : Cond.selects yX5_reachOf.cls yX5_reachOf yX5_reachOf ∈ sd_gt := sd_gt0 27 rfl rfl
theorem ws_X5_cameIn : Cond.selects yX5_cameIn.cls yX5_cameIn yX5_cameIn ∈ sd_gt := sd_gt0 28 rfl rfl
theorem wn_L : Cond.initialized RL ∈ sd_gt := sd_gt1 0 rfl rfl
theorem wn_X4 : Cond.initialized RX4 ∈ sd_gt := sd_gt1 1 rfl rfl
theorem wn_X0 : Cond.initialized RX0 ∈ sd_gt := sd_gt1 2 rfl rfl
theorem wn_X2 : Cond.initialized RX2 ∈ sd_gt := sd_gt1 3 rfl rfl
theorem wn_X1 : Cond.initialized RX1 ∈ sd_gt := sd_gt1 4 rfl rfl
theorem wn_X3 : Cond.initialized RX3 ∈ sd_gt := sd_gt1 5 rfl rfl
theorem wn_X5 : Cond.initialized RX5 ∈ sd_gt := sd_gt1 6 rfl rfl
theorem wn_J9 : Cond.initialized RJ9 ∈ sd_gt := sd_gt1 7 rfl rfl
theorem wl_L_7 : Cond.classLink RL 7 RX4 ∈ sd_gt := sd_gt1 8 rfl rfl
theorem wa_X4 : Cond.instantiable RX4 9 ∈ sd_gt := sd_gt1 9 rfl rfl
theorem wm_L_9 : Cond.methodLink RL 9 yX4_init ∈ sd_gt := sd_gt1 10 rfl rfl
theorem wi_X4_init : Cond.instanceMethod yX4_init ∈ sd_gt := sd_gt1 11 rfl rfl
theorem wc_X4_init : Cond.code yX4_init cX4_init 2 none ∈ sd_gt := sd_gt1 12 rfl rfl
theorem wm_X4_1 : Cond.methodLink RX4 1 objectInit ∈ sd_gt := sd_gt1 13 rfl rfl
theorem wi_Obj : Cond.instanceMethod objectInit ∈ sd_gt := sd_gt1 14 rfl rfl
theorem wc_Obj : Cond.code objectInit ⟨#[0xb1]⟩ 1 none ∈ sd_gt := sd_gt1 15 rfl rfl
theorem wl_X4_7 : Cond.classLink RX4 7 RX0 ∈ sd_gt := sd_gt1 16 rfl rfl
theorem wa_X0 : Cond.instantiable RX0 6 ∈ sd_gt := sd_gt1 17 rfl rfl
theorem wi_X0_init : Cond.instanceMethod yX0_init ∈ sd_gt := sd_gt1 19 rfl rfl
theorem wc_X0_init : Cond.code yX0_init cX0_init 1 none ∈ sd_gt := sd_gt1 20 rfl rfl
theorem wm_X0_3 : Cond.methodLink RX0 3 objectInit ∈ sd_gt := sd_gt1 21 rfl rfl
theorem wf_X0_9 : Cond.fieldLink RX0 9 "SittingDesk$Clicks" "time" "[I" ∈ sd_gt := sd_gt1 22 rfl rfl
theorem wf_X2_27 : Cond.fieldLink RX2 27 "SittingDesk$Clicks" "time" "[I" ∈ sd_gt := sd_gt1 23 rfl rfl
theorem wf_X4_97 : Cond.fieldLink RX4 97 "SittingDesk$Clicks" "time" "[I" ∈ sd_gt := sd_gt1 24 rfl rfl
theorem wf_X0_15 : Cond.fieldLink RX0 15 "SittingDesk$Clicks" "who" "[I" ∈ sd_gt := sd_gt1 25 rfl rfl
theorem wf_X4_100 : Cond.fieldLink RX4 100 "SittingDesk$Clicks" "who" "[I" ∈ sd_gt := sd_gt1 26 rfl rfl
theorem wf_X0_18 : Cond.fieldLink RX0 18 "SittingDesk$Clicks" "sort" "[I" ∈ sd_gt := sd_gt1 27 rfl rfl
theorem wf_X2_32 : Cond.fieldLink RX2 32 "SittingDesk$Clicks" "sort" "[I" ∈ sd_gt := sd_gt1 28 rfl rfl
theorem wf_X4_103 : Cond.fieldLink RX4 103 "SittingDesk$Clicks" "sort" "[I" ∈ sd_gt := sd_gt1 29 rfl rfl
theorem wf_X0_21 : Cond.fieldLink RX0 21 "SittingDesk$Clicks" "struck" "[Z" ∈ sd_gt := sd_gt1 30 rfl rfl
theorem wf_X4_74 : Cond.fieldLink RX4 74 "SittingDesk$Clicks" "struck" "[Z" ∈ sd_gt := sd_gt1 31 rfl rfl
theorem wf_X2_45 : Cond.fieldLink RX2 45 "SittingDesk$Clicks" "struck" "[Z" ∈ sd_gt := sd_gt1 32 rfl rfl
theorem wf_X0_25 : Cond.fieldLink RX0 25 "SittingDesk$Clicks" "byTime" "[I" ∈ sd_gt := sd_gt1 33 rfl rfl
theorem wf_X4_178 : Cond.fieldLink RX4 178 "SittingDesk$Clicks" "byTime" "[I" ∈ sd_gt := sd_gt1 34 rfl rfl
theorem wf_X0_28 : Cond.fieldLink RX0 28 "SittingDesk$Clicks" "size" "I" ∈ sd_gt := sd_gt1 35 rfl rfl
theorem wf_X4_123 : Cond.fieldLink RX4 123 "SittingDesk$Clicks" "size" "I" ∈ sd_gt := sd_gt1 36 rfl rfl
theorem wy_X0_time : Cond.laysFinal RX0 "SittingDesk$Clicks" "time" "[I" ∈ sd_gt := sd_gt1 37 rfl rfl
theorem wy_X0_who : Cond.laysFinal RX0 "SittingDesk$Clicks" "who" "[I" ∈ sd_gt := sd_gt1 39 rfl rfl
theorem wy_X0_sort : Cond.laysFinal RX0 "SittingDesk$Clicks" "sort" "[I" ∈ sd_gt := sd_gt1 41 rfl rfl
theorem wy_X0_struck : Cond.laysFinal RX0 "SittingDesk$Clicks" "struck" "[Z" ∈ sd_gt := sd_gt1 43 rfl rfl
theorem wy_X0_byTime : Cond.laysFinal RX0 "SittingDesk$Clicks" "byTime" "[I" ∈ sd_gt := sd_gt1 45 rfl rfl
theorem wy_X0_size : Cond.lays RX0 "SittingDesk$Clicks" "size" "I" ∈ sd_gt := sd_gt1 47 rfl rfl
theorem wr_int : Cond.arrayClass .int ∈ sd_gt := sd_gt1 50 rfl rfl
theorem wr_boolean : Cond.arrayClass .boolean ∈ sd_gt := sd_gt1 51 rfl rfl
theorem wl_X4_20 : Cond.classLink RX4 20 RX2 ∈ sd_gt := sd_gt1 52 rfl rfl
theorem wa_X2 : Cond.instantiable RX2 6 ∈ sd_gt := sd_gt1 54 rfl rfl
theorem wm_X4_26 : Cond.methodLink RX4 26 yX2_init ∈ sd_gt := sd_gt1 55 rfl rfl
theorem wi_X2_init : Cond.instanceMethod yX2_init ∈ sd_gt := sd_gt1 56 rfl rfl
theorem wc_X2_init : Cond.code yX2_init cX2_init 2 none ∈ sd_gt := sd_gt1 57 rfl rfl
theorem wm_X2_3 : Cond.methodLink RX2 3 objectInit ∈ sd_gt := sd_gt1 58 rfl rfl
theorem wf_X2_15 : Cond.fieldLink RX2 15 "SittingDesk$Row" "all" "LSittingDesk$Clicks;" ∈ sd_gt := sd_gt1 59 rfl rfl
theorem wf_X2_9 : Cond.fieldLink RX2 9 "SittingDesk$Row" "clicks" "[I" ∈ sd_gt := sd_gt1 60 rfl rfl
theorem wf_X4_121 : Cond.fieldLink RX4 121 "SittingDesk$Row" "clicks" "[I" ∈ sd_gt := sd_gt1 61 rfl rfl
theorem wf_X2_19 : Cond.fieldLink RX2 19 "SittingDesk$Row" "size" "I" ∈ sd_gt := sd_gt1 62 rfl rfl
theorem wf_X3_18 : Cond.fieldLink RX3 18 "SittingDesk$Row" "size" "I" ∈ sd_gt := sd_gt1 63 rfl rfl
theorem wf_X4_106 : Cond.fieldLink RX4 106 "SittingDesk$Row" "size" "I" ∈ sd_gt := sd_gt1 64 rfl rfl
theorem wf_X4_88 : Cond.fieldLink RX4 88 "SittingDesk$Row" "owned" "I" ∈ sd_gt := sd_gt1 65 rfl rfl
theorem wf_X2_35 : Cond.fieldLink RX2 35 "SittingDesk$Row" "owned" "I" ∈ sd_gt := sd_gt1 66 rfl rfl
theorem wf_X2_38 : Cond.fieldLink RX2 38 "SittingDesk$Row" "quick" "Z" ∈ sd_gt := sd_gt1 67 rfl rfl
theorem wf_X4_109 : Cond.fieldLink RX4 109 "SittingDesk$Row" "quick" "Z" ∈ sd_gt := sd_gt1 68 rfl rfl
theorem wf_X2_42 : Cond.fieldLink RX2 42 "SittingDesk$Row" "sittings" "I" ∈ sd_gt := sd_gt1 69 rfl rfl
theorem wf_X4_113 : Cond.fieldLink RX4 113 "SittingDesk$Row" "sittings" "I" ∈ sd_gt := sd_gt1 70 rfl rfl
theorem wy_X2_all : Cond.laysFinal RX2 "SittingDesk$Row" "all" "LSittingDesk$Clicks;" ∈ sd_gt := sd_gt1 71 rfl rfl
theorem wy_X2_clicks : Cond.laysFinal RX2 "SittingDesk$Row" "clicks" "[I" ∈ sd_gt := sd_gt1 73 rfl rfl
theorem wy_X2_size : Cond.lays RX2 "SittingDesk$Row" "size" "I" ∈ sd_gt := sd_gt1 75 rfl rfl
theorem wy_X2_owned : Cond.lays RX2 "SittingDesk$Row" "owned" "I" ∈ sd_gt := sd_gt1 77 rfl rfl
theorem wy_X2_quick : Cond.lays RX2 "SittingDesk$Row" "quick" "Z" ∈ sd_gt := sd_gt1 79 rfl rfl
theorem wy_X2_sittings : Cond.lays RX2 "SittingDesk$Row" "sittings" "I" ∈ sd_gt := sd_gt1 81 rfl rfl
theorem wl_X4_38 : Cond.classLink RX4 38 RX1 ∈ sd_gt := sd_gt1 84 rfl rfl
theorem wa_X1 : Cond.instantiable RX1 5 ∈ sd_gt := sd_gt1 86 rfl rfl
theorem wi_X1_init : Cond.instanceMethod yX1_init ∈ sd_gt := sd_gt1 88 rfl rfl
theorem wc_X1_init : Cond.code yX1_init cX1_init 1 none ∈ sd_gt := sd_gt1 89 rfl rfl
theorem wm_X1_3 : Cond.methodLink RX1 3 objectInit ∈ sd_gt := sd_gt1 90 rfl rfl
theorem wf_X1_9 : Cond.fieldLink RX1 9 "SittingDesk$Funnel" "steps" "[I" ∈ sd_gt := sd_gt1 91 rfl rfl
theorem wf_X4_149 : Cond.fieldLink RX4 149 "SittingDesk$Funnel" "steps" "[I" ∈ sd_gt := sd_gt1 92 rfl rfl
theorem wf_X1_26 : Cond.fieldLink RX1 26 "SittingDesk$Funnel" "size" "I" ∈ sd_gt := sd_gt1 93 rfl rfl
theorem wf_X3_40 : Cond.fieldLink RX3 40 "SittingDesk$Funnel" "size" "I" ∈ sd_gt := sd_gt1 94 rfl rfl
theorem wf_X4_148 : Cond.fieldLink RX4 148 "SittingDesk$Funnel" "size" "I" ∈ sd_gt := sd_gt1 95 rfl rfl
theorem wf_X1_15 : Cond.fieldLink RX1 15 "SittingDesk$Funnel" "ordered" "Z" ∈ sd_gt := sd_gt1 96 rfl rfl
theorem wf_X1_19 : Cond.fieldLink RX1 19 "SittingDesk$Funnel" "window" "I" ∈ sd_gt := sd_gt1 97 rfl rfl
theorem wf_X3_35 : Cond.fieldLink RX3 35 "SittingDesk$Funnel" "window" "I" ∈ sd_gt := sd_gt1 98 rfl rfl
theorem wf_X1_23 : Cond.fieldLink RX1 23 "SittingDesk$Funnel" "bar" "I" ∈ sd_gt := sd_gt1 99 rfl rfl
theorem wf_X3_59 : Cond.fieldLink RX3 59 "SittingDesk$Funnel" "bar" "I" ∈ sd_gt := sd_gt1 100 rfl rfl
theorem wy_X1_steps : Cond.laysFinal RX1 "SittingDesk$Funnel" "steps" "[I" ∈ sd_gt := sd_gt1 101 rfl rfl
theorem wy_X1_size : Cond.lays RX1 "SittingDesk$Funnel" "size" "I" ∈ sd_gt := sd_gt1 103 rfl rfl
theorem wy_X1_ordered : Cond.lays RX1 "SittingDesk$Funnel" "ordered" "Z" ∈ sd_gt := sd_gt1 105 rfl rfl
theorem wy_X1_window : Cond.lays RX1 "SittingDesk$Funnel" "window" "I" ∈ sd_gt := sd_gt1 107 rfl rfl
theorem wy_X1_bar : Cond.lays RX1 "SittingDesk$Funnel" "bar" "I" ∈ sd_gt := sd_gt1 109 rfl rfl
theorem wl_X4_49 : Cond.classLink RX4 49 RX3 ∈ sd_gt := sd_gt1 112 rfl rfl
theorem wa_X3 : Cond.instantiable RX3 4 ∈ sd_gt := sd_gt1 113 rfl rfl
theorem wi_X3_init : Cond.instanceMethod yX3_init ∈ sd_gt := sd_gt1 115 rfl rfl
theorem wc_X3_init : Cond.code yX3_init cX3_init 1 none ∈ sd_gt := sd_gt1 116 rfl rfl
theorem wm_X3_3 : Cond.methodLink RX3 3 objectInit ∈ sd_gt := sd_gt1 117 rfl rfl
theorem wf_X3_9 : Cond.fieldLink RX3 9 "SittingDesk$Seeker" "firstPlace" "[I" ∈ sd_gt := sd_gt1 118 rfl rfl
theorem wf_X4_156 : Cond.fieldLink RX4 156 "SittingDesk$Seeker" "firstPlace" "[I" ∈ sd_gt := sd_gt1 119 rfl rfl
theorem wf_X3_15 : Cond.fieldLink RX3 15 "SittingDesk$Seeker" "lastPlace" "[I" ∈ sd_gt := sd_gt1 120 rfl rfl
theorem wf_X4_159 : Cond.fieldLink RX4 159 "SittingDesk$Seeker" "lastPlace" "[I" ∈ sd_gt := sd_gt1 121 rfl rfl
theorem wf_X3_41 : Cond.fieldLink RX3 41 "SittingDesk$Seeker" "depth" "I" ∈ sd_gt := sd_gt1 122 rfl rfl
theorem wf_X3_32 : Cond.fieldLink RX3 32 "SittingDesk$Seeker" "end" "I" ∈ sd_gt := sd_gt1 123 rfl rfl
theorem wy_X3_firstPlace : Cond.laysFinal RX3 "SittingDesk$Seeker" "firstPlace" "[I" ∈ sd_gt := sd_gt1 124 rfl rfl
theorem wy_X3_lastPlace : Cond.laysFinal RX3 "SittingDesk$Seeker" "lastPlace" "[I" ∈ sd_gt := sd_gt1 126 rfl rfl
theorem wy_X3_depth : Cond.lays RX3 "SittingDesk$Seeker" "depth" "I" ∈ sd_gt := sd_gt1 128 rfl rfl
theorem wy_X3_end : Cond.lays RX3 "SittingDesk$Seeker" "end" "I" ∈ sd_gt := sd_gt1 130 rfl rfl
theorem wf_X4_10 : Cond.fieldLink RX4 10 "SittingDesk" "clicks" "LSittingDesk$Clicks;" ∈ sd_gt := sd_gt1 133 rfl rfl
theorem wf_X4_16 : Cond.fieldLink RX4 16 "SittingDesk" "personOf" "[I" ∈ sd_gt := sd_gt1 134 rfl rfl
theorem wf_X4_29 : Cond.fieldLink RX4 29 "SittingDesk" "rules" "[I" ∈ sd_gt := sd_gt1 135 rfl rfl
theorem wf_X4_22 : Cond.fieldLink RX4 22 "SittingDesk" "rows" "[LSittingDesk$Row;" ∈ sd_gt := sd_gt1 136 rfl rfl
theorem wf_X4_32 : Cond.fieldLink RX4 32 "SittingDesk" "placeOf" "[I" ∈ sd_gt := sd_gt1 137 rfl rfl
theorem wf_X4_35 : Cond.fieldLink RX4 35 "SittingDesk" "sittingOf" "[I" ∈ sd_gt := sd_gt1 138 rfl rfl
theorem wf_X4_40 : Cond.fieldLink RX4 40 "SittingDesk" "funnels" "[LSittingDesk$Funnel;" ∈ sd_gt := sd_gt1 139 rfl rfl
theorem wf_X4_45 : Cond.fieldLink RX4 45 "SittingDesk" "funnelCount" "I" ∈ sd_gt := sd_gt1 140 rfl rfl
theorem wf_X4_52 : Cond.fieldLink RX4 52 "SittingDesk" "seeker" "LSittingDesk$Seeker;" ∈ sd_gt := sd_gt1 141 rfl rfl
theorem wy_X4_clicks : Cond.laysFinal RX4 "SittingDesk" "clicks" "LSittingDesk$Clicks;" ∈ sd_gt := sd_gt1 142 rfl rfl
theorem wy_X4_personOf : Cond.laysFinal RX4 "SittingDesk" "personOf" "[I" ∈ sd_gt := sd_gt1 144 rfl rfl
theorem wy_X4_rules : Cond.laysFinal RX4 "SittingDesk" "rules" "[I" ∈ sd_gt := sd_gt1 146 rfl rfl
theorem wy_X4_rows : Cond.laysFinal RX4 "SittingDesk" "rows" "[LSittingDesk$Row;" ∈ sd_gt := sd_gt1 148 rfl rfl
theorem wy_X4_placeOf : Cond.laysFinal RX4 "SittingDesk" "placeOf" "[I" ∈ sd_gt := sd_gt1 150 rfl rfl
theorem wy_X4_sittingOf : Cond.laysFinal RX4 "SittingDesk" "sittingOf" "[I" ∈ sd_gt := sd_gt1 152 rfl rfl
theorem wy_X4_funnels : Cond.laysFinal RX4 "SittingDesk" "funnels" "[LSittingDesk$Funnel;" ∈ sd_gt := sd_gt1 154 rfl rfl
theorem wy_X4_funnelCount : Cond.lays RX4 "SittingDesk" "funnelCount" "I" ∈ sd_gt := sd_gt1 156 rfl rfl
theorem wy_X4_seeker : Cond.laysFinal RX4 "SittingDesk" "seeker" "LSittingDesk$Seeker;" ∈ sd_gt := sd_gt1 158 rfl rfl
theorem wm_L_13 : Cond.methodLink RL 13 yX4_click ∈ sd_gt := sd_gt1 161 rfl rfl
theorem wi_X4_click : Cond.instanceMethod yX4_click ∈ sd_gt := sd_gt1 162 rfl rfl
theorem ws_X4_click : Cond.selects yX4_click.cls yX4_click yX4_click ∈ sd_gt := sd_gt1 163 rfl rfl
theorem wc_X4_click : Cond.code yX4_click cX4_click 5 (some .int) ∈ sd_gt := sd_gt1 164 rfl rfl
theorem wm_X4_56 : Cond.methodLink RX4 56 yX4_isWho ∈ sd_gt := sd_gt1 165 rfl rfl
theorem wt_X4_isWho : Cond.static yX4_isWho ∈ sd_gt := sd_gt1 166 rfl rfl
theorem wc_X4_isWho : Cond.code yX4_isWho cX4_isWho 1 (some .boolean) ∈ sd_gt := sd_gt1 167 rfl rfl
theorem wk_X4_60 : Cond.constant RX4 60 (200000) ∈ sd_gt := sd_gt1 168 rfl rfl
theorem wm_X4_61 : Cond.methodLink RX4 61 yX4_isSort ∈ sd_gt := sd_gt1 169 rfl rfl
theorem wt_X4_isSort : Cond.static yX4_isSort ∈ sd_gt := sd_gt1 170 rfl rfl
theorem wc_X4_isSort : Cond.code yX4_isSort cX4_isSort 1 (some .boolean) ∈ sd_gt := sd_gt1 171 rfl rfl
theorem wm_X4_64 : Cond.methodLink RX4 64 yX0_add ∈ sd_gt := sd_gt1 172 rfl rfl
theorem wi_X0_add : Cond.instanceMethod yX0_add ∈ sd_gt := sd_gt1 173 rfl rfl
theorem ws_X0_add : Cond.selects yX0_add.cls yX0_add yX0_add ∈ sd_gt := sd_gt1 174 rfl rfl
theorem wc_X0_add : Cond.code yX0_add cX0_add 6 (some .int) ∈ sd_gt := sd_gt1 175 rfl rfl
theorem wm_X4_68 : Cond.methodLink RX4 68 yX4_layRows ∈ sd_gt := sd_gt1 176 rfl rfl
theorem wi_X4_layRows : Cond.instanceMethod yX4_layRows ∈ sd_gt := sd_gt1 178 rfl rfl
theorem wc_X4_layRows : Cond.code yX4_layRows cX4_layRows 3 none ∈ sd_gt := sd_gt1 179 rfl rfl
theorem wm_X4_175 : Cond.methodLink RX4 175 yX2_empty ∈ sd_gt := sd_gt1 180 rfl rfl
theorem wi_X2_empty : Cond.instanceMethod yX2_empty ∈ sd_gt := sd_gt1 181 rfl rfl
theorem ws_X2_empty : Cond.selects yX2_empty.cls yX2_empty yX2_empty ∈ sd_gt := sd_gt1 182 rfl rfl
theorem wc_X2_empty : Cond.code yX2_empty cX2_empty 1 none ∈ sd_gt := sd_gt1 183 rfl rfl
theorem wm_X4_181 : Cond.methodLink RX4 181 yX2_take ∈ sd_gt := sd_gt1 184 rfl rfl
theorem wi_X2_take : Cond.instanceMethod yX2_take ∈ sd_gt := sd_gt1 185 rfl rfl
theorem ws_X2_take : Cond.selects yX2_take.cls yX2_take yX2_take ∈ sd_gt := sd_gt1 186 rfl rfl
theorem wc_X2_take : Cond.code yX2_take cX2_take 2 none ∈ sd_gt := sd_gt1 187 rfl rfl
theorem wm_X4_185 : Cond.methodLink RX4 185 yX2_dropIfQuick ∈ sd_gt := sd_gt1 188 rfl rfl
theorem wi_X2_dropIfQuick : Cond.instanceMethod yX2_dropIfQuick ∈ sd_gt := sd_gt1 189 rfl rfl
theorem ws_X2_dropIfQuick : Cond.selects yX2_dropIfQuick.cls yX2_dropIfQuick yX2_dropIfQuick ∈ sd_gt := sd_gt1 190 rfl rfl
theorem wc_X2_dropIfQuick : Cond.code yX2_dropIfQuick cX2_dropIfQuick 3 none ∈ sd_gt := sd_gt1 191 rfl rfl
theorem wm_X2_49 : Cond.methodLink RX2 49 yX2_isQuick ∈ sd_gt := sd_gt1 192 rfl rfl
theorem wi_X2_isQuick : Cond.instanceMethod yX2_isQuick ∈ sd_gt := sd_gt1 194 rfl rfl
theorem wc_X2_isQuick : Cond.code yX2_isQuick cX2_isQuick 4 (some .boolean) ∈ sd_gt := sd_gt1 195 rfl rfl
theorem wm_X2_53 : Cond.methodLink RX2 53 yX2_timeAt ∈ sd_gt := sd_gt1 196 rfl rfl
theorem wi_X2_timeAt : Cond.instanceMethod yX2_timeAt ∈ sd_gt := sd_gt1 197 rfl rfl
theorem ws_X2_timeAt : Cond.selects yX2_timeAt.cls yX2_timeAt yX2_timeAt ∈ sd_gt := sd_gt1 198 rfl rfl
theorem wc_X2_timeAt : Cond.code yX2_timeAt cX2_timeAt 2 (some .int) ∈ sd_gt := sd_gt1 199 rfl rfl
theorem wm_X2_23 : Cond.methodLink RX2 23 yX2_has ∈ sd_gt := sd_gt1 200 rfl rfl
theorem wi_X2_has : Cond.instanceMethod yX2_has ∈ sd_gt := sd_gt1 201 rfl rfl
theorem ws_X2_has : Cond.selects yX2_has.cls yX2_has yX2_has ∈ sd_gt := sd_gt1 202 rfl rfl
theorem wc_X2_has : Cond.code yX2_has cX2_has 2 (some .boolean) ∈ sd_gt := sd_gt1 203 rfl rfl
theorem wm_X4_189 : Cond.methodLink RX4 189 yX4_cutSittings ∈ sd_gt := sd_gt1 204 rfl rfl
theorem wi_X4_cutSittings : Cond.instanceMethod yX4_cutSittings ∈ sd_gt := sd_gt1 206 rfl rfl
theorem wc_X4_cutSittings : Cond.code yX4_cutSittings cX4_cutSittings 5 none ∈ sd_gt := sd_gt1 207 rfl rfl
theorem wm_X4_193 : Cond.methodLink RX4 193 yX4_isCut ∈ sd_gt := sd_gt1 208 rfl rfl
theorem wi_X4_isCut : Cond.instanceMethod yX4_isCut ∈ sd_gt := sd_gt1 210 rfl rfl
theorem wc_X4_isCut : Cond.code yX4_isCut cX4_isCut 5 (some .boolean) ∈ sd_gt := sd_gt1 211 rfl rfl
theorem wm_L_18 : Cond.methodLink RL 18 yX4_strike ∈ sd_gt := sd_gt1 212 rfl rfl
theorem wi_X4_strike : Cond.instanceMethod yX4_strike ∈ sd_gt := sd_gt1 213 rfl rfl
theorem ws_X4_strike : Cond.selects yX4_strike.cls yX4_strike yX4_strike ∈ sd_gt := sd_gt1 214 rfl rfl
theorem wc_X4_strike : Cond.code yX4_strike cX4_strike 4 (some .int) ∈ sd_gt := sd_gt1 215 rfl rfl
theorem wm_X4_71 : Cond.methodLink RX4 71 yX0_has ∈ sd_gt := sd_gt1 216 rfl rfl
theorem wi_X0_has : Cond.instanceMethod yX0_has ∈ sd_gt := sd_gt1 217 rfl rfl
theorem ws_X0_has : Cond.selects yX0_has.cls yX0_has yX0_has ∈ sd_gt := sd_gt1 218 rfl rfl
theorem wc_X0_has : Cond.code yX0_has cX0_has 2 (some .boolean) ∈ sd_gt := sd_gt1 219 rfl rfl
theorem wm_X4_78 : Cond.methodLink RX4 78 yX4_bit ∈ sd_gt := sd_gt1 220 rfl rfl
theorem wt_X4_bit : Cond.static yX4_bit ∈ sd_gt := sd_gt1 221 rfl rfl
theorem wc_X4_bit : Cond.code yX4_bit cX4_bit 1 (some .int) ∈ sd_gt := sd_gt1 222 rfl rfl
theorem wm_L_23 : Cond.methodLink RL 23 yX4_join ∈ sd_gt := sd_gt1 223 rfl rfl
theorem wi_X4_join : Cond.instanceMethod yX4_join ∈ sd_gt := sd_gt1 224 rfl rfl
theorem ws_X4_join : Cond.selects yX4_join.cls yX4_join yX4_join ∈ sd_gt := sd_gt1 225 rfl rfl
theorem wc_X4_join : Cond.code yX4_join cX4_join 4 (some .int) ∈ sd_gt := sd_gt1 226 rfl rfl
theorem wm_X4_82 : Cond.methodLink RX4 82 yX4_isName ∈ sd_gt := sd_gt1 227 rfl rfl
theorem wt_X4_isName : Cond.static yX4_isName ∈ sd_gt := sd_gt1 228 rfl rfl
theorem wc_X4_isName : Cond.code yX4_isName cX4_isName 1 (some .boolean) ∈ sd_gt := sd_gt1 229 rfl rfl
theorem wm_X4_85 : Cond.methodLink RX4 85 yX4_isJoined ∈ sd_gt := sd_gt1 230 rfl rfl
theorem wi_X4_isJoined : Cond.instanceMethod yX4_isJoined ∈ sd_gt := sd_gt1 232 rfl rfl
theorem wc_X4_isJoined : Cond.code yX4_isJoined cX4_isJoined 2 (some .boolean) ∈ sd_gt := sd_gt1 233 rfl rfl
theorem wm_L_28 : Cond.methodLink RL 28 yX4_rule ∈ sd_gt := sd_gt1 234 rfl rfl
theorem wi_X4_rule : Cond.instanceMethod yX4_rule ∈ sd_gt := sd_gt1 235 rfl rfl
theorem ws_X4_rule : Cond.selects yX4_rule.cls yX4_rule yX4_rule ∈ sd_gt := sd_gt1 236 rfl rfl
theorem wc_X4_rule : Cond.code yX4_rule cX4_rule 4 (some .int) ∈ sd_gt := sd_gt1 237 rfl rfl
theorem wf_X4_91 : Cond.fieldLink RX4 91 "SittingDesk" "LEAST_RULE" "[I" ∈ sd_gt := sd_gt1 238 rfl rfl
theorem wf_X4_94 : Cond.fieldLink RX4 94 "SittingDesk" "GREATEST_RULE" "[I" ∈ sd_gt := sd_gt2 0 rfl rfl
theorem wm_L_32 : Cond.methodLink RL 32 yX4_told ∈ sd_gt := sd_gt2 2 rfl rfl
theorem wi_X4_told : Cond.instanceMethod yX4_told ∈ sd_gt := sd_gt2 3 rfl rfl
theorem ws_X4_told : Cond.selects yX4_told.cls yX4_told yX4_told ∈ sd_gt := sd_gt2 4 rfl rfl
theorem wc_X4_told : Cond.code yX4_told cX4_told 3 (some .int) ∈ sd_gt := sd_gt2 5 rfl rfl
theorem wm_L_36 : Cond.methodLink RL 36 yX4_person ∈ sd_gt := sd_gt2 6 rfl rfl
theorem wi_X4_person : Cond.instanceMethod yX4_person ∈ sd_gt := sd_gt2 7 rfl rfl
theorem ws_X4_person : Cond.selects yX4_person.cls yX4_person yX4_person ∈ sd_gt := sd_gt2 8 rfl rfl
theorem wc_X4_person : Cond.code yX4_person cX4_person 4 (some .int) ∈ sd_gt := sd_gt2 9 rfl rfl
theorem wm_X4_116 : Cond.methodLink RX4 116 yX2_birth ∈ sd_gt := sd_gt2 10 rfl rfl
theorem wi_X2_birth : Cond.instanceMethod yX2_birth ∈ sd_gt := sd_gt2 11 rfl rfl
theorem ws_X2_birth : Cond.selects yX2_birth.cls yX2_birth yX2_birth ∈ sd_gt := sd_gt2 12 rfl rfl
theorem wc_X2_birth : Cond.code yX2_birth cX2_birth 3 (some .int) ∈ sd_gt := sd_gt2 13 rfl rfl
theorem wm_X2_57 : Cond.methodLink RX2 57 yX2_sortAt ∈ sd_gt := sd_gt2 14 rfl rfl
theorem wi_X2_sortAt : Cond.instanceMethod yX2_sortAt ∈ sd_gt := sd_gt2 15 rfl rfl
theorem ws_X2_sortAt : Cond.selects yX2_sortAt.cls yX2_sortAt yX2_sortAt ∈ sd_gt := sd_gt2 16 rfl rfl
theorem wc_X2_sortAt : Cond.code yX2_sortAt cX2_sortAt 2 (some .int) ∈ sd_gt := sd_gt2 17 rfl rfl
theorem wm_L_40 : Cond.methodLink RL 40 yX4_row ∈ sd_gt := sd_gt2 18 rfl rfl
theorem wi_X4_row : Cond.instanceMethod yX4_row ∈ sd_gt := sd_gt2 19 rfl rfl
theorem ws_X4_row : Cond.selects yX4_row.cls yX4_row yX4_row ∈ sd_gt := sd_gt2 20 rfl rfl
theorem wc_X4_row : Cond.code yX4_row cX4_row 4 (some .int) ∈ sd_gt := sd_gt2 21 rfl rfl
theorem wm_X4_120 : Cond.methodLink RX4 120 yX2_has ∈ sd_gt := sd_gt2 22 rfl rfl
theorem wm_L_44 : Cond.methodLink RL 44 yX4_sitting ∈ sd_gt := sd_gt2 23 rfl rfl
theorem wi_X4_sitting : Cond.instanceMethod yX4_sitting ∈ sd_gt := sd_gt2 24 rfl rfl
theorem ws_X4_sitting : Cond.selects yX4_sitting.cls yX4_sitting yX4_sitting ∈ sd_gt := sd_gt2 25 rfl rfl
theorem wc_X4_sitting : Cond.code yX4_sitting cX4_sitting 10 (some .int) ∈ sd_gt := sd_gt2 26 rfl rfl
theorem wm_L_48 : Cond.methodLink RL 48 yX4_count ∈ sd_gt := sd_gt2 27 rfl rfl
theorem wi_X4_count : Cond.instanceMethod yX4_count ∈ sd_gt := sd_gt2 28 rfl rfl
theorem ws_X4_count : Cond.selects yX4_count.cls yX4_count yX4_count ∈ sd_gt := sd_gt2 29 rfl rfl
theorem wc_X4_count : Cond.code yX4_count cX4_count 2 (some .int) ∈ sd_gt := sd_gt2 30 rfl rfl
theorem wm_X4_124 : Cond.methodLink RX4 124 yX4_countingClicks ∈ sd_gt := sd_gt2 31 rfl rfl
theorem wi_X4_countingClicks : Cond.instanceMethod yX4_countingClicks ∈ sd_gt := sd_gt2 33 rfl rfl
theorem wc_X4_countingClicks : Cond.code yX4_countingClicks cX4_countingClicks 3 (some .int) ∈ sd_gt := sd_gt2 34 rfl rfl
theorem wm_X4_128 : Cond.methodLink RX4 128 yX4_allSittings ∈ sd_gt := sd_gt2 35 rfl rfl
theorem wi_X4_allSittings : Cond.instanceMethod yX4_allSittings ∈ sd_gt := sd_gt2 37 rfl rfl
theorem wc_X4_allSittings : Cond.code yX4_allSittings cX4_allSittings 3 (some .int) ∈ sd_gt := sd_gt2 38 rfl rfl
theorem wm_X4_131 : Cond.methodLink RX4 131 yX4_presentPersons ∈ sd_gt := sd_gt2 39 rfl rfl
theorem wi_X4_presentPersons : Cond.instanceMethod yX4_presentPersons ∈ sd_gt := sd_gt2 41 rfl rfl
theorem wc_X4_presentPersons : Cond.code yX4_presentPersons cX4_presentPersons 3 (some .int) ∈ sd_gt := sd_gt2 42 rfl rfl
theorem wm_X4_134 : Cond.methodLink RX4 134 yX4_quickPersons ∈ sd_gt := sd_gt2 43 rfl rfl
theorem wi_X4_quickPersons : Cond.instanceMethod yX4_quickPersons ∈ sd_gt := sd_gt2 45 rfl rfl
theorem wc_X4_quickPersons : Cond.code yX4_quickPersons cX4_quickPersons 3 (some .int) ∈ sd_gt := sd_gt2 46 rfl rfl
theorem wm_X4_137 : Cond.methodLink RX4 137 yX4_joinedMarks ∈ sd_gt := sd_gt2 47 rfl rfl
theorem wi_X4_joinedMarks : Cond.instanceMethod yX4_joinedMarks ∈ sd_gt := sd_gt2 49 rfl rfl
theorem wc_X4_joinedMarks : Cond.code yX4_joinedMarks cX4_joinedMarks 3 (some .int) ∈ sd_gt := sd_gt2 50 rfl rfl
theorem wm_L_53 : Cond.methodLink RL 53 yX4_funnel ∈ sd_gt := sd_gt2 51 rfl rfl
theorem wi_X4_funnel : Cond.instanceMethod yX4_funnel ∈ sd_gt := sd_gt2 52 rfl rfl
theorem ws_X4_funnel : Cond.selects yX4_funnel.cls yX4_funnel yX4_funnel ∈ sd_gt := sd_gt2 53 rfl rfl
theorem wc_X4_funnel : Cond.code yX4_funnel cX4_funnel 4 (some .int) ∈ sd_gt := sd_gt2 54 rfl rfl
theorem wk_X4_140 : Cond.constant RX4 140 (100000) ∈ sd_gt := sd_gt2 55 rfl rfl
theorem wm_X4_141 : Cond.methodLink RX4 141 yX1_open ∈ sd_gt := sd_gt2 56 rfl rfl
theorem wi_X1_open : Cond.instanceMethod yX1_open ∈ sd_gt := sd_gt2 57 rfl rfl
theorem ws_X1_open : Cond.selects yX1_open.cls yX1_open yX1_open ∈ sd_gt := sd_gt2 58 rfl rfl
theorem wc_X1_open : Cond.code yX1_open cX1_open 4 none ∈ sd_gt := sd_gt2 59 rfl rfl
theorem wm_L_58 : Cond.methodLink RL 58 yX4_step ∈ sd_gt := sd_gt2 60 rfl rfl
theorem wi_X4_step : Cond.instanceMethod yX4_step ∈ sd_gt := sd_gt2 61 rfl rfl
theorem ws_X4_step : Cond.selects yX4_step.cls yX4_step yX4_step ∈ sd_gt := sd_gt2 62 rfl rfl
theorem wc_X4_step : Cond.code yX4_step cX4_step 4 (some .int) ∈ sd_gt := sd_gt2 63 rfl rfl
theorem wm_X4_145 : Cond.methodLink RX4 145 yX4_isFunnel ∈ sd_gt := sd_gt2 64 rfl rfl
theorem wi_X4_isFunnel : Cond.instanceMethod yX4_isFunnel ∈ sd_gt := sd_gt2 66 rfl rfl
theorem wc_X4_isFunnel : Cond.code yX4_isFunnel cX4_isFunnel 2 (some .boolean) ∈ sd_gt := sd_gt2 67 rfl rfl
theorem wm_L_62 : Cond.methodLink RL 62 yX4_ways ∈ sd_gt := sd_gt2 68 rfl rfl
theorem wi_X4_ways : Cond.instanceMethod yX4_ways ∈ sd_gt := sd_gt2 69 rfl rfl
theorem ws_X4_ways : Cond.selects yX4_ways.cls yX4_ways yX4_ways ∈ sd_gt := sd_gt2 70 rfl rfl
theorem wc_X4_ways : Cond.code yX4_ways cX4_ways 5 (some .int) ∈ sd_gt := sd_gt2 71 rfl rfl
theorem wm_X4_152 : Cond.methodLink RX4 152 yX3_tellWays ∈ sd_gt := sd_gt2 72 rfl rfl
theorem wi_X3_tellWays : Cond.instanceMethod yX3_tellWays ∈ sd_gt := sd_gt2 73 rfl rfl
theorem ws_X3_tellWays : Cond.selects yX3_tellWays.cls yX3_tellWays yX3_tellWays ∈ sd_gt := sd_gt2 74 rfl rfl
theorem wc_X3_tellWays : Cond.code yX3_tellWays cX3_tellWays 6 (some .int) ∈ sd_gt := sd_gt2 75 rfl rfl
theorem wm_X3_24 : Cond.methodLink RX3 24 yX2_timeAt ∈ sd_gt := sd_gt2 76 rfl rfl
theorem wm_X3_28 : Cond.methodLink RX3 28 yX3_seekFrom ∈ sd_gt := sd_gt2 77 rfl rfl
theorem wi_X3_seekFrom : Cond.instanceMethod yX3_seekFrom ∈ sd_gt := sd_gt2 79 rfl rfl
theorem wc_X3_seekFrom : Cond.code yX3_seekFrom cX3_seekFrom 10 none ∈ sd_gt := sd_gt2 80 rfl rfl
theorem wm_X3_50 : Cond.methodLink RX3 50 yX2_sortAt ∈ sd_gt := sd_gt2 81 rfl rfl
theorem wm_X3_53 : Cond.methodLink RX3 53 yX1_taking ∈ sd_gt := sd_gt2 82 rfl rfl
theorem wi_X1_taking : Cond.instanceMethod yX1_taking ∈ sd_gt := sd_gt2 83 rfl rfl
theorem ws_X1_taking : Cond.selects yX1_taking.cls yX1_taking yX1_taking ∈ sd_gt := sd_gt2 84 rfl rfl
theorem wc_X1_taking : Cond.code yX1_taking cX1_taking 6 (some .int) ∈ sd_gt := sd_gt2 85 rfl rfl
theorem wf_X1_29 : Cond.fieldLink RX1 29 "SittingDesk$Funnel" "JUST_THOSE_AHEAD" "[I" ∈ sd_gt := sd_gt2 86 rfl rfl
theorem wf_X1_32 : Cond.fieldLink RX1 32 "SittingDesk$Funnel" "ALL_WITHOUT" "[I" ∈ sd_gt := sd_gt2 88 rfl rfl
theorem wm_X3_56 : Cond.methodLink RX3 56 yX1_depthOf ∈ sd_gt := sd_gt2 90 rfl rfl
theorem wi_X1_depthOf : Cond.instanceMethod yX1_depthOf ∈ sd_gt := sd_gt2 91 rfl rfl
theorem ws_X1_depthOf : Cond.selects yX1_depthOf.cls yX1_depthOf yX1_depthOf ∈ sd_gt := sd_gt2 92 rfl rfl
theorem wc_X1_depthOf : Cond.code yX1_depthOf cX1_depthOf 3 (some .int) ∈ sd_gt := sd_gt2 93 rfl rfl
theorem wm_X1_35 : Cond.methodLink RX1 35 yX1_hasFirst ∈ sd_gt := sd_gt2 94 rfl rfl
theorem wt_X1_hasFirst : Cond.static yX1_hasFirst ∈ sd_gt := sd_gt2 95 rfl rfl
theorem wc_X1_hasFirst : Cond.code yX1_hasFirst cX1_hasFirst 2 (some .boolean) ∈ sd_gt := sd_gt2 96 rfl rfl
theorem wm_X3_44 : Cond.methodLink RX3 44 yJ9_max_7cf53 ∈ sd_gt := sd_gt2 97 rfl rfl
theorem wt_J9_max_7cf53 : Cond.static yJ9_max_7cf53 ∈ sd_gt := sd_gt2 98 rfl rfl
theorem wc_J9_max_7cf53 : Cond.code yJ9_max_7cf53 cJ9_max_7cf53 2 (some .int) ∈ sd_gt := sd_gt2 99 rfl rfl
theorem wm_L_66 : Cond.methodLink RL 66 yX4_way ∈ sd_gt := sd_gt2 100 rfl rfl
theorem wi_X4_way : Cond.instanceMethod yX4_way ∈ sd_gt := sd_gt2 101 rfl rfl
theorem ws_X4_way : Cond.selects yX4_way.cls yX4_way yX4_way ∈ sd_gt := sd_gt2 102 rfl rfl
theorem wc_X4_way : Cond.code yX4_way cX4_way 7 (some .int) ∈ sd_gt := sd_gt2 103 rfl rfl
theorem wm_L_71 : Cond.methodLink RL 71 yX4_reach ∈ sd_gt := sd_gt2 104 rfl rfl
theorem wi_X4_reach : Cond.instanceMethod yX4_reach ∈ sd_gt := sd_gt2 105 rfl rfl
theorem ws_X4_reach : Cond.selects yX4_reach.cls yX4_reach yX4_reach ∈ sd_gt := sd_gt2 106 rfl rfl
theorem wc_X4_reach : Cond.code yX4_reach cX4_reach 3 (some .int) ∈ sd_gt := sd_gt2 107 rfl rfl
theorem wm_X4_162 : Cond.methodLink RX4 162 yX3_farthest ∈ sd_gt := sd_gt2 108 rfl rfl
theorem wi_X3_farthest : Cond.instanceMethod yX3_farthest ∈ sd_gt := sd_gt2 109 rfl rfl
theorem ws_X3_farthest : Cond.selects yX3_farthest.cls yX3_farthest yX3_farthest ∈ sd_gt := sd_gt2 110 rfl rfl
theorem wc_X3_farthest : Cond.code yX3_farthest cX3_farthest 5 (some .int) ∈ sd_gt := sd_gt2 111 rfl rfl
theorem wm_L_75 : Cond.methodLink RL 75 yX4_reached ∈ sd_gt := sd_gt2 112 rfl rfl
theorem wi_X4_reached : Cond.instanceMethod yX4_reached ∈ sd_gt := sd_gt2 113 rfl rfl
theorem ws_X4_reached : Cond.selects yX4_reached.cls yX4_reached yX4_reached ∈ sd_gt := sd_gt2 114 rfl rfl
theorem wc_X4_reached : Cond.code yX4_reached cX4_reached 5 (some .int) ∈ sd_gt := sd_gt2 115 rfl rfl
theorem wm_L_79 : Cond.methodLink RL 79 yX4_born ∈ sd_gt := sd_gt2 116 rfl rfl
theorem wi_X4_born : Cond.instanceMethod yX4_born ∈ sd_gt := sd_gt2 117 rfl rfl
theorem ws_X4_born : Cond.selects yX4_born.cls yX4_born yX4_born ∈ sd_gt := sd_gt2 118 rfl rfl
theorem wc_X4_born : Cond.code yX4_born cX4_born 4 (some .int) ∈ sd_gt := sd_gt2 119 rfl rfl
theorem wm_X4_165 : Cond.methodLink RX4 165 yX4_isWeek ∈ sd_gt := sd_gt2 120 rfl rfl
theorem wt_X4_isWeek : Cond.static yX4_isWeek ∈ sd_gt := sd_gt2 121 rfl rfl
theorem wc_X4_isWeek : Cond.code yX4_isWeek cX4_isWeek 1 (some .boolean) ∈ sd_gt := sd_gt2 122 rfl rfl
theorem wm_L_83 : Cond.methodLink RL 83 yX4_came ∈ sd_gt := sd_gt2 123 rfl rfl
theorem wi_X4_came : Cond.instanceMethod yX4_came ∈ sd_gt := sd_gt2 124 rfl rfl
theorem ws_X4_came : Cond.selects yX4_came.cls yX4_came yX4_came ∈ sd_gt := sd_gt2 125 rfl rfl
theorem wc_X4_came : Cond.code yX4_came cX4_came 5 (some .int) ∈ sd_gt := sd_gt2 126 rfl rfl
theorem wm_X4_168 : Cond.methodLink RX4 168 yX2_isIn ∈ sd_gt := sd_gt2 127 rfl rfl
theorem wi_X2_isIn : Cond.instanceMethod yX2_isIn ∈ sd_gt := sd_gt2 128 rfl rfl
theorem ws_X2_isIn : Cond.selects yX2_isIn.cls yX2_isIn yX2_isIn ∈ sd_gt := sd_gt2 129 rfl rfl
theorem wc_X2_isIn : Cond.code yX2_isIn cX2_isIn 3 (some .boolean) ∈ sd_gt := sd_gt2 130 rfl rfl
theorem wm_L_87 : Cond.methodLink RL 87 yX4_digest ∈ sd_gt := sd_gt2 131 rfl rfl
theorem wi_X4_digest : Cond.instanceMethod yX4_digest ∈ sd_gt := sd_gt2 132 rfl rfl
theorem ws_X4_digest : Cond.selects yX4_digest.cls yX4_digest yX4_digest ∈ sd_gt := sd_gt2 133 rfl rfl
theorem wc_X4_digest : Cond.code yX4_digest cX4_digest 3 (some .int) ∈ sd_gt := sd_gt2 134 rfl rfl
theorem wm_X4_171 : Cond.methodLink RX4 171 yX4_digestWith ∈ sd_gt := sd_gt2 135 rfl rfl
theorem wi_X4_digestWith : Cond.instanceMethod yX4_digestWith ∈ sd_gt := sd_gt2 137 rfl rfl
theorem wc_X4_digestWith : Cond.code yX4_digestWith cX4_digestWith 6 (some .int) ∈ sd_gt := sd_gt2 138 rfl rfl
theorem wl_L_10 : Cond.classLink RL 10 RX5 ∈ sd_gt := sd_gt2 139 rfl rfl
theorem wa_X5 : Cond.instantiable RX5 23 ∈ sd_gt := sd_gt2 140 rfl rfl
theorem wm_L_12 : Cond.methodLink RL 12 yX5_init ∈ sd_gt := sd_gt2 141 rfl rfl
theorem wi_X5_init : Cond.instanceMethod yX5_init ∈ sd_gt := sd_gt2 142 rfl rfl
theorem wc_X5_init : Cond.code yX5_init cX5_init 2 none ∈ sd_gt := sd_gt2 143 rfl rfl
theorem wm_X5_1 : Cond.methodLink RX5 1 objectInit ∈ sd_gt := sd_gt2 144 rfl rfl
theorem wf_X5_65 : Cond.fieldLink RX5 65 "SittingDeskModel" "clicks" "I" ∈ sd_gt := sd_gt2 145 rfl rfl
theorem wf_X5_7 : Cond.fieldLink RX5 7 "SittingDeskModel" "times" "[I" ∈ sd_gt := sd_gt2 146 rfl rfl
theorem wf_X5_13 : Cond.fieldLink RX5 13 "SittingDeskModel" "whos" "[I" ∈ sd_gt := sd_gt2 147 rfl rfl
theorem wf_X5_16 : Cond.fieldLink RX5 16 "SittingDeskModel" "sorts" "[I" ∈ sd_gt := sd_gt2 148 rfl rfl
theorem wf_X5_19 : Cond.fieldLink RX5 19 "SittingDeskModel" "struck" "[Z" ∈ sd_gt := sd_gt2 149 rfl rfl
theorem wf_X5_23 : Cond.fieldLink RX5 23 "SittingDeskModel" "joined" "[I" ∈ sd_gt := sd_gt2 150 rfl rfl
theorem wf_X5_26 : Cond.fieldLink RX5 26 "SittingDeskModel" "rules" "[I" ∈ sd_gt := sd_gt2 151 rfl rfl
theorem wf_X5_130 : Cond.fieldLink RX5 130 "SittingDeskModel" "funnels" "I" ∈ sd_gt := sd_gt2 152 rfl rfl
theorem wf_X5_29 : Cond.fieldLink RX5 29 "SittingDeskModel" "ordered" "[Z" ∈ sd_gt := sd_gt2 153 rfl rfl
theorem wf_X5_32 : Cond.fieldLink RX5 32 "SittingDeskModel" "windows" "[I" ∈ sd_gt := sd_gt2 154 rfl rfl
theorem wf_X5_35 : Cond.fieldLink RX5 35 "SittingDeskModel" "bars" "[I" ∈ sd_gt := sd_gt2 155 rfl rfl
theorem wf_X5_38 : Cond.fieldLink RX5 38 "SittingDeskModel" "stepMany" "[I" ∈ sd_gt := sd_gt2 156 rfl rfl
theorem wf_X5_41 : Cond.fieldLink RX5 41 "SittingDeskModel" "steps" "[I" ∈ sd_gt := sd_gt2 157 rfl rfl
theorem wf_X5_44 : Cond.fieldLink RX5 44 "SittingDeskModel" "row" "[I" ∈ sd_gt := sd_gt2 158 rfl rfl
theorem wf_X5_47 : Cond.fieldLink RX5 47 "SittingDeskModel" "sits" "[I" ∈ sd_gt := sd_gt2 159 rfl rfl
theorem wf_X5_86 : Cond.fieldLink RX5 86 "SittingDeskModel" "rowMany" "I" ∈ sd_gt := sd_gt2 160 rfl rfl
theorem wf_X5_101 : Cond.fieldLink RX5 101 "SittingDeskModel" "sittings" "I" ∈ sd_gt := sd_gt2 161 rfl rfl
theorem wf_X5_97 : Cond.fieldLink RX5 97 "SittingDeskModel" "quick" "Z" ∈ sd_gt := sd_gt2 162 rfl rfl
theorem wf_X5_50 : Cond.fieldLink RX5 50 "SittingDeskModel" "between" "[I" ∈ sd_gt := sd_gt2 163 rfl rfl
theorem wf_X5_140 : Cond.fieldLink RX5 140 "SittingDeskModel" "middle" "I" ∈ sd_gt := sd_gt2 164 rfl rfl
theorem wf_X5_53 : Cond.fieldLink RX5 53 "SittingDeskModel" "wayFrom" "[I" ∈ sd_gt := sd_gt2 165 rfl rfl
theorem wf_X5_56 : Cond.fieldLink RX5 56 "SittingDeskModel" "wayTo" "[I" ∈ sd_gt := sd_gt2 166 rfl rfl
theorem wf_X5_150 : Cond.fieldLink RX5 150 "SittingDeskModel" "wayMany" "I" ∈ sd_gt := sd_gt2 167 rfl rfl
theorem wy_X5_clicks : Cond.lays RX5 "SittingDeskModel" "clicks" "I" ∈ sd_gt := sd_gt2 168 rfl rfl
theorem wy_X5_times : Cond.laysFinal RX5 "SittingDeskModel" "times" "[I" ∈ sd_gt := sd_gt2 170 rfl rfl
theorem wy_X5_whos : Cond.laysFinal RX5 "SittingDeskModel" "whos" "[I" ∈ sd_gt := sd_gt2 172 rfl rfl
theorem wy_X5_sorts : Cond.laysFinal RX5 "SittingDeskModel" "sorts" "[I" ∈ sd_gt := sd_gt2 174 rfl rfl
theorem wy_X5_struck : Cond.laysFinal RX5 "SittingDeskModel" "struck" "[Z" ∈ sd_gt := sd_gt2 176 rfl rfl
theorem wy_X5_joined : Cond.laysFinal RX5 "SittingDeskModel" "joined" "[I" ∈ sd_gt := sd_gt2 178 rfl rfl
theorem wy_X5_rules : Cond.laysFinal RX5 "SittingDeskModel" "rules" "[I" ∈ sd_gt := sd_gt2 180 rfl rfl
theorem wy_X5_funnels : Cond.lays RX5 "SittingDeskModel" "funnels" "I" ∈ sd_gt := sd_gt2 182 rfl rfl
theorem wy_X5_ordered : Cond.laysFinal RX5 "SittingDeskModel" "ordered" "[Z" ∈ sd_gt := sd_gt2 184 rfl rfl
theorem wy_X5_windows : Cond.laysFinal RX5 "SittingDeskModel" "windows" "[I" ∈ sd_gt := sd_gt2 186 rfl rfl
theorem wy_X5_bars : Cond.laysFinal RX5 "SittingDeskModel" "bars" "[I" ∈ sd_gt := sd_gt2 188 rfl rfl
theorem wy_X5_stepMany : Cond.laysFinal RX5 "SittingDeskModel" "stepMany" "[I" ∈ sd_gt := sd_gt2 190 rfl rfl
theorem wy_X5_steps : Cond.laysFinal RX5 "SittingDeskModel" "steps" "[I" ∈ sd_gt := sd_gt2 192 rfl rfl
theorem wy_X5_row : Cond.laysFinal RX5 "SittingDeskModel" "row" "[I" ∈ sd_gt := sd_gt2 194 rfl rfl
theorem wy_X5_sits : Cond.laysFinal RX5 "SittingDeskModel" "sits" "[I" ∈ sd_gt := sd_gt2 196 rfl rfl
theorem wy_X5_rowMany : Cond.lays RX5 "SittingDeskModel" "rowMany" "I" ∈ sd_gt := sd_gt2 198 rfl rfl
theorem wy_X5_sittings : Cond.lays RX5 "SittingDeskModel" "sittings" "I" ∈ sd_gt := sd_gt2 200 rfl rfl
theorem wy_X5_quick : Cond.lays RX5 "SittingDeskModel" "quick" "Z" ∈ sd_gt := sd_gt2 202 rfl rfl
theorem wy_X5_between : Cond.laysFinal RX5 "SittingDeskModel" "between" "[I" ∈ sd_gt := sd_gt2 204 rfl rfl
theorem wy_X5_middle : Cond.lays RX5 "SittingDeskModel" "middle" "I" ∈ sd_gt := sd_gt2 206 rfl rfl
theorem wy_X5_wayFrom : Cond.laysFinal RX5 "SittingDeskModel" "wayFrom" "[I" ∈ sd_gt := sd_gt2 208 rfl rfl
theorem wy_X5_wayTo : Cond.laysFinal RX5 "SittingDeskModel" "wayTo" "[I" ∈ sd_gt := sd_gt2 210 rfl rfl
theorem wy_X5_wayMany : Cond.lays RX5 "SittingDeskModel" "wayMany" "I" ∈ sd_gt := sd_gt2 212 rfl rfl
theorem wm_L_17 : Cond.methodLink RL 17 yX5_click ∈ sd_gt := sd_gt2 215 rfl rfl
theorem wi_X5_click : Cond.instanceMethod yX5_click ∈ sd_gt := sd_gt2 216 rfl rfl
theorem ws_X5_click : Cond.selects yX5_click.cls yX5_click yX5_click ∈ sd_gt := sd_gt2 217 rfl rfl
theorem wc_X5_click : Cond.code yX5_click cX5_click 4 (some .int) ∈ sd_gt := sd_gt2 218 rfl rfl
theorem wm_X5_69 : Cond.methodLink RX5 69 yX5_isWho ∈ sd_gt := sd_gt2 219 rfl rfl
theorem wt_X5_isWho : Cond.static yX5_isWho ∈ sd_gt := sd_gt2 220 rfl rfl
theorem wc_X5_isWho : Cond.code yX5_isWho cX5_isWho 1 (some .boolean) ∈ sd_gt := sd_gt2 221 rfl rfl
theorem wk_X5_59 : Cond.constantLong RX5 59 (23) ∈ sd_gt := sd_gt2 222 rfl rfl
theorem wm_X5_61 : Cond.methodLink RX5 61 yX5_in ∈ sd_gt := sd_gt2 223 rfl rfl
theorem wt_X5_in : Cond.static yX5_in ∈ sd_gt := sd_gt2 224 rfl rfl
theorem wc_X5_in : Cond.code yX5_in cX5_in 6 (some .boolean) ∈ sd_gt := sd_gt2 225 rfl rfl
theorem wk_X5_73 : Cond.constantLong RX5 73 (200000) ∈ sd_gt := sd_gt2 226 rfl rfl
theorem wk_X5_75 : Cond.constantLong RX5 75 (7) ∈ sd_gt := sd_gt2 227 rfl rfl
theorem wm_L_22 : Cond.methodLink RL 22 yX5_strike ∈ sd_gt := sd_gt2 228 rfl rfl
theorem wi_X5_strike : Cond.instanceMethod yX5_strike ∈ sd_gt := sd_gt2 229 rfl rfl
theorem ws_X5_strike : Cond.selects yX5_strike.cls yX5_strike yX5_strike ∈ sd_gt := sd_gt2 230 rfl rfl
theorem wc_X5_strike : Cond.code yX5_strike cX5_strike 4 (some .int) ∈ sd_gt := sd_gt2 231 rfl rfl
theorem wm_X5_77 : Cond.methodLink RX5 77 yX5_isClick ∈ sd_gt := sd_gt2 232 rfl rfl
theorem wi_X5_isClick : Cond.instanceMethod yX5_isClick ∈ sd_gt := sd_gt2 234 rfl rfl
theorem wc_X5_isClick : Cond.code yX5_isClick cX5_isClick 2 (some .boolean) ∈ sd_gt := sd_gt2 235 rfl rfl
theorem wm_L_27 : Cond.methodLink RL 27 yX5_join ∈ sd_gt := sd_gt2 236 rfl rfl
theorem wi_X5_join : Cond.instanceMethod yX5_join ∈ sd_gt := sd_gt2 237 rfl rfl
theorem ws_X5_join : Cond.selects yX5_join.cls yX5_join yX5_join ∈ sd_gt := sd_gt2 238 rfl rfl
theorem wc_X5_join : Cond.code yX5_join cX5_join 5 (some .int) ∈ sd_gt := sd_gt2 239 rfl rfl
theorem wk_X5_80 : Cond.constantLong RX5 80 (12) ∈ sd_gt := sd_gt3 0 rfl rfl
theorem wk_X5_82 : Cond.constantLong RX5 82 (11) ∈ sd_gt := sd_gt3 1 rfl rfl
theorem wm_L_31 : Cond.methodLink RL 31 yX5_rule ∈ sd_gt := sd_gt3 2 rfl rfl
theorem wi_X5_rule : Cond.instanceMethod yX5_rule ∈ sd_gt := sd_gt3 3 rfl rfl
theorem ws_X5_rule : Cond.selects yX5_rule.cls yX5_rule yX5_rule ∈ sd_gt := sd_gt3 4 rfl rfl
theorem wc_X5_rule : Cond.code yX5_rule cX5_rule 6 (some .int) ∈ sd_gt := sd_gt3 5 rfl rfl
theorem wk_X5_84 : Cond.constantLong RX5 84 (5) ∈ sd_gt := sd_gt3 6 rfl rfl
theorem wm_L_35 : Cond.methodLink RL 35 yX5_told ∈ sd_gt := sd_gt3 7 rfl rfl
theorem wi_X5_told : Cond.instanceMethod yX5_told ∈ sd_gt := sd_gt3 8 rfl rfl
theorem ws_X5_told : Cond.selects yX5_told.cls yX5_told yX5_told ∈ sd_gt := sd_gt3 9 rfl rfl
theorem wc_X5_told : Cond.code yX5_told cX5_told 5 (some .int) ∈ sd_gt := sd_gt3 10 rfl rfl
theorem wk_X5_107 : Cond.constantLong RX5 107 (6) ∈ sd_gt := sd_gt3 11 rfl rfl
theorem wm_X5_89 : Cond.methodLink RX5 89 yX5_personOf ∈ sd_gt := sd_gt3 12 rfl rfl
theorem wi_X5_personOf : Cond.instanceMethod yX5_personOf ∈ sd_gt := sd_gt3 14 rfl rfl
theorem wc_X5_personOf : Cond.code yX5_personOf cX5_personOf 2 (some .int) ∈ sd_gt := sd_gt3 15 rfl rfl
theorem wm_X5_109 : Cond.methodLink RX5 109 yX5_gather ∈ sd_gt := sd_gt3 16 rfl rfl
theorem wi_X5_gather : Cond.instanceMethod yX5_gather ∈ sd_gt := sd_gt3 18 rfl rfl
theorem wc_X5_gather : Cond.code yX5_gather cX5_gather 4 none ∈ sd_gt := sd_gt3 19 rfl rfl
theorem wm_X5_93 : Cond.methodLink RX5 93 yX5_isAhead ∈ sd_gt := sd_gt3 20 rfl rfl
theorem wi_X5_isAhead : Cond.instanceMethod yX5_isAhead ∈ sd_gt := sd_gt3 22 rfl rfl
theorem wc_X5_isAhead : Cond.code yX5_isAhead cX5_isAhead 3 (some .boolean) ∈ sd_gt := sd_gt3 23 rfl rfl
theorem wm_X5_104 : Cond.methodLink RX5 104 yX5_isCut ∈ sd_gt := sd_gt3 24 rfl rfl
theorem wi_X5_isCut : Cond.instanceMethod yX5_isCut ∈ sd_gt := sd_gt3 26 rfl rfl
theorem wc_X5_isCut : Cond.code yX5_isCut cX5_isCut 4 (some .boolean) ∈ sd_gt := sd_gt3 27 rfl rfl
theorem wm_X5_113 : Cond.methodLink RX5 113 yX5_placeIn ∈ sd_gt := sd_gt3 28 rfl rfl
theorem wi_X5_placeIn : Cond.instanceMethod yX5_placeIn ∈ sd_gt := sd_gt3 30 rfl rfl
theorem wc_X5_placeIn : Cond.code yX5_placeIn cX5_placeIn 4 (some .int) ∈ sd_gt := sd_gt3 31 rfl rfl
theorem wm_L_39 : Cond.methodLink RL 39 yX5_person ∈ sd_gt := sd_gt3 32 rfl rfl
theorem wi_X5_person : Cond.instanceMethod yX5_person ∈ sd_gt := sd_gt3 33 rfl rfl
theorem ws_X5_person : Cond.selects yX5_person.cls yX5_person yX5_person ∈ sd_gt := sd_gt3 34 rfl rfl
theorem wc_X5_person : Cond.code yX5_person cX5_person 4 (some .int) ∈ sd_gt := sd_gt3 35 rfl rfl
theorem wm_X5_116 : Cond.methodLink RX5 116 yX5_clicksOf ∈ sd_gt := sd_gt3 36 rfl rfl
theorem wi_X5_clicksOf : Cond.instanceMethod yX5_clicksOf ∈ sd_gt := sd_gt3 38 rfl rfl
theorem wc_X5_clicksOf : Cond.code yX5_clicksOf cX5_clicksOf 4 (some .int) ∈ sd_gt := sd_gt3 39 rfl rfl
theorem wm_X5_119 : Cond.methodLink RX5 119 yX5_birth ∈ sd_gt := sd_gt3 40 rfl rfl
theorem wi_X5_birth : Cond.instanceMethod yX5_birth ∈ sd_gt := sd_gt3 42 rfl rfl
theorem wc_X5_birth : Cond.code yX5_birth cX5_birth 2 (some .int) ∈ sd_gt := sd_gt3 43 rfl rfl
theorem wm_L_43 : Cond.methodLink RL 43 yX5_row ∈ sd_gt := sd_gt3 44 rfl rfl
theorem wi_X5_row : Cond.instanceMethod yX5_row ∈ sd_gt := sd_gt3 45 rfl rfl
theorem ws_X5_row : Cond.selects yX5_row.cls yX5_row yX5_row ∈ sd_gt := sd_gt3 46 rfl rfl
theorem wc_X5_row : Cond.code yX5_row cX5_row 3 (some .int) ∈ sd_gt := sd_gt3 47 rfl rfl
theorem wm_L_47 : Cond.methodLink RL 47 yX5_sitting ∈ sd_gt := sd_gt3 48 rfl rfl
theorem wi_X5_sitting : Cond.instanceMethod yX5_sitting ∈ sd_gt := sd_gt3 49 rfl rfl
theorem ws_X5_sitting : Cond.selects yX5_sitting.cls yX5_sitting yX5_sitting ∈ sd_gt := sd_gt3 50 rfl rfl
theorem wc_X5_sitting : Cond.code yX5_sitting cX5_sitting 8 (some .int) ∈ sd_gt := sd_gt3 51 rfl rfl
theorem wk_X5_123 : Cond.constantLong RX5 123 (3) ∈ sd_gt := sd_gt3 52 rfl rfl
theorem wm_L_52 : Cond.methodLink RL 52 yX5_count ∈ sd_gt := sd_gt3 53 rfl rfl
theorem wi_X5_count : Cond.instanceMethod yX5_count ∈ sd_gt := sd_gt3 54 rfl rfl
theorem ws_X5_count : Cond.selects yX5_count.cls yX5_count yX5_count ∈ sd_gt := sd_gt3 55 rfl rfl
theorem wc_X5_count : Cond.code yX5_count cX5_count 4 (some .int) ∈ sd_gt := sd_gt3 56 rfl rfl
theorem wk_X5_125 : Cond.constantLong RX5 125 (4) ∈ sd_gt := sd_gt3 57 rfl rfl
theorem wm_X5_127 : Cond.methodLink RX5 127 yX5_counted ∈ sd_gt := sd_gt3 58 rfl rfl
theorem wi_X5_counted : Cond.instanceMethod yX5_counted ∈ sd_gt := sd_gt3 60 rfl rfl
theorem wc_X5_counted : Cond.code yX5_counted cX5_counted 2 (some .int) ∈ sd_gt := sd_gt3 61 rfl rfl
theorem wm_L_57 : Cond.methodLink RL 57 yX5_funnel ∈ sd_gt := sd_gt3 62 rfl rfl
theorem wi_X5_funnel : Cond.instanceMethod yX5_funnel ∈ sd_gt := sd_gt3 63 rfl rfl
theorem ws_X5_funnel : Cond.selects yX5_funnel.cls yX5_funnel yX5_funnel ∈ sd_gt := sd_gt3 64 rfl rfl
theorem wc_X5_funnel : Cond.code yX5_funnel cX5_funnel 4 (some .int) ∈ sd_gt := sd_gt3 65 rfl rfl
theorem wk_X5_133 : Cond.constantLong RX5 133 (100000) ∈ sd_gt := sd_gt3 66 rfl rfl
theorem wk_X5_135 : Cond.constantLong RX5 135 (-1) ∈ sd_gt := sd_gt3 67 rfl rfl
theorem wm_L_61 : Cond.methodLink RL 61 yX5_step ∈ sd_gt := sd_gt3 68 rfl rfl
theorem wi_X5_step : Cond.instanceMethod yX5_step ∈ sd_gt := sd_gt3 69 rfl rfl
theorem ws_X5_step : Cond.selects yX5_step.cls yX5_step yX5_step ∈ sd_gt := sd_gt3 70 rfl rfl
theorem wc_X5_step : Cond.code yX5_step cX5_step 3 (some .int) ∈ sd_gt := sd_gt3 71 rfl rfl
theorem wm_X5_137 : Cond.methodLink RX5 137 yX5_isFunnel ∈ sd_gt := sd_gt3 72 rfl rfl
theorem wi_X5_isFunnel : Cond.instanceMethod yX5_isFunnel ∈ sd_gt := sd_gt3 74 rfl rfl
theorem wc_X5_isFunnel : Cond.code yX5_isFunnel cX5_isFunnel 2 (some .boolean) ∈ sd_gt := sd_gt3 75 rfl rfl
theorem wm_L_65 : Cond.methodLink RL 65 yX5_ways ∈ sd_gt := sd_gt3 76 rfl rfl
theorem wi_X5_ways : Cond.instanceMethod yX5_ways ∈ sd_gt := sd_gt3 77 rfl rfl
theorem ws_X5_ways : Cond.selects yX5_ways.cls yX5_ways yX5_ways ∈ sd_gt := sd_gt3 78 rfl rfl
theorem wc_X5_ways : Cond.code yX5_ways cX5_ways 6 (some .int) ∈ sd_gt := sd_gt3 79 rfl rfl
theorem wm_X5_157 : Cond.methodLink RX5 157 yX5_findWays ∈ sd_gt := sd_gt3 80 rfl rfl
theorem wi_X5_findWays : Cond.instanceMethod yX5_findWays ∈ sd_gt := sd_gt3 82 rfl rfl
theorem wc_X5_findWays : Cond.code yX5_findWays cX5_findWays 6 none ∈ sd_gt := sd_gt3 83 rfl rfl
theorem wm_X5_153 : Cond.methodLink RX5 153 yX5_endOf ∈ sd_gt := sd_gt3 84 rfl rfl
theorem wi_X5_endOf : Cond.instanceMethod yX5_endOf ∈ sd_gt := sd_gt3 86 rfl rfl
theorem wc_X5_endOf : Cond.code yX5_endOf cX5_endOf 6 (some .int) ∈ sd_gt := sd_gt3 87 rfl rfl
theorem wm_X5_147 : Cond.methodLink RX5 147 yX5_isWay ∈ sd_gt := sd_gt3 88 rfl rfl
theorem wi_X5_isWay : Cond.instanceMethod yX5_isWay ∈ sd_gt := sd_gt3 90 rfl rfl
theorem wc_X5_isWay : Cond.code yX5_isWay cX5_isWay 10 (some .boolean) ∈ sd_gt := sd_gt3 91 rfl rfl
theorem wm_X5_143 : Cond.methodLink RX5 143 yX5_suits ∈ sd_gt := sd_gt3 92 rfl rfl
theorem wi_X5_suits : Cond.instanceMethod yX5_suits ∈ sd_gt := sd_gt3 94 rfl rfl
theorem wc_X5_suits : Cond.code yX5_suits cX5_suits 9 (some .boolean) ∈ sd_gt := sd_gt3 95 rfl rfl
theorem wm_L_70 : Cond.methodLink RL 70 yX5_way ∈ sd_gt := sd_gt3 96 rfl rfl
theorem wi_X5_way : Cond.instanceMethod yX5_way ∈ sd_gt := sd_gt3 97 rfl rfl
theorem ws_X5_way : Cond.selects yX5_way.cls yX5_way yX5_way ∈ sd_gt := sd_gt3 98 rfl rfl
theorem wc_X5_way : Cond.code yX5_way cX5_way 5 (some .int) ∈ sd_gt := sd_gt3 99 rfl rfl
theorem wm_L_74 : Cond.methodLink RL 74 yX5_reach ∈ sd_gt := sd_gt3 100 rfl rfl
theorem wi_X5_reach : Cond.instanceMethod yX5_reach ∈ sd_gt := sd_gt3 101 rfl rfl
theorem ws_X5_reach : Cond.selects yX5_reach.cls yX5_reach yX5_reach ∈ sd_gt := sd_gt3 102 rfl rfl
theorem wc_X5_reach : Cond.code yX5_reach cX5_reach 3 (some .int) ∈ sd_gt := sd_gt3 103 rfl rfl
theorem wm_X5_160 : Cond.methodLink RX5 160 yX5_reachOf ∈ sd_gt := sd_gt3 104 rfl rfl
theorem wi_X5_reachOf : Cond.instanceMethod yX5_reachOf ∈ sd_gt := sd_gt3 106 rfl rfl
theorem wc_X5_reachOf : Cond.code yX5_reachOf cX5_reachOf 5 (some .int) ∈ sd_gt := sd_gt3 107 rfl rfl
theorem wm_L_78 : Cond.methodLink RL 78 yX5_reached ∈ sd_gt := sd_gt3 108 rfl rfl
theorem wi_X5_reached : Cond.instanceMethod yX5_reached ∈ sd_gt := sd_gt3 109 rfl rfl
theorem ws_X5_reached : Cond.selects yX5_reached.cls yX5_reached yX5_reached ∈ sd_gt := sd_gt3 110 rfl rfl
theorem wc_X5_reached : Cond.code yX5_reached cX5_reached 5 (some .int) ∈ sd_gt := sd_gt3 111 rfl rfl
theorem wm_L_82 : Cond.methodLink RL 82 yX5_born ∈ sd_gt := sd_gt3 112 rfl rfl
theorem wi_X5_born : Cond.instanceMethod yX5_born ∈ sd_gt := sd_gt3 113 rfl rfl
theorem ws_X5_born : Cond.selects yX5_born.cls yX5_born yX5_born ∈ sd_gt := sd_gt3 114 rfl rfl
theorem wc_X5_born : Cond.code yX5_born cX5_born 2 (some .int) ∈ sd_gt := sd_gt3 115 rfl rfl
theorem wm_X5_163 : Cond.methodLink RX5 163 yX5_came ∈ sd_gt := sd_gt3 116 rfl rfl
theorem wi_X5_came : Cond.instanceMethod yX5_came ∈ sd_gt := sd_gt3 117 rfl rfl
theorem ws_X5_came : Cond.selects yX5_came.cls yX5_came yX5_came ∈ sd_gt := sd_gt3 118 rfl rfl
theorem wc_X5_came : Cond.code yX5_came cX5_came 5 (some .int) ∈ sd_gt := sd_gt3 119 rfl rfl
theorem wk_X5_167 : Cond.constantLong RX5 167 (19) ∈ sd_gt := sd_gt3 120 rfl rfl
theorem wm_X5_169 : Cond.methodLink RX5 169 yX5_cameIn ∈ sd_gt := sd_gt3 121 rfl rfl
theorem wi_X5_cameIn : Cond.instanceMethod yX5_cameIn ∈ sd_gt := sd_gt3 123 rfl rfl
theorem wc_X5_cameIn : Cond.code yX5_cameIn cX5_cameIn 4 (some .boolean) ∈ sd_gt := sd_gt3 124 rfl rfl
theorem wm_L_86 : Cond.methodLink RL 86 yX5_came ∈ sd_gt := sd_gt3 125 rfl rfl
theorem wm_L_91 : Cond.methodLink RL 91 yX5_digest ∈ sd_gt := sd_gt3 126 rfl rfl
theorem wi_X5_digest : Cond.instanceMethod yX5_digest ∈ sd_gt := sd_gt3 127 rfl rfl
theorem ws_X5_digest : Cond.selects yX5_digest.cls yX5_digest yX5_digest ∈ sd_gt := sd_gt3 128 rfl rfl
theorem wc_X5_digest : Cond.code yX5_digest cX5_digest 4 (some .int) ∈ sd_gt := sd_gt3 129 rfl rfl
theorem mv_X0_has : sd_MV yX0_has cX0_has 2 (some .boolean) 1 := ⟨by decide, wi_X0_has, ws_X0_has, wn_X0, wc_X0_has, by decide +kernel, by decide +kernel, by decide +kernel⟩
theorem mv_X0_add : sd_MV yX0_add cX0_add 6 (some .int) 3 := ⟨by decide, wi_X0_add, ws_X0_add, wn_X0, wc_X0_add, by decide +kernel, by decide +kernel, by decide +kernel⟩
theorem mv_X1_open : sd_MV yX1_open cX1_open 4 none 3 := ⟨by decide, wi_X1_open, ws_X1_open, wn_X1, wc_X1_open, by decide +kernel, by decide +kernel, by decide +kernel⟩
theorem mv_X1_taking : sd_MV yX1_taking cX1_taking 6 (some .int) 2 := ⟨by decide, wi_X1_taking, ws_X1_taking, wn_X1, wc_X1_taking, by decide +kernel, by decide +kernel, by decide +kernel⟩
theorem mv_X1_depthOf : sd_MV yX1_depthOf cX1_depthOf 3 (some .int) 1 := ⟨by decide, wi_X1_depthOf, ws_X1_depthOf, wn_X1, wc_X1_depthOf, by decide +kernel, by decide +kernel, by decide +kernel⟩
theorem mv_X1_hasFirst : sd_MS yX1_hasFirst cX1_hasFirst 2 (some .boolean) 2 := ⟨by decide, wt_X1_hasFirst, wn_X1, wc_X1_hasFirst, by decide +kernel, by decide +kernel, by decide +kernel⟩
theorem mv_X2_has : sd_MV yX2_has cX2_has 2 (some .boolean) 1 := ⟨by decide, wi_X2_has, ws_X2_has, wn_X2, wc_X2_has, by decide +kernel, by decide +kernel, by decide +kernel⟩
theorem mv_X2_timeAt : sd_MV yX2_timeAt cX2_timeAt 2 (some .int) 1 := ⟨by decide, wi_X2_timeAt, ws_X2_timeAt, wn_X2, wc_X2_timeAt, by decide +kernel, by decide +kernel, by decide +kernel⟩
theorem mv_X2_sortAt : sd_MV yX2_sortAt cX2_sortAt 2 (some .int) 1 := ⟨by decide, wi_X2_sortAt, ws_X2_sortAt, wn_X2, wc_X2_sortAt, by decide +kernel, by decide +kernel, by decide +kernel⟩
theorem mv_X2_empty : sd_MV yX2_empty cX2_empty 1 none 0 := ⟨by decide, wi_X2_empty, ws_X2_empty, wn_X2, wc_X2_empty, by decide +kernel, by decide +kernel, by decide +kernel⟩
theorem mv_X2_take : sd_MV yX2_take cX2_take 2 none 1 := ⟨by decide, wi_X2_take, ws_X2_take, wn_X2, wc_X2_take, by decide +kernel, by decide +kernel, by decide +kernel⟩
theorem mv_X2_dropIfQuick : sd_MV yX2_dropIfQuick cX2_dropIfQuick 3 none 2 := ⟨by decide, wi_X2_dropIfQuick, ws_X2_dropIfQuick, wn_X2, wc_X2_dropIfQuick, by decide +kernel, by decide +kernel, by decide +kernel⟩
theorem mv_X2_isQuick : sd_MV yX2_isQuick cX2_isQuick 4 (some .boolean) 2 := ⟨by decide, wi_X2_isQuick, ws_X2_isQuick, wn_X2, wc_X2_isQuick, by decide +kernel, by decide +kernel, by decide +kernel⟩
theorem mv_X2_birth : sd_MV yX2_birth cX2_birth 3 (some .int) 1 := ⟨by decide, wi_X2_birth, ws_X2_birth, wn_X2, wc_X2_birth, by decide +kernel, by decide +kernel, by decide +kernel⟩
theorem mv_X2_isIn : sd_MV yX2_isIn cX2_isIn 3 (some .boolean) 1 := ⟨by decide, wi_X2_isIn, ws_X2_isIn, wn_X2, wc_X2_isIn, by decide +kernel, by decide +kernel, by decide +kernel⟩
theorem mv_X3_tellWays : sd_MV yX3_tellWays cX3_tellWays 6 (some .int) 2 := ⟨by decide, wi_X3_tellWays, ws_X3_tellWays, wn_X3, wc_X3_tellWays, by decide +kernel, by decide +kernel, by decide +kernel⟩
theorem mv_X3_farthest : sd_MV yX3_farthest cX3_farthest 5 (some .int) 2 := ⟨by decide, wi_X3_farthest, ws_X3_farthest, wn_X3, wc_X3_farthest, by decide +kernel, by decide +kernel, by decide +kernel⟩
theorem mv_X3_seekFrom : sd_MV yX3_seekFrom cX3_seekFrom 10 none 3 := ⟨by decide, wi_X3_seekFrom, ws_X3_seekFrom, wn_X3, wc_X3_seekFrom, by decide +kernel, by decide +kernel, by decide +kernel⟩
theorem mv_X4_click : sd_MV yX4_click cX4_click 5 (some .int) 3 := ⟨by decide, wi_X4_click, ws_X4_click, wn_X4, wc_X4_click, by decide +kernel, by decide +kernel, by decide +kernel⟩
theorem mv_X4_strike : sd_MV yX4_strike cX4_strike 4 (some .int) 2 := ⟨by decide, wi_X4_strike, ws_X4_strike, wn_X4, wc_X4_strike, by decide +kernel, by decide +kernel, by decide +kernel⟩
theorem mv_X4_join : sd_MV yX4_join cX4_join 4 (some .int) 2 := ⟨by decide, wi_X4_join, ws_X4_join, wn_X4, wc_X4_join, by decide +kernel, by decide +kernel, by decide +kernel⟩
theorem mv_X4_rule : sd_MV yX4_rule cX4_rule 4 (some .int) 2 := ⟨by decide, wi_X4_rule, ws_X4_rule, wn_X4, wc_X4_rule, by decide +kernel, by decide +kernel, by decide +kernel⟩
theorem mv_X4_told : sd_MV yX4_told cX4_told 3 (some .int) 2 := ⟨by decide, wi_X4_told, ws_X4_told, wn_X4, wc_X4_told, by decide +kernel, by decide +kernel, by decide +kernel⟩
theorem mv_X4_person : sd_MV yX4_person cX4_person 4 (some .int) 2 := ⟨by decide, wi_X4_person, ws_X4_person, wn_X4, wc_X4_person, by decide +kernel, by decide +kernel, by decide +kernel⟩
theorem mv_X4_row : sd_MV yX4_row cX4_row 4 (some .int) 2 := ⟨by decide, wi_X4_row, ws_X4_row, wn_X4, wc_X4_row, by decide +kernel, by decide +kernel, by decide +kernel⟩
theorem mv_X4_sitting : sd_MV yX4_sitting cX4_sitting 10 (some .int) 3 := ⟨by decide, wi_X4_sitting, ws_X4_sitting, wn_X4, wc_X4_sitting, by decide +kernel, by decide +kernel, by decide +kernel⟩
theorem mv_X4_count : sd_MV yX4_count cX4_count 2 (some .int) 1 := ⟨by decide, wi_X4_count, ws_X4_count, wn_X4, wc_X4_count, by decide +kernel, by decide +kernel, by decide +kernel⟩
theorem mv_X4_funnel : sd_MV yX4_funnel cX4_funnel 4 (some .int) 3 := ⟨by decide, wi_X4_funnel, ws_X4_funnel, wn_X4, wc_X4_funnel, by decide +kernel, by decide +kernel, by decide +kernel⟩
theorem mv_X4_step : sd_MV yX4_step cX4_step 4 (some .int) 2 := ⟨by decide, wi_X4_step, ws_X4_step, wn_X4, wc_X4_step, by decide +kernel, by decide +kernel, by decide +kernel⟩
theorem mv_X4_ways : sd_MV yX4_ways cX4_ways 5 (some .int) 2 := ⟨by decide, wi_X4_ways, ws_X4_ways, wn_X4, wc_X4_ways, by decide +kernel, by decide +kernel, by decide +kernel⟩
theorem mv_X4_way : sd_MV yX4_way cX4_way 7 (some .int) 4 := ⟨by decide, wi_X4_way, ws_X4_way, wn_X4, wc_X4_way, by decide +kernel, by decide +kernel, by decide +kernel⟩
theorem mv_X4_reach : sd_MV yX4_reach cX4_reach 3 (some .int) 2 := ⟨by decide, wi_X4_reach, ws_X4_reach, wn_X4, wc_X4_reach, by decide +kernel, by decide +kernel, by decide +kernel⟩
theorem mv_X4_reached : sd_MV yX4_reached cX4_reached 5 (some .int) 2 := ⟨by decide, wi_X4_reached, ws_X4_reached, wn_X4, wc_X4_reached, by decide +kernel, by decide +kernel, by decide +kernel⟩
theorem mv_X4_born : sd_MV yX4_born cX4_born 4 (some .int) 1 := ⟨by decide, wi_X4_born, ws_X4_born, wn_X4, wc_X4_born, by decide +kernel, by decide +kernel, by decide +kernel⟩
theorem mv_X4_came : sd_MV yX4_came cX4_came 5 (some .int) 2 := ⟨by decide, wi_X4_came, ws_X4_came, wn_X4, wc_X4_came, by decide +kernel, by decide +kernel, by decide +kernel⟩
theorem mv_X4_digest : sd_MV yX4_digest cX4_digest 3 (some .int) 0 := ⟨by decide, wi_X4_digest, ws_X4_digest, wn_X4, wc_X4_digest, by decide +kernel, by decide +kernel, by decide +kernel⟩
theorem mv_X4_digestWith : sd_MV yX4_digestWith cX4_digestWith 6 (some .int) 2 := ⟨by decide, wi_X4_digestWith, ws_X4_digestWith, wn_X4, wc_X4_digestWith, by decide +kernel, by decide +kernel, by decide +kernel⟩
theorem mv_X4_isWho : sd_MS yX4_isWho cX4_isWho 1 (some .boolean) 1 := ⟨by decide, wt_X4_isWho, wn_X4, wc_X4_isWho, by decide +kernel, by decide +kernel, by decide +kernel⟩
theorem mv_X4_isName : sd_MS yX4_isName cX4_isName 1 (some .boolean) 1 := ⟨by decide, wt_X4_isName, wn_X4, wc_X4_isName, by decide +kernel, by decide +kernel, by decide +kernel⟩
theorem mv_X4_isSort : sd_MS yX4_isSort cX4_isSort 1 (some .boolean) 1 := ⟨by decide, wt_X4_isSort, wn_X4, wc_X4_isSort, by decide +kernel, by decide +kernel, by decide +kernel⟩
theorem mv_X4_isWeek : sd_MS yX4_isWeek cX4_isWeek 1 (some .boolean) 1 := ⟨by decide, wt_X4_isWeek, wn_X4, wc_X4_isWeek, by decide +kernel, by decide +kernel, by decide +kernel⟩
theorem mv_X4_isFunnel : sd_MV yX4_isFunnel cX4_isFunnel 2 (some .boolean) 1 := ⟨by decide, wi_X4_isFunnel, ws_X4_isFunnel, wn_X4, wc_X4_isFunnel, by decide +kernel, by decide +kernel, by decide +kernel⟩
theorem mv_X4_isJoined : sd_MV yX4_isJoined cX4_isJoined 2 (some .boolean) 1 := ⟨by decide, wi_X4_isJoined, ws_X4_isJoined, wn_X4, wc_X4_isJoined, by decide +kernel, by decide +kernel, by decide +kernel⟩
theorem mv_X4_bit : sd_MS yX4_bit cX4_bit 1 (some .int) 1 := ⟨by decide, wt_X4_bit, wn_X4, wc_X4_bit, by decide +kernel, by decide +kernel, by decide +kernel⟩
theorem mv_X4_layRows : sd_MV yX4_layRows cX4_layRows 3 none 0 := ⟨by decide, wi_X4_layRows, ws_X4_layRows, wn_X4, wc_X4_layRows, by decide +kernel, by decide +kernel, by decide +kernel⟩
theorem mv_X4_cutSittings : sd_MV yX4_cutSittings cX4_cutSittings 5 none 1 := ⟨by decide, wi_X4_cutSittings, ws_X4_cutSittings, wn_X4, wc_X4_cutSittings, by decide +kernel, by decide +kernel, by decide +kernel⟩
theorem mv_X4_isCut : sd_MV yX4_isCut cX4_isCut 5 (some .boolean) 2 := ⟨by decide, wi_X4_isCut, ws_X4_isCut, wn_X4, wc_X4_isCut, by decide +kernel, by decide +kernel, by decide +kernel⟩
theorem mv_X4_countingClicks : sd_MV yX4_countingClicks cX4_countingClicks 3 (some .int) 0 := ⟨by decide, wi_X4_countingClicks, ws_X4_countingClicks, wn_X4, wc_X4_countingClicks, by decide +kernel, by decide +kernel, by decide +kernel⟩
theorem mv_X4_allSittings : sd_MV yX4_allSittings cX4_allSittings 3 (some .int) 0 := ⟨by decide, wi_X4_allSittings, ws_X4_allSittings, wn_X4, wc_X4_allSittings, by decide +kernel, by decide +kernel, by decide +kernel⟩
theorem mv_X4_presentPersons : sd_MV yX4_presentPersons cX4_presentPersons 3 (some .int) 0 := ⟨by decide, wi_X4_presentPersons, ws_X4_presentPersons, wn_X4, wc_X4_presentPersons, by decide +kernel, by decide +kernel, by decide +kernel⟩
theorem mv_X4_quickPersons : sd_MV yX4_quickPersons cX4_quickPersons 3 (some .int) 0 := ⟨by decide, wi_X4_quickPersons, ws_X4_quickPersons, wn_X4, wc_X4_quickPersons, by decide +kernel, by decide +kernel, by decide +kernel⟩
theorem mv_X4_joinedMarks : sd_MV yX4_joinedMarks cX4_joinedMarks 3 (some .int) 0 := ⟨by decide, wi_X4_joinedMarks, ws_X4_joinedMarks, wn_X4, wc_X4_joinedMarks, by decide +kernel, by decide +kernel, by decide +kernel⟩
theorem mv_X5_in : sd_MS yX5_in cX5_in 6 (some .boolean) 3 := ⟨by decide, wt_X5_in, wn_X5, wc_X5_in, by decide +kernel, by decide +kernel, by decide +kernel⟩
theorem mv_X5_isWho : sd_MS yX5_isWho cX5_isWho 1 (some .boolean) 1 := ⟨by decide, wt_X5_isWho, wn_X5, wc_X5_isWho, by decide +kernel, by decide +kernel, by decide +kernel⟩
theorem mv_X5_isClick : sd_MV yX5_isClick cX5_isClick 2 (some .boolean) 1 := ⟨by decide, wi_X5_isClick, ws_X5_isClick, wn_X5, wc_X5_isClick, by decide +kernel, by decide +kernel, by decide +kernel⟩
theorem mv_X5_personOf : sd_MV yX5_personOf cX5_personOf 2 (some .int) 1 := ⟨by decide, wi_X5_personOf, ws_X5_personOf, wn_X5, wc_X5_personOf, by decide +kernel, by decide +kernel, by decide +kernel⟩
theorem mv_X5_click : sd_MV yX5_click cX5_click 4 (some .int) 3 := ⟨by decide, wi_X5_click, ws_X5_click, wn_X5, wc_X5_click, by decide +kernel, by decide +kernel, by decide +kernel⟩
theorem mv_X5_strike : sd_MV yX5_strike cX5_strike 4 (some .int) 2 := ⟨by decide, wi_X5_strike, ws_X5_strike, wn_X5, wc_X5_strike, by decide +kernel, by decide +kernel, by decide +kernel⟩
theorem mv_X5_join : sd_MV yX5_join cX5_join 5 (some .int) 2 := ⟨by decide, wi_X5_join, ws_X5_join, wn_X5, wc_X5_join, by decide +kernel, by decide +kernel, by decide +kernel⟩
theorem mv_X5_rule : sd_MV yX5_rule cX5_rule 6 (some .int) 2 := ⟨by decide, wi_X5_rule, ws_X5_rule, wn_X5, wc_X5_rule, by decide +kernel, by decide +kernel, by decide +kernel⟩
theorem mv_X5_isAhead : sd_MV yX5_isAhead cX5_isAhead 3 (some .boolean) 2 := ⟨by decide, wi_X5_isAhead, ws_X5_isAhead, wn_X5, wc_X5_isAhead, by decide +kernel, by decide +kernel, by decide +kernel⟩
theorem mv_X5_isCut : sd_MV yX5_isCut cX5_isCut 4 (some .boolean) 1 := ⟨by decide, wi_X5_isCut, ws_X5_isCut, wn_X5, wc_X5_isCut, by decide +kernel, by decide +kernel, by decide +kernel⟩
theorem mv_X5_gather : sd_MV yX5_gather cX5_gather 4 none 1 := ⟨by decide, wi_X5_gather, ws_X5_gather, wn_X5, wc_X5_gather, by decide +kernel, by decide +kernel, by decide +kernel⟩
theorem mv_X5_placeIn : sd_MV yX5_placeIn cX5_placeIn 4 (some .int) 1 := ⟨by decide, wi_X5_placeIn, ws_X5_placeIn, wn_X5, wc_X5_placeIn, by decide +kernel, by decide +kernel, by decide +kernel⟩
theorem mv_X5_told : sd_MV yX5_told cX5_told 5 (some .int) 2 := ⟨by decide, wi_X5_told, ws_X5_told, wn_X5, wc_X5_told, by decide +kernel, by decide +kernel, by decide +kernel⟩
theorem mv_X5_clicksOf : sd_MV yX5_clicksOf cX5_clicksOf 4 (some .int) 1 := ⟨by decide, wi_X5_clicksOf, ws_X5_clicksOf, wn_X5, wc_X5_clicksOf, by decide +kernel, by decide +kernel, by decide +kernel⟩
theorem mv_X5_birth : sd_MV yX5_birth cX5_birth 2 (some .int) 0 := ⟨by decide, wi_X5_birth, ws_X5_birth, wn_X5, wc_X5_birth, by decide +kernel, by decide +kernel, by decide +kernel⟩
theorem mv_X5_person : sd_MV yX5_person cX5_person 4 (some .int) 2 := ⟨by decide, wi_X5_person, ws_X5_person, wn_X5, wc_X5_person, by decide +kernel, by decide +kernel, by decide +kernel⟩
theorem mv_X5_row : sd_MV yX5_row cX5_row 3 (some .int) 2 := ⟨by decide, wi_X5_row, ws_X5_row, wn_X5, wc_X5_row, by decide +kernel, by decide +kernel, by decide +kernel⟩
theorem mv_X5_sitting : sd_MV yX5_sitting cX5_sitting 8 (some .int) 3 := ⟨by decide, wi_X5_sitting, ws_X5_sitting, wn_X5, wc_X5_sitting, by decide +kernel, by decide +kernel, by decide +kernel⟩
theorem mv_X5_counted : sd_MV yX5_counted cX5_counted 2 (some .int) 1 := ⟨by decide, wi_X5_counted, ws_X5_counted, wn_X5, wc_X5_counted, by decide +kernel, by decide +kernel, by decide +kernel⟩
theorem mv_X5_count : sd_MV yX5_count cX5_count 4 (some .int) 1 := ⟨by decide, wi_X5_count, ws_X5_count, wn_X5, wc_X5_count, by decide +kernel, by decide +kernel, by decide +kernel⟩
theorem mv_X5_funnel : sd_MV yX5_funnel cX5_funnel 4 (some .int) 3 := ⟨by decide, wi_X5_funnel, ws_X5_funnel, wn_X5, wc_X5_funnel, by decide +kernel, by decide +kernel, by decide +kernel⟩
theorem mv_X5_isFunnel : sd_MV yX5_isFunnel cX5_isFunnel 2 (some .boolean) 1 := ⟨by decide, wi_X5_isFunnel, ws_X5_isFunnel, wn_X5, wc_X5_isFunnel, by decide +kernel, by decide +kernel, by decide +kernel⟩
theorem mv_X5_step : sd_MV yX5_step cX5_step 3 (some .int) 2 := ⟨by decide, wi_X5_step, ws_X5_step, wn_X5, wc_X5_step, by decide +kernel, by decide +kernel, by decide +kernel⟩
theorem mv_X5_suits : sd_MV yX5_suits cX5_suits 9 (some .boolean) 4 := ⟨by decide, wi_X5_suits, ws_X5_suits, wn_X5, wc_X5_suits, by decide +kernel, by decide +kernel, by decide +kernel⟩
theorem mv_X5_isWay : sd_MV yX5_isWay cX5_isWay 10 (some .boolean) 4 := ⟨by decide, wi_X5_isWay, ws_X5_isWay, wn_X5, wc_X5_isWay, by decide +kernel, by decide +kernel, by decide +kernel⟩
theorem mv_X5_endOf : sd_MV yX5_endOf cX5_endOf 6 (some .int) 3 := ⟨by decide, wi_X5_endOf, ws_X5_endOf, wn_X5, wc_X5_endOf, by decide +kernel, by decide +kernel, by decide +kernel⟩
theorem mv_X5_findWays : sd_MV yX5_findWays cX5_findWays 6 none 1 := ⟨by decide, wi_X5_findWays, ws_X5_findWays, wn_X5, wc_X5_findWays, by decide +kernel, by decide +kernel, by decide +kernel⟩
theorem mv_X5_ways : sd_MV yX5_ways cX5_ways 6 (some .int) 2 := ⟨by decide, wi_X5_ways, ws_X5_ways, wn_X5, wc_X5_ways, by decide +kernel, by decide +kernel, by decide +kernel⟩
theorem mv_X5_way : sd_MV yX5_way cX5_way 5 (some .int) 4 := ⟨by decide, wi_X5_way, ws_X5_way, wn_X5, wc_X5_way, by decide +kernel, by decide +kernel, by decide +kernel⟩
theorem mv_X5_reachOf : sd_MV yX5_reachOf cX5_reachOf 5 (some .int) 1 := ⟨by decide, wi_X5_reachOf, ws_X5_reachOf, wn_X5, wc_X5_reachOf, by decide +kernel, by decide +kernel, by decide +kernel⟩
theorem mv_X5_reach : sd_MV yX5_reach cX5_reach 3 (some .int) 2 := ⟨by decide, wi_X5_reach, ws_X5_reach, wn_X5, wc_X5_reach, by decide +kernel, by decide +kernel, by decide +kernel⟩
theorem mv_X5_reached : sd_MV yX5_reached cX5_reached 5 (some .int) 2 := ⟨by decide, wi_X5_reached, ws_X5_reached, wn_X5, wc_X5_reached, by decide +kernel, by decide +kernel, by decide +kernel⟩
theorem mv_X5_cameIn : sd_MV yX5_cameIn cX5_cameIn 4 (some .boolean) 1 := ⟨by decide, wi_X5_cameIn, ws_X5_cameIn, wn_X5, wc_X5_cameIn, by decide +kernel, by decide +kernel, by decide +kernel⟩
theorem mv_X5_born : sd_MV yX5_born cX5_born 2 (some .int) 1 := ⟨by decide, wi_X5_born, ws_X5_born, wn_X5, wc_X5_born, by decide +kernel, by decide +kernel, by decide +kernel⟩
theorem mv_X5_came : sd_MV yX5_came cX5_came 5 (some .int) 2 := ⟨by decide, wi_X5_came, ws_X5_came, wn_X5, wc_X5_came, by decide +kernel, by decide +kernel, by decide +kernel⟩
theorem mv_X5_digest : sd_MV yX5_digest cX5_digest 4 (some .int) 0 := ⟨by decide, wi_X5_digest, ws_X5_digest, wn_X5, wc_X5_digest, by decide +kernel, by decide +kernel, by decide +kernel⟩
theorem mv_J9_max_7cf53 : sd_MS yJ9_max_7cf53 cJ9_max_7cf53 2 (some .int) 2 := ⟨by decide, wt_J9_max_7cf53, wn_J9, wc_J9_max_7cf53, by decide +kernel, by decide +kernel, by decide +kernel⟩
end
section
theorem dX0_init_0 : decode cX0_init 0 = .ok (.aload_n 0, 1) := by decide +kernel
theorem dX0_init_1 : decode cX0_init 1 = .ok (.invokespecial 3, 3) := by decide +kernel
theorem dX0_init_4 : decode cX0_init 4 = .ok (.aload_n 0, 1) := by decide +kernel
theorem dX0_init_5 : decode cX0_init 5 = .ok (.bipush 120, 2) := by decide +kernel
theorem dX0_init_7 : decode cX0_init 7 = .ok (.newarray .int, 2) := by decide +kernel
theorem dX0_init_9 : decode cX0_init 9 = .ok (.putfield 9, 3) := by decide +kernel
theorem dX0_init_12 : decode cX0_init 12 = .ok (.aload_n 0, 1) := by decide +kernel
theorem dX0_init_13 : decode cX0_init 13 = .ok (.bipush 120, 2) := by decide +kernel
theorem dX0_init_15 : decode cX0_init 15 = .ok (.newarray .int, 2) := by decide +kernel
theorem dX0_init_17 : decode cX0_init 17 = .ok (.putfield 15, 3) := by decide +kernel
theorem dX0_init_20 : decode cX0_init 20 = .ok (.aload_n 0, 1) := by decide +kernel
theorem dX0_init_21 : decode cX0_init 21 = .ok (.bipush 120, 2) := by decide +kernel
theorem dX0_init_23 : decode cX0_init 23 = .ok (.newarray .int, 2) := by decide +kernel
theorem dX0_init_25 : decode cX0_init 25 = .ok (.putfield 18, 3) := by decide +kernel
theorem dX0_init_28 : decode cX0_init 28 = .ok (.aload_n 0, 1) := by decide +kernel
theorem dX0_init_29 : decode cX0_init 29 = .ok (.bipush 120, 2) := by decide +kernel
theorem dX0_init_31 : decode cX0_init 31 = .ok (.newarray .boolean, 2) := by decide +kernel
theorem dX0_init_33 : decode cX0_init 33 = .ok (.putfield 21, 3) := by decide +kernel
theorem dX0_init_36 : decode cX0_init 36 = .ok (.aload_n 0, 1) := by decide +kernel
theorem dX0_init_37 : decode cX0_init 37 = .ok (.bipush 120, 2) := by decide +kernel
theorem dX0_init_39 : decode cX0_init 39 = .ok (.newarray .int, 2) := by decide +kernel
theorem dX0_init_41 : decode cX0_init 41 = .ok (.putfield 25, 3) := by decide +kernel
theorem dX0_init_44 : decode cX0_init 44 = .ok (.return_, 1) := by decide +kernel
theorem dX0_has_0 : decode cX0_has 0 = .ok (.iload_n 1, 1) := by decide +kernel
theorem dX0_has_1 : decode cX0_has 1 = .ok (.ifCond .lt 15, 3) := by decide +kernel
theorem dX0_has_4 : decode cX0_has 4 = .ok (.iload_n 1, 1) := by decide +kernel
theorem dX0_has_5 : decode cX0_has 5 = .ok (.aload_n 0, 1) := by decide +kernel
theorem dX0_has_6 : decode cX0_has 6 = .ok (.getfield 28, 3) := by decide +kernel
theorem dX0_has_9 : decode cX0_has 9 = .ok (.if_icmp .ge 7, 3) := by decide +kernel
theorem dX0_has_12 : decode cX0_has 12 = .ok (.iconst 1, 1) := by decide +kernel
theorem dX0_has_13 : decode cX0_has 13 = .ok (.goto 4, 3) := by decide +kernel
theorem dX0_has_16 : decode cX0_has 16 = .ok (.iconst 0, 1) := by decide +kernel
theorem dX0_has_17 : decode cX0_has 17 = .ok (.ireturn, 1) := by decide +kernel
theorem dX0_add_0 : decode cX0_add 0 = .ok (.aload_n 0, 1) := by decide +kernel
theorem dX0_add_1 : decode cX0_add 1 = .ok (.getfield 28, 3) := by decide +kernel
theorem dX0_add_4 : decode cX0_add 4 = .ok (.bipush 120, 2) := by decide +kernel
theorem dX0_add_6 : decode cX0_add 6 = .ok (.if_icmp .lt 7, 3) := by decide +kernel
theorem dX0_add_9 : decode cX0_add 9 = .ok (.sipush (-1004), 3) := by decide +kernel
theorem dX0_add_12 : decode cX0_add 12 = .ok (.ireturn, 1) := by decide +kernel
theorem dX0_add_13 : decode cX0_add 13 = .ok (.aload_n 0, 1) := by decide +kernel
theorem dX0_add_14 : decode cX0_add 14 = .ok (.getfield 28, 3) := by decide +kernel
theorem dX0_add_17 : decode cX0_add 17 = .ok (.istore 4, 2) := by decide +kernel
theorem dX0_add_19 : decode cX0_add 19 = .ok (.aload_n 0, 1) := by decide +kernel
theorem dX0_add_20 : decode cX0_add 20 = .ok (.getfield 9, 3) := by decide +kernel
theorem dX0_add_23 : decode cX0_add 23 = .ok (.iload 4, 2) := by decide +kernel
theorem dX0_add_25 : decode cX0_add 25 = .ok (.iload_n 1, 1) := by decide +kernel
theorem dX0_add_26 : decode cX0_add 26 = .ok (.iastore, 1) := by decide +kernel
theorem dX0_add_27 : decode cX0_add 27 = .ok (.aload_n 0, 1) := by decide +kernel
theorem dX0_add_28 : decode cX0_add 28 = .ok (.getfield 15, 3) := by decide +kernel
theorem dX0_add_31 : decode cX0_add 31 = .ok (.iload 4, 2) := by decide +kernel
theorem dX0_add_33 : decode cX0_add 33 = .ok (.iload_n 2, 1) := by decide +kernel
theorem dX0_add_34 : decode cX0_add 34 = .ok (.iastore, 1) := by decide +kernel
theorem dX0_add_35 : decode cX0_add 35 = .ok (.aload_n 0, 1) := by decide +kernel
theorem dX0_add_36 : decode cX0_add 36 = .ok (.getfield 18, 3) := by decide +kernel
theorem dX0_add_39 : decode cX0_add 39 = .ok (.iload 4, 2) := by decide +kernel
theorem dX0_add_41 : decode cX0_add 41 = .ok (.iload_n 3, 1) := by decide +kernel
theorem dX0_add_42 : decode cX0_add 42 = .ok (.iastore, 1) := by decide +kernel
theorem dX0_add_43 : decode cX0_add 43 = .ok (.iload 4, 2) := by decide +kernel
theorem dX0_add_45 : decode cX0_add 45 = .ok (.istore 5, 2) := by decide +kernel
theorem dX0_add_47 : decode cX0_add 47 = .ok (.iload 5, 2) := by decide +kernel
theorem dX0_add_49 : decode cX0_add 49 = .ok (.ifCond .le 43, 3) := by decide +kernel
theorem dX0_add_52 : decode cX0_add 52 = .ok (.aload_n 0, 1) := by decide +kernel
theorem dX0_add_53 : decode cX0_add 53 = .ok (.getfield 9, 3) := by decide +kernel
theorem dX0_add_56 : decode cX0_add 56 = .ok (.aload_n 0, 1) := by decide +kernel
theorem dX0_add_57 : decode cX0_add 57 = .ok (.getfield 25, 3) := by decide +kernel
theorem dX0_add_60 : decode cX0_add 60 = .ok (.iload 5, 2) := by decide +kernel
theorem dX0_add_62 : decode cX0_add 62 = .ok (.iconst 1, 1) := by decide +kernel
theorem dX0_add_63 : decode cX0_add 63 = .ok (.isub, 1) := by decide +kernel
theorem dX0_add_64 : decode cX0_add 64 = .ok (.iaload, 1) := by decide +kernel
theorem dX0_add_65 : decode cX0_add 65 = .ok (.iaload, 1) := by decide +kernel
theorem dX0_add_66 : decode cX0_add 66 = .ok (.iload_n 1, 1) := by decide +kernel
theorem dX0_add_67 : decode cX0_add 67 = .ok (.if_icmp .le 25, 3) := by decide +kernel
theorem dX0_add_70 : decode cX0_add 70 = .ok (.aload_n 0, 1) := by decide +kernel
theorem dX0_add_71 : decode cX0_add 71 = .ok (.getfield 25, 3) := by decide +kernel
theorem dX0_add_74 : decode cX0_add 74 = .ok (.iload 5, 2) := by decide +kernel
theorem dX0_add_76 : decode cX0_add 76 = .ok (.aload_n 0, 1) := by decide +kernel
theorem dX0_add_77 : decode cX0_add 77 = .ok (.getfield 25, 3) := by decide +kernel
theorem dX0_add_80 : decode cX0_add 80 = .ok (.iload 5, 2) := by decide +kernel
theorem dX0_add_82 : decode cX0_add 82 = .ok (.iconst 1, 1) := by decide +kernel
theorem dX0_add_83 : decode cX0_add 83 = .ok (.isub, 1) := by decide +kernel
theorem dX0_add_84 : decode cX0_add 84 = .ok (.iaload, 1) := by decide +kernel
theorem dX0_add_85 : decode cX0_add 85 = .ok (.iastore, 1) := by decide +kernel
theorem dX0_add_86 : decode cX0_add 86 = .ok (.iinc 5 (-1), 3) := by decide +kernel
theorem dX0_add_89 : decode cX0_add 89 = .ok (.goto (-42), 3) := by decide +kernel
theorem dX0_add_92 : decode cX0_add 92 = .ok (.aload_n 0, 1) := by decide +kernel
theorem dX0_add_93 : decode cX0_add 93 = .ok (.getfield 25, 3) := by decide +kernel
theorem dX0_add_96 : decode cX0_add 96 = .ok (.iload 5, 2) := by decide +kernel
theorem dX0_add_98 : decode cX0_add 98 = .ok (.iload 4, 2) := by decide +kernel
theorem dX0_add_100 : decode cX0_add 100 = .ok (.iastore, 1) := by decide +kernel
theorem dX0_add_101 : decode cX0_add 101 = .ok (.aload_n 0, 1) := by decide +kernel
theorem dX0_add_102 : decode cX0_add 102 = .ok (.dup, 1) := by decide +kernel
theorem dX0_add_103 : decode cX0_add 103 = .ok (.getfield 28, 3) := by decide +kernel
theorem dX0_add_106 : decode cX0_add 106 = .ok (.iconst 1, 1) := by decide +kernel
theorem dX0_add_107 : decode cX0_add 107 = .ok (.iadd, 1) := by decide +kernel
theorem dX0_add_108 : decode cX0_add 108 = .ok (.putfield 28, 3) := by decide +kernel
theorem dX0_add_111 : decode cX0_add 111 = .ok (.iload 4, 2) := by decide +kernel
theorem dX0_add_113 : decode cX0_add 113 = .ok (.ireturn, 1) := by decide +kernel
theorem dX1_init_0 : decode cX1_init 0 = .ok (.aload_n 0, 1) := by decide +kernel
theorem dX1_init_1 : decode cX1_init 1 = .ok (.invokespecial 3, 3) := by decide +kernel
theorem dX1_init_4 : decode cX1_init 4 = .ok (.aload_n 0, 1) := by decide +kernel
theorem dX1_init_5 : decode cX1_init 5 = .ok (.iconst 4, 1) := by decide +kernel
theorem dX1_init_6 : decode cX1_init 6 = .ok (.newarray .int, 2) := by decide +kernel
theorem dX1_init_8 : decode cX1_init 8 = .ok (.putfield 9, 3) := by decide +kernel
theorem dX1_init_11 : decode cX1_init 11 = .ok (.return_, 1) := by decide +kernel
theorem dX1_open_0 : decode cX1_open 0 = .ok (.aload_n 0, 1) := by decide +kernel
theorem dX1_open_1 : decode cX1_open 1 = .ok (.iload_n 1, 1) := by decide +kernel
theorem dX1_open_2 : decode cX1_open 2 = .ok (.putfield 15, 3) := by decide +kernel
theorem dX1_open_5 : decode cX1_open 5 = .ok (.aload_n 0, 1) := by decide +kernel
theorem dX1_open_6 : decode cX1_open 6 = .ok (.iload_n 2, 1) := by decide +kernel
theorem dX1_open_7 : decode cX1_open 7 = .ok (.putfield 19, 3) := by decide +kernel
theorem dX1_open_10 : decode cX1_open 10 = .ok (.aload_n 0, 1) := by decide +kernel
theorem dX1_open_11 : decode cX1_open 11 = .ok (.iload_n 3, 1) := by decide +kernel
theorem dX1_open_12 : decode cX1_open 12 = .ok (.putfield 23, 3) := by decide +kernel
theorem dX1_open_15 : decode cX1_open 15 = .ok (.aload_n 0, 1) := by decide +kernel
theorem dX1_open_16 : decode cX1_open 16 = .ok (.iconst 0, 1) := by decide +kernel
theorem dX1_open_17 : decode cX1_open 17 = .ok (.putfield 26, 3) := by decide +kernel
theorem dX1_open_20 : decode cX1_open 20 = .ok (.return_, 1) := by decide +kernel
theorem dX1_taking_0 : decode cX1_taking 0 = .ok (.iconst 0, 1) := by decide +kernel
theorem dX1_taking_1 : decode cX1_taking 1 = .ok (.istore_n 3, 1) := by decide +kernel
theorem dX1_taking_2 : decode cX1_taking 2 = .ok (.iconst 0, 1) := by decide +kernel
theorem dX1_taking_3 : decode cX1_taking 3 = .ok (.istore 4, 2) := by decide +kernel
theorem dX1_taking_5 : decode cX1_taking 5 = .ok (.iload 4, 2) := by decide +kernel
theorem dX1_taking_7 : decode cX1_taking 7 = .ok (.aload_n 0, 1) := by decide +kernel
theorem dX1_taking_8 : decode cX1_taking 8 = .ok (.getfield 26, 3) := by decide +kernel
theorem dX1_taking_11 : decode cX1_taking 11 = .ok (.if_icmp .ge 56, 3) := by decide +kernel
theorem dX1_taking_14 : decode cX1_taking 14 = .ok (.aload_n 0, 1) := by decide +kernel
theorem dX1_taking_15 : decode cX1_taking 15 = .ok (.getfield 9, 3) := by decide +kernel
theorem dX1_taking_18 : decode cX1_taking 18 = .ok (.iload 4, 2) := by decide +kernel
theorem dX1_taking_20 : decode cX1_taking 20 = .ok (.iaload, 1) := by decide +kernel
theorem dX1_taking_21 : decode cX1_taking 21 = .ok (.iload_n 2, 1) := by decide +kernel
theorem dX1_taking_22 : decode cX1_taking 22 = .ok (.if_icmp .ne 39, 3) := by decide +kernel
theorem dX1_taking_25 : decode cX1_taking 25 = .ok (.aload_n 0, 1) := by decide +kernel
theorem dX1_taking_26 : decode cX1_taking 26 = .ok (.getfield 15, 3) := by decide +kernel
theorem dX1_taking_29 : decode cX1_taking 29 = .ok (.ifCond .eq 12, 3) := by decide +kernel
theorem dX1_taking_32 : decode cX1_taking 32 = .ok (.getstatic 29, 3) := by decide +kernel
theorem dX1_taking_35 : decode cX1_taking 35 = .ok (.iload 4, 2) := by decide +kernel
theorem dX1_taking_37 : decode cX1_taking 37 = .ok (.iaload, 1) := by decide +kernel
theorem dX1_taking_38 : decode cX1_taking 38 = .ok (.goto 9, 3) := by decide +kernel
theorem dX1_taking_41 : decode cX1_taking 41 = .ok (.getstatic 32, 3) := by decide +kernel
theorem dX1_taking_44 : decode cX1_taking 44 = .ok (.iload 4, 2) := by decide +kernel
theorem dX1_taking_46 : decode cX1_taking 46 = .ok (.iaload, 1) := by decide +kernel
theorem dX1_taking_47 : decode cX1_taking 47 = .ok (.istore 5, 2) := by decide +kernel
theorem dX1_taking_49 : decode cX1_taking 49 = .ok (.iload_n 3, 1) := by decide +kernel
theorem dX1_taking_50 : decode cX1_taking 50 = .ok (.iload_n 1, 1) := by decide +kernel
theorem dX1_taking_51 : decode cX1_taking 51 = .ok (.iload 5, 2) := by decide +kernel
theorem dX1_taking_53 : decode cX1_taking 53 = .ok (.iand, 1) := by decide +kernel
theorem dX1_taking_54 : decode cX1_taking 54 = .ok (.iconst 1, 1) := by decide +kernel
theorem dX1_taking_55 : decode cX1_taking 55 = .ok (.iload 4, 2) := by decide +kernel
theorem dX1_taking_57 : decode cX1_taking 57 = .ok (.ishl, 1) := by decide +kernel
theorem dX1_taking_58 : decode cX1_taking 58 = .ok (.ishl, 1) := by decide +kernel
theorem dX1_taking_59 : decode cX1_taking 59 = .ok (.ior, 1) := by decide +kernel
theorem dX1_taking_60 : decode cX1_taking 60 = .ok (.istore_n 3, 1) := by decide +kernel
theorem dX1_taking_61 : decode cX1_taking 61 = .ok (.iinc 4 1, 3) := by decide +kernel
theorem dX1_taking_64 : decode cX1_taking 64 = .ok (.goto (-59), 3) := by decide +kernel
theorem dX1_taking_67 : decode cX1_taking 67 = .ok (.iload_n 3, 1) := by decide +kernel
theorem dX1_taking_68 : decode cX1_taking 68 = .ok (.ireturn, 1) := by decide +kernel
theorem dX1_depthOf_0 : decode cX1_depthOf 0 = .ok (.aload_n 0, 1) := by decide +kernel
theorem dX1_depthOf_1 : decode cX1_depthOf 1 = .ok (.getfield 26, 3) := by decide +kernel
theorem dX1_depthOf_4 : decode cX1_depthOf 4 = .ok (.istore_n 2, 1) := by decide +kernel
theorem dX1_depthOf_5 : decode cX1_depthOf 5 = .ok (.iload_n 2, 1) := by decide +kernel
theorem dX1_depthOf_6 : decode cX1_depthOf 6 = .ok (.ifCond .le 23, 3) := by decide +kernel
theorem dX1_depthOf_9 : decode cX1_depthOf 9 = .ok (.iload_n 1, 1) := by decide +kernel
theorem dX1_depthOf_10 : decode cX1_depthOf 10 = .ok (.ifCond .eq 19, 3) := by decide +kernel
theorem dX1_depthOf_13 : decode cX1_depthOf 13 = .ok (.iload_n 2, 1) := by decide +kernel
theorem dX1_depthOf_14 : decode cX1_depthOf 14 = .ok (.iload_n 1, 1) := by decide +kernel
theorem dX1_depthOf_15 : decode cX1_depthOf 15 = .ok (.invokestatic 35, 3) := by decide +kernel
theorem dX1_depthOf_18 : decode cX1_depthOf 18 = .ok (.ifCond .eq 5, 3) := by decide +kernel
theorem dX1_depthOf_21 : decode cX1_depthOf 21 = .ok (.iload_n 2, 1) := by decide +kernel
theorem dX1_depthOf_22 : decode cX1_depthOf 22 = .ok (.ireturn, 1) := by decide +kernel
theorem dX1_depthOf_23 : decode cX1_depthOf 23 = .ok (.iinc 2 (-1), 3) := by decide +kernel
theorem dX1_depthOf_26 : decode cX1_depthOf 26 = .ok (.goto (-21), 3) := by decide +kernel
theorem dX1_depthOf_29 : decode cX1_depthOf 29 = .ok (.iconst 0, 1) := by decide +kernel
theorem dX1_depthOf_30 : decode cX1_depthOf 30 = .ok (.ireturn, 1) := by decide +kernel
theorem dX1_hasFirst_0 : decode cX1_hasFirst 0 = .ok (.iload_n 1, 1) := by decide +kernel
theorem dX1_hasFirst_1 : decode cX1_hasFirst 1 = .ok (.iconst 1, 1) := by decide +kernel
theorem dX1_hasFirst_2 : decode cX1_hasFirst 2 = .ok (.iload_n 0, 1) := by decide +kernel
theorem dX1_hasFirst_3 : decode cX1_hasFirst 3 = .ok (.ishl, 1) := by decide +kernel
theorem dX1_hasFirst_4 : decode cX1_hasFirst 4 = .ok (.iconst 1, 1) := by decide +kernel
theorem dX1_hasFirst_5 : decode cX1_hasFirst 5 = .ok (.isub, 1) := by decide +kernel
theorem dX1_hasFirst_6 : decode cX1_hasFirst 6 = .ok (.ishr, 1) := by decide +kernel
theorem dX1_hasFirst_7 : decode cX1_hasFirst 7 = .ok (.iconst 1, 1) := by decide +kernel
theorem dX1_hasFirst_8 : decode cX1_hasFirst 8 = .ok (.iand, 1) := by decide +kernel
theorem dX1_hasFirst_9 : decode cX1_hasFirst 9 = .ok (.iconst 1, 1) := by decide +kernel
theorem dX1_hasFirst_10 : decode cX1_hasFirst 10 = .ok (.if_icmp .ne 7, 3) := by decide +kernel
theorem dX1_hasFirst_13 : decode cX1_hasFirst 13 = .ok (.iconst 1, 1) := by decide +kernel
theorem dX1_hasFirst_14 : decode cX1_hasFirst 14 = .ok (.goto 4, 3) := by decide +kernel
theorem dX1_hasFirst_17 : decode cX1_hasFirst 17 = .ok (.iconst 0, 1) := by decide +kernel
theorem dX1_hasFirst_18 : decode cX1_hasFirst 18 = .ok (.ireturn, 1) := by decide +kernel
theorem dX2_init_0 : decode cX2_init 0 = .ok (.aload_n 0, 1) := by decide +kernel
theorem dX2_init_1 : decode cX2_init 1 = .ok (.invokespecial 3, 3) := by decide +kernel
theorem dX2_init_4 : decode cX2_init 4 = .ok (.aload_n 0, 1) := by decide +kernel
theorem dX2_init_5 : decode cX2_init 5 = .ok (.bipush 120, 2) := by decide +kernel
theorem dX2_init_7 : decode cX2_init 7 = .ok (.newarray .int, 2) := by decide +kernel
theorem dX2_init_9 : decode cX2_init 9 = .ok (.putfield 9, 3) := by decide +kernel
theorem dX2_init_12 : decode cX2_init 12 = .ok (.aload_n 0, 1) := by decide +kernel
theorem dX2_init_13 : decode cX2_init 13 = .ok (.aload_n 1, 1) := by decide +kernel
theorem dX2_init_14 : decode cX2_init 14 = .ok (.putfield 15, 3) := by decide +kernel
theorem dX2_init_17 : decode cX2_init 17 = .ok (.return_, 1) := by decide +kernel
theorem dX2_has_0 : decode cX2_has 0 = .ok (.iload_n 1, 1) := by decide +kernel
theorem dX2_has_1 : decode cX2_has 1 = .ok (.ifCond .lt 15, 3) := by decide +kernel
theorem dX2_has_4 : decode cX2_has 4 = .ok (.iload_n 1, 1) := by decide +kernel
theorem dX2_has_5 : decode cX2_has 5 = .ok (.aload_n 0, 1) := by decide +kernel
theorem dX2_has_6 : decode cX2_has 6 = .ok (.getfield 19, 3) := by decide +kernel
theorem dX2_has_9 : decode cX2_has 9 = .ok (.if_icmp .ge 7, 3) := by decide +kernel
theorem dX2_has_12 : decode cX2_has 12 = .ok (.iconst 1, 1) := by decide +kernel
theorem dX2_has_13 : decode cX2_has 13 = .ok (.goto 4, 3) := by decide +kernel
theorem dX2_has_16 : decode cX2_has 16 = .ok (.iconst 0, 1) := by decide +kernel
theorem dX2_has_17 : decode cX2_has 17 = .ok (.ireturn, 1) := by decide +kernel
theorem dX2_timeAt_0 : decode cX2_timeAt 0 = .ok (.aload_n 0, 1) := by decide +kernel
theorem dX2_timeAt_1 : decode cX2_timeAt 1 = .ok (.iload_n 1, 1) := by decide +kernel
theorem dX2_timeAt_2 : decode cX2_timeAt 2 = .ok (.invokevirtual 23, 3) := by decide +kernel
theorem dX2_timeAt_5 : decode cX2_timeAt 5 = .ok (.ifCond .eq 20, 3) := by decide +kernel
theorem dX2_timeAt_8 : decode cX2_timeAt 8 = .ok (.aload_n 0, 1) := by decide +kernel
theorem dX2_timeAt_9 : decode cX2_timeAt 9 = .ok (.getfield 15, 3) := by decide +kernel
theorem dX2_timeAt_12 : decode cX2_timeAt 12 = .ok (.getfield 27, 3) := by decide +kernel
theorem dX2_timeAt_15 : decode cX2_timeAt 15 = .ok (.aload_n 0, 1) := by decide +kernel
theorem dX2_timeAt_16 : decode cX2_timeAt 16 = .ok (.getfield 9, 3) := by decide +kernel
theorem dX2_timeAt_19 : decode cX2_timeAt 19 = .ok (.iload_n 1, 1) := by decide +kernel
theorem dX2_timeAt_20 : decode cX2_timeAt 20 = .ok (.iaload, 1) := by decide +kernel
theorem dX2_timeAt_21 : decode cX2_timeAt 21 = .ok (.iaload, 1) := by decide +kernel
theorem dX2_timeAt_22 : decode cX2_timeAt 22 = .ok (.goto 4, 3) := by decide +kernel
theorem dX2_timeAt_25 : decode cX2_timeAt 25 = .ok (.iconst (-1), 1) := by decide +kernel
theorem dX2_timeAt_26 : decode cX2_timeAt 26 = .ok (.ireturn, 1) := by decide +kernel
theorem dX2_sortAt_0 : decode cX2_sortAt 0 = .ok (.aload_n 0, 1) := by decide +kernel
theorem dX2_sortAt_1 : decode cX2_sortAt 1 = .ok (.iload_n 1, 1) := by decide +kernel
theorem dX2_sortAt_2 : decode cX2_sortAt 2 = .ok (.invokevirtual 23, 3) := by decide +kernel
theorem dX2_sortAt_5 : decode cX2_sortAt 5 = .ok (.ifCond .eq 20, 3) := by decide +kernel
theorem dX2_sortAt_8 : decode cX2_sortAt 8 = .ok (.aload_n 0, 1) := by decide +kernel
theorem dX2_sortAt_9 : decode cX2_sortAt 9 = .ok (.getfield 15, 3) := by decide +kernel
theorem dX2_sortAt_12 : decode cX2_sortAt 12 = .ok (.getfield 32, 3) := by decide +kernel
theorem dX2_sortAt_15 : decode cX2_sortAt 15 = .ok (.aload_n 0, 1) := by decide +kernel
theorem dX2_sortAt_16 : decode cX2_sortAt 16 = .ok (.getfield 9, 3) := by decide +kernel
theorem dX2_sortAt_19 : decode cX2_sortAt 19 = .ok (.iload_n 1, 1) := by decide +kernel
theorem dX2_sortAt_20 : decode cX2_sortAt 20 = .ok (.iaload, 1) := by decide +kernel
theorem dX2_sortAt_21 : decode cX2_sortAt 21 = .ok (.iaload, 1) := by decide +kernel
theorem dX2_sortAt_22 : decode cX2_sortAt 22 = .ok (.goto 4, 3) := by decide +kernel
theorem dX2_sortAt_25 : decode cX2_sortAt 25 = .ok (.iconst (-1), 1) := by decide +kernel
theorem dX2_sortAt_26 : decode cX2_sortAt 26 = .ok (.ireturn, 1) := by decide +kernel
theorem dX2_empty_0 : decode cX2_empty 0 = .ok (.aload_n 0, 1) := by decide +kernel
theorem dX2_empty_1 : decode cX2_empty 1 = .ok (.iconst 0, 1) := by decide +kernel
theorem dX2_empty_2 : decode cX2_empty 2 = .ok (.putfield 19, 3) := by decide +kernel
theorem dX2_empty_5 : decode cX2_empty 5 = .ok (.aload_n 0, 1) := by decide +kernel
theorem dX2_empty_6 : decode cX2_empty 6 = .ok (.iconst 0, 1) := by decide +kernel
theorem dX2_empty_7 : decode cX2_empty 7 = .ok (.putfield 35, 3) := by decide +kernel
theorem dX2_empty_10 : decode cX2_empty 10 = .ok (.aload_n 0, 1) := by decide +kernel
theorem dX2_empty_11 : decode cX2_empty 11 = .ok (.iconst 0, 1) := by decide +kernel
theorem dX2_empty_12 : decode cX2_empty 12 = .ok (.putfield 38, 3) := by decide +kernel
theorem dX2_empty_15 : decode cX2_empty 15 = .ok (.aload_n 0, 1) := by decide +kernel
theorem dX2_empty_16 : decode cX2_empty 16 = .ok (.iconst 0, 1) := by decide +kernel
theorem dX2_empty_17 : decode cX2_empty 17 = .ok (.putfield 42, 3) := by decide +kernel
theorem dX2_empty_20 : decode cX2_empty 20 = .ok (.return_, 1) := by decide +kernel
theorem dX2_take_0 : decode cX2_take 0 = .ok (.aload_n 0, 1) := by decide +kernel
theorem dX2_take_1 : decode cX2_take 1 = .ok (.dup, 1) := by decide +kernel
theorem dX2_take_2 : decode cX2_take 2 = .ok (.getfield 35, 3) := by decide +kernel
theorem dX2_take_5 : decode cX2_take 5 = .ok (.iconst 1, 1) := by decide +kernel
theorem dX2_take_6 : decode cX2_take 6 = .ok (.iadd, 1) := by decide +kernel
theorem dX2_take_7 : decode cX2_take 7 = .ok (.putfield 35, 3) := by decide +kernel
theorem dX2_take_10 : decode cX2_take 10 = .ok (.aload_n 0, 1) := by decide +kernel
theorem dX2_take_11 : decode cX2_take 11 = .ok (.getfield 15, 3) := by decide +kernel
theorem dX2_take_14 : decode cX2_take 14 = .ok (.getfield 45, 3) := by decide +kernel
theorem dX2_take_17 : decode cX2_take 17 = .ok (.iload_n 1, 1) := by decide +kernel
theorem dX2_take_18 : decode cX2_take 18 = .ok (.baload, 1) := by decide +kernel
theorem dX2_take_19 : decode cX2_take 19 = .ok (.ifCond .ne 32, 3) := by decide +kernel
theorem dX2_take_22 : decode cX2_take 22 = .ok (.aload_n 0, 1) := by decide +kernel
theorem dX2_take_23 : decode cX2_take 23 = .ok (.getfield 19, 3) := by decide +kernel
theorem dX2_take_26 : decode cX2_take 26 = .ok (.bipush 120, 2) := by decide +kernel
theorem dX2_take_28 : decode cX2_take 28 = .ok (.if_icmp .ge 23, 3) := by decide +kernel
theorem dX2_take_31 : decode cX2_take 31 = .ok (.aload_n 0, 1) := by decide +kernel
theorem dX2_take_32 : decode cX2_take 32 = .ok (.getfield 9, 3) := by decide +kernel
theorem dX2_take_35 : decode cX2_take 35 = .ok (.aload_n 0, 1) := by decide +kernel
theorem dX2_take_36 : decode cX2_take 36 = .ok (.getfield 19, 3) := by decide +kernel
theorem dX2_take_39 : decode cX2_take 39 = .ok (.iload_n 1, 1) := by decide +kernel
theorem dX2_take_40 : decode cX2_take 40 = .ok (.iastore, 1) := by decide +kernel
theorem dX2_take_41 : decode cX2_take 41 = .ok (.aload_n 0, 1) := by decide +kernel
theorem dX2_take_42 : decode cX2_take 42 = .ok (.dup, 1) := by decide +kernel
theorem dX2_take_43 : decode cX2_take 43 = .ok (.getfield 19, 3) := by decide +kernel
theorem dX2_take_46 : decode cX2_take 46 = .ok (.iconst 1, 1) := by decide +kernel
theorem dX2_take_47 : decode cX2_take 47 = .ok (.iadd, 1) := by decide +kernel
theorem dX2_take_48 : decode cX2_take 48 = .ok (.putfield 19, 3) := by decide +kernel
theorem dX2_take_51 : decode cX2_take 51 = .ok (.return_, 1) := by decide +kernel
theorem dX2_dropIfQuick_0 : decode cX2_dropIfQuick 0 = .ok (.aload_n 0, 1) := by decide +kernel
theorem dX2_dropIfQuick_1 : decode cX2_dropIfQuick 1 = .ok (.aload_n 0, 1) := by decide +kernel
theorem dX2_dropIfQuick_2 : decode cX2_dropIfQuick 2 = .ok (.iload_n 1, 1) := by decide +kernel
theorem dX2_dropIfQuick_3 : decode cX2_dropIfQuick 3 = .ok (.iload_n 2, 1) := by decide +kernel
theorem dX2_dropIfQuick_4 : decode cX2_dropIfQuick 4 = .ok (.invokevirtual 49, 3) := by decide +kernel
theorem dX2_dropIfQuick_7 : decode cX2_dropIfQuick 7 = .ok (.putfield 38, 3) := by decide +kernel
theorem dX2_dropIfQuick_10 : decode cX2_dropIfQuick 10 = .ok (.aload_n 0, 1) := by decide +kernel
theorem dX2_dropIfQuick_11 : decode cX2_dropIfQuick 11 = .ok (.getfield 38, 3) := by decide +kernel
theorem dX2_dropIfQuick_14 : decode cX2_dropIfQuick 14 = .ok (.ifCond .eq 8, 3) := by decide +kernel
theorem dX2_dropIfQuick_17 : decode cX2_dropIfQuick 17 = .ok (.aload_n 0, 1) := by decide +kernel
theorem dX2_dropIfQuick_18 : decode cX2_dropIfQuick 18 = .ok (.iconst 0, 1) := by decide +kernel
theorem dX2_dropIfQuick_19 : decode cX2_dropIfQuick 19 = .ok (.putfield 19, 3) := by decide +kernel
theorem dX2_dropIfQuick_22 : decode cX2_dropIfQuick 22 = .ok (.return_, 1) := by decide +kernel
theorem dX2_isQuick_0 : decode cX2_isQuick 0 = .ok (.iload_n 1, 1) := by decide +kernel
theorem dX2_isQuick_1 : decode cX2_isQuick 1 = .ok (.ifCond .gt 5, 3) := by decide +kernel
theorem dX2_isQuick_4 : decode cX2_isQuick 4 = .ok (.iconst 0, 1) := by decide +kernel
theorem dX2_isQuick_5 : decode cX2_isQuick 5 = .ok (.ireturn, 1) := by decide +kernel
theorem dX2_isQuick_6 : decode cX2_isQuick 6 = .ok (.iload_n 1, 1) := by decide +kernel
theorem dX2_isQuick_7 : decode cX2_isQuick 7 = .ok (.istore_n 3, 1) := by decide +kernel
theorem dX2_isQuick_8 : decode cX2_isQuick 8 = .ok (.iload_n 3, 1) := by decide +kernel
theorem dX2_isQuick_9 : decode cX2_isQuick 9 = .ok (.aload_n 0, 1) := by decide +kernel
theorem dX2_isQuick_10 : decode cX2_isQuick 10 = .ok (.getfield 19, 3) := by decide +kernel
theorem dX2_isQuick_13 : decode cX2_isQuick 13 = .ok (.if_icmp .ge 28, 3) := by decide +kernel
theorem dX2_isQuick_16 : decode cX2_isQuick 16 = .ok (.aload_n 0, 1) := by decide +kernel
theorem dX2_isQuick_17 : decode cX2_isQuick 17 = .ok (.iload_n 3, 1) := by decide +kernel
theorem dX2_isQuick_18 : decode cX2_isQuick 18 = .ok (.invokevirtual 53, 3) := by decide +kernel
theorem dX2_isQuick_21 : decode cX2_isQuick 21 = .ok (.aload_n 0, 1) := by decide +kernel
theorem dX2_isQuick_22 : decode cX2_isQuick 22 = .ok (.iload_n 3, 1) := by decide +kernel
theorem dX2_isQuick_23 : decode cX2_isQuick 23 = .ok (.iload_n 1, 1) := by decide +kernel
theorem dX2_isQuick_24 : decode cX2_isQuick 24 = .ok (.isub, 1) := by decide +kernel
theorem dX2_isQuick_25 : decode cX2_isQuick 25 = .ok (.invokevirtual 53, 3) := by decide +kernel
theorem dX2_isQuick_28 : decode cX2_isQuick 28 = .ok (.isub, 1) := by decide +kernel
theorem dX2_isQuick_29 : decode cX2_isQuick 29 = .ok (.iload_n 2, 1) := by decide +kernel
theorem dX2_isQuick_30 : decode cX2_isQuick 30 = .ok (.if_icmp .ge 5, 3) := by decide +kernel
theorem dX2_isQuick_33 : decode cX2_isQuick 33 = .ok (.iconst 1, 1) := by decide +kernel
theorem dX2_isQuick_34 : decode cX2_isQuick 34 = .ok (.ireturn, 1) := by decide +kernel
theorem dX2_isQuick_35 : decode cX2_isQuick 35 = .ok (.iinc 3 1, 3) := by decide +kernel
theorem dX2_isQuick_38 : decode cX2_isQuick 38 = .ok (.goto (-30), 3) := by decide +kernel
theorem dX2_isQuick_41 : decode cX2_isQuick 41 = .ok (.iconst 0, 1) := by decide +kernel
theorem dX2_isQuick_42 : decode cX2_isQuick 42 = .ok (.ireturn, 1) := by decide +kernel
theorem dX2_birth_0 : decode cX2_birth 0 = .ok (.iconst 0, 1) := by decide +kernel
theorem dX2_birth_1 : decode cX2_birth 1 = .ok (.istore_n 2, 1) := by decide +kernel
theorem dX2_birth_2 : decode cX2_birth 2 = .ok (.iload_n 2, 1) := by decide +kernel
theorem dX2_birth_3 : decode cX2_birth 3 = .ok (.aload_n 0, 1) := by decide +kernel
theorem dX2_birth_4 : decode cX2_birth 4 = .ok (.getfield 19, 3) := by decide +kernel
theorem dX2_birth_7 : decode cX2_birth 7 = .ok (.if_icmp .ge 28, 3) := by decide +kernel
theorem dX2_birth_10 : decode cX2_birth 10 = .ok (.aload_n 0, 1) := by decide +kernel
theorem dX2_birth_11 : decode cX2_birth 11 = .ok (.iload_n 2, 1) := by decide +kernel
theorem dX2_birth_12 : decode cX2_birth 12 = .ok (.invokevirtual 57, 3) := by decide +kernel
theorem dX2_birth_15 : decode cX2_birth 15 = .ok (.iload_n 1, 1) := by decide +kernel
theorem dX2_birth_16 : decode cX2_birth 16 = .ok (.if_icmp .ne 13, 3) := by decide +kernel
theorem dX2_birth_19 : decode cX2_birth 19 = .ok (.aload_n 0, 1) := by decide +kernel
theorem dX2_birth_20 : decode cX2_birth 20 = .ok (.iload_n 2, 1) := by decide +kernel
theorem dX2_birth_21 : decode cX2_birth 21 = .ok (.invokevirtual 53, 3) := by decide +kernel
theorem dX2_birth_24 : decode cX2_birth 24 = .ok (.sipush 10080, 3) := by decide +kernel
theorem dX2_birth_27 : decode cX2_birth 27 = .ok (.idiv, 1) := by decide +kernel
theorem dX2_birth_28 : decode cX2_birth 28 = .ok (.ireturn, 1) := by decide +kernel
theorem dX2_birth_29 : decode cX2_birth 29 = .ok (.iinc 2 1, 3) := by decide +kernel
theorem dX2_birth_32 : decode cX2_birth 32 = .ok (.goto (-30), 3) := by decide +kernel
theorem dX2_birth_35 : decode cX2_birth 35 = .ok (.iconst (-1), 1) := by decide +kernel
theorem dX2_birth_36 : decode cX2_birth 36 = .ok (.ireturn, 1) := by decide +kernel
theorem dX2_isIn_0 : decode cX2_isIn 0 = .ok (.iconst 0, 1) := by decide +kernel
theorem dX2_isIn_1 : decode cX2_isIn 1 = .ok (.istore_n 2, 1) := by decide +kernel
theorem dX2_isIn_2 : decode cX2_isIn 2 = .ok (.iload_n 2, 1) := by decide +kernel
theorem dX2_isIn_3 : decode cX2_isIn 3 = .ok (.aload_n 0, 1) := by decide +kernel
theorem dX2_isIn_4 : decode cX2_isIn 4 = .ok (.getfield 19, 3) := by decide +kernel
theorem dX2_isIn_7 : decode cX2_isIn 7 = .ok (.if_icmp .ge 24, 3) := by decide +kernel
theorem dX2_isIn_10 : decode cX2_isIn 10 = .ok (.aload_n 0, 1) := by decide +kernel
theorem dX2_isIn_11 : decode cX2_isIn 11 = .ok (.iload_n 2, 1) := by decide +kernel
theorem dX2_isIn_12 : decode cX2_isIn 12 = .ok (.invokevirtual 53, 3) := by decide +kernel
theorem dX2_isIn_15 : decode cX2_isIn 15 = .ok (.sipush 10080, 3) := by decide +kernel
theorem dX2_isIn_18 : decode cX2_isIn 18 = .ok (.idiv, 1) := by decide +kernel
theorem dX2_isIn_19 : decode cX2_isIn 19 = .ok (.iload_n 1, 1) := by decide +kernel
theorem dX2_isIn_20 : decode cX2_isIn 20 = .ok (.if_icmp .ne 5, 3) := by decide +kernel
theorem dX2_isIn_23 : decode cX2_isIn 23 = .ok (.iconst 1, 1) := by decide +kernel
theorem dX2_isIn_24 : decode cX2_isIn 24 = .ok (.ireturn, 1) := by decide +kernel
theorem dX2_isIn_25 : decode cX2_isIn 25 = .ok (.iinc 2 1, 3) := by decide +kernel
theorem dX2_isIn_28 : decode cX2_isIn 28 = .ok (.goto (-26), 3) := by decide +kernel
theorem dX2_isIn_31 : decode cX2_isIn 31 = .ok (.iconst 0, 1) := by decide +kernel
theorem dX2_isIn_32 : decode cX2_isIn 32 = .ok (.ireturn, 1) := by decide +kernel
theorem dX3_init_0 : decode cX3_init 0 = .ok (.aload_n 0, 1) := by decide +kernel
theorem dX3_init_1 : decode cX3_init 1 = .ok (.invokespecial 3, 3) := by decide +kernel
theorem dX3_init_4 : decode cX3_init 4 = .ok (.aload_n 0, 1) := by decide +kernel
theorem dX3_init_5 : decode cX3_init 5 = .ok (.bipush 120, 2) := by decide +kernel
theorem dX3_init_7 : decode cX3_init 7 = .ok (.newarray .int, 2) := by decide +kernel
theorem dX3_init_9 : decode cX3_init 9 = .ok (.putfield 9, 3) := by decide +kernel
theorem dX3_init_12 : decode cX3_init 12 = .ok (.aload_n 0, 1) := by decide +kernel
theorem dX3_init_13 : decode cX3_init 13 = .ok (.bipush 120, 2) := by decide +kernel
theorem dX3_init_15 : decode cX3_init 15 = .ok (.newarray .int, 2) := by decide +kernel
theorem dX3_init_17 : decode cX3_init 17 = .ok (.putfield 15, 3) := by decide +kernel
theorem dX3_init_20 : decode cX3_init 20 = .ok (.return_, 1) := by decide +kernel
theorem dX3_tellWays_0 : decode cX3_tellWays 0 = .ok (.iconst 0, 1) := by decide +kernel
theorem dX3_tellWays_1 : decode cX3_tellWays 1 = .ok (.istore_n 3, 1) := by decide +kernel
theorem dX3_tellWays_2 : decode cX3_tellWays 2 = .ok (.iconst (-1), 1) := by decide +kernel
theorem dX3_tellWays_3 : decode cX3_tellWays 3 = .ok (.istore 4, 2) := by decide +kernel
theorem dX3_tellWays_5 : decode cX3_tellWays 5 = .ok (.iconst 0, 1) := by decide +kernel
theorem dX3_tellWays_6 : decode cX3_tellWays 6 = .ok (.istore 5, 2) := by decide +kernel
theorem dX3_tellWays_8 : decode cX3_tellWays 8 = .ok (.iload 5, 2) := by decide +kernel
theorem dX3_tellWays_10 : decode cX3_tellWays 10 = .ok (.aload_n 2, 1) := by decide +kernel
theorem dX3_tellWays_11 : decode cX3_tellWays 11 = .ok (.getfield 18, 3) := by decide +kernel
theorem dX3_tellWays_14 : decode cX3_tellWays 14 = .ok (.if_icmp .ge 76, 3) := by decide +kernel
theorem dX3_tellWays_17 : decode cX3_tellWays 17 = .ok (.aload_n 2, 1) := by decide +kernel
theorem dX3_tellWays_18 : decode cX3_tellWays 18 = .ok (.iload 5, 2) := by decide +kernel
theorem dX3_tellWays_20 : decode cX3_tellWays 20 = .ok (.invokevirtual 24, 3) := by decide +kernel
theorem dX3_tellWays_23 : decode cX3_tellWays 23 = .ok (.iload 4, 2) := by decide +kernel
theorem dX3_tellWays_25 : decode cX3_tellWays 25 = .ok (.if_icmp .le 59, 3) := by decide +kernel
theorem dX3_tellWays_28 : decode cX3_tellWays 28 = .ok (.aload_n 0, 1) := by decide +kernel
theorem dX3_tellWays_29 : decode cX3_tellWays 29 = .ok (.iload 5, 2) := by decide +kernel
theorem dX3_tellWays_31 : decode cX3_tellWays 31 = .ok (.aload_n 1, 1) := by decide +kernel
theorem dX3_tellWays_32 : decode cX3_tellWays 32 = .ok (.aload_n 2, 1) := by decide +kernel
theorem dX3_tellWays_33 : decode cX3_tellWays 33 = .ok (.invokevirtual 28, 3) := by decide +kernel
theorem dX3_tellWays_36 : decode cX3_tellWays 36 = .ok (.aload_n 0, 1) := by decide +kernel
theorem dX3_tellWays_37 : decode cX3_tellWays 37 = .ok (.getfield 32, 3) := by decide +kernel
theorem dX3_tellWays_40 : decode cX3_tellWays 40 = .ok (.iconst (-1), 1) := by decide +kernel
theorem dX3_tellWays_41 : decode cX3_tellWays 41 = .ok (.if_icmp .eq 43, 3) := by decide +kernel
theorem dX3_tellWays_44 : decode cX3_tellWays 44 = .ok (.iload_n 3, 1) := by decide +kernel
theorem dX3_tellWays_45 : decode cX3_tellWays 45 = .ok (.bipush 120, 2) := by decide +kernel
theorem dX3_tellWays_47 : decode cX3_tellWays 47 = .ok (.if_icmp .ge 37, 3) := by decide +kernel
theorem dX3_tellWays_50 : decode cX3_tellWays 50 = .ok (.aload_n 0, 1) := by decide +kernel
theorem dX3_tellWays_51 : decode cX3_tellWays 51 = .ok (.getfield 9, 3) := by decide +kernel
theorem dX3_tellWays_54 : decode cX3_tellWays 54 = .ok (.iload_n 3, 1) := by decide +kernel
theorem dX3_tellWays_55 : decode cX3_tellWays 55 = .ok (.iload 5, 2) := by decide +kernel
theorem dX3_tellWays_57 : decode cX3_tellWays 57 = .ok (.iastore, 1) := by decide +kernel
theorem dX3_tellWays_58 : decode cX3_tellWays 58 = .ok (.aload_n 0, 1) := by decide +kernel
theorem dX3_tellWays_59 : decode cX3_tellWays 59 = .ok (.getfield 15, 3) := by decide +kernel
theorem dX3_tellWays_62 : decode cX3_tellWays 62 = .ok (.iload_n 3, 1) := by decide +kernel
theorem dX3_tellWays_63 : decode cX3_tellWays 63 = .ok (.aload_n 0, 1) := by decide +kernel
theorem dX3_tellWays_64 : decode cX3_tellWays 64 = .ok (.getfield 32, 3) := by decide +kernel
theorem dX3_tellWays_67 : decode cX3_tellWays 67 = .ok (.iastore, 1) := by decide +kernel
theorem dX3_tellWays_68 : decode cX3_tellWays 68 = .ok (.iinc 3 1, 3) := by decide +kernel
theorem dX3_tellWays_71 : decode cX3_tellWays 71 = .ok (.aload_n 2, 1) := by decide +kernel
theorem dX3_tellWays_72 : decode cX3_tellWays 72 = .ok (.iload 5, 2) := by decide +kernel
theorem dX3_tellWays_74 : decode cX3_tellWays 74 = .ok (.invokevirtual 24, 3) := by decide +kernel
theorem dX3_tellWays_77 : decode cX3_tellWays 77 = .ok (.aload_n 1, 1) := by decide +kernel
theorem dX3_tellWays_78 : decode cX3_tellWays 78 = .ok (.getfield 35, 3) := by decide +kernel
theorem dX3_tellWays_81 : decode cX3_tellWays 81 = .ok (.iadd, 1) := by decide +kernel
theorem dX3_tellWays_82 : decode cX3_tellWays 82 = .ok (.istore 4, 2) := by decide +kernel
theorem dX3_tellWays_84 : decode cX3_tellWays 84 = .ok (.iinc 5 1, 3) := by decide +kernel
theorem dX3_tellWays_87 : decode cX3_tellWays 87 = .ok (.goto (-79), 3) := by decide +kernel
theorem dX3_tellWays_90 : decode cX3_tellWays 90 = .ok (.iload_n 3, 1) := by decide +kernel
theorem dX3_tellWays_91 : decode cX3_tellWays 91 = .ok (.ireturn, 1) := by decide +kernel
theorem dX3_farthest_0 : decode cX3_farthest 0 = .ok (.iconst 0, 1) := by decide +kernel
theorem dX3_farthest_1 : decode cX3_farthest 1 = .ok (.istore_n 3, 1) := by decide +kernel
theorem dX3_farthest_2 : decode cX3_farthest 2 = .ok (.iconst 0, 1) := by decide +kernel
theorem dX3_farthest_3 : decode cX3_farthest 3 = .ok (.istore 4, 2) := by decide +kernel
theorem dX3_farthest_5 : decode cX3_farthest 5 = .ok (.iload 4, 2) := by decide +kernel
theorem dX3_farthest_7 : decode cX3_farthest 7 = .ok (.aload_n 2, 1) := by decide +kernel
theorem dX3_farthest_8 : decode cX3_farthest 8 = .ok (.getfield 18, 3) := by decide +kernel
theorem dX3_farthest_11 : decode cX3_farthest 11 = .ok (.if_icmp .ge 34, 3) := by decide +kernel
theorem dX3_farthest_14 : decode cX3_farthest 14 = .ok (.iload_n 3, 1) := by decide +kernel
theorem dX3_farthest_15 : decode cX3_farthest 15 = .ok (.aload_n 1, 1) := by decide +kernel
theorem dX3_farthest_16 : decode cX3_farthest 16 = .ok (.getfield 40, 3) := by decide +kernel
theorem dX3_farthest_19 : decode cX3_farthest 19 = .ok (.if_icmp .ge 26, 3) := by decide +kernel
theorem dX3_farthest_22 : decode cX3_farthest 22 = .ok (.aload_n 0, 1) := by decide +kernel
theorem dX3_farthest_23 : decode cX3_farthest 23 = .ok (.iload 4, 2) := by decide +kernel
theorem dX3_farthest_25 : decode cX3_farthest 25 = .ok (.aload_n 1, 1) := by decide +kernel
theorem dX3_farthest_26 : decode cX3_farthest 26 = .ok (.aload_n 2, 1) := by decide +kernel
theorem dX3_farthest_27 : decode cX3_farthest 27 = .ok (.invokevirtual 28, 3) := by decide +kernel
theorem dX3_farthest_30 : decode cX3_farthest 30 = .ok (.iload_n 3, 1) := by decide +kernel
theorem dX3_farthest_31 : decode cX3_farthest 31 = .ok (.aload_n 0, 1) := by decide +kernel
theorem dX3_farthest_32 : decode cX3_farthest 32 = .ok (.getfield 41, 3) := by decide +kernel
theorem dX3_farthest_35 : decode cX3_farthest 35 = .ok (.invokestatic 44, 3) := by decide +kernel
theorem dX3_farthest_38 : decode cX3_farthest 38 = .ok (.istore_n 3, 1) := by decide +kernel
theorem dX3_farthest_39 : decode cX3_farthest 39 = .ok (.iinc 4 1, 3) := by decide +kernel
theorem dX3_farthest_42 : decode cX3_farthest 42 = .ok (.goto (-37), 3) := by decide +kernel
theorem dX3_farthest_45 : decode cX3_farthest 45 = .ok (.iload_n 3, 1) := by decide +kernel
theorem dX3_farthest_46 : decode cX3_farthest 46 = .ok (.ireturn, 1) := by decide +kernel
theorem dX3_seekFrom_0 : decode cX3_seekFrom 0 = .ok (.aload_n 0, 1) := by decide +kernel
theorem dX3_seekFrom_1 : decode cX3_seekFrom 1 = .ok (.iconst 0, 1) := by decide +kernel
theorem dX3_seekFrom_2 : decode cX3_seekFrom 2 = .ok (.putfield 41, 3) := by decide +kernel
theorem dX3_seekFrom_5 : decode cX3_seekFrom 5 = .ok (.aload_n 0, 1) := by decide +kernel
theorem dX3_seekFrom_6 : decode cX3_seekFrom 6 = .ok (.iconst (-1), 1) := by decide +kernel
theorem dX3_seekFrom_7 : decode cX3_seekFrom 7 = .ok (.putfield 32, 3) := by decide +kernel
theorem dX3_seekFrom_10 : decode cX3_seekFrom 10 = .ok (.iconst 1, 1) := by decide +kernel
theorem dX3_seekFrom_11 : decode cX3_seekFrom 11 = .ok (.istore 4, 2) := by decide +kernel
theorem dX3_seekFrom_13 : decode cX3_seekFrom 13 = .ok (.aload_n 3, 1) := by decide +kernel
theorem dX3_seekFrom_14 : decode cX3_seekFrom 14 = .ok (.iload_n 1, 1) := by decide +kernel
theorem dX3_seekFrom_15 : decode cX3_seekFrom 15 = .ok (.invokevirtual 24, 3) := by decide +kernel
theorem dX3_seekFrom_18 : decode cX3_seekFrom 18 = .ok (.aload_n 2, 1) := by decide +kernel
theorem dX3_seekFrom_19 : decode cX3_seekFrom 19 = .ok (.getfield 35, 3) := by decide +kernel
theorem dX3_seekFrom_22 : decode cX3_seekFrom 22 = .ok (.iadd, 1) := by decide +kernel
theorem dX3_seekFrom_23 : decode cX3_seekFrom 23 = .ok (.istore 5, 2) := by decide +kernel
theorem dX3_seekFrom_25 : decode cX3_seekFrom 25 = .ok (.iload_n 1, 1) := by decide +kernel
theorem dX3_seekFrom_26 : decode cX3_seekFrom 26 = .ok (.istore 6, 2) := by decide +kernel
theorem dX3_seekFrom_28 : decode cX3_seekFrom 28 = .ok (.iload 6, 2) := by decide +kernel
theorem dX3_seekFrom_30 : decode cX3_seekFrom 30 = .ok (.aload_n 3, 1) := by decide +kernel
theorem dX3_seekFrom_31 : decode cX3_seekFrom 31 = .ok (.getfield 18, 3) := by decide +kernel
theorem dX3_seekFrom_34 : decode cX3_seekFrom 34 = .ok (.if_icmp .ge 125, 3) := by decide +kernel
theorem dX3_seekFrom_37 : decode cX3_seekFrom 37 = .ok (.aload_n 3, 1) := by decide +kernel
theorem dX3_seekFrom_38 : decode cX3_seekFrom 38 = .ok (.iload 6, 2) := by decide +kernel
theorem dX3_seekFrom_40 : decode cX3_seekFrom 40 = .ok (.invokevirtual 24, 3) := by decide +kernel
theorem dX3_seekFrom_43 : decode cX3_seekFrom 43 = .ok (.iload 5, 2) := by decide +kernel
theorem dX3_seekFrom_45 : decode cX3_seekFrom 45 = .ok (.if_icmp .gt 114, 3) := by decide +kernel
theorem dX3_seekFrom_48 : decode cX3_seekFrom 48 = .ok (.aload_n 3, 1) := by decide +kernel
theorem dX3_seekFrom_49 : decode cX3_seekFrom 49 = .ok (.iload 6, 2) := by decide +kernel
theorem dX3_seekFrom_51 : decode cX3_seekFrom 51 = .ok (.invokevirtual 50, 3) := by decide +kernel
theorem dX3_seekFrom_54 : decode cX3_seekFrom 54 = .ok (.istore 7, 2) := by decide +kernel
theorem dX3_seekFrom_56 : decode cX3_seekFrom 56 = .ok (.aload_n 2, 1) := by decide +kernel
theorem dX3_seekFrom_57 : decode cX3_seekFrom 57 = .ok (.iload 4, 2) := by decide +kernel
theorem dX3_seekFrom_59 : decode cX3_seekFrom 59 = .ok (.iload 7, 2) := by decide +kernel
theorem dX3_seekFrom_61 : decode cX3_seekFrom 61 = .ok (.invokevirtual 53, 3) := by decide +kernel
theorem dX3_seekFrom_64 : decode cX3_seekFrom 64 = .ok (.istore 8, 2) := by decide +kernel
theorem dX3_seekFrom_66 : decode cX3_seekFrom 66 = .ok (.aload_n 0, 1) := by decide +kernel
theorem dX3_seekFrom_67 : decode cX3_seekFrom 67 = .ok (.aload_n 0, 1) := by decide +kernel
theorem dX3_seekFrom_68 : decode cX3_seekFrom 68 = .ok (.getfield 41, 3) := by decide +kernel
theorem dX3_seekFrom_71 : decode cX3_seekFrom 71 = .ok (.aload_n 2, 1) := by decide +kernel
theorem dX3_seekFrom_72 : decode cX3_seekFrom 72 = .ok (.iload 8, 2) := by decide +kernel
theorem dX3_seekFrom_74 : decode cX3_seekFrom 74 = .ok (.invokevirtual 56, 3) := by decide +kernel
theorem dX3_seekFrom_77 : decode cX3_seekFrom 77 = .ok (.invokestatic 44, 3) := by decide +kernel
theorem dX3_seekFrom_80 : decode cX3_seekFrom 80 = .ok (.putfield 41, 3) := by decide +kernel
theorem dX3_seekFrom_83 : decode cX3_seekFrom 83 = .ok (.aload_n 0, 1) := by decide +kernel
theorem dX3_seekFrom_84 : decode cX3_seekFrom 84 = .ok (.getfield 41, 3) := by decide +kernel
theorem dX3_seekFrom_87 : decode cX3_seekFrom 87 = .ok (.ifCond .le 21, 3) := by decide +kernel
theorem dX3_seekFrom_90 : decode cX3_seekFrom 90 = .ok (.aload_n 0, 1) := by decide +kernel
theorem dX3_seekFrom_91 : decode cX3_seekFrom 91 = .ok (.getfield 41, 3) := by decide +kernel
theorem dX3_seekFrom_94 : decode cX3_seekFrom 94 = .ok (.aload_n 2, 1) := by decide +kernel
theorem dX3_seekFrom_95 : decode cX3_seekFrom 95 = .ok (.getfield 40, 3) := by decide +kernel
theorem dX3_seekFrom_98 : decode cX3_seekFrom 98 = .ok (.if_icmp .ne 10, 3) := by decide +kernel
theorem dX3_seekFrom_101 : decode cX3_seekFrom 101 = .ok (.aload_n 0, 1) := by decide +kernel
theorem dX3_seekFrom_102 : decode cX3_seekFrom 102 = .ok (.iload 6, 2) := by decide +kernel
theorem dX3_seekFrom_104 : decode cX3_seekFrom 104 = .ok (.putfield 32, 3) := by decide +kernel
theorem dX3_seekFrom_107 : decode cX3_seekFrom 107 = .ok (.return_, 1) := by decide +kernel
theorem dX3_seekFrom_108 : decode cX3_seekFrom 108 = .ok (.iload 6, 2) := by decide +kernel
theorem dX3_seekFrom_110 : decode cX3_seekFrom 110 = .ok (.iload_n 1, 1) := by decide +kernel
theorem dX3_seekFrom_111 : decode cX3_seekFrom 111 = .ok (.if_icmp .eq 12, 3) := by decide +kernel
theorem dX3_seekFrom_114 : decode cX3_seekFrom 114 = .ok (.iload 7, 2) := by decide +kernel
theorem dX3_seekFrom_116 : decode cX3_seekFrom 116 = .ok (.aload_n 2, 1) := by decide +kernel
theorem dX3_seekFrom_117 : decode cX3_seekFrom 117 = .ok (.getfield 59, 3) := by decide +kernel
theorem dX3_seekFrom_120 : decode cX3_seekFrom 120 = .ok (.if_icmp .ne 7, 3) := by decide +kernel
theorem dX3_seekFrom_123 : decode cX3_seekFrom 123 = .ok (.iconst 1, 1) := by decide +kernel
theorem dX3_seekFrom_124 : decode cX3_seekFrom 124 = .ok (.goto 4, 3) := by decide +kernel
theorem dX3_seekFrom_127 : decode cX3_seekFrom 127 = .ok (.iconst 0, 1) := by decide +kernel
theorem dX3_seekFrom_128 : decode cX3_seekFrom 128 = .ok (.istore 9, 2) := by decide +kernel
theorem dX3_seekFrom_130 : decode cX3_seekFrom 130 = .ok (.iload 9, 2) := by decide +kernel
theorem dX3_seekFrom_132 : decode cX3_seekFrom 132 = .ok (.ifCond .eq 8, 3) := by decide +kernel
theorem dX3_seekFrom_135 : decode cX3_seekFrom 135 = .ok (.iload 8, 2) := by decide +kernel
theorem dX3_seekFrom_137 : decode cX3_seekFrom 137 = .ok (.goto 8, 3) := by decide +kernel
theorem dX3_seekFrom_140 : decode cX3_seekFrom 140 = .ok (.iload 4, 2) := by decide +kernel
theorem dX3_seekFrom_142 : decode cX3_seekFrom 142 = .ok (.iload 8, 2) := by decide +kernel
theorem dX3_seekFrom_144 : decode cX3_seekFrom 144 = .ok (.ior, 1) := by decide +kernel
theorem dX3_seekFrom_145 : decode cX3_seekFrom 145 = .ok (.istore 4, 2) := by decide +kernel
theorem dX3_seekFrom_147 : decode cX3_seekFrom 147 = .ok (.iload 4, 2) := by decide +kernel
theorem dX3_seekFrom_149 : decode cX3_seekFrom 149 = .ok (.ifCond .ne 4, 3) := by decide +kernel
theorem dX3_seekFrom_152 : decode cX3_seekFrom 152 = .ok (.return_, 1) := by decide +kernel
theorem dX3_seekFrom_153 : decode cX3_seekFrom 153 = .ok (.iinc 6 1, 3) := by decide +kernel
theorem dX3_seekFrom_156 : decode cX3_seekFrom 156 = .ok (.goto (-128), 3) := by decide +kernel
theorem dX3_seekFrom_159 : decode cX3_seekFrom 159 = .ok (.return_, 1) := by decide +kernel
theorem dX4_init_0 : decode cX4_init 0 = .ok (.aload_n 0, 1) := by decide +kernel
theorem dX4_init_1 : decode cX4_init 1 = .ok (.invokespecial 1, 3) := by decide +kernel
theorem dX4_init_4 : decode cX4_init 4 = .ok (.aload_n 0, 1) := by decide +kernel
theorem dX4_init_5 : decode cX4_init 5 = .ok (.new 7, 3) := by decide +kernel
theorem dX4_init_8 : decode cX4_init 8 = .ok (.dup, 1) := by decide +kernel
theorem dX4_init_9 : decode cX4_init 9 = .ok (.invokespecial 9, 3) := by decide +kernel
theorem dX4_init_12 : decode cX4_init 12 = .ok (.putfield 10, 3) := by decide +kernel
theorem dX4_init_15 : decode cX4_init 15 = .ok (.aload_n 0, 1) := by decide +kernel
theorem dX4_init_16 : decode cX4_init 16 = .ok (.bipush 24, 2) := by decide +kernel
theorem dX4_init_18 : decode cX4_init 18 = .ok (.newarray .int, 2) := by decide +kernel
theorem dX4_init_20 : decode cX4_init 20 = .ok (.putfield 16, 3) := by decide +kernel
theorem dX4_init_23 : decode cX4_init 23 = .ok (.aload_n 0, 1) := by decide +kernel
theorem dX4_init_24 : decode cX4_init 24 = .ok (.bipush 24, 2) := by decide +kernel
theorem dX4_init_26 : decode cX4_init 26 = .ok (.anewarray 20, 3) := by decide +kernel
theorem dX4_init_29 : decode cX4_init 29 = .ok (.putfield 22, 3) := by decide +kernel
theorem dX4_init_32 : decode cX4_init 32 = .ok (.iconst 0, 1) := by decide +kernel
theorem dX4_init_33 : decode cX4_init 33 = .ok (.istore_n 1, 1) := by decide +kernel
theorem dX4_init_34 : decode cX4_init 34 = .ok (.iload_n 1, 1) := by decide +kernel
theorem dX4_init_35 : decode cX4_init 35 = .ok (.bipush 24, 2) := by decide +kernel
theorem dX4_init_37 : decode cX4_init 37 = .ok (.if_icmp .ge 33, 3) := by decide +kernel
theorem dX4_init_40 : decode cX4_init 40 = .ok (.aload_n 0, 1) := by decide +kernel
theorem dX4_init_41 : decode cX4_init 41 = .ok (.getfield 16, 3) := by decide +kernel
theorem dX4_init_44 : decode cX4_init 44 = .ok (.iload_n 1, 1) := by decide +kernel
theorem dX4_init_45 : decode cX4_init 45 = .ok (.iload_n 1, 1) := by decide +kernel
theorem dX4_init_46 : decode cX4_init 46 = .ok (.iastore, 1) := by decide +kernel
theorem dX4_init_47 : decode cX4_init 47 = .ok (.aload_n 0, 1) := by decide +kernel
theorem dX4_init_48 : decode cX4_init 48 = .ok (.getfield 22, 3) := by decide +kernel
theorem dX4_init_51 : decode cX4_init 51 = .ok (.iload_n 1, 1) := by decide +kernel
theorem dX4_init_52 : decode cX4_init 52 = .ok (.new 20, 3) := by decide +kernel
theorem dX4_init_55 : decode cX4_init 55 = .ok (.dup, 1) := by decide +kernel
theorem dX4_init_56 : decode cX4_init 56 = .ok (.aload_n 0, 1) := by decide +kernel
theorem dX4_init_57 : decode cX4_init 57 = .ok (.getfield 10, 3) := by decide +kernel
theorem dX4_init_60 : decode cX4_init 60 = .ok (.invokespecial 26, 3) := by decide +kernel
theorem dX4_init_63 : decode cX4_init 63 = .ok (.aastore, 1) := by decide +kernel
theorem dX4_init_64 : decode cX4_init 64 = .ok (.iinc 1 1, 3) := by decide +kernel
theorem dX4_init_67 : decode cX4_init 67 = .ok (.goto (-33), 3) := by decide +kernel
theorem dX4_init_70 : decode cX4_init 70 = .ok (.aload_n 0, 1) := by decide +kernel
theorem dX4_init_71 : decode cX4_init 71 = .ok (.bipush 6, 2) := by decide +kernel
theorem dX4_init_73 : decode cX4_init 73 = .ok (.newarray .int, 2) := by decide +kernel
theorem dX4_init_75 : decode cX4_init 75 = .ok (.putfield 29, 3) := by decide +kernel
theorem dX4_init_78 : decode cX4_init 78 = .ok (.aload_n 0, 1) := by decide +kernel
theorem dX4_init_79 : decode cX4_init 79 = .ok (.getfield 29, 3) := by decide +kernel
theorem dX4_init_82 : decode cX4_init 82 = .ok (.iconst 0, 1) := by decide +kernel
theorem dX4_init_83 : decode cX4_init 83 = .ok (.bipush 30, 2) := by decide +kernel
theorem dX4_init_85 : decode cX4_init 85 = .ok (.iastore, 1) := by decide +kernel
theorem dX4_init_86 : decode cX4_init 86 = .ok (.aload_n 0, 1) := by decide +kernel
theorem dX4_init_87 : decode cX4_init 87 = .ok (.getfield 29, 3) := by decide +kernel
theorem dX4_init_90 : decode cX4_init 90 = .ok (.iconst 2, 1) := by decide +kernel
theorem dX4_init_91 : decode cX4_init 91 = .ok (.iconst (-1), 1) := by decide +kernel
theorem dX4_init_92 : decode cX4_init 92 = .ok (.iastore, 1) := by decide +kernel
theorem dX4_init_93 : decode cX4_init 93 = .ok (.aload_n 0, 1) := by decide +kernel
theorem dX4_init_94 : decode cX4_init 94 = .ok (.getfield 29, 3) := by decide +kernel
theorem dX4_init_97 : decode cX4_init 97 = .ok (.iconst 4, 1) := by decide +kernel
theorem dX4_init_98 : decode cX4_init 98 = .ok (.iconst 1, 1) := by decide +kernel
theorem dX4_init_99 : decode cX4_init 99 = .ok (.iastore, 1) := by decide +kernel
theorem dX4_init_100 : decode cX4_init 100 = .ok (.aload_n 0, 1) := by decide +kernel
theorem dX4_init_101 : decode cX4_init 101 = .ok (.bipush 120, 2) := by decide +kernel
theorem dX4_init_103 : decode cX4_init 103 = .ok (.newarray .int, 2) := by decide +kernel
theorem dX4_init_105 : decode cX4_init 105 = .ok (.putfield 32, 3) := by decide +kernel
theorem dX4_init_108 : decode cX4_init 108 = .ok (.aload_n 0, 1) := by decide +kernel
theorem dX4_init_109 : decode cX4_init 109 = .ok (.bipush 120, 2) := by decide +kernel
theorem dX4_init_111 : decode cX4_init 111 = .ok (.newarray .int, 2) := by decide +kernel
theorem dX4_init_113 : decode cX4_init 113 = .ok (.putfield 35, 3) := by decide +kernel
theorem dX4_init_116 : decode cX4_init 116 = .ok (.aload_n 0, 1) := by decide +kernel
theorem dX4_init_117 : decode cX4_init 117 = .ok (.bipush 6, 2) := by decide +kernel
theorem dX4_init_119 : decode cX4_init 119 = .ok (.anewarray 38, 3) := by decide +kernel
theorem dX4_init_122 : decode cX4_init 122 = .ok (.putfield 40, 3) := by decide +kernel
theorem dX4_init_125 : decode cX4_init 125 = .ok (.iconst 0, 1) := by decide +kernel
theorem dX4_init_126 : decode cX4_init 126 = .ok (.istore_n 1, 1) := by decide +kernel
theorem dX4_init_127 : decode cX4_init 127 = .ok (.iload_n 1, 1) := by decide +kernel
theorem dX4_init_128 : decode cX4_init 128 = .ok (.bipush 6, 2) := by decide +kernel
theorem dX4_init_130 : decode cX4_init 130 = .ok (.if_icmp .ge 22, 3) := by decide +kernel
theorem dX4_init_133 : decode cX4_init 133 = .ok (.aload_n 0, 1) := by decide +kernel
theorem dX4_init_134 : decode cX4_init 134 = .ok (.getfield 40, 3) := by decide +kernel
theorem dX4_init_137 : decode cX4_init 137 = .ok (.iload_n 1, 1) := by decide +kernel
theorem dX4_init_138 : decode cX4_init 138 = .ok (.new 38, 3) := by decide +kernel
theorem dX4_init_141 : decode cX4_init 141 = .ok (.dup, 1) := by decide +kernel
theorem dX4_init_142 : decode cX4_init 142 = .ok (.invokespecial 44, 3) := by decide +kernel
theorem dX4_init_145 : decode cX4_init 145 = .ok (.aastore, 1) := by decide +kernel
theorem dX4_init_146 : decode cX4_init 146 = .ok (.iinc 1 1, 3) := by decide +kernel
theorem dX4_init_149 : decode cX4_init 149 = .ok (.goto (-22), 3) := by decide +kernel
theorem dX4_init_152 : decode cX4_init 152 = .ok (.aload_n 0, 1) := by decide +kernel
theorem dX4_init_153 : decode cX4_init 153 = .ok (.iconst 0, 1) := by decide +kernel
theorem dX4_init_154 : decode cX4_init 154 = .ok (.putfield 45, 3) := by decide +kernel
theorem dX4_init_157 : decode cX4_init 157 = .ok (.aload_n 0, 1) := by decide +kernel
theorem dX4_init_158 : decode cX4_init 158 = .ok (.new 49, 3) := by decide +kernel
theorem dX4_init_161 : decode cX4_init 161 = .ok (.dup, 1) := by decide +kernel
theorem dX4_init_162 : decode cX4_init 162 = .ok (.invokespecial 51, 3) := by decide +kernel
theorem dX4_init_165 : decode cX4_init 165 = .ok (.putfield 52, 3) := by decide +kernel
theorem dX4_init_168 : decode cX4_init 168 = .ok (.return_, 1) := by decide +kernel
theorem dX4_click_0 : decode cX4_click 0 = .ok (.iload_n 2, 1) := by decide +kernel
theorem dX4_click_1 : decode cX4_click 1 = .ok (.invokestatic 56, 3) := by decide +kernel
theorem dX4_click_4 : decode cX4_click 4 = .ok (.ifCond .ne 7, 3) := by decide +kernel
theorem dX4_click_7 : decode cX4_click 7 = .ok (.sipush (-1001), 3) := by decide +kernel
theorem dX4_click_10 : decode cX4_click 10 = .ok (.ireturn, 1) := by decide +kernel
theorem dX4_click_11 : decode cX4_click 11 = .ok (.iload_n 1, 1) := by decide +kernel
theorem dX4_click_12 : decode cX4_click 12 = .ok (.ifCond .lt 16, 3) := by decide +kernel
theorem dX4_click_15 : decode cX4_click 15 = .ok (.iload_n 1, 1) := by decide +kernel
theorem dX4_click_16 : decode cX4_click 16 = .ok (.ldc 60, 2) := by decide +kernel
theorem dX4_click_18 : decode cX4_click 18 = .ok (.if_icmp .gt 10, 3) := by decide +kernel
theorem dX4_click_21 : decode cX4_click 21 = .ok (.iload_n 3, 1) := by decide +kernel
theorem dX4_click_22 : decode cX4_click 22 = .ok (.invokestatic 61, 3) := by decide +kernel
theorem dX4_click_25 : decode cX4_click 25 = .ok (.ifCond .ne 7, 3) := by decide +kernel
theorem dX4_click_28 : decode cX4_click 28 = .ok (.sipush (-1002), 3) := by decide +kernel
theorem dX4_click_31 : decode cX4_click 31 = .ok (.ireturn, 1) := by decide +kernel
theorem dX4_click_32 : decode cX4_click 32 = .ok (.aload_n 0, 1) := by decide +kernel
theorem dX4_click_33 : decode cX4_click 33 = .ok (.getfield 10, 3) := by decide +kernel
theorem dX4_click_36 : decode cX4_click 36 = .ok (.iload_n 1, 1) := by decide +kernel
theorem dX4_click_37 : decode cX4_click 37 = .ok (.iload_n 2, 1) := by decide +kernel
theorem dX4_click_38 : decode cX4_click 38 = .ok (.iload_n 3, 1) := by decide +kernel
theorem dX4_click_39 : decode cX4_click 39 = .ok (.invokevirtual 64, 3) := by decide +kernel
theorem dX4_click_42 : decode cX4_click 42 = .ok (.istore 4, 2) := by decide +kernel
theorem dX4_click_44 : decode cX4_click 44 = .ok (.iload 4, 2) := by decide +kernel
theorem dX4_click_46 : decode cX4_click 46 = .ok (.sipush (-1004), 3) := by decide +kernel
theorem dX4_click_49 : decode cX4_click 49 = .ok (.if_icmp .eq 7, 3) := by decide +kernel
theorem dX4_click_52 : decode cX4_click 52 = .ok (.aload_n 0, 1) := by decide +kernel
theorem dX4_click_53 : decode cX4_click 53 = .ok (.invokevirtual 68, 3) := by decide +kernel
theorem dX4_click_56 : decode cX4_click 56 = .ok (.iload 4, 2) := by decide +kernel
theorem dX4_click_58 : decode cX4_click 58 = .ok (.ireturn, 1) := by decide +kernel
theorem dX4_strike_0 : decode cX4_strike 0 = .ok (.aload_n 0, 1) := by decide +kernel
theorem dX4_strike_1 : decode cX4_strike 1 = .ok (.getfield 10, 3) := by decide +kernel
theorem dX4_strike_4 : decode cX4_strike 4 = .ok (.iload_n 1, 1) := by decide +kernel
theorem dX4_strike_5 : decode cX4_strike 5 = .ok (.invokevirtual 71, 3) := by decide +kernel
theorem dX4_strike_8 : decode cX4_strike 8 = .ok (.ifCond .ne 7, 3) := by decide +kernel
theorem dX4_strike_11 : decode cX4_strike 11 = .ok (.sipush (-1001), 3) := by decide +kernel
theorem dX4_strike_14 : decode cX4_strike 14 = .ok (.ireturn, 1) := by decide +kernel
theorem dX4_strike_15 : decode cX4_strike 15 = .ok (.aload_n 0, 1) := by decide +kernel
theorem dX4_strike_16 : decode cX4_strike 16 = .ok (.getfield 10, 3) := by decide +kernel
theorem dX4_strike_19 : decode cX4_strike 19 = .ok (.getfield 74, 3) := by decide +kernel
theorem dX4_strike_22 : decode cX4_strike 22 = .ok (.iload_n 1, 1) := by decide +kernel
theorem dX4_strike_23 : decode cX4_strike 23 = .ok (.baload, 1) := by decide +kernel
theorem dX4_strike_24 : decode cX4_strike 24 = .ok (.invokestatic 78, 3) := by decide +kernel
theorem dX4_strike_27 : decode cX4_strike 27 = .ok (.istore_n 3, 1) := by decide +kernel
theorem dX4_strike_28 : decode cX4_strike 28 = .ok (.aload_n 0, 1) := by decide +kernel
theorem dX4_strike_29 : decode cX4_strike 29 = .ok (.getfield 10, 3) := by decide +kernel
theorem dX4_strike_32 : decode cX4_strike 32 = .ok (.getfield 74, 3) := by decide +kernel
theorem dX4_strike_35 : decode cX4_strike 35 = .ok (.iload_n 1, 1) := by decide +kernel
theorem dX4_strike_36 : decode cX4_strike 36 = .ok (.iload_n 2, 1) := by decide +kernel
theorem dX4_strike_37 : decode cX4_strike 37 = .ok (.bastore, 1) := by decide +kernel
theorem dX4_strike_38 : decode cX4_strike 38 = .ok (.aload_n 0, 1) := by decide +kernel
theorem dX4_strike_39 : decode cX4_strike 39 = .ok (.invokevirtual 68, 3) := by decide +kernel
theorem dX4_strike_42 : decode cX4_strike 42 = .ok (.iload_n 3, 1) := by decide +kernel
theorem dX4_strike_43 : decode cX4_strike 43 = .ok (.ireturn, 1) := by decide +kernel
theorem dX4_join_0 : decode cX4_join 0 = .ok (.iload_n 1, 1) := by decide +kernel
theorem dX4_join_1 : decode cX4_join 1 = .ok (.invokestatic 56, 3) := by decide +kernel
theorem dX4_join_4 : decode cX4_join 4 = .ok (.ifCond .eq 17, 3) := by decide +kernel
theorem dX4_join_7 : decode cX4_join 7 = .ok (.iload_n 1, 1) := by decide +kernel
theorem dX4_join_8 : decode cX4_join 8 = .ok (.invokestatic 82, 3) := by decide +kernel
theorem dX4_join_11 : decode cX4_join 11 = .ok (.ifCond .ne 10, 3) := by decide +kernel
theorem dX4_join_14 : decode cX4_join 14 = .ok (.iload_n 2, 1) := by decide +kernel
theorem dX4_join_15 : decode cX4_join 15 = .ok (.invokestatic 82, 3) := by decide +kernel
theorem dX4_join_18 : decode cX4_join 18 = .ok (.ifCond .ne 7, 3) := by decide +kernel
theorem dX4_join_21 : decode cX4_join 21 = .ok (.sipush (-1001), 3) := by decide +kernel
theorem dX4_join_24 : decode cX4_join 24 = .ok (.ireturn, 1) := by decide +kernel
theorem dX4_join_25 : decode cX4_join 25 = .ok (.aload_n 0, 1) := by decide +kernel
theorem dX4_join_26 : decode cX4_join 26 = .ok (.iload_n 1, 1) := by decide +kernel
theorem dX4_join_27 : decode cX4_join 27 = .ok (.invokevirtual 85, 3) := by decide +kernel
theorem dX4_join_30 : decode cX4_join 30 = .ok (.ifCond .eq 7, 3) := by decide +kernel
theorem dX4_join_33 : decode cX4_join 33 = .ok (.sipush (-1003), 3) := by decide +kernel
theorem dX4_join_36 : decode cX4_join 36 = .ok (.ireturn, 1) := by decide +kernel
theorem dX4_join_37 : decode cX4_join 37 = .ok (.aload_n 0, 1) := by decide +kernel
theorem dX4_join_38 : decode cX4_join 38 = .ok (.getfield 22, 3) := by decide +kernel
theorem dX4_join_41 : decode cX4_join 41 = .ok (.iload_n 1, 1) := by decide +kernel
theorem dX4_join_42 : decode cX4_join 42 = .ok (.aaload, 1) := by decide +kernel
theorem dX4_join_43 : decode cX4_join 43 = .ok (.getfield 88, 3) := by decide +kernel
theorem dX4_join_46 : decode cX4_join 46 = .ok (.istore_n 3, 1) := by decide +kernel
theorem dX4_join_47 : decode cX4_join 47 = .ok (.aload_n 0, 1) := by decide +kernel
theorem dX4_join_48 : decode cX4_join 48 = .ok (.getfield 16, 3) := by decide +kernel
theorem dX4_join_51 : decode cX4_join 51 = .ok (.iload_n 1, 1) := by decide +kernel
theorem dX4_join_52 : decode cX4_join 52 = .ok (.iload_n 2, 1) := by decide +kernel
theorem dX4_join_53 : decode cX4_join 53 = .ok (.iastore, 1) := by decide +kernel
theorem dX4_join_54 : decode cX4_join 54 = .ok (.aload_n 0, 1) := by decide +kernel
theorem dX4_join_55 : decode cX4_join 55 = .ok (.invokevirtual 68, 3) := by decide +kernel
theorem dX4_join_58 : decode cX4_join 58 = .ok (.iload_n 3, 1) := by decide +kernel
theorem dX4_join_59 : decode cX4_join 59 = .ok (.ireturn, 1) := by decide +kernel
theorem dX4_rule_0 : decode cX4_rule 0 = .ok (.iload_n 1, 1) := by decide +kernel
theorem dX4_rule_1 : decode cX4_rule 1 = .ok (.ifCond .lt 27, 3) := by decide +kernel
theorem dX4_rule_4 : decode cX4_rule 4 = .ok (.iload_n 1, 1) := by decide +kernel
theorem dX4_rule_5 : decode cX4_rule 5 = .ok (.bipush 6, 2) := by decide +kernel
theorem dX4_rule_7 : decode cX4_rule 7 = .ok (.if_icmp .ge 21, 3) := by decide +kernel
theorem dX4_rule_10 : decode cX4_rule 10 = .ok (.iload_n 2, 1) := by decide +kernel
theorem dX4_rule_11 : decode cX4_rule 11 = .ok (.getstatic 91, 3) := by decide +kernel
theorem dX4_rule_14 : decode cX4_rule 14 = .ok (.iload_n 1, 1) := by decide +kernel
theorem dX4_rule_15 : decode cX4_rule 15 = .ok (.iaload, 1) := by decide +kernel
theorem dX4_rule_16 : decode cX4_rule 16 = .ok (.if_icmp .lt 12, 3) := by decide +kernel
theorem dX4_rule_19 : decode cX4_rule 19 = .ok (.iload_n 2, 1) := by decide +kernel
theorem dX4_rule_20 : decode cX4_rule 20 = .ok (.getstatic 94, 3) := by decide +kernel
theorem dX4_rule_23 : decode cX4_rule 23 = .ok (.iload_n 1, 1) := by decide +kernel
theorem dX4_rule_24 : decode cX4_rule 24 = .ok (.iaload, 1) := by decide +kernel
theorem dX4_rule_25 : decode cX4_rule 25 = .ok (.if_icmp .le 7, 3) := by decide +kernel
theorem dX4_rule_28 : decode cX4_rule 28 = .ok (.sipush (-1002), 3) := by decide +kernel
theorem dX4_rule_31 : decode cX4_rule 31 = .ok (.ireturn, 1) := by decide +kernel
theorem dX4_rule_32 : decode cX4_rule 32 = .ok (.aload_n 0, 1) := by decide +kernel
theorem dX4_rule_33 : decode cX4_rule 33 = .ok (.getfield 29, 3) := by decide +kernel
theorem dX4_rule_36 : decode cX4_rule 36 = .ok (.iload_n 1, 1) := by decide +kernel
theorem dX4_rule_37 : decode cX4_rule 37 = .ok (.iaload, 1) := by decide +kernel
theorem dX4_rule_38 : decode cX4_rule 38 = .ok (.istore_n 3, 1) := by decide +kernel
theorem dX4_rule_39 : decode cX4_rule 39 = .ok (.aload_n 0, 1) := by decide +kernel
theorem dX4_rule_40 : decode cX4_rule 40 = .ok (.getfield 29, 3) := by decide +kernel
theorem dX4_rule_43 : decode cX4_rule 43 = .ok (.iload_n 1, 1) := by decide +kernel
theorem dX4_rule_44 : decode cX4_rule 44 = .ok (.iload_n 2, 1) := by decide +kernel
theorem dX4_rule_45 : decode cX4_rule 45 = .ok (.iastore, 1) := by decide +kernel
theorem dX4_rule_46 : decode cX4_rule 46 = .ok (.aload_n 0, 1) := by decide +kernel
theorem dX4_rule_47 : decode cX4_rule 47 = .ok (.invokevirtual 68, 3) := by decide +kernel
theorem dX4_rule_50 : decode cX4_rule 50 = .ok (.iload_n 3, 1) := by decide +kernel
theorem dX4_rule_51 : decode cX4_rule 51 = .ok (.ireturn, 1) := by decide +kernel
theorem dX4_told_0 : decode cX4_told 0 = .ok (.aload_n 0, 1) := by decide +kernel
theorem dX4_told_1 : decode cX4_told 1 = .ok (.getfield 10, 3) := by decide +kernel
theorem dX4_told_4 : decode cX4_told 4 = .ok (.iload_n 1, 1) := by decide +kernel
theorem dX4_told_5 : decode cX4_told 5 = .ok (.invokevirtual 71, 3) := by decide +kernel
theorem dX4_told_8 : decode cX4_told 8 = .ok (.ifCond .ne 7, 3) := by decide +kernel
theorem dX4_told_11 : decode cX4_told 11 = .ok (.sipush (-1001), 3) := by decide +kernel
theorem dX4_told_14 : decode cX4_told 14 = .ok (.ireturn, 1) := by decide +kernel
theorem dX4_told_15 : decode cX4_told 15 = .ok (.iload_n 2, 1) := by decide +kernel
theorem dX4_told_16 : decode cX4_told 16 = .ok (.tableswitch 122 0 6 #[44, 54, 64, 74, 89, 108, 115], 44) := by decide +kernel
theorem dX4_told_60 : decode cX4_told 60 = .ok (.aload_n 0, 1) := by decide +kernel
theorem dX4_told_61 : decode cX4_told 61 = .ok (.getfield 10, 3) := by decide +kernel
theorem dX4_told_64 : decode cX4_told 64 = .ok (.getfield 97, 3) := by decide +kernel
theorem dX4_told_67 : decode cX4_told 67 = .ok (.iload_n 1, 1) := by decide +kernel
theorem dX4_told_68 : decode cX4_told 68 = .ok (.iaload, 1) := by decide +kernel
theorem dX4_told_69 : decode cX4_told 69 = .ok (.ireturn, 1) := by decide +kernel
theorem dX4_told_70 : decode cX4_told 70 = .ok (.aload_n 0, 1) := by decide +kernel
theorem dX4_told_71 : decode cX4_told 71 = .ok (.getfield 10, 3) := by decide +kernel
theorem dX4_told_74 : decode cX4_told 74 = .ok (.getfield 100, 3) := by decide +kernel
theorem dX4_told_77 : decode cX4_told 77 = .ok (.iload_n 1, 1) := by decide +kernel
theorem dX4_told_78 : decode cX4_told 78 = .ok (.iaload, 1) := by decide +kernel
theorem dX4_told_79 : decode cX4_told 79 = .ok (.ireturn, 1) := by decide +kernel
theorem dX4_told_80 : decode cX4_told 80 = .ok (.aload_n 0, 1) := by decide +kernel
theorem dX4_told_81 : decode cX4_told 81 = .ok (.getfield 10, 3) := by decide +kernel
theorem dX4_told_84 : decode cX4_told 84 = .ok (.getfield 103, 3) := by decide +kernel
theorem dX4_told_87 : decode cX4_told 87 = .ok (.iload_n 1, 1) := by decide +kernel
theorem dX4_told_88 : decode cX4_told 88 = .ok (.iaload, 1) := by decide +kernel
theorem dX4_told_89 : decode cX4_told 89 = .ok (.ireturn, 1) := by decide +kernel
theorem dX4_told_90 : decode cX4_told 90 = .ok (.aload_n 0, 1) := by decide +kernel
theorem dX4_told_91 : decode cX4_told 91 = .ok (.getfield 16, 3) := by decide +kernel
theorem dX4_told_94 : decode cX4_told 94 = .ok (.aload_n 0, 1) := by decide +kernel
theorem dX4_told_95 : decode cX4_told 95 = .ok (.getfield 10, 3) := by decide +kernel
theorem dX4_told_98 : decode cX4_told 98 = .ok (.getfield 100, 3) := by decide +kernel
theorem dX4_told_101 : decode cX4_told 101 = .ok (.iload_n 1, 1) := by decide +kernel
theorem dX4_told_102 : decode cX4_told 102 = .ok (.iaload, 1) := by decide +kernel
theorem dX4_told_103 : decode cX4_told 103 = .ok (.iaload, 1) := by decide +kernel
theorem dX4_told_104 : decode cX4_told 104 = .ok (.ireturn, 1) := by decide +kernel
theorem dX4_told_105 : decode cX4_told 105 = .ok (.aload_n 0, 1) := by decide +kernel
theorem dX4_told_106 : decode cX4_told 106 = .ok (.getfield 32, 3) := by decide +kernel
theorem dX4_told_109 : decode cX4_told 109 = .ok (.iload_n 1, 1) := by decide +kernel
theorem dX4_told_110 : decode cX4_told 110 = .ok (.iaload, 1) := by decide +kernel
theorem dX4_told_111 : decode cX4_told 111 = .ok (.iconst (-1), 1) := by decide +kernel
theorem dX4_told_112 : decode cX4_told 112 = .ok (.if_icmp .eq 7, 3) := by decide +kernel
theorem dX4_told_115 : decode cX4_told 115 = .ok (.iconst 1, 1) := by decide +kernel
theorem dX4_told_116 : decode cX4_told 116 = .ok (.goto 4, 3) := by decide +kernel
theorem dX4_told_119 : decode cX4_told 119 = .ok (.iconst 0, 1) := by decide +kernel
theorem dX4_told_120 : decode cX4_told 120 = .ok (.invokestatic 78, 3) := by decide +kernel
theorem dX4_told_123 : decode cX4_told 123 = .ok (.ireturn, 1) := by decide +kernel
theorem dX4_told_124 : decode cX4_told 124 = .ok (.aload_n 0, 1) := by decide +kernel
theorem dX4_told_125 : decode cX4_told 125 = .ok (.getfield 35, 3) := by decide +kernel
theorem dX4_told_128 : decode cX4_told 128 = .ok (.iload_n 1, 1) := by decide +kernel
theorem dX4_told_129 : decode cX4_told 129 = .ok (.iaload, 1) := by decide +kernel
theorem dX4_told_130 : decode cX4_told 130 = .ok (.ireturn, 1) := by decide +kernel
theorem dX4_told_131 : decode cX4_told 131 = .ok (.aload_n 0, 1) := by decide +kernel
theorem dX4_told_132 : decode cX4_told 132 = .ok (.getfield 32, 3) := by decide +kernel
theorem dX4_told_135 : decode cX4_told 135 = .ok (.iload_n 1, 1) := by decide +kernel
theorem dX4_told_136 : decode cX4_told 136 = .ok (.iaload, 1) := by decide +kernel
theorem dX4_told_137 : decode cX4_told 137 = .ok (.ireturn, 1) := by decide +kernel
theorem dX4_told_138 : decode cX4_told 138 = .ok (.sipush (-1002), 3) := by decide +kernel
theorem dX4_told_141 : decode cX4_told 141 = .ok (.ireturn, 1) := by decide +kernel
theorem dX4_person_0 : decode cX4_person 0 = .ok (.iload_n 1, 1) := by decide +kernel
theorem dX4_person_1 : decode cX4_person 1 = .ok (.invokestatic 56, 3) := by decide +kernel
theorem dX4_person_4 : decode cX4_person 4 = .ok (.ifCond .ne 7, 3) := by decide +kernel
theorem dX4_person_7 : decode cX4_person 7 = .ok (.sipush (-1001), 3) := by decide +kernel
theorem dX4_person_10 : decode cX4_person 10 = .ok (.ireturn, 1) := by decide +kernel
theorem dX4_person_11 : decode cX4_person 11 = .ok (.aload_n 0, 1) := by decide +kernel
theorem dX4_person_12 : decode cX4_person 12 = .ok (.getfield 22, 3) := by decide +kernel
theorem dX4_person_15 : decode cX4_person 15 = .ok (.aload_n 0, 1) := by decide +kernel
theorem dX4_person_16 : decode cX4_person 16 = .ok (.getfield 16, 3) := by decide +kernel
theorem dX4_person_19 : decode cX4_person 19 = .ok (.iload_n 1, 1) := by decide +kernel
theorem dX4_person_20 : decode cX4_person 20 = .ok (.iaload, 1) := by decide +kernel
theorem dX4_person_21 : decode cX4_person 21 = .ok (.aaload, 1) := by decide +kernel
theorem dX4_person_22 : decode cX4_person 22 = .ok (.astore_n 3, 1) := by decide +kernel
theorem dX4_person_23 : decode cX4_person 23 = .ok (.iload_n 2, 1) := by decide +kernel
theorem dX4_person_24 : decode cX4_person 24 = .ok (.tableswitch 81 0 5 #[40, 47, 52, 57, 65, 70], 40) := by decide +kernel
theorem dX4_person_64 : decode cX4_person 64 = .ok (.aload_n 0, 1) := by decide +kernel
theorem dX4_person_65 : decode cX4_person 65 = .ok (.getfield 16, 3) := by decide +kernel
theorem dX4_person_68 : decode cX4_person 68 = .ok (.iload_n 1, 1) := by decide +kernel
theorem dX4_person_69 : decode cX4_person 69 = .ok (.iaload, 1) := by decide +kernel
theorem dX4_person_70 : decode cX4_person 70 = .ok (.ireturn, 1) := by decide +kernel
theorem dX4_person_71 : decode cX4_person 71 = .ok (.aload_n 3, 1) := by decide +kernel
theorem dX4_person_72 : decode cX4_person 72 = .ok (.getfield 88, 3) := by decide +kernel
theorem dX4_person_75 : decode cX4_person 75 = .ok (.ireturn, 1) := by decide +kernel
theorem dX4_person_76 : decode cX4_person 76 = .ok (.aload_n 3, 1) := by decide +kernel
theorem dX4_person_77 : decode cX4_person 77 = .ok (.getfield 106, 3) := by decide +kernel
theorem dX4_person_80 : decode cX4_person 80 = .ok (.ireturn, 1) := by decide +kernel
theorem dX4_person_81 : decode cX4_person 81 = .ok (.aload_n 3, 1) := by decide +kernel
theorem dX4_person_82 : decode cX4_person 82 = .ok (.getfield 109, 3) := by decide +kernel
theorem dX4_person_85 : decode cX4_person 85 = .ok (.invokestatic 78, 3) := by decide +kernel
theorem dX4_person_88 : decode cX4_person 88 = .ok (.ireturn, 1) := by decide +kernel
theorem dX4_person_89 : decode cX4_person 89 = .ok (.aload_n 3, 1) := by decide +kernel
theorem dX4_person_90 : decode cX4_person 90 = .ok (.getfield 113, 3) := by decide +kernel
theorem dX4_person_93 : decode cX4_person 93 = .ok (.ireturn, 1) := by decide +kernel
theorem dX4_person_94 : decode cX4_person 94 = .ok (.aload_n 3, 1) := by decide +kernel
theorem dX4_person_95 : decode cX4_person 95 = .ok (.aload_n 0, 1) := by decide +kernel
theorem dX4_person_96 : decode cX4_person 96 = .ok (.getfield 29, 3) := by decide +kernel
theorem dX4_person_99 : decode cX4_person 99 = .ok (.iconst 5, 1) := by decide +kernel
theorem dX4_person_100 : decode cX4_person 100 = .ok (.iaload, 1) := by decide +kernel
theorem dX4_person_101 : decode cX4_person 101 = .ok (.invokevirtual 116, 3) := by decide +kernel
theorem dX4_person_104 : decode cX4_person 104 = .ok (.ireturn, 1) := by decide +kernel
theorem dX4_person_105 : decode cX4_person 105 = .ok (.sipush (-1002), 3) := by decide +kernel
theorem dX4_person_108 : decode cX4_person 108 = .ok (.ireturn, 1) := by decide +kernel
theorem dX4_row_0 : decode cX4_row 0 = .ok (.iload_n 1, 1) := by decide +kernel
theorem dX4_row_1 : decode cX4_row 1 = .ok (.invokestatic 56, 3) := by decide +kernel
theorem dX4_row_4 : decode cX4_row 4 = .ok (.ifCond .ne 7, 3) := by decide +kernel
theorem dX4_row_7 : decode cX4_row 7 = .ok (.sipush (-1001), 3) := by decide +kernel
theorem dX4_row_10 : decode cX4_row 10 = .ok (.ireturn, 1) := by decide +kernel
theorem dX4_row_11 : decode cX4_row 11 = .ok (.aload_n 0, 1) := by decide +kernel
theorem dX4_row_12 : decode cX4_row 12 = .ok (.getfield 22, 3) := by decide +kernel
theorem dX4_row_15 : decode cX4_row 15 = .ok (.aload_n 0, 1) := by decide +kernel
theorem dX4_row_16 : decode cX4_row 16 = .ok (.getfield 16, 3) := by decide +kernel
theorem dX4_row_19 : decode cX4_row 19 = .ok (.iload_n 1, 1) := by decide +kernel
theorem dX4_row_20 : decode cX4_row 20 = .ok (.iaload, 1) := by decide +kernel
theorem dX4_row_21 : decode cX4_row 21 = .ok (.aaload, 1) := by decide +kernel
theorem dX4_row_22 : decode cX4_row 22 = .ok (.astore_n 3, 1) := by decide +kernel
theorem dX4_row_23 : decode cX4_row 23 = .ok (.aload_n 3, 1) := by decide +kernel
theorem dX4_row_24 : decode cX4_row 24 = .ok (.iload_n 2, 1) := by decide +kernel
theorem dX4_row_25 : decode cX4_row 25 = .ok (.invokevirtual 120, 3) := by decide +kernel
theorem dX4_row_28 : decode cX4_row 28 = .ok (.ifCond .eq 12, 3) := by decide +kernel
theorem dX4_row_31 : decode cX4_row 31 = .ok (.aload_n 3, 1) := by decide +kernel
theorem dX4_row_32 : decode cX4_row 32 = .ok (.getfield 121, 3) := by decide +kernel
theorem dX4_row_35 : decode cX4_row 35 = .ok (.iload_n 2, 1) := by decide +kernel
theorem dX4_row_36 : decode cX4_row 36 = .ok (.iaload, 1) := by decide +kernel
theorem dX4_row_37 : decode cX4_row 37 = .ok (.goto 4, 3) := by decide +kernel
theorem dX4_row_40 : decode cX4_row 40 = .ok (.iconst (-1), 1) := by decide +kernel
theorem dX4_row_41 : decode cX4_row 41 = .ok (.ireturn, 1) := by decide +kernel
theorem dX4_sitting_0 : decode cX4_sitting 0 = .ok (.iload_n 1, 1) := by decide +kernel
theorem dX4_sitting_1 : decode cX4_sitting 1 = .ok (.invokestatic 56, 3) := by decide +kernel
theorem dX4_sitting_4 : decode cX4_sitting 4 = .ok (.ifCond .ne 7, 3) := by decide +kernel
theorem dX4_sitting_7 : decode cX4_sitting 7 = .ok (.sipush (-1001), 3) := by decide +kernel
theorem dX4_sitting_10 : decode cX4_sitting 10 = .ok (.ireturn, 1) := by decide +kernel
theorem dX4_sitting_11 : decode cX4_sitting 11 = .ok (.aload_n 0, 1) := by decide +kernel
theorem dX4_sitting_12 : decode cX4_sitting 12 = .ok (.getfield 22, 3) := by decide +kernel
theorem dX4_sitting_15 : decode cX4_sitting 15 = .ok (.aload_n 0, 1) := by decide +kernel
theorem dX4_sitting_16 : decode cX4_sitting 16 = .ok (.getfield 16, 3) := by decide +kernel
theorem dX4_sitting_19 : decode cX4_sitting 19 = .ok (.iload_n 1, 1) := by decide +kernel
theorem dX4_sitting_20 : decode cX4_sitting 20 = .ok (.iaload, 1) := by decide +kernel
theorem dX4_sitting_21 : decode cX4_sitting 21 = .ok (.aaload, 1) := by decide +kernel
theorem dX4_sitting_22 : decode cX4_sitting 22 = .ok (.astore 4, 2) := by decide +kernel
theorem dX4_sitting_24 : decode cX4_sitting 24 = .ok (.iconst (-1), 1) := by decide +kernel
theorem dX4_sitting_25 : decode cX4_sitting 25 = .ok (.istore 5, 2) := by decide +kernel
theorem dX4_sitting_27 : decode cX4_sitting 27 = .ok (.iconst (-1), 1) := by decide +kernel
theorem dX4_sitting_28 : decode cX4_sitting 28 = .ok (.istore 6, 2) := by decide +kernel
theorem dX4_sitting_30 : decode cX4_sitting 30 = .ok (.iconst 0, 1) := by decide +kernel
theorem dX4_sitting_31 : decode cX4_sitting 31 = .ok (.istore 7, 2) := by decide +kernel
theorem dX4_sitting_33 : decode cX4_sitting 33 = .ok (.iconst 0, 1) := by decide +kernel
theorem dX4_sitting_34 : decode cX4_sitting 34 = .ok (.istore 8, 2) := by decide +kernel
theorem dX4_sitting_36 : decode cX4_sitting 36 = .ok (.iload 8, 2) := by decide +kernel
theorem dX4_sitting_38 : decode cX4_sitting 38 = .ok (.aload 4, 2) := by decide +kernel
theorem dX4_sitting_40 : decode cX4_sitting 40 = .ok (.getfield 106, 3) := by decide +kernel
theorem dX4_sitting_43 : decode cX4_sitting 43 = .ok (.if_icmp .ge 51, 3) := by decide +kernel
theorem dX4_sitting_46 : decode cX4_sitting 46 = .ok (.aload 4, 2) := by decide +kernel
theorem dX4_sitting_48 : decode cX4_sitting 48 = .ok (.getfield 121, 3) := by decide +kernel
theorem dX4_sitting_51 : decode cX4_sitting 51 = .ok (.iload 8, 2) := by decide +kernel
theorem dX4_sitting_53 : decode cX4_sitting 53 = .ok (.iaload, 1) := by decide +kernel
theorem dX4_sitting_54 : decode cX4_sitting 54 = .ok (.istore 9, 2) := by decide +kernel
theorem dX4_sitting_56 : decode cX4_sitting 56 = .ok (.aload_n 0, 1) := by decide +kernel
theorem dX4_sitting_57 : decode cX4_sitting 57 = .ok (.getfield 35, 3) := by decide +kernel
theorem dX4_sitting_60 : decode cX4_sitting 60 = .ok (.iload 9, 2) := by decide +kernel
theorem dX4_sitting_62 : decode cX4_sitting 62 = .ok (.iaload, 1) := by decide +kernel
theorem dX4_sitting_63 : decode cX4_sitting 63 = .ok (.iload_n 2, 1) := by decide +kernel
theorem dX4_sitting_64 : decode cX4_sitting 64 = .ok (.if_icmp .ne 24, 3) := by decide +kernel
theorem dX4_sitting_67 : decode cX4_sitting 67 = .ok (.iload 7, 2) := by decide +kernel
theorem dX4_sitting_69 : decode cX4_sitting 69 = .ok (.ifCond .ne 8, 3) := by decide +kernel
theorem dX4_sitting_72 : decode cX4_sitting 72 = .ok (.iload 9, 2) := by decide +kernel
theorem dX4_sitting_74 : decode cX4_sitting 74 = .ok (.goto 5, 3) := by decide +kernel
theorem dX4_sitting_77 : decode cX4_sitting 77 = .ok (.iload 5, 2) := by decide +kernel
theorem dX4_sitting_79 : decode cX4_sitting 79 = .ok (.istore 5, 2) := by decide +kernel
theorem dX4_sitting_81 : decode cX4_sitting 81 = .ok (.iload 9, 2) := by decide +kernel
theorem dX4_sitting_83 : decode cX4_sitting 83 = .ok (.istore 6, 2) := by decide +kernel
theorem dX4_sitting_85 : decode cX4_sitting 85 = .ok (.iinc 7 1, 3) := by decide +kernel
theorem dX4_sitting_88 : decode cX4_sitting 88 = .ok (.iinc 8 1, 3) := by decide +kernel
theorem dX4_sitting_91 : decode cX4_sitting 91 = .ok (.goto (-55), 3) := by decide +kernel
theorem dX4_sitting_94 : decode cX4_sitting 94 = .ok (.iload 7, 2) := by decide +kernel
theorem dX4_sitting_96 : decode cX4_sitting 96 = .ok (.ifCond .ne 7, 3) := by decide +kernel
theorem dX4_sitting_99 : decode cX4_sitting 99 = .ok (.sipush (-1001), 3) := by decide +kernel
theorem dX4_sitting_102 : decode cX4_sitting 102 = .ok (.ireturn, 1) := by decide +kernel
theorem dX4_sitting_103 : decode cX4_sitting 103 = .ok (.iload_n 3, 1) := by decide +kernel
theorem dX4_sitting_104 : decode cX4_sitting 104 = .ok (.tableswitch 63 0 3 #[32, 35, 38, 41], 32) := by decide +kernel
theorem dX4_sitting_136 : decode cX4_sitting 136 = .ok (.iload 5, 2) := by decide +kernel
theorem dX4_sitting_138 : decode cX4_sitting 138 = .ok (.ireturn, 1) := by decide +kernel
theorem dX4_sitting_139 : decode cX4_sitting 139 = .ok (.iload 6, 2) := by decide +kernel
theorem dX4_sitting_141 : decode cX4_sitting 141 = .ok (.ireturn, 1) := by decide +kernel
theorem dX4_sitting_142 : decode cX4_sitting 142 = .ok (.iload 7, 2) := by decide +kernel
theorem dX4_sitting_144 : decode cX4_sitting 144 = .ok (.ireturn, 1) := by decide +kernel
theorem dX4_sitting_145 : decode cX4_sitting 145 = .ok (.aload_n 0, 1) := by decide +kernel
theorem dX4_sitting_146 : decode cX4_sitting 146 = .ok (.getfield 10, 3) := by decide +kernel
theorem dX4_sitting_149 : decode cX4_sitting 149 = .ok (.getfield 97, 3) := by decide +kernel
theorem dX4_sitting_152 : decode cX4_sitting 152 = .ok (.iload 6, 2) := by decide +kernel
theorem dX4_sitting_154 : decode cX4_sitting 154 = .ok (.iaload, 1) := by decide +kernel
theorem dX4_sitting_155 : decode cX4_sitting 155 = .ok (.aload_n 0, 1) := by decide +kernel
theorem dX4_sitting_156 : decode cX4_sitting 156 = .ok (.getfield 10, 3) := by decide +kernel
theorem dX4_sitting_159 : decode cX4_sitting 159 = .ok (.getfield 97, 3) := by decide +kernel
theorem dX4_sitting_162 : decode cX4_sitting 162 = .ok (.iload 5, 2) := by decide +kernel
theorem dX4_sitting_164 : decode cX4_sitting 164 = .ok (.iaload, 1) := by decide +kernel
theorem dX4_sitting_165 : decode cX4_sitting 165 = .ok (.isub, 1) := by decide +kernel
theorem dX4_sitting_166 : decode cX4_sitting 166 = .ok (.ireturn, 1) := by decide +kernel
theorem dX4_sitting_167 : decode cX4_sitting 167 = .ok (.sipush (-1002), 3) := by decide +kernel
theorem dX4_sitting_170 : decode cX4_sitting 170 = .ok (.ireturn, 1) := by decide +kernel
theorem dX4_count_0 : decode cX4_count 0 = .ok (.iload_n 1, 1) := by decide +kernel
theorem dX4_count_1 : decode cX4_count 1 = .ok (.tableswitch 81 0 6 #[43, 51, 56, 61, 66, 71, 76], 43) := by decide +kernel
theorem dX4_count_44 : decode cX4_count 44 = .ok (.aload_n 0, 1) := by decide +kernel
theorem dX4_count_45 : decode cX4_count 45 = .ok (.getfield 10, 3) := by decide +kernel
theorem dX4_count_48 : decode cX4_count 48 = .ok (.getfield 123, 3) := by decide +kernel
theorem dX4_count_51 : decode cX4_count 51 = .ok (.ireturn, 1) := by decide +kernel
theorem dX4_count_52 : decode cX4_count 52 = .ok (.aload_n 0, 1) := by decide +kernel
theorem dX4_count_53 : decode cX4_count 53 = .ok (.invokevirtual 124, 3) := by decide +kernel
theorem dX4_count_56 : decode cX4_count 56 = .ok (.ireturn, 1) := by decide +kernel
theorem dX4_count_57 : decode cX4_count 57 = .ok (.aload_n 0, 1) := by decide +kernel
theorem dX4_count_58 : decode cX4_count 58 = .ok (.invokevirtual 128, 3) := by decide +kernel
theorem dX4_count_61 : decode cX4_count 61 = .ok (.ireturn, 1) := by decide +kernel
theorem dX4_count_62 : decode cX4_count 62 = .ok (.aload_n 0, 1) := by decide +kernel
theorem dX4_count_63 : decode cX4_count 63 = .ok (.invokevirtual 131, 3) := by decide +kernel
theorem dX4_count_66 : decode cX4_count 66 = .ok (.ireturn, 1) := by decide +kernel
theorem dX4_count_67 : decode cX4_count 67 = .ok (.aload_n 0, 1) := by decide +kernel
theorem dX4_count_68 : decode cX4_count 68 = .ok (.invokevirtual 134, 3) := by decide +kernel
theorem dX4_count_71 : decode cX4_count 71 = .ok (.ireturn, 1) := by decide +kernel
theorem dX4_count_72 : decode cX4_count 72 = .ok (.aload_n 0, 1) := by decide +kernel
theorem dX4_count_73 : decode cX4_count 73 = .ok (.invokevirtual 137, 3) := by decide +kernel
theorem dX4_count_76 : decode cX4_count 76 = .ok (.ireturn, 1) := by decide +kernel
theorem dX4_count_77 : decode cX4_count 77 = .ok (.aload_n 0, 1) := by decide +kernel
theorem dX4_count_78 : decode cX4_count 78 = .ok (.getfield 45, 3) := by decide +kernel
theorem dX4_count_81 : decode cX4_count 81 = .ok (.ireturn, 1) := by decide +kernel
theorem dX4_count_82 : decode cX4_count 82 = .ok (.sipush (-1002), 3) := by decide +kernel
theorem dX4_count_85 : decode cX4_count 85 = .ok (.ireturn, 1) := by decide +kernel
theorem dX4_funnel_0 : decode cX4_funnel 0 = .ok (.iload_n 2, 1) := by decide +kernel
theorem dX4_funnel_1 : decode cX4_funnel 1 = .ok (.ifCond .lt 21, 3) := by decide +kernel
theorem dX4_funnel_4 : decode cX4_funnel 4 = .ok (.iload_n 2, 1) := by decide +kernel
theorem dX4_funnel_5 : decode cX4_funnel 5 = .ok (.ldc 140, 2) := by decide +kernel
theorem dX4_funnel_7 : decode cX4_funnel 7 = .ok (.if_icmp .gt 15, 3) := by decide +kernel
theorem dX4_funnel_10 : decode cX4_funnel 10 = .ok (.iload_n 3, 1) := by decide +kernel
theorem dX4_funnel_11 : decode cX4_funnel 11 = .ok (.iconst (-1), 1) := by decide +kernel
theorem dX4_funnel_12 : decode cX4_funnel 12 = .ok (.if_icmp .eq 14, 3) := by decide +kernel
theorem dX4_funnel_15 : decode cX4_funnel 15 = .ok (.iload_n 3, 1) := by decide +kernel
theorem dX4_funnel_16 : decode cX4_funnel 16 = .ok (.invokestatic 61, 3) := by decide +kernel
theorem dX4_funnel_19 : decode cX4_funnel 19 = .ok (.ifCond .ne 7, 3) := by decide +kernel
theorem dX4_funnel_22 : decode cX4_funnel 22 = .ok (.sipush (-1002), 3) := by decide +kernel
theorem dX4_funnel_25 : decode cX4_funnel 25 = .ok (.ireturn, 1) := by decide +kernel
theorem dX4_funnel_26 : decode cX4_funnel 26 = .ok (.aload_n 0, 1) := by decide +kernel
theorem dX4_funnel_27 : decode cX4_funnel 27 = .ok (.getfield 45, 3) := by decide +kernel
theorem dX4_funnel_30 : decode cX4_funnel 30 = .ok (.bipush 6, 2) := by decide +kernel
theorem dX4_funnel_32 : decode cX4_funnel 32 = .ok (.if_icmp .lt 7, 3) := by decide +kernel
theorem dX4_funnel_35 : decode cX4_funnel 35 = .ok (.sipush (-1004), 3) := by decide +kernel
theorem dX4_funnel_38 : decode cX4_funnel 38 = .ok (.ireturn, 1) := by decide +kernel
theorem dX4_funnel_39 : decode cX4_funnel 39 = .ok (.aload_n 0, 1) := by decide +kernel
theorem dX4_funnel_40 : decode cX4_funnel 40 = .ok (.getfield 40, 3) := by decide +kernel
theorem dX4_funnel_43 : decode cX4_funnel 43 = .ok (.aload_n 0, 1) := by decide +kernel
theorem dX4_funnel_44 : decode cX4_funnel 44 = .ok (.getfield 45, 3) := by decide +kernel
theorem dX4_funnel_47 : decode cX4_funnel 47 = .ok (.aaload, 1) := by decide +kernel
theorem dX4_funnel_48 : decode cX4_funnel 48 = .ok (.iload_n 1, 1) := by decide +kernel
theorem dX4_funnel_49 : decode cX4_funnel 49 = .ok (.iload_n 2, 1) := by decide +kernel
theorem dX4_funnel_50 : decode cX4_funnel 50 = .ok (.iload_n 3, 1) := by decide +kernel
theorem dX4_funnel_51 : decode cX4_funnel 51 = .ok (.invokevirtual 141, 3) := by decide +kernel
theorem dX4_funnel_54 : decode cX4_funnel 54 = .ok (.aload_n 0, 1) := by decide +kernel
theorem dX4_funnel_55 : decode cX4_funnel 55 = .ok (.dup, 1) := by decide +kernel
theorem dX4_funnel_56 : decode cX4_funnel 56 = .ok (.getfield 45, 3) := by decide +kernel
theorem dX4_funnel_59 : decode cX4_funnel 59 = .ok (.iconst 1, 1) := by decide +kernel
theorem dX4_funnel_60 : decode cX4_funnel 60 = .ok (.iadd, 1) := by decide +kernel
theorem dX4_funnel_61 : decode cX4_funnel 61 = .ok (.putfield 45, 3) := by decide +kernel
theorem dX4_funnel_64 : decode cX4_funnel 64 = .ok (.aload_n 0, 1) := by decide +kernel
theorem dX4_funnel_65 : decode cX4_funnel 65 = .ok (.getfield 45, 3) := by decide +kernel
theorem dX4_funnel_68 : decode cX4_funnel 68 = .ok (.iconst 1, 1) := by decide +kernel
theorem dX4_funnel_69 : decode cX4_funnel 69 = .ok (.isub, 1) := by decide +kernel
theorem dX4_funnel_70 : decode cX4_funnel 70 = .ok (.ireturn, 1) := by decide +kernel
theorem dX4_step_0 : decode cX4_step 0 = .ok (.aload_n 0, 1) := by decide +kernel
theorem dX4_step_1 : decode cX4_step 1 = .ok (.iload_n 1, 1) := by decide +kernel
theorem dX4_step_2 : decode cX4_step 2 = .ok (.invokevirtual 145, 3) := by decide +kernel
theorem dX4_step_5 : decode cX4_step 5 = .ok (.ifCond .ne 7, 3) := by decide +kernel
theorem dX4_step_8 : decode cX4_step 8 = .ok (.sipush (-1001), 3) := by decide +kernel
theorem dX4_step_11 : decode cX4_step 11 = .ok (.ireturn, 1) := by decide +kernel
theorem dX4_step_12 : decode cX4_step 12 = .ok (.iload_n 2, 1) := by decide +kernel
theorem dX4_step_13 : decode cX4_step 13 = .ok (.invokestatic 61, 3) := by decide +kernel
theorem dX4_step_16 : decode cX4_step 16 = .ok (.ifCond .ne 7, 3) := by decide +kernel
theorem dX4_step_19 : decode cX4_step 19 = .ok (.sipush (-1002), 3) := by decide +kernel
theorem dX4_step_22 : decode cX4_step 22 = .ok (.ireturn, 1) := by decide +kernel
theorem dX4_step_23 : decode cX4_step 23 = .ok (.aload_n 0, 1) := by decide +kernel
theorem dX4_step_24 : decode cX4_step 24 = .ok (.getfield 40, 3) := by decide +kernel
theorem dX4_step_27 : decode cX4_step 27 = .ok (.iload_n 1, 1) := by decide +kernel
theorem dX4_step_28 : decode cX4_step 28 = .ok (.aaload, 1) := by decide +kernel
theorem dX4_step_29 : decode cX4_step 29 = .ok (.astore_n 3, 1) := by decide +kernel
theorem dX4_step_30 : decode cX4_step 30 = .ok (.aload_n 3, 1) := by decide +kernel
theorem dX4_step_31 : decode cX4_step 31 = .ok (.getfield 148, 3) := by decide +kernel
theorem dX4_step_34 : decode cX4_step 34 = .ok (.iconst 4, 1) := by decide +kernel
theorem dX4_step_35 : decode cX4_step 35 = .ok (.if_icmp .lt 7, 3) := by decide +kernel
theorem dX4_step_38 : decode cX4_step 38 = .ok (.sipush (-1004), 3) := by decide +kernel
theorem dX4_step_41 : decode cX4_step 41 = .ok (.ireturn, 1) := by decide +kernel
theorem dX4_step_42 : decode cX4_step 42 = .ok (.aload_n 3, 1) := by decide +kernel
theorem dX4_step_43 : decode cX4_step 43 = .ok (.getfield 149, 3) := by decide +kernel
theorem dX4_step_46 : decode cX4_step 46 = .ok (.aload_n 3, 1) := by decide +kernel
theorem dX4_step_47 : decode cX4_step 47 = .ok (.getfield 148, 3) := by decide +kernel
theorem dX4_step_50 : decode cX4_step 50 = .ok (.iload_n 2, 1) := by decide +kernel
theorem dX4_step_51 : decode cX4_step 51 = .ok (.iastore, 1) := by decide +kernel
theorem dX4_step_52 : decode cX4_step 52 = .ok (.aload_n 3, 1) := by decide +kernel
theorem dX4_step_53 : decode cX4_step 53 = .ok (.dup, 1) := by decide +kernel
theorem dX4_step_54 : decode cX4_step 54 = .ok (.getfield 148, 3) := by decide +kernel
theorem dX4_step_57 : decode cX4_step 57 = .ok (.iconst 1, 1) := by decide +kernel
theorem dX4_step_58 : decode cX4_step 58 = .ok (.iadd, 1) := by decide +kernel
theorem dX4_step_59 : decode cX4_step 59 = .ok (.putfield 148, 3) := by decide +kernel
theorem dX4_step_62 : decode cX4_step 62 = .ok (.aload_n 3, 1) := by decide +kernel
theorem dX4_step_63 : decode cX4_step 63 = .ok (.getfield 148, 3) := by decide +kernel
theorem dX4_step_66 : decode cX4_step 66 = .ok (.ireturn, 1) := by decide +kernel
theorem dX4_ways_0 : decode cX4_ways 0 = .ok (.aload_n 0, 1) := by decide +kernel
theorem dX4_ways_1 : decode cX4_ways 1 = .ok (.iload_n 1, 1) := by decide +kernel
theorem dX4_ways_2 : decode cX4_ways 2 = .ok (.invokevirtual 145, 3) := by decide +kernel
theorem dX4_ways_5 : decode cX4_ways 5 = .ok (.ifCond .eq 15, 3) := by decide +kernel
theorem dX4_ways_8 : decode cX4_ways 8 = .ok (.iload_n 2, 1) := by decide +kernel
theorem dX4_ways_9 : decode cX4_ways 9 = .ok (.iconst (-1), 1) := by decide +kernel
theorem dX4_ways_10 : decode cX4_ways 10 = .ok (.if_icmp .eq 14, 3) := by decide +kernel
theorem dX4_ways_13 : decode cX4_ways 13 = .ok (.iload_n 2, 1) := by decide +kernel
theorem dX4_ways_14 : decode cX4_ways 14 = .ok (.invokestatic 56, 3) := by decide +kernel
theorem dX4_ways_17 : decode cX4_ways 17 = .ok (.ifCond .ne 7, 3) := by decide +kernel
theorem dX4_ways_20 : decode cX4_ways 20 = .ok (.sipush (-1001), 3) := by decide +kernel
theorem dX4_ways_23 : decode cX4_ways 23 = .ok (.ireturn, 1) := by decide +kernel
theorem dX4_ways_24 : decode cX4_ways 24 = .ok (.iload_n 2, 1) := by decide +kernel
theorem dX4_ways_25 : decode cX4_ways 25 = .ok (.iconst (-1), 1) := by decide +kernel
theorem dX4_ways_26 : decode cX4_ways 26 = .ok (.if_icmp .eq 28, 3) := by decide +kernel
theorem dX4_ways_29 : decode cX4_ways 29 = .ok (.aload_n 0, 1) := by decide +kernel
theorem dX4_ways_30 : decode cX4_ways 30 = .ok (.getfield 52, 3) := by decide +kernel
theorem dX4_ways_33 : decode cX4_ways 33 = .ok (.aload_n 0, 1) := by decide +kernel
theorem dX4_ways_34 : decode cX4_ways 34 = .ok (.getfield 40, 3) := by decide +kernel
theorem dX4_ways_37 : decode cX4_ways 37 = .ok (.iload_n 1, 1) := by decide +kernel
theorem dX4_ways_38 : decode cX4_ways 38 = .ok (.aaload, 1) := by decide +kernel
theorem dX4_ways_39 : decode cX4_ways 39 = .ok (.aload_n 0, 1) := by decide +kernel
theorem dX4_ways_40 : decode cX4_ways 40 = .ok (.getfield 22, 3) := by decide +kernel
theorem dX4_ways_43 : decode cX4_ways 43 = .ok (.aload_n 0, 1) := by decide +kernel
theorem dX4_ways_44 : decode cX4_ways 44 = .ok (.getfield 16, 3) := by decide +kernel
theorem dX4_ways_47 : decode cX4_ways 47 = .ok (.iload_n 2, 1) := by decide +kernel
theorem dX4_ways_48 : decode cX4_ways 48 = .ok (.iaload, 1) := by decide +kernel
theorem dX4_ways_49 : decode cX4_ways 49 = .ok (.aaload, 1) := by decide +kernel
theorem dX4_ways_50 : decode cX4_ways 50 = .ok (.invokevirtual 152, 3) := by decide +kernel
theorem dX4_ways_53 : decode cX4_ways 53 = .ok (.ireturn, 1) := by decide +kernel
theorem dX4_ways_54 : decode cX4_ways 54 = .ok (.iconst 0, 1) := by decide +kernel
theorem dX4_ways_55 : decode cX4_ways 55 = .ok (.istore_n 3, 1) := by decide +kernel
theorem dX4_ways_56 : decode cX4_ways 56 = .ok (.iconst 0, 1) := by decide +kernel
theorem dX4_ways_57 : decode cX4_ways 57 = .ok (.istore 4, 2) := by decide +kernel
theorem dX4_ways_59 : decode cX4_ways 59 = .ok (.iload 4, 2) := by decide +kernel
theorem dX4_ways_61 : decode cX4_ways 61 = .ok (.bipush 24, 2) := by decide +kernel
theorem dX4_ways_63 : decode cX4_ways 63 = .ok (.if_icmp .ge 32, 3) := by decide +kernel
theorem dX4_ways_66 : decode cX4_ways 66 = .ok (.iload_n 3, 1) := by decide +kernel
theorem dX4_ways_67 : decode cX4_ways 67 = .ok (.aload_n 0, 1) := by decide +kernel
theorem dX4_ways_68 : decode cX4_ways 68 = .ok (.getfield 52, 3) := by decide +kernel
theorem dX4_ways_71 : decode cX4_ways 71 = .ok (.aload_n 0, 1) := by decide +kernel
theorem dX4_ways_72 : decode cX4_ways 72 = .ok (.getfield 40, 3) := by decide +kernel
theorem dX4_ways_75 : decode cX4_ways 75 = .ok (.iload_n 1, 1) := by decide +kernel
theorem dX4_ways_76 : decode cX4_ways 76 = .ok (.aaload, 1) := by decide +kernel
theorem dX4_ways_77 : decode cX4_ways 77 = .ok (.aload_n 0, 1) := by decide +kernel
theorem dX4_ways_78 : decode cX4_ways 78 = .ok (.getfield 22, 3) := by decide +kernel
theorem dX4_ways_81 : decode cX4_ways 81 = .ok (.iload 4, 2) := by decide +kernel
theorem dX4_ways_83 : decode cX4_ways 83 = .ok (.aaload, 1) := by decide +kernel
theorem dX4_ways_84 : decode cX4_ways 84 = .ok (.invokevirtual 152, 3) := by decide +kernel
theorem dX4_ways_87 : decode cX4_ways 87 = .ok (.iadd, 1) := by decide +kernel
theorem dX4_ways_88 : decode cX4_ways 88 = .ok (.istore_n 3, 1) := by decide +kernel
theorem dX4_ways_89 : decode cX4_ways 89 = .ok (.iinc 4 1, 3) := by decide +kernel
theorem dX4_ways_92 : decode cX4_ways 92 = .ok (.goto (-33), 3) := by decide +kernel
theorem dX4_ways_95 : decode cX4_ways 95 = .ok (.iload_n 3, 1) := by decide +kernel
theorem dX4_ways_96 : decode cX4_ways 96 = .ok (.ireturn, 1) := by decide +kernel
theorem dX4_way_0 : decode cX4_way 0 = .ok (.aload_n 0, 1) := by decide +kernel
theorem dX4_way_1 : decode cX4_way 1 = .ok (.iload_n 1, 1) := by decide +kernel
theorem dX4_way_2 : decode cX4_way 2 = .ok (.invokevirtual 145, 3) := by decide +kernel
theorem dX4_way_5 : decode cX4_way 5 = .ok (.ifCond .eq 10, 3) := by decide +kernel
theorem dX4_way_8 : decode cX4_way 8 = .ok (.iload_n 2, 1) := by decide +kernel
theorem dX4_way_9 : decode cX4_way 9 = .ok (.invokestatic 56, 3) := by decide +kernel
theorem dX4_way_12 : decode cX4_way 12 = .ok (.ifCond .ne 7, 3) := by decide +kernel
theorem dX4_way_15 : decode cX4_way 15 = .ok (.sipush (-1001), 3) := by decide +kernel
theorem dX4_way_18 : decode cX4_way 18 = .ok (.ireturn, 1) := by decide +kernel
theorem dX4_way_19 : decode cX4_way 19 = .ok (.aload_n 0, 1) := by decide +kernel
theorem dX4_way_20 : decode cX4_way 20 = .ok (.getfield 22, 3) := by decide +kernel
theorem dX4_way_23 : decode cX4_way 23 = .ok (.aload_n 0, 1) := by decide +kernel
theorem dX4_way_24 : decode cX4_way 24 = .ok (.getfield 16, 3) := by decide +kernel
theorem dX4_way_27 : decode cX4_way 27 = .ok (.iload_n 2, 1) := by decide +kernel
theorem dX4_way_28 : decode cX4_way 28 = .ok (.iaload, 1) := by decide +kernel
theorem dX4_way_29 : decode cX4_way 29 = .ok (.aaload, 1) := by decide +kernel
theorem dX4_way_30 : decode cX4_way 30 = .ok (.astore 5, 2) := by decide +kernel
theorem dX4_way_32 : decode cX4_way 32 = .ok (.aload_n 0, 1) := by decide +kernel
theorem dX4_way_33 : decode cX4_way 33 = .ok (.getfield 52, 3) := by decide +kernel
theorem dX4_way_36 : decode cX4_way 36 = .ok (.aload_n 0, 1) := by decide +kernel
theorem dX4_way_37 : decode cX4_way 37 = .ok (.getfield 40, 3) := by decide +kernel
theorem dX4_way_40 : decode cX4_way 40 = .ok (.iload_n 1, 1) := by decide +kernel
theorem dX4_way_41 : decode cX4_way 41 = .ok (.aaload, 1) := by decide +kernel
theorem dX4_way_42 : decode cX4_way 42 = .ok (.aload 5, 2) := by decide +kernel
theorem dX4_way_44 : decode cX4_way 44 = .ok (.invokevirtual 152, 3) := by decide +kernel
theorem dX4_way_47 : decode cX4_way 47 = .ok (.istore 6, 2) := by decide +kernel
theorem dX4_way_49 : decode cX4_way 49 = .ok (.iload_n 3, 1) := by decide +kernel
theorem dX4_way_50 : decode cX4_way 50 = .ok (.ifCond .lt 9, 3) := by decide +kernel
theorem dX4_way_53 : decode cX4_way 53 = .ok (.iload_n 3, 1) := by decide +kernel
theorem dX4_way_54 : decode cX4_way 54 = .ok (.iload 6, 2) := by decide +kernel
theorem dX4_way_56 : decode cX4_way 56 = .ok (.if_icmp .lt 7, 3) := by decide +kernel
theorem dX4_way_59 : decode cX4_way 59 = .ok (.sipush (-1001), 3) := by decide +kernel
theorem dX4_way_62 : decode cX4_way 62 = .ok (.ireturn, 1) := by decide +kernel
theorem dX4_way_63 : decode cX4_way 63 = .ok (.iload 4, 2) := by decide +kernel
theorem dX4_way_65 : decode cX4_way 65 = .ok (.lookupswitch 59 #[(0, 27), (1, 43)], 27) := by decide +kernel
theorem dX4_way_92 : decode cX4_way 92 = .ok (.aload 5, 2) := by decide +kernel
theorem dX4_way_94 : decode cX4_way 94 = .ok (.getfield 121, 3) := by decide +kernel
theorem dX4_way_97 : decode cX4_way 97 = .ok (.aload_n 0, 1) := by decide +kernel
theorem dX4_way_98 : decode cX4_way 98 = .ok (.getfield 52, 3) := by decide +kernel
theorem dX4_way_101 : decode cX4_way 101 = .ok (.getfield 156, 3) := by decide +kernel
theorem dX4_way_104 : decode cX4_way 104 = .ok (.iload_n 3, 1) := by decide +kernel
theorem dX4_way_105 : decode cX4_way 105 = .ok (.iaload, 1) := by decide +kernel
theorem dX4_way_106 : decode cX4_way 106 = .ok (.iaload, 1) := by decide +kernel
theorem dX4_way_107 : decode cX4_way 107 = .ok (.ireturn, 1) := by decide +kernel
theorem dX4_way_108 : decode cX4_way 108 = .ok (.aload 5, 2) := by decide +kernel
theorem dX4_way_110 : decode cX4_way 110 = .ok (.getfield 121, 3) := by decide +kernel
theorem dX4_way_113 : decode cX4_way 113 = .ok (.aload_n 0, 1) := by decide +kernel
theorem dX4_way_114 : decode cX4_way 114 = .ok (.getfield 52, 3) := by decide +kernel
theorem dX4_way_117 : decode cX4_way 117 = .ok (.getfield 159, 3) := by decide +kernel
theorem dX4_way_120 : decode cX4_way 120 = .ok (.iload_n 3, 1) := by decide +kernel
theorem dX4_way_121 : decode cX4_way 121 = .ok (.iaload, 1) := by decide +kernel
theorem dX4_way_122 : decode cX4_way 122 = .ok (.iaload, 1) := by decide +kernel
theorem dX4_way_123 : decode cX4_way 123 = .ok (.ireturn, 1) := by decide +kernel
theorem dX4_way_124 : decode cX4_way 124 = .ok (.sipush (-1002), 3) := by decide +kernel
theorem dX4_way_127 : decode cX4_way 127 = .ok (.ireturn, 1) := by decide +kernel
theorem dX4_reach_0 : decode cX4_reach 0 = .ok (.aload_n 0, 1) := by decide +kernel
theorem dX4_reach_1 : decode cX4_reach 1 = .ok (.iload_n 1, 1) := by decide +kernel
theorem dX4_reach_2 : decode cX4_reach 2 = .ok (.invokevirtual 145, 3) := by decide +kernel
theorem dX4_reach_5 : decode cX4_reach 5 = .ok (.ifCond .eq 10, 3) := by decide +kernel
theorem dX4_reach_8 : decode cX4_reach 8 = .ok (.iload_n 2, 1) := by decide +kernel
theorem dX4_reach_9 : decode cX4_reach 9 = .ok (.invokestatic 56, 3) := by decide +kernel
theorem dX4_reach_12 : decode cX4_reach 12 = .ok (.ifCond .ne 7, 3) := by decide +kernel
theorem dX4_reach_15 : decode cX4_reach 15 = .ok (.sipush (-1001), 3) := by decide +kernel
theorem dX4_reach_18 : decode cX4_reach 18 = .ok (.ireturn, 1) := by decide +kernel
theorem dX4_reach_19 : decode cX4_reach 19 = .ok (.aload_n 0, 1) := by decide +kernel
theorem dX4_reach_20 : decode cX4_reach 20 = .ok (.getfield 52, 3) := by decide +kernel
theorem dX4_reach_23 : decode cX4_reach 23 = .ok (.aload_n 0, 1) := by decide +kernel
theorem dX4_reach_24 : decode cX4_reach 24 = .ok (.getfield 40, 3) := by decide +kernel
theorem dX4_reach_27 : decode cX4_reach 27 = .ok (.iload_n 1, 1) := by decide +kernel
theorem dX4_reach_28 : decode cX4_reach 28 = .ok (.aaload, 1) := by decide +kernel
theorem dX4_reach_29 : decode cX4_reach 29 = .ok (.aload_n 0, 1) := by decide +kernel
theorem dX4_reach_30 : decode cX4_reach 30 = .ok (.getfield 22, 3) := by decide +kernel
theorem dX4_reach_33 : decode cX4_reach 33 = .ok (.aload_n 0, 1) := by decide +kernel
theorem dX4_reach_34 : decode cX4_reach 34 = .ok (.getfield 16, 3) := by decide +kernel
theorem dX4_reach_37 : decode cX4_reach 37 = .ok (.iload_n 2, 1) := by decide +kernel
theorem dX4_reach_38 : decode cX4_reach 38 = .ok (.iaload, 1) := by decide +kernel
theorem dX4_reach_39 : decode cX4_reach 39 = .ok (.aaload, 1) := by decide +kernel
theorem dX4_reach_40 : decode cX4_reach 40 = .ok (.invokevirtual 162, 3) := by decide +kernel
theorem dX4_reach_43 : decode cX4_reach 43 = .ok (.ireturn, 1) := by decide +kernel
theorem dX4_reached_0 : decode cX4_reached 0 = .ok (.aload_n 0, 1) := by decide +kernel
theorem dX4_reached_1 : decode cX4_reached 1 = .ok (.iload_n 1, 1) := by decide +kernel
theorem dX4_reached_2 : decode cX4_reached 2 = .ok (.invokevirtual 145, 3) := by decide +kernel
theorem dX4_reached_5 : decode cX4_reached 5 = .ok (.ifCond .ne 7, 3) := by decide +kernel
theorem dX4_reached_8 : decode cX4_reached 8 = .ok (.sipush (-1001), 3) := by decide +kernel
theorem dX4_reached_11 : decode cX4_reached 11 = .ok (.ireturn, 1) := by decide +kernel
theorem dX4_reached_12 : decode cX4_reached 12 = .ok (.iload_n 2, 1) := by decide +kernel
theorem dX4_reached_13 : decode cX4_reached 13 = .ok (.ifCond .lt 8, 3) := by decide +kernel
theorem dX4_reached_16 : decode cX4_reached 16 = .ok (.iload_n 2, 1) := by decide +kernel
theorem dX4_reached_17 : decode cX4_reached 17 = .ok (.iconst 4, 1) := by decide +kernel
theorem dX4_reached_18 : decode cX4_reached 18 = .ok (.if_icmp .le 7, 3) := by decide +kernel
theorem dX4_reached_21 : decode cX4_reached 21 = .ok (.sipush (-1002), 3) := by decide +kernel
theorem dX4_reached_24 : decode cX4_reached 24 = .ok (.ireturn, 1) := by decide +kernel
theorem dX4_reached_25 : decode cX4_reached 25 = .ok (.iconst 0, 1) := by decide +kernel
theorem dX4_reached_26 : decode cX4_reached 26 = .ok (.istore_n 3, 1) := by decide +kernel
theorem dX4_reached_27 : decode cX4_reached 27 = .ok (.iconst 0, 1) := by decide +kernel
theorem dX4_reached_28 : decode cX4_reached 28 = .ok (.istore 4, 2) := by decide +kernel
theorem dX4_reached_30 : decode cX4_reached 30 = .ok (.iload 4, 2) := by decide +kernel
theorem dX4_reached_32 : decode cX4_reached 32 = .ok (.bipush 24, 2) := by decide +kernel
theorem dX4_reached_34 : decode cX4_reached 34 = .ok (.if_icmp .ge 49, 3) := by decide +kernel
theorem dX4_reached_37 : decode cX4_reached 37 = .ok (.aload_n 0, 1) := by decide +kernel
theorem dX4_reached_38 : decode cX4_reached 38 = .ok (.getfield 22, 3) := by decide +kernel
theorem dX4_reached_41 : decode cX4_reached 41 = .ok (.iload 4, 2) := by decide +kernel
theorem dX4_reached_43 : decode cX4_reached 43 = .ok (.aaload, 1) := by decide +kernel
theorem dX4_reached_44 : decode cX4_reached 44 = .ok (.getfield 106, 3) := by decide +kernel
theorem dX4_reached_47 : decode cX4_reached 47 = .ok (.ifCond .le 30, 3) := by decide +kernel
theorem dX4_reached_50 : decode cX4_reached 50 = .ok (.aload_n 0, 1) := by decide +kernel
theorem dX4_reached_51 : decode cX4_reached 51 = .ok (.getfield 52, 3) := by decide +kernel
theorem dX4_reached_54 : decode cX4_reached 54 = .ok (.aload_n 0, 1) := by decide +kernel
theorem dX4_reached_55 : decode cX4_reached 55 = .ok (.getfield 40, 3) := by decide +kernel
theorem dX4_reached_58 : decode cX4_reached 58 = .ok (.iload_n 1, 1) := by decide +kernel
theorem dX4_reached_59 : decode cX4_reached 59 = .ok (.aaload, 1) := by decide +kernel
theorem dX4_reached_60 : decode cX4_reached 60 = .ok (.aload_n 0, 1) := by decide +kernel
theorem dX4_reached_61 : decode cX4_reached 61 = .ok (.getfield 22, 3) := by decide +kernel
theorem dX4_reached_64 : decode cX4_reached 64 = .ok (.iload 4, 2) := by decide +kernel
theorem dX4_reached_66 : decode cX4_reached 66 = .ok (.aaload, 1) := by decide +kernel
theorem dX4_reached_67 : decode cX4_reached 67 = .ok (.invokevirtual 162, 3) := by decide +kernel
theorem dX4_reached_70 : decode cX4_reached 70 = .ok (.iload_n 2, 1) := by decide +kernel
theorem dX4_reached_71 : decode cX4_reached 71 = .ok (.if_icmp .lt 6, 3) := by decide +kernel
theorem dX4_reached_74 : decode cX4_reached 74 = .ok (.iinc 3 1, 3) := by decide +kernel
theorem dX4_reached_77 : decode cX4_reached 77 = .ok (.iinc 4 1, 3) := by decide +kernel
theorem dX4_reached_80 : decode cX4_reached 80 = .ok (.goto (-50), 3) := by decide +kernel
theorem dX4_reached_83 : decode cX4_reached 83 = .ok (.iload_n 3, 1) := by decide +kernel
theorem dX4_reached_84 : decode cX4_reached 84 = .ok (.ireturn, 1) := by decide +kernel
theorem dX4_born_0 : decode cX4_born 0 = .ok (.iload_n 1, 1) := by decide +kernel
theorem dX4_born_1 : decode cX4_born 1 = .ok (.invokestatic 165, 3) := by decide +kernel
theorem dX4_born_4 : decode cX4_born 4 = .ok (.ifCond .ne 7, 3) := by decide +kernel
theorem dX4_born_7 : decode cX4_born 7 = .ok (.sipush (-1002), 3) := by decide +kernel
theorem dX4_born_10 : decode cX4_born 10 = .ok (.ireturn, 1) := by decide +kernel
theorem dX4_born_11 : decode cX4_born 11 = .ok (.iconst 0, 1) := by decide +kernel
theorem dX4_born_12 : decode cX4_born 12 = .ok (.istore_n 2, 1) := by decide +kernel
theorem dX4_born_13 : decode cX4_born 13 = .ok (.iconst 0, 1) := by decide +kernel
theorem dX4_born_14 : decode cX4_born 14 = .ok (.istore_n 3, 1) := by decide +kernel
theorem dX4_born_15 : decode cX4_born 15 = .ok (.iload_n 3, 1) := by decide +kernel
theorem dX4_born_16 : decode cX4_born 16 = .ok (.bipush 24, 2) := by decide +kernel
theorem dX4_born_18 : decode cX4_born 18 = .ok (.if_icmp .ge 31, 3) := by decide +kernel
theorem dX4_born_21 : decode cX4_born 21 = .ok (.aload_n 0, 1) := by decide +kernel
theorem dX4_born_22 : decode cX4_born 22 = .ok (.getfield 22, 3) := by decide +kernel
theorem dX4_born_25 : decode cX4_born 25 = .ok (.iload_n 3, 1) := by decide +kernel
theorem dX4_born_26 : decode cX4_born 26 = .ok (.aaload, 1) := by decide +kernel
theorem dX4_born_27 : decode cX4_born 27 = .ok (.aload_n 0, 1) := by decide +kernel
theorem dX4_born_28 : decode cX4_born 28 = .ok (.getfield 29, 3) := by decide +kernel
theorem dX4_born_31 : decode cX4_born 31 = .ok (.iconst 5, 1) := by decide +kernel
theorem dX4_born_32 : decode cX4_born 32 = .ok (.iaload, 1) := by decide +kernel
theorem dX4_born_33 : decode cX4_born 33 = .ok (.invokevirtual 116, 3) := by decide +kernel
theorem dX4_born_36 : decode cX4_born 36 = .ok (.iload_n 1, 1) := by decide +kernel
theorem dX4_born_37 : decode cX4_born 37 = .ok (.if_icmp .ne 6, 3) := by decide +kernel
theorem dX4_born_40 : decode cX4_born 40 = .ok (.iinc 2 1, 3) := by decide +kernel
theorem dX4_born_43 : decode cX4_born 43 = .ok (.iinc 3 1, 3) := by decide +kernel
theorem dX4_born_46 : decode cX4_born 46 = .ok (.goto (-31), 3) := by decide +kernel
theorem dX4_born_49 : decode cX4_born 49 = .ok (.iload_n 2, 1) := by decide +kernel
theorem dX4_born_50 : decode cX4_born 50 = .ok (.ireturn, 1) := by decide +kernel
theorem dX4_came_0 : decode cX4_came 0 = .ok (.iload_n 1, 1) := by decide +kernel
theorem dX4_came_1 : decode cX4_came 1 = .ok (.invokestatic 165, 3) := by decide +kernel
theorem dX4_came_4 : decode cX4_came 4 = .ok (.ifCond .eq 10, 3) := by decide +kernel
theorem dX4_came_7 : decode cX4_came 7 = .ok (.iload_n 2, 1) := by decide +kernel
theorem dX4_came_8 : decode cX4_came 8 = .ok (.invokestatic 165, 3) := by decide +kernel
theorem dX4_came_11 : decode cX4_came 11 = .ok (.ifCond .ne 7, 3) := by decide +kernel
theorem dX4_came_14 : decode cX4_came 14 = .ok (.sipush (-1002), 3) := by decide +kernel
theorem dX4_came_17 : decode cX4_came 17 = .ok (.ireturn, 1) := by decide +kernel
theorem dX4_came_18 : decode cX4_came 18 = .ok (.iconst 0, 1) := by decide +kernel
theorem dX4_came_19 : decode cX4_came 19 = .ok (.istore_n 3, 1) := by decide +kernel
theorem dX4_came_20 : decode cX4_came 20 = .ok (.iconst 0, 1) := by decide +kernel
theorem dX4_came_21 : decode cX4_came 21 = .ok (.istore 4, 2) := by decide +kernel
theorem dX4_came_23 : decode cX4_came 23 = .ok (.iload 4, 2) := by decide +kernel
theorem dX4_came_25 : decode cX4_came 25 = .ok (.bipush 24, 2) := by decide +kernel
theorem dX4_came_27 : decode cX4_came 27 = .ok (.if_icmp .ge 48, 3) := by decide +kernel
theorem dX4_came_30 : decode cX4_came 30 = .ok (.aload_n 0, 1) := by decide +kernel
theorem dX4_came_31 : decode cX4_came 31 = .ok (.getfield 22, 3) := by decide +kernel
theorem dX4_came_34 : decode cX4_came 34 = .ok (.iload 4, 2) := by decide +kernel
theorem dX4_came_36 : decode cX4_came 36 = .ok (.aaload, 1) := by decide +kernel
theorem dX4_came_37 : decode cX4_came 37 = .ok (.aload_n 0, 1) := by decide +kernel
theorem dX4_came_38 : decode cX4_came 38 = .ok (.getfield 29, 3) := by decide +kernel
theorem dX4_came_41 : decode cX4_came 41 = .ok (.iconst 5, 1) := by decide +kernel
theorem dX4_came_42 : decode cX4_came 42 = .ok (.iaload, 1) := by decide +kernel
theorem dX4_came_43 : decode cX4_came 43 = .ok (.invokevirtual 116, 3) := by decide +kernel
theorem dX4_came_46 : decode cX4_came 46 = .ok (.iload_n 1, 1) := by decide +kernel
theorem dX4_came_47 : decode cX4_came 47 = .ok (.if_icmp .ne 22, 3) := by decide +kernel
theorem dX4_came_50 : decode cX4_came 50 = .ok (.aload_n 0, 1) := by decide +kernel
theorem dX4_came_51 : decode cX4_came 51 = .ok (.getfield 22, 3) := by decide +kernel
theorem dX4_came_54 : decode cX4_came 54 = .ok (.iload 4, 2) := by decide +kernel
theorem dX4_came_56 : decode cX4_came 56 = .ok (.aaload, 1) := by decide +kernel
theorem dX4_came_57 : decode cX4_came 57 = .ok (.iload_n 1, 1) := by decide +kernel
theorem dX4_came_58 : decode cX4_came 58 = .ok (.iload_n 2, 1) := by decide +kernel
theorem dX4_came_59 : decode cX4_came 59 = .ok (.iadd, 1) := by decide +kernel
theorem dX4_came_60 : decode cX4_came 60 = .ok (.invokevirtual 168, 3) := by decide +kernel
theorem dX4_came_63 : decode cX4_came 63 = .ok (.ifCond .eq 6, 3) := by decide +kernel
theorem dX4_came_66 : decode cX4_came 66 = .ok (.iinc 3 1, 3) := by decide +kernel
theorem dX4_came_69 : decode cX4_came 69 = .ok (.iinc 4 1, 3) := by decide +kernel
theorem dX4_came_72 : decode cX4_came 72 = .ok (.goto (-49), 3) := by decide +kernel
theorem dX4_came_75 : decode cX4_came 75 = .ok (.iload_n 3, 1) := by decide +kernel
theorem dX4_came_76 : decode cX4_came 76 = .ok (.ireturn, 1) := by decide +kernel
theorem dX4_digest_0 : decode cX4_digest 0 = .ok (.bipush 7, 2) := by decide +kernel
theorem dX4_digest_2 : decode cX4_digest 2 = .ok (.istore_n 1, 1) := by decide +kernel
theorem dX4_digest_3 : decode cX4_digest 3 = .ok (.iconst 0, 1) := by decide +kernel
theorem dX4_digest_4 : decode cX4_digest 4 = .ok (.istore_n 2, 1) := by decide +kernel
theorem dX4_digest_5 : decode cX4_digest 5 = .ok (.iload_n 2, 1) := by decide +kernel
theorem dX4_digest_6 : decode cX4_digest 6 = .ok (.bipush 24, 2) := by decide +kernel
theorem dX4_digest_8 : decode cX4_digest 8 = .ok (.if_icmp .ge 29, 3) := by decide +kernel
theorem dX4_digest_11 : decode cX4_digest 11 = .ok (.aload_n 0, 1) := by decide +kernel
theorem dX4_digest_12 : decode cX4_digest 12 = .ok (.iload_n 2, 1) := by decide +kernel
theorem dX4_digest_13 : decode cX4_digest 13 = .ok (.invokevirtual 85, 3) := by decide +kernel
theorem dX4_digest_16 : decode cX4_digest 16 = .ok (.ifCond .ne 15, 3) := by decide +kernel
theorem dX4_digest_19 : decode cX4_digest 19 = .ok (.aload_n 0, 1) := by decide +kernel
theorem dX4_digest_20 : decode cX4_digest 20 = .ok (.iload_n 1, 1) := by decide +kernel
theorem dX4_digest_21 : decode cX4_digest 21 = .ok (.aload_n 0, 1) := by decide +kernel
theorem dX4_digest_22 : decode cX4_digest 22 = .ok (.getfield 22, 3) := by decide +kernel
theorem dX4_digest_25 : decode cX4_digest 25 = .ok (.iload_n 2, 1) := by decide +kernel
theorem dX4_digest_26 : decode cX4_digest 26 = .ok (.aaload, 1) := by decide +kernel
theorem dX4_digest_27 : decode cX4_digest 27 = .ok (.invokevirtual 171, 3) := by decide +kernel
theorem dX4_digest_30 : decode cX4_digest 30 = .ok (.istore_n 1, 1) := by decide +kernel
theorem dX4_digest_31 : decode cX4_digest 31 = .ok (.iinc 2 1, 3) := by decide +kernel
theorem dX4_digest_34 : decode cX4_digest 34 = .ok (.goto (-29), 3) := by decide +kernel
theorem dX4_digest_37 : decode cX4_digest 37 = .ok (.iload_n 1, 1) := by decide +kernel
theorem dX4_digest_38 : decode cX4_digest 38 = .ok (.ireturn, 1) := by decide +kernel
theorem dX4_digestWith_0 : decode cX4_digestWith 0 = .ok (.iload_n 1, 1) := by decide +kernel
theorem dX4_digestWith_1 : decode cX4_digestWith 1 = .ok (.istore_n 3, 1) := by decide +kernel
theorem dX4_digestWith_2 : decode cX4_digestWith 2 = .ok (.iconst 0, 1) := by decide +kernel
theorem dX4_digestWith_3 : decode cX4_digestWith 3 = .ok (.istore 4, 2) := by decide +kernel
theorem dX4_digestWith_5 : decode cX4_digestWith 5 = .ok (.iload 4, 2) := by decide +kernel
theorem dX4_digestWith_7 : decode cX4_digestWith 7 = .ok (.aload_n 2, 1) := by decide +kernel
theorem dX4_digestWith_8 : decode cX4_digestWith 8 = .ok (.getfield 106, 3) := by decide +kernel
theorem dX4_digestWith_11 : decode cX4_digestWith 11 = .ok (.if_icmp .ge 39, 3) := by decide +kernel
theorem dX4_digestWith_14 : decode cX4_digestWith 14 = .ok (.aload_n 2, 1) := by decide +kernel
theorem dX4_digestWith_15 : decode cX4_digestWith 15 = .ok (.getfield 121, 3) := by decide +kernel
theorem dX4_digestWith_18 : decode cX4_digestWith 18 = .ok (.iload 4, 2) := by decide +kernel
theorem dX4_digestWith_20 : decode cX4_digestWith 20 = .ok (.iaload, 1) := by decide +kernel
theorem dX4_digestWith_21 : decode cX4_digestWith 21 = .ok (.istore 5, 2) := by decide +kernel
theorem dX4_digestWith_23 : decode cX4_digestWith 23 = .ok (.bipush 31, 2) := by decide +kernel
theorem dX4_digestWith_25 : decode cX4_digestWith 25 = .ok (.iload_n 3, 1) := by decide +kernel
theorem dX4_digestWith_26 : decode cX4_digestWith 26 = .ok (.imul, 1) := by decide +kernel
theorem dX4_digestWith_27 : decode cX4_digestWith 27 = .ok (.iload 5, 2) := by decide +kernel
theorem dX4_digestWith_29 : decode cX4_digestWith 29 = .ok (.iadd, 1) := by decide +kernel
theorem dX4_digestWith_30 : decode cX4_digestWith 30 = .ok (.istore_n 3, 1) := by decide +kernel
theorem dX4_digestWith_31 : decode cX4_digestWith 31 = .ok (.bipush 31, 2) := by decide +kernel
theorem dX4_digestWith_33 : decode cX4_digestWith 33 = .ok (.iload_n 3, 1) := by decide +kernel
theorem dX4_digestWith_34 : decode cX4_digestWith 34 = .ok (.imul, 1) := by decide +kernel
theorem dX4_digestWith_35 : decode cX4_digestWith 35 = .ok (.aload_n 0, 1) := by decide +kernel
theorem dX4_digestWith_36 : decode cX4_digestWith 36 = .ok (.getfield 35, 3) := by decide +kernel
theorem dX4_digestWith_39 : decode cX4_digestWith 39 = .ok (.iload 5, 2) := by decide +kernel
theorem dX4_digestWith_41 : decode cX4_digestWith 41 = .ok (.iaload, 1) := by decide +kernel
theorem dX4_digestWith_42 : decode cX4_digestWith 42 = .ok (.iadd, 1) := by decide +kernel
theorem dX4_digestWith_43 : decode cX4_digestWith 43 = .ok (.istore_n 3, 1) := by decide +kernel
theorem dX4_digestWith_44 : decode cX4_digestWith 44 = .ok (.iinc 4 1, 3) := by decide +kernel
theorem dX4_digestWith_47 : decode cX4_digestWith 47 = .ok (.goto (-42), 3) := by decide +kernel
theorem dX4_digestWith_50 : decode cX4_digestWith 50 = .ok (.bipush 31, 2) := by decide +kernel
theorem dX4_digestWith_52 : decode cX4_digestWith 52 = .ok (.iload_n 3, 1) := by decide +kernel
theorem dX4_digestWith_53 : decode cX4_digestWith 53 = .ok (.imul, 1) := by decide +kernel
theorem dX4_digestWith_54 : decode cX4_digestWith 54 = .ok (.aload_n 2, 1) := by decide +kernel
theorem dX4_digestWith_55 : decode cX4_digestWith 55 = .ok (.aload_n 0, 1) := by decide +kernel
theorem dX4_digestWith_56 : decode cX4_digestWith 56 = .ok (.getfield 29, 3) := by decide +kernel
theorem dX4_digestWith_59 : decode cX4_digestWith 59 = .ok (.iconst 5, 1) := by decide +kernel
theorem dX4_digestWith_60 : decode cX4_digestWith 60 = .ok (.iaload, 1) := by decide +kernel
theorem dX4_digestWith_61 : decode cX4_digestWith 61 = .ok (.invokevirtual 116, 3) := by decide +kernel
theorem dX4_digestWith_64 : decode cX4_digestWith 64 = .ok (.iadd, 1) := by decide +kernel
theorem dX4_digestWith_65 : decode cX4_digestWith 65 = .ok (.ireturn, 1) := by decide +kernel
theorem dX4_isWho_0 : decode cX4_isWho 0 = .ok (.iload_n 0, 1) := by decide +kernel
theorem dX4_isWho_1 : decode cX4_isWho 1 = .ok (.ifCond .lt 13, 3) := by decide +kernel
theorem dX4_isWho_4 : decode cX4_isWho 4 = .ok (.iload_n 0, 1) := by decide +kernel
theorem dX4_isWho_5 : decode cX4_isWho 5 = .ok (.bipush 24, 2) := by decide +kernel
theorem dX4_isWho_7 : decode cX4_isWho 7 = .ok (.if_icmp .ge 7, 3) := by decide +kernel
theorem dX4_isWho_10 : decode cX4_isWho 10 = .ok (.iconst 1, 1) := by decide +kernel
theorem dX4_isWho_11 : decode cX4_isWho 11 = .ok (.goto 4, 3) := by decide +kernel
theorem dX4_isWho_14 : decode cX4_isWho 14 = .ok (.iconst 0, 1) := by decide +kernel
theorem dX4_isWho_15 : decode cX4_isWho 15 = .ok (.ireturn, 1) := by decide +kernel
theorem dX4_isName_0 : decode cX4_isName 0 = .ok (.iload_n 0, 1) := by decide +kernel
theorem dX4_isName_1 : decode cX4_isName 1 = .ok (.ifCond .lt 13, 3) := by decide +kernel
theorem dX4_isName_4 : decode cX4_isName 4 = .ok (.iload_n 0, 1) := by decide +kernel
theorem dX4_isName_5 : decode cX4_isName 5 = .ok (.bipush 12, 2) := by decide +kernel
theorem dX4_isName_7 : decode cX4_isName 7 = .ok (.if_icmp .ge 7, 3) := by decide +kernel
theorem dX4_isName_10 : decode cX4_isName 10 = .ok (.iconst 1, 1) := by decide +kernel
theorem dX4_isName_11 : decode cX4_isName 11 = .ok (.goto 4, 3) := by decide +kernel
theorem dX4_isName_14 : decode cX4_isName 14 = .ok (.iconst 0, 1) := by decide +kernel
theorem dX4_isName_15 : decode cX4_isName 15 = .ok (.ireturn, 1) := by decide +kernel
theorem dX4_isSort_0 : decode cX4_isSort 0 = .ok (.iload_n 0, 1) := by decide +kernel
theorem dX4_isSort_1 : decode cX4_isSort 1 = .ok (.ifCond .lt 13, 3) := by decide +kernel
theorem dX4_isSort_4 : decode cX4_isSort 4 = .ok (.iload_n 0, 1) := by decide +kernel
theorem dX4_isSort_5 : decode cX4_isSort 5 = .ok (.bipush 8, 2) := by decide +kernel
theorem dX4_isSort_7 : decode cX4_isSort 7 = .ok (.if_icmp .ge 7, 3) := by decide +kernel
theorem dX4_isSort_10 : decode cX4_isSort 10 = .ok (.iconst 1, 1) := by decide +kernel
theorem dX4_isSort_11 : decode cX4_isSort 11 = .ok (.goto 4, 3) := by decide +kernel
theorem dX4_isSort_14 : decode cX4_isSort 14 = .ok (.iconst 0, 1) := by decide +kernel
theorem dX4_isSort_15 : decode cX4_isSort 15 = .ok (.ireturn, 1) := by decide +kernel
theorem dX4_isWeek_0 : decode cX4_isWeek 0 = .ok (.iload_n 0, 1) := by decide +kernel
theorem dX4_isWeek_1 : decode cX4_isWeek 1 = .ok (.ifCond .lt 13, 3) := by decide +kernel
theorem dX4_isWeek_4 : decode cX4_isWeek 4 = .ok (.iload_n 0, 1) := by decide +kernel
theorem dX4_isWeek_5 : decode cX4_isWeek 5 = .ok (.bipush 20, 2) := by decide +kernel
theorem dX4_isWeek_7 : decode cX4_isWeek 7 = .ok (.if_icmp .ge 7, 3) := by decide +kernel
theorem dX4_isWeek_10 : decode cX4_isWeek 10 = .ok (.iconst 1, 1) := by decide +kernel
theorem dX4_isWeek_11 : decode cX4_isWeek 11 = .ok (.goto 4, 3) := by decide +kernel
theorem dX4_isWeek_14 : decode cX4_isWeek 14 = .ok (.iconst 0, 1) := by decide +kernel
theorem dX4_isWeek_15 : decode cX4_isWeek 15 = .ok (.ireturn, 1) := by decide +kernel
theorem dX4_isFunnel_0 : decode cX4_isFunnel 0 = .ok (.iload_n 1, 1) := by decide +kernel
theorem dX4_isFunnel_1 : decode cX4_isFunnel 1 = .ok (.ifCond .lt 15, 3) := by decide +kernel
theorem dX4_isFunnel_4 : decode cX4_isFunnel 4 = .ok (.iload_n 1, 1) := by decide +kernel
theorem dX4_isFunnel_5 : decode cX4_isFunnel 5 = .ok (.aload_n 0, 1) := by decide +kernel
theorem dX4_isFunnel_6 : decode cX4_isFunnel 6 = .ok (.getfield 45, 3) := by decide +kernel
theorem dX4_isFunnel_9 : decode cX4_isFunnel 9 = .ok (.if_icmp .ge 7, 3) := by decide +kernel
theorem dX4_isFunnel_12 : decode cX4_isFunnel 12 = .ok (.iconst 1, 1) := by decide +kernel
theorem dX4_isFunnel_13 : decode cX4_isFunnel 13 = .ok (.goto 4, 3) := by decide +kernel
theorem dX4_isFunnel_16 : decode cX4_isFunnel 16 = .ok (.iconst 0, 1) := by decide +kernel
theorem dX4_isFunnel_17 : decode cX4_isFunnel 17 = .ok (.ireturn, 1) := by decide +kernel
theorem dX4_isJoined_0 : decode cX4_isJoined 0 = .ok (.aload_n 0, 1) := by decide +kernel
theorem dX4_isJoined_1 : decode cX4_isJoined 1 = .ok (.getfield 16, 3) := by decide +kernel
theorem dX4_isJoined_4 : decode cX4_isJoined 4 = .ok (.iload_n 1, 1) := by decide +kernel
theorem dX4_isJoined_5 : decode cX4_isJoined 5 = .ok (.iaload, 1) := by decide +kernel
theorem dX4_isJoined_6 : decode cX4_isJoined 6 = .ok (.iload_n 1, 1) := by decide +kernel
theorem dX4_isJoined_7 : decode cX4_isJoined 7 = .ok (.if_icmp .eq 7, 3) := by decide +kernel
theorem dX4_isJoined_10 : decode cX4_isJoined 10 = .ok (.iconst 1, 1) := by decide +kernel
theorem dX4_isJoined_11 : decode cX4_isJoined 11 = .ok (.goto 4, 3) := by decide +kernel
theorem dX4_isJoined_14 : decode cX4_isJoined 14 = .ok (.iconst 0, 1) := by decide +kernel
theorem dX4_isJoined_15 : decode cX4_isJoined 15 = .ok (.ireturn, 1) := by decide +kernel
theorem dX4_bit_0 : decode cX4_bit 0 = .ok (.iload_n 0, 1) := by decide +kernel
theorem dX4_bit_1 : decode cX4_bit 1 = .ok (.ifCond .eq 7, 3) := by decide +kernel
theorem dX4_bit_4 : decode cX4_bit 4 = .ok (.iconst 1, 1) := by decide +kernel
theorem dX4_bit_5 : decode cX4_bit 5 = .ok (.goto 4, 3) := by decide +kernel
theorem dX4_bit_8 : decode cX4_bit 8 = .ok (.iconst 0, 1) := by decide +kernel
theorem dX4_bit_9 : decode cX4_bit 9 = .ok (.ireturn, 1) := by decide +kernel
theorem dX4_layRows_0 : decode cX4_layRows 0 = .ok (.iconst 0, 1) := by decide +kernel
theorem dX4_layRows_1 : decode cX4_layRows 1 = .ok (.istore_n 1, 1) := by decide +kernel
theorem dX4_layRows_2 : decode cX4_layRows 2 = .ok (.iload_n 1, 1) := by decide +kernel
theorem dX4_layRows_3 : decode cX4_layRows 3 = .ok (.bipush 24, 2) := by decide +kernel
theorem dX4_layRows_5 : decode cX4_layRows 5 = .ok (.if_icmp .ge 18, 3) := by decide +kernel
theorem dX4_layRows_8 : decode cX4_layRows 8 = .ok (.aload_n 0, 1) := by decide +kernel
theorem dX4_layRows_9 : decode cX4_layRows 9 = .ok (.getfield 22, 3) := by decide +kernel
theorem dX4_layRows_12 : decode cX4_layRows 12 = .ok (.iload_n 1, 1) := by decide +kernel
theorem dX4_layRows_13 : decode cX4_layRows 13 = .ok (.aaload, 1) := by decide +kernel
theorem dX4_layRows_14 : decode cX4_layRows 14 = .ok (.invokevirtual 175, 3) := by decide +kernel
theorem dX4_layRows_17 : decode cX4_layRows 17 = .ok (.iinc 1 1, 3) := by decide +kernel
theorem dX4_layRows_20 : decode cX4_layRows 20 = .ok (.goto (-18), 3) := by decide +kernel
theorem dX4_layRows_23 : decode cX4_layRows 23 = .ok (.iconst 0, 1) := by decide +kernel
theorem dX4_layRows_24 : decode cX4_layRows 24 = .ok (.istore_n 1, 1) := by decide +kernel
theorem dX4_layRows_25 : decode cX4_layRows 25 = .ok (.iload_n 1, 1) := by decide +kernel
theorem dX4_layRows_26 : decode cX4_layRows 26 = .ok (.aload_n 0, 1) := by decide +kernel
theorem dX4_layRows_27 : decode cX4_layRows 27 = .ok (.getfield 10, 3) := by decide +kernel
theorem dX4_layRows_30 : decode cX4_layRows 30 = .ok (.getfield 123, 3) := by decide +kernel
theorem dX4_layRows_33 : decode cX4_layRows 33 = .ok (.if_icmp .ge 56, 3) := by decide +kernel
theorem dX4_layRows_36 : decode cX4_layRows 36 = .ok (.aload_n 0, 1) := by decide +kernel
theorem dX4_layRows_37 : decode cX4_layRows 37 = .ok (.getfield 10, 3) := by decide +kernel
theorem dX4_layRows_40 : decode cX4_layRows 40 = .ok (.getfield 178, 3) := by decide +kernel
theorem dX4_layRows_43 : decode cX4_layRows 43 = .ok (.iload_n 1, 1) := by decide +kernel
theorem dX4_layRows_44 : decode cX4_layRows 44 = .ok (.iaload, 1) := by decide +kernel
theorem dX4_layRows_45 : decode cX4_layRows 45 = .ok (.istore_n 2, 1) := by decide +kernel
theorem dX4_layRows_46 : decode cX4_layRows 46 = .ok (.aload_n 0, 1) := by decide +kernel
theorem dX4_layRows_47 : decode cX4_layRows 47 = .ok (.getfield 32, 3) := by decide +kernel
theorem dX4_layRows_50 : decode cX4_layRows 50 = .ok (.iload_n 2, 1) := by decide +kernel
theorem dX4_layRows_51 : decode cX4_layRows 51 = .ok (.iconst (-1), 1) := by decide +kernel
theorem dX4_layRows_52 : decode cX4_layRows 52 = .ok (.iastore, 1) := by decide +kernel
theorem dX4_layRows_53 : decode cX4_layRows 53 = .ok (.aload_n 0, 1) := by decide +kernel
theorem dX4_layRows_54 : decode cX4_layRows 54 = .ok (.getfield 35, 3) := by decide +kernel
theorem dX4_layRows_57 : decode cX4_layRows 57 = .ok (.iload_n 2, 1) := by decide +kernel
theorem dX4_layRows_58 : decode cX4_layRows 58 = .ok (.iconst (-1), 1) := by decide +kernel
theorem dX4_layRows_59 : decode cX4_layRows 59 = .ok (.iastore, 1) := by decide +kernel
theorem dX4_layRows_60 : decode cX4_layRows 60 = .ok (.aload_n 0, 1) := by decide +kernel
theorem dX4_layRows_61 : decode cX4_layRows 61 = .ok (.getfield 22, 3) := by decide +kernel
theorem dX4_layRows_64 : decode cX4_layRows 64 = .ok (.aload_n 0, 1) := by decide +kernel
theorem dX4_layRows_65 : decode cX4_layRows 65 = .ok (.getfield 16, 3) := by decide +kernel
theorem dX4_layRows_68 : decode cX4_layRows 68 = .ok (.aload_n 0, 1) := by decide +kernel
theorem dX4_layRows_69 : decode cX4_layRows 69 = .ok (.getfield 10, 3) := by decide +kernel
theorem dX4_layRows_72 : decode cX4_layRows 72 = .ok (.getfield 100, 3) := by decide +kernel
theorem dX4_layRows_75 : decode cX4_layRows 75 = .ok (.iload_n 2, 1) := by decide +kernel
theorem dX4_layRows_76 : decode cX4_layRows 76 = .ok (.iaload, 1) := by decide +kernel
theorem dX4_layRows_77 : decode cX4_layRows 77 = .ok (.iaload, 1) := by decide +kernel
theorem dX4_layRows_78 : decode cX4_layRows 78 = .ok (.aaload, 1) := by decide +kernel
theorem dX4_layRows_79 : decode cX4_layRows 79 = .ok (.iload_n 2, 1) := by decide +kernel
theorem dX4_layRows_80 : decode cX4_layRows 80 = .ok (.invokevirtual 181, 3) := by decide +kernel
theorem dX4_layRows_83 : decode cX4_layRows 83 = .ok (.iinc 1 1, 3) := by decide +kernel
theorem dX4_layRows_86 : decode cX4_layRows 86 = .ok (.goto (-61), 3) := by decide +kernel
theorem dX4_layRows_89 : decode cX4_layRows 89 = .ok (.iconst 0, 1) := by decide +kernel
theorem dX4_layRows_90 : decode cX4_layRows 90 = .ok (.istore_n 1, 1) := by decide +kernel
theorem dX4_layRows_91 : decode cX4_layRows 91 = .ok (.iload_n 1, 1) := by decide +kernel
theorem dX4_layRows_92 : decode cX4_layRows 92 = .ok (.bipush 24, 2) := by decide +kernel
theorem dX4_layRows_94 : decode cX4_layRows 94 = .ok (.if_icmp .ge 40, 3) := by decide +kernel
theorem dX4_layRows_97 : decode cX4_layRows 97 = .ok (.aload_n 0, 1) := by decide +kernel
theorem dX4_layRows_98 : decode cX4_layRows 98 = .ok (.getfield 22, 3) := by decide +kernel
theorem dX4_layRows_101 : decode cX4_layRows 101 = .ok (.iload_n 1, 1) := by decide +kernel
theorem dX4_layRows_102 : decode cX4_layRows 102 = .ok (.aaload, 1) := by decide +kernel
theorem dX4_layRows_103 : decode cX4_layRows 103 = .ok (.aload_n 0, 1) := by decide +kernel
theorem dX4_layRows_104 : decode cX4_layRows 104 = .ok (.getfield 29, 3) := by decide +kernel
theorem dX4_layRows_107 : decode cX4_layRows 107 = .ok (.iconst 3, 1) := by decide +kernel
theorem dX4_layRows_108 : decode cX4_layRows 108 = .ok (.iaload, 1) := by decide +kernel
theorem dX4_layRows_109 : decode cX4_layRows 109 = .ok (.aload_n 0, 1) := by decide +kernel
theorem dX4_layRows_110 : decode cX4_layRows 110 = .ok (.getfield 29, 3) := by decide +kernel
theorem dX4_layRows_113 : decode cX4_layRows 113 = .ok (.iconst 4, 1) := by decide +kernel
theorem dX4_layRows_114 : decode cX4_layRows 114 = .ok (.iaload, 1) := by decide +kernel
theorem dX4_layRows_115 : decode cX4_layRows 115 = .ok (.invokevirtual 185, 3) := by decide +kernel
theorem dX4_layRows_118 : decode cX4_layRows 118 = .ok (.aload_n 0, 1) := by decide +kernel
theorem dX4_layRows_119 : decode cX4_layRows 119 = .ok (.aload_n 0, 1) := by decide +kernel
theorem dX4_layRows_120 : decode cX4_layRows 120 = .ok (.getfield 22, 3) := by decide +kernel
theorem dX4_layRows_123 : decode cX4_layRows 123 = .ok (.iload_n 1, 1) := by decide +kernel
theorem dX4_layRows_124 : decode cX4_layRows 124 = .ok (.aaload, 1) := by decide +kernel
theorem dX4_layRows_125 : decode cX4_layRows 125 = .ok (.invokevirtual 189, 3) := by decide +kernel
theorem dX4_layRows_128 : decode cX4_layRows 128 = .ok (.iinc 1 1, 3) := by decide +kernel
theorem dX4_layRows_131 : decode cX4_layRows 131 = .ok (.goto (-40), 3) := by decide +kernel
theorem dX4_layRows_134 : decode cX4_layRows 134 = .ok (.return_, 1) := by decide +kernel
theorem dX4_cutSittings_0 : decode cX4_cutSittings 0 = .ok (.iconst 0, 1) := by decide +kernel
theorem dX4_cutSittings_1 : decode cX4_cutSittings 1 = .ok (.istore_n 2, 1) := by decide +kernel
theorem dX4_cutSittings_2 : decode cX4_cutSittings 2 = .ok (.iconst 0, 1) := by decide +kernel
theorem dX4_cutSittings_3 : decode cX4_cutSittings 3 = .ok (.istore_n 3, 1) := by decide +kernel
theorem dX4_cutSittings_4 : decode cX4_cutSittings 4 = .ok (.iload_n 3, 1) := by decide +kernel
theorem dX4_cutSittings_5 : decode cX4_cutSittings 5 = .ok (.aload_n 1, 1) := by decide +kernel
theorem dX4_cutSittings_6 : decode cX4_cutSittings 6 = .ok (.getfield 106, 3) := by decide +kernel
theorem dX4_cutSittings_9 : decode cX4_cutSittings 9 = .ok (.if_icmp .ge 59, 3) := by decide +kernel
theorem dX4_cutSittings_12 : decode cX4_cutSittings 12 = .ok (.aload_n 1, 1) := by decide +kernel
theorem dX4_cutSittings_13 : decode cX4_cutSittings 13 = .ok (.getfield 121, 3) := by decide +kernel
theorem dX4_cutSittings_16 : decode cX4_cutSittings 16 = .ok (.iload_n 3, 1) := by decide +kernel
theorem dX4_cutSittings_17 : decode cX4_cutSittings 17 = .ok (.iaload, 1) := by decide +kernel
theorem dX4_cutSittings_18 : decode cX4_cutSittings 18 = .ok (.istore 4, 2) := by decide +kernel
theorem dX4_cutSittings_20 : decode cX4_cutSittings 20 = .ok (.iload_n 3, 1) := by decide +kernel
theorem dX4_cutSittings_21 : decode cX4_cutSittings 21 = .ok (.ifCond .eq 20, 3) := by decide +kernel
theorem dX4_cutSittings_24 : decode cX4_cutSittings 24 = .ok (.aload_n 0, 1) := by decide +kernel
theorem dX4_cutSittings_25 : decode cX4_cutSittings 25 = .ok (.aload_n 1, 1) := by decide +kernel
theorem dX4_cutSittings_26 : decode cX4_cutSittings 26 = .ok (.getfield 121, 3) := by decide +kernel
theorem dX4_cutSittings_29 : decode cX4_cutSittings 29 = .ok (.iload_n 3, 1) := by decide +kernel
theorem dX4_cutSittings_30 : decode cX4_cutSittings 30 = .ok (.iconst 1, 1) := by decide +kernel
theorem dX4_cutSittings_31 : decode cX4_cutSittings 31 = .ok (.isub, 1) := by decide +kernel
theorem dX4_cutSittings_32 : decode cX4_cutSittings 32 = .ok (.iaload, 1) := by decide +kernel
theorem dX4_cutSittings_33 : decode cX4_cutSittings 33 = .ok (.iload 4, 2) := by decide +kernel
theorem dX4_cutSittings_35 : decode cX4_cutSittings 35 = .ok (.invokevirtual 193, 3) := by decide +kernel
theorem dX4_cutSittings_38 : decode cX4_cutSittings 38 = .ok (.ifCond .eq 6, 3) := by decide +kernel
theorem dX4_cutSittings_41 : decode cX4_cutSittings 41 = .ok (.iinc 2 1, 3) := by decide +kernel
theorem dX4_cutSittings_44 : decode cX4_cutSittings 44 = .ok (.aload_n 0, 1) := by decide +kernel
theorem dX4_cutSittings_45 : decode cX4_cutSittings 45 = .ok (.getfield 32, 3) := by decide +kernel
theorem dX4_cutSittings_48 : decode cX4_cutSittings 48 = .ok (.iload 4, 2) := by decide +kernel
theorem dX4_cutSittings_50 : decode cX4_cutSittings 50 = .ok (.iload_n 3, 1) := by decide +kernel
theorem dX4_cutSittings_51 : decode cX4_cutSittings 51 = .ok (.iastore, 1) := by decide +kernel
theorem dX4_cutSittings_52 : decode cX4_cutSittings 52 = .ok (.aload_n 0, 1) := by decide +kernel
theorem dX4_cutSittings_53 : decode cX4_cutSittings 53 = .ok (.getfield 35, 3) := by decide +kernel
theorem dX4_cutSittings_56 : decode cX4_cutSittings 56 = .ok (.iload 4, 2) := by decide +kernel
theorem dX4_cutSittings_58 : decode cX4_cutSittings 58 = .ok (.iload_n 2, 1) := by decide +kernel
theorem dX4_cutSittings_59 : decode cX4_cutSittings 59 = .ok (.iconst 1, 1) := by decide +kernel
theorem dX4_cutSittings_60 : decode cX4_cutSittings 60 = .ok (.isub, 1) := by decide +kernel
theorem dX4_cutSittings_61 : decode cX4_cutSittings 61 = .ok (.iastore, 1) := by decide +kernel
theorem dX4_cutSittings_62 : decode cX4_cutSittings 62 = .ok (.iinc 3 1, 3) := by decide +kernel
theorem dX4_cutSittings_65 : decode cX4_cutSittings 65 = .ok (.goto (-61), 3) := by decide +kernel
theorem dX4_cutSittings_68 : decode cX4_cutSittings 68 = .ok (.aload_n 1, 1) := by decide +kernel
theorem dX4_cutSittings_69 : decode cX4_cutSittings 69 = .ok (.iload_n 2, 1) := by decide +kernel
theorem dX4_cutSittings_70 : decode cX4_cutSittings 70 = .ok (.putfield 113, 3) := by decide +kernel
theorem dX4_cutSittings_73 : decode cX4_cutSittings 73 = .ok (.return_, 1) := by decide +kernel
theorem dX4_isCut_0 : decode cX4_isCut 0 = .ok (.aload_n 0, 1) := by decide +kernel
theorem dX4_isCut_1 : decode cX4_isCut 1 = .ok (.getfield 10, 3) := by decide +kernel
theorem dX4_isCut_4 : decode cX4_isCut 4 = .ok (.getfield 97, 3) := by decide +kernel
theorem dX4_isCut_7 : decode cX4_isCut 7 = .ok (.iload_n 1, 1) := by decide +kernel
theorem dX4_isCut_8 : decode cX4_isCut 8 = .ok (.iaload, 1) := by decide +kernel
theorem dX4_isCut_9 : decode cX4_isCut 9 = .ok (.istore_n 3, 1) := by decide +kernel
theorem dX4_isCut_10 : decode cX4_isCut 10 = .ok (.aload_n 0, 1) := by decide +kernel
theorem dX4_isCut_11 : decode cX4_isCut 11 = .ok (.getfield 10, 3) := by decide +kernel
theorem dX4_isCut_14 : decode cX4_isCut 14 = .ok (.getfield 97, 3) := by decide +kernel
theorem dX4_isCut_17 : decode cX4_isCut 17 = .ok (.iload_n 2, 1) := by decide +kernel
theorem dX4_isCut_18 : decode cX4_isCut 18 = .ok (.iaload, 1) := by decide +kernel
theorem dX4_isCut_19 : decode cX4_isCut 19 = .ok (.istore 4, 2) := by decide +kernel
theorem dX4_isCut_21 : decode cX4_isCut 21 = .ok (.iload 4, 2) := by decide +kernel
theorem dX4_isCut_23 : decode cX4_isCut 23 = .ok (.iload_n 3, 1) := by decide +kernel
theorem dX4_isCut_24 : decode cX4_isCut 24 = .ok (.isub, 1) := by decide +kernel
theorem dX4_isCut_25 : decode cX4_isCut 25 = .ok (.aload_n 0, 1) := by decide +kernel
theorem dX4_isCut_26 : decode cX4_isCut 26 = .ok (.getfield 29, 3) := by decide +kernel
theorem dX4_isCut_29 : decode cX4_isCut 29 = .ok (.iconst 0, 1) := by decide +kernel
theorem dX4_isCut_30 : decode cX4_isCut 30 = .ok (.iaload, 1) := by decide +kernel
theorem dX4_isCut_31 : decode cX4_isCut 31 = .ok (.if_icmp .gt 45, 3) := by decide +kernel
theorem dX4_isCut_34 : decode cX4_isCut 34 = .ok (.aload_n 0, 1) := by decide +kernel
theorem dX4_isCut_35 : decode cX4_isCut 35 = .ok (.getfield 29, 3) := by decide +kernel
theorem dX4_isCut_38 : decode cX4_isCut 38 = .ok (.iconst 1, 1) := by decide +kernel
theorem dX4_isCut_39 : decode cX4_isCut 39 = .ok (.iaload, 1) := by decide +kernel
theorem dX4_isCut_40 : decode cX4_isCut 40 = .ok (.iconst 1, 1) := by decide +kernel
theorem dX4_isCut_41 : decode cX4_isCut 41 = .ok (.if_icmp .ne 17, 3) := by decide +kernel
theorem dX4_isCut_44 : decode cX4_isCut 44 = .ok (.iload 4, 2) := by decide +kernel
theorem dX4_isCut_46 : decode cX4_isCut 46 = .ok (.sipush 1440, 3) := by decide +kernel
theorem dX4_isCut_49 : decode cX4_isCut 49 = .ok (.idiv, 1) := by decide +kernel
theorem dX4_isCut_50 : decode cX4_isCut 50 = .ok (.iload_n 3, 1) := by decide +kernel
theorem dX4_isCut_51 : decode cX4_isCut 51 = .ok (.sipush 1440, 3) := by decide +kernel
theorem dX4_isCut_54 : decode cX4_isCut 54 = .ok (.idiv, 1) := by decide +kernel
theorem dX4_isCut_55 : decode cX4_isCut 55 = .ok (.if_icmp .ne 21, 3) := by decide +kernel
theorem dX4_isCut_58 : decode cX4_isCut 58 = .ok (.aload_n 0, 1) := by decide +kernel
theorem dX4_isCut_59 : decode cX4_isCut 59 = .ok (.getfield 10, 3) := by decide +kernel
theorem dX4_isCut_62 : decode cX4_isCut 62 = .ok (.getfield 103, 3) := by decide +kernel
theorem dX4_isCut_65 : decode cX4_isCut 65 = .ok (.iload_n 1, 1) := by decide +kernel
theorem dX4_isCut_66 : decode cX4_isCut 66 = .ok (.iaload, 1) := by decide +kernel
theorem dX4_isCut_67 : decode cX4_isCut 67 = .ok (.aload_n 0, 1) := by decide +kernel
theorem dX4_isCut_68 : decode cX4_isCut 68 = .ok (.getfield 29, 3) := by decide +kernel
theorem dX4_isCut_71 : decode cX4_isCut 71 = .ok (.iconst 2, 1) := by decide +kernel
theorem dX4_isCut_72 : decode cX4_isCut 72 = .ok (.iaload, 1) := by decide +kernel
theorem dX4_isCut_73 : decode cX4_isCut 73 = .ok (.if_icmp .ne 7, 3) := by decide +kernel
theorem dX4_isCut_76 : decode cX4_isCut 76 = .ok (.iconst 1, 1) := by decide +kernel
theorem dX4_isCut_77 : decode cX4_isCut 77 = .ok (.goto 4, 3) := by decide +kernel
theorem dX4_isCut_80 : decode cX4_isCut 80 = .ok (.iconst 0, 1) := by decide +kernel
theorem dX4_isCut_81 : decode cX4_isCut 81 = .ok (.ireturn, 1) := by decide +kernel
theorem dX4_countingClicks_0 : decode cX4_countingClicks 0 = .ok (.iconst 0, 1) := by decide +kernel
theorem dX4_countingClicks_1 : decode cX4_countingClicks 1 = .ok (.istore_n 1, 1) := by decide +kernel
theorem dX4_countingClicks_2 : decode cX4_countingClicks 2 = .ok (.iconst 0, 1) := by decide +kernel
theorem dX4_countingClicks_3 : decode cX4_countingClicks 3 = .ok (.istore_n 2, 1) := by decide +kernel
theorem dX4_countingClicks_4 : decode cX4_countingClicks 4 = .ok (.iload_n 2, 1) := by decide +kernel
theorem dX4_countingClicks_5 : decode cX4_countingClicks 5 = .ok (.bipush 24, 2) := by decide +kernel
theorem dX4_countingClicks_7 : decode cX4_countingClicks 7 = .ok (.if_icmp .ge 21, 3) := by decide +kernel
theorem dX4_countingClicks_10 : decode cX4_countingClicks 10 = .ok (.iload_n 1, 1) := by decide +kernel
theorem dX4_countingClicks_11 : decode cX4_countingClicks 11 = .ok (.aload_n 0, 1) := by decide +kernel
theorem dX4_countingClicks_12 : decode cX4_countingClicks 12 = .ok (.getfield 22, 3) := by decide +kernel
theorem dX4_countingClicks_15 : decode cX4_countingClicks 15 = .ok (.iload_n 2, 1) := by decide +kernel
theorem dX4_countingClicks_16 : decode cX4_countingClicks 16 = .ok (.aaload, 1) := by decide +kernel
theorem dX4_countingClicks_17 : decode cX4_countingClicks 17 = .ok (.getfield 106, 3) := by decide +kernel
theorem dX4_countingClicks_20 : decode cX4_countingClicks 20 = .ok (.iadd, 1) := by decide +kernel
theorem dX4_countingClicks_21 : decode cX4_countingClicks 21 = .ok (.istore_n 1, 1) := by decide +kernel
theorem dX4_countingClicks_22 : decode cX4_countingClicks 22 = .ok (.iinc 2 1, 3) := by decide +kernel
theorem dX4_countingClicks_25 : decode cX4_countingClicks 25 = .ok (.goto (-21), 3) := by decide +kernel
theorem dX4_countingClicks_28 : decode cX4_countingClicks 28 = .ok (.iload_n 1, 1) := by decide +kernel
theorem dX4_countingClicks_29 : decode cX4_countingClicks 29 = .ok (.ireturn, 1) := by decide +kernel
theorem dX4_allSittings_0 : decode cX4_allSittings 0 = .ok (.iconst 0, 1) := by decide +kernel
theorem dX4_allSittings_1 : decode cX4_allSittings 1 = .ok (.istore_n 1, 1) := by decide +kernel
theorem dX4_allSittings_2 : decode cX4_allSittings 2 = .ok (.iconst 0, 1) := by decide +kernel
theorem dX4_allSittings_3 : decode cX4_allSittings 3 = .ok (.istore_n 2, 1) := by decide +kernel
theorem dX4_allSittings_4 : decode cX4_allSittings 4 = .ok (.iload_n 2, 1) := by decide +kernel
theorem dX4_allSittings_5 : decode cX4_allSittings 5 = .ok (.bipush 24, 2) := by decide +kernel
theorem dX4_allSittings_7 : decode cX4_allSittings 7 = .ok (.if_icmp .ge 21, 3) := by decide +kernel
theorem dX4_allSittings_10 : decode cX4_allSittings 10 = .ok (.iload_n 1, 1) := by decide +kernel
theorem dX4_allSittings_11 : decode cX4_allSittings 11 = .ok (.aload_n 0, 1) := by decide +kernel
theorem dX4_allSittings_12 : decode cX4_allSittings 12 = .ok (.getfield 22, 3) := by decide +kernel
theorem dX4_allSittings_15 : decode cX4_allSittings 15 = .ok (.iload_n 2, 1) := by decide +kernel
theorem dX4_allSittings_16 : decode cX4_allSittings 16 = .ok (.aaload, 1) := by decide +kernel
theorem dX4_allSittings_17 : decode cX4_allSittings 17 = .ok (.getfield 113, 3) := by decide +kernel
theorem dX4_allSittings_20 : decode cX4_allSittings 20 = .ok (.iadd, 1) := by decide +kernel
theorem dX4_allSittings_21 : decode cX4_allSittings 21 = .ok (.istore_n 1, 1) := by decide +kernel
theorem dX4_allSittings_22 : decode cX4_allSittings 22 = .ok (.iinc 2 1, 3) := by decide +kernel
theorem dX4_allSittings_25 : decode cX4_allSittings 25 = .ok (.goto (-21), 3) := by decide +kernel
theorem dX4_allSittings_28 : decode cX4_allSittings 28 = .ok (.iload_n 1, 1) := by decide +kernel
theorem dX4_allSittings_29 : decode cX4_allSittings 29 = .ok (.ireturn, 1) := by decide +kernel
theorem dX4_presentPersons_0 : decode cX4_presentPersons 0 = .ok (.iconst 0, 1) := by decide +kernel
theorem dX4_presentPersons_1 : decode cX4_presentPersons 1 = .ok (.istore_n 1, 1) := by decide +kernel
theorem dX4_presentPersons_2 : decode cX4_presentPersons 2 = .ok (.iconst 0, 1) := by decide +kernel
theorem dX4_presentPersons_3 : decode cX4_presentPersons 3 = .ok (.istore_n 2, 1) := by decide +kernel
theorem dX4_presentPersons_4 : decode cX4_presentPersons 4 = .ok (.iload_n 2, 1) := by decide +kernel
theorem dX4_presentPersons_5 : decode cX4_presentPersons 5 = .ok (.bipush 24, 2) := by decide +kernel
theorem dX4_presentPersons_7 : decode cX4_presentPersons 7 = .ok (.if_icmp .ge 32, 3) := by decide +kernel
theorem dX4_presentPersons_10 : decode cX4_presentPersons 10 = .ok (.iload_n 1, 1) := by decide +kernel
theorem dX4_presentPersons_11 : decode cX4_presentPersons 11 = .ok (.aload_n 0, 1) := by decide +kernel
theorem dX4_presentPersons_12 : decode cX4_presentPersons 12 = .ok (.getfield 22, 3) := by decide +kernel
theorem dX4_presentPersons_15 : decode cX4_presentPersons 15 = .ok (.iload_n 2, 1) := by decide +kernel
theorem dX4_presentPersons_16 : decode cX4_presentPersons 16 = .ok (.aaload, 1) := by decide +kernel
theorem dX4_presentPersons_17 : decode cX4_presentPersons 17 = .ok (.getfield 106, 3) := by decide +kernel
theorem dX4_presentPersons_20 : decode cX4_presentPersons 20 = .ok (.ifCond .le 7, 3) := by decide +kernel
theorem dX4_presentPersons_23 : decode cX4_presentPersons 23 = .ok (.iconst 1, 1) := by decide +kernel
theorem dX4_presentPersons_24 : decode cX4_presentPersons 24 = .ok (.goto 4, 3) := by decide +kernel
theorem dX4_presentPersons_27 : decode cX4_presentPersons 27 = .ok (.iconst 0, 1) := by decide +kernel
theorem dX4_presentPersons_28 : decode cX4_presentPersons 28 = .ok (.invokestatic 78, 3) := by decide +kernel
theorem dX4_presentPersons_31 : decode cX4_presentPersons 31 = .ok (.iadd, 1) := by decide +kernel
theorem dX4_presentPersons_32 : decode cX4_presentPersons 32 = .ok (.istore_n 1, 1) := by decide +kernel
theorem dX4_presentPersons_33 : decode cX4_presentPersons 33 = .ok (.iinc 2 1, 3) := by decide +kernel
theorem dX4_presentPersons_36 : decode cX4_presentPersons 36 = .ok (.goto (-32), 3) := by decide +kernel
theorem dX4_presentPersons_39 : decode cX4_presentPersons 39 = .ok (.iload_n 1, 1) := by decide +kernel
theorem dX4_presentPersons_40 : decode cX4_presentPersons 40 = .ok (.ireturn, 1) := by decide +kernel
theorem dX4_quickPersons_0 : decode cX4_quickPersons 0 = .ok (.iconst 0, 1) := by decide +kernel
theorem dX4_quickPersons_1 : decode cX4_quickPersons 1 = .ok (.istore_n 1, 1) := by decide +kernel
theorem dX4_quickPersons_2 : decode cX4_quickPersons 2 = .ok (.iconst 0, 1) := by decide +kernel
theorem dX4_quickPersons_3 : decode cX4_quickPersons 3 = .ok (.istore_n 2, 1) := by decide +kernel
theorem dX4_quickPersons_4 : decode cX4_quickPersons 4 = .ok (.iload_n 2, 1) := by decide +kernel
theorem dX4_quickPersons_5 : decode cX4_quickPersons 5 = .ok (.bipush 24, 2) := by decide +kernel
theorem dX4_quickPersons_7 : decode cX4_quickPersons 7 = .ok (.if_icmp .ge 24, 3) := by decide +kernel
theorem dX4_quickPersons_10 : decode cX4_quickPersons 10 = .ok (.iload_n 1, 1) := by decide +kernel
theorem dX4_quickPersons_11 : decode cX4_quickPersons 11 = .ok (.aload_n 0, 1) := by decide +kernel
theorem dX4_quickPersons_12 : decode cX4_quickPersons 12 = .ok (.getfield 22, 3) := by decide +kernel
theorem dX4_quickPersons_15 : decode cX4_quickPersons 15 = .ok (.iload_n 2, 1) := by decide +kernel
theorem dX4_quickPersons_16 : decode cX4_quickPersons 16 = .ok (.aaload, 1) := by decide +kernel
theorem dX4_quickPersons_17 : decode cX4_quickPersons 17 = .ok (.getfield 109, 3) := by decide +kernel
theorem dX4_quickPersons_20 : decode cX4_quickPersons 20 = .ok (.invokestatic 78, 3) := by decide +kernel
theorem dX4_quickPersons_23 : decode cX4_quickPersons 23 = .ok (.iadd, 1) := by decide +kernel
theorem dX4_quickPersons_24 : decode cX4_quickPersons 24 = .ok (.istore_n 1, 1) := by decide +kernel
theorem dX4_quickPersons_25 : decode cX4_quickPersons 25 = .ok (.iinc 2 1, 3) := by decide +kernel
theorem dX4_quickPersons_28 : decode cX4_quickPersons 28 = .ok (.goto (-24), 3) := by decide +kernel
theorem dX4_quickPersons_31 : decode cX4_quickPersons 31 = .ok (.iload_n 1, 1) := by decide +kernel
theorem dX4_quickPersons_32 : decode cX4_quickPersons 32 = .ok (.ireturn, 1) := by decide +kernel
theorem dX4_joinedMarks_0 : decode cX4_joinedMarks 0 = .ok (.iconst 0, 1) := by decide +kernel
theorem dX4_joinedMarks_1 : decode cX4_joinedMarks 1 = .ok (.istore_n 1, 1) := by decide +kernel
theorem dX4_joinedMarks_2 : decode cX4_joinedMarks 2 = .ok (.iconst 0, 1) := by decide +kernel
theorem dX4_joinedMarks_3 : decode cX4_joinedMarks 3 = .ok (.istore_n 2, 1) := by decide +kernel
theorem dX4_joinedMarks_4 : decode cX4_joinedMarks 4 = .ok (.iload_n 2, 1) := by decide +kernel
theorem dX4_joinedMarks_5 : decode cX4_joinedMarks 5 = .ok (.bipush 24, 2) := by decide +kernel
theorem dX4_joinedMarks_7 : decode cX4_joinedMarks 7 = .ok (.if_icmp .ge 20, 3) := by decide +kernel
theorem dX4_joinedMarks_10 : decode cX4_joinedMarks 10 = .ok (.iload_n 1, 1) := by decide +kernel
theorem dX4_joinedMarks_11 : decode cX4_joinedMarks 11 = .ok (.aload_n 0, 1) := by decide +kernel
theorem dX4_joinedMarks_12 : decode cX4_joinedMarks 12 = .ok (.iload_n 2, 1) := by decide +kernel
theorem dX4_joinedMarks_13 : decode cX4_joinedMarks 13 = .ok (.invokevirtual 85, 3) := by decide +kernel
theorem dX4_joinedMarks_16 : decode cX4_joinedMarks 16 = .ok (.invokestatic 78, 3) := by decide +kernel
theorem dX4_joinedMarks_19 : decode cX4_joinedMarks 19 = .ok (.iadd, 1) := by decide +kernel
theorem dX4_joinedMarks_20 : decode cX4_joinedMarks 20 = .ok (.istore_n 1, 1) := by decide +kernel
theorem dX4_joinedMarks_21 : decode cX4_joinedMarks 21 = .ok (.iinc 2 1, 3) := by decide +kernel
theorem dX4_joinedMarks_24 : decode cX4_joinedMarks 24 = .ok (.goto (-20), 3) := by decide +kernel
theorem dX4_joinedMarks_27 : decode cX4_joinedMarks 27 = .ok (.iload_n 1, 1) := by decide +kernel
theorem dX4_joinedMarks_28 : decode cX4_joinedMarks 28 = .ok (.ireturn, 1) := by decide +kernel
end
section
theorem dX5_init_0 : decode cX5_init 0 = .ok (.aload_n 0, 1) := by decide +kernel
theorem dX5_init_1 : decode cX5_init 1 = .ok (.invokespecial 1, 3) := by decide +kernel
theorem dX5_init_4 : decode cX5_init 4 = .ok (.aload_n 0, 1) := by decide +kernel
theorem dX5_init_5 : decode cX5_init 5 = .ok (.bipush 120, 2) := by decide +kernel
theorem dX5_init_7 : decode cX5_init 7 = .ok (.newarray .int, 2) := by decide +kernel
theorem dX5_init_9 : decode cX5_init 9 = .ok (.putfield 7, 3) := by decide +kernel
theorem dX5_init_12 : decode cX5_init 12 = .ok (.aload_n 0, 1) := by decide +kernel
theorem dX5_init_13 : decode cX5_init 13 = .ok (.bipush 120, 2) := by decide +kernel
theorem dX5_init_15 : decode cX5_init 15 = .ok (.newarray .int, 2) := by decide +kernel
theorem dX5_init_17 : decode cX5_init 17 = .ok (.putfield 13, 3) := by decide +kernel
theorem dX5_init_20 : decode cX5_init 20 = .ok (.aload_n 0, 1) := by decide +kernel
theorem dX5_init_21 : decode cX5_init 21 = .ok (.bipush 120, 2) := by decide +kernel
theorem dX5_init_23 : decode cX5_init 23 = .ok (.newarray .int, 2) := by decide +kernel
theorem dX5_init_25 : decode cX5_init 25 = .ok (.putfield 16, 3) := by decide +kernel
theorem dX5_init_28 : decode cX5_init 28 = .ok (.aload_n 0, 1) := by decide +kernel
theorem dX5_init_29 : decode cX5_init 29 = .ok (.bipush 120, 2) := by decide +kernel
theorem dX5_init_31 : decode cX5_init 31 = .ok (.newarray .boolean, 2) := by decide +kernel
theorem dX5_init_33 : decode cX5_init 33 = .ok (.putfield 19, 3) := by decide +kernel
theorem dX5_init_36 : decode cX5_init 36 = .ok (.aload_n 0, 1) := by decide +kernel
theorem dX5_init_37 : decode cX5_init 37 = .ok (.bipush 24, 2) := by decide +kernel
theorem dX5_init_39 : decode cX5_init 39 = .ok (.newarray .int, 2) := by decide +kernel
theorem dX5_init_41 : decode cX5_init 41 = .ok (.putfield 23, 3) := by decide +kernel
theorem dX5_init_44 : decode cX5_init 44 = .ok (.aload_n 0, 1) := by decide +kernel
theorem dX5_init_45 : decode cX5_init 45 = .ok (.bipush 6, 2) := by decide +kernel
theorem dX5_init_47 : decode cX5_init 47 = .ok (.newarray .int, 2) := by decide +kernel
theorem dX5_init_49 : decode cX5_init 49 = .ok (.putfield 26, 3) := by decide +kernel
theorem dX5_init_52 : decode cX5_init 52 = .ok (.aload_n 0, 1) := by decide +kernel
theorem dX5_init_53 : decode cX5_init 53 = .ok (.bipush 6, 2) := by decide +kernel
theorem dX5_init_55 : decode cX5_init 55 = .ok (.newarray .boolean, 2) := by decide +kernel
theorem dX5_init_57 : decode cX5_init 57 = .ok (.putfield 29, 3) := by decide +kernel
theorem dX5_init_60 : decode cX5_init 60 = .ok (.aload_n 0, 1) := by decide +kernel
theorem dX5_init_61 : decode cX5_init 61 = .ok (.bipush 6, 2) := by decide +kernel
theorem dX5_init_63 : decode cX5_init 63 = .ok (.newarray .int, 2) := by decide +kernel
theorem dX5_init_65 : decode cX5_init 65 = .ok (.putfield 32, 3) := by decide +kernel
theorem dX5_init_68 : decode cX5_init 68 = .ok (.aload_n 0, 1) := by decide +kernel
theorem dX5_init_69 : decode cX5_init 69 = .ok (.bipush 6, 2) := by decide +kernel
theorem dX5_init_71 : decode cX5_init 71 = .ok (.newarray .int, 2) := by decide +kernel
theorem dX5_init_73 : decode cX5_init 73 = .ok (.putfield 35, 3) := by decide +kernel
theorem dX5_init_76 : decode cX5_init 76 = .ok (.aload_n 0, 1) := by decide +kernel
theorem dX5_init_77 : decode cX5_init 77 = .ok (.bipush 6, 2) := by decide +kernel
theorem dX5_init_79 : decode cX5_init 79 = .ok (.newarray .int, 2) := by decide +kernel
theorem dX5_init_81 : decode cX5_init 81 = .ok (.putfield 38, 3) := by decide +kernel
theorem dX5_init_84 : decode cX5_init 84 = .ok (.aload_n 0, 1) := by decide +kernel
theorem dX5_init_85 : decode cX5_init 85 = .ok (.bipush 24, 2) := by decide +kernel
theorem dX5_init_87 : decode cX5_init 87 = .ok (.newarray .int, 2) := by decide +kernel
theorem dX5_init_89 : decode cX5_init 89 = .ok (.putfield 41, 3) := by decide +kernel
theorem dX5_init_92 : decode cX5_init 92 = .ok (.aload_n 0, 1) := by decide +kernel
theorem dX5_init_93 : decode cX5_init 93 = .ok (.bipush 120, 2) := by decide +kernel
theorem dX5_init_95 : decode cX5_init 95 = .ok (.newarray .int, 2) := by decide +kernel
theorem dX5_init_97 : decode cX5_init 97 = .ok (.putfield 44, 3) := by decide +kernel
theorem dX5_init_100 : decode cX5_init 100 = .ok (.aload_n 0, 1) := by decide +kernel
theorem dX5_init_101 : decode cX5_init 101 = .ok (.bipush 120, 2) := by decide +kernel
theorem dX5_init_103 : decode cX5_init 103 = .ok (.newarray .int, 2) := by decide +kernel
theorem dX5_init_105 : decode cX5_init 105 = .ok (.putfield 47, 3) := by decide +kernel
theorem dX5_init_108 : decode cX5_init 108 = .ok (.aload_n 0, 1) := by decide +kernel
theorem dX5_init_109 : decode cX5_init 109 = .ok (.bipush 8, 2) := by decide +kernel
theorem dX5_init_111 : decode cX5_init 111 = .ok (.newarray .int, 2) := by decide +kernel
theorem dX5_init_113 : decode cX5_init 113 = .ok (.putfield 50, 3) := by decide +kernel
theorem dX5_init_116 : decode cX5_init 116 = .ok (.aload_n 0, 1) := by decide +kernel
theorem dX5_init_117 : decode cX5_init 117 = .ok (.bipush 120, 2) := by decide +kernel
theorem dX5_init_119 : decode cX5_init 119 = .ok (.newarray .int, 2) := by decide +kernel
theorem dX5_init_121 : decode cX5_init 121 = .ok (.putfield 53, 3) := by decide +kernel
theorem dX5_init_124 : decode cX5_init 124 = .ok (.aload_n 0, 1) := by decide +kernel
theorem dX5_init_125 : decode cX5_init 125 = .ok (.bipush 120, 2) := by decide +kernel
theorem dX5_init_127 : decode cX5_init 127 = .ok (.newarray .int, 2) := by decide +kernel
theorem dX5_init_129 : decode cX5_init 129 = .ok (.putfield 56, 3) := by decide +kernel
theorem dX5_init_132 : decode cX5_init 132 = .ok (.iconst 0, 1) := by decide +kernel
theorem dX5_init_133 : decode cX5_init 133 = .ok (.istore_n 1, 1) := by decide +kernel
theorem dX5_init_134 : decode cX5_init 134 = .ok (.iload_n 1, 1) := by decide +kernel
theorem dX5_init_135 : decode cX5_init 135 = .ok (.bipush 24, 2) := by decide +kernel
theorem dX5_init_137 : decode cX5_init 137 = .ok (.if_icmp .ge 16, 3) := by decide +kernel
theorem dX5_init_140 : decode cX5_init 140 = .ok (.aload_n 0, 1) := by decide +kernel
theorem dX5_init_141 : decode cX5_init 141 = .ok (.getfield 23, 3) := by decide +kernel
theorem dX5_init_144 : decode cX5_init 144 = .ok (.iload_n 1, 1) := by decide +kernel
theorem dX5_init_145 : decode cX5_init 145 = .ok (.iconst (-1), 1) := by decide +kernel
theorem dX5_init_146 : decode cX5_init 146 = .ok (.iastore, 1) := by decide +kernel
theorem dX5_init_147 : decode cX5_init 147 = .ok (.iinc 1 1, 3) := by decide +kernel
theorem dX5_init_150 : decode cX5_init 150 = .ok (.goto (-16), 3) := by decide +kernel
theorem dX5_init_153 : decode cX5_init 153 = .ok (.aload_n 0, 1) := by decide +kernel
theorem dX5_init_154 : decode cX5_init 154 = .ok (.getfield 26, 3) := by decide +kernel
theorem dX5_init_157 : decode cX5_init 157 = .ok (.iconst 0, 1) := by decide +kernel
theorem dX5_init_158 : decode cX5_init 158 = .ok (.bipush 30, 2) := by decide +kernel
theorem dX5_init_160 : decode cX5_init 160 = .ok (.iastore, 1) := by decide +kernel
theorem dX5_init_161 : decode cX5_init 161 = .ok (.aload_n 0, 1) := by decide +kernel
theorem dX5_init_162 : decode cX5_init 162 = .ok (.getfield 26, 3) := by decide +kernel
theorem dX5_init_165 : decode cX5_init 165 = .ok (.iconst 2, 1) := by decide +kernel
theorem dX5_init_166 : decode cX5_init 166 = .ok (.iconst (-1), 1) := by decide +kernel
theorem dX5_init_167 : decode cX5_init 167 = .ok (.iastore, 1) := by decide +kernel
theorem dX5_init_168 : decode cX5_init 168 = .ok (.aload_n 0, 1) := by decide +kernel
theorem dX5_init_169 : decode cX5_init 169 = .ok (.getfield 26, 3) := by decide +kernel
theorem dX5_init_172 : decode cX5_init 172 = .ok (.iconst 4, 1) := by decide +kernel
theorem dX5_init_173 : decode cX5_init 173 = .ok (.iconst 1, 1) := by decide +kernel
theorem dX5_init_174 : decode cX5_init 174 = .ok (.iastore, 1) := by decide +kernel
theorem dX5_init_175 : decode cX5_init 175 = .ok (.return_, 1) := by decide +kernel
theorem dX5_in_0 : decode cX5_in 0 = .ok (.lload_n 0, 1) := by decide +kernel
theorem dX5_in_1 : decode cX5_in 1 = .ok (.lload_n 2, 1) := by decide +kernel
theorem dX5_in_2 : decode cX5_in 2 = .ok (.lcmp, 1) := by decide +kernel
theorem dX5_in_3 : decode cX5_in 3 = .ok (.ifCond .lt 14, 3) := by decide +kernel
theorem dX5_in_6 : decode cX5_in 6 = .ok (.lload_n 0, 1) := by decide +kernel
theorem dX5_in_7 : decode cX5_in 7 = .ok (.lload 4, 2) := by decide +kernel
theorem dX5_in_9 : decode cX5_in 9 = .ok (.lcmp, 1) := by decide +kernel
theorem dX5_in_10 : decode cX5_in 10 = .ok (.ifCond .gt 7, 3) := by decide +kernel
theorem dX5_in_13 : decode cX5_in 13 = .ok (.iconst 1, 1) := by decide +kernel
theorem dX5_in_14 : decode cX5_in 14 = .ok (.goto 4, 3) := by decide +kernel
theorem dX5_in_17 : decode cX5_in 17 = .ok (.iconst 0, 1) := by decide +kernel
theorem dX5_in_18 : decode cX5_in 18 = .ok (.ireturn, 1) := by decide +kernel
theorem dX5_isWho_0 : decode cX5_isWho 0 = .ok (.iload_n 0, 1) := by decide +kernel
theorem dX5_isWho_1 : decode cX5_isWho 1 = .ok (.i2l, 1) := by decide +kernel
theorem dX5_isWho_2 : decode cX5_isWho 2 = .ok (.lconst 0, 1) := by decide +kernel
theorem dX5_isWho_3 : decode cX5_isWho 3 = .ok (.ldc2_w 59, 3) := by decide +kernel
theorem dX5_isWho_6 : decode cX5_isWho 6 = .ok (.invokestatic 61, 3) := by decide +kernel
theorem dX5_isWho_9 : decode cX5_isWho 9 = .ok (.ireturn, 1) := by decide +kernel
theorem dX5_isClick_0 : decode cX5_isClick 0 = .ok (.iload_n 1, 1) := by decide +kernel
theorem dX5_isClick_1 : decode cX5_isClick 1 = .ok (.i2l, 1) := by decide +kernel
theorem dX5_isClick_2 : decode cX5_isClick 2 = .ok (.lconst 0, 1) := by decide +kernel
theorem dX5_isClick_3 : decode cX5_isClick 3 = .ok (.aload_n 0, 1) := by decide +kernel
theorem dX5_isClick_4 : decode cX5_isClick 4 = .ok (.getfield 65, 3) := by decide +kernel
theorem dX5_isClick_7 : decode cX5_isClick 7 = .ok (.iconst 1, 1) := by decide +kernel
theorem dX5_isClick_8 : decode cX5_isClick 8 = .ok (.isub, 1) := by decide +kernel
theorem dX5_isClick_9 : decode cX5_isClick 9 = .ok (.i2l, 1) := by decide +kernel
theorem dX5_isClick_10 : decode cX5_isClick 10 = .ok (.invokestatic 61, 3) := by decide +kernel
theorem dX5_isClick_13 : decode cX5_isClick 13 = .ok (.ireturn, 1) := by decide +kernel
theorem dX5_personOf_0 : decode cX5_personOf 0 = .ok (.aload_n 0, 1) := by decide +kernel
theorem dX5_personOf_1 : decode cX5_personOf 1 = .ok (.getfield 23, 3) := by decide +kernel
theorem dX5_personOf_4 : decode cX5_personOf 4 = .ok (.iload_n 1, 1) := by decide +kernel
theorem dX5_personOf_5 : decode cX5_personOf 5 = .ok (.iaload, 1) := by decide +kernel
theorem dX5_personOf_6 : decode cX5_personOf 6 = .ok (.ifCond .lt 12, 3) := by decide +kernel
theorem dX5_personOf_9 : decode cX5_personOf 9 = .ok (.aload_n 0, 1) := by decide +kernel
theorem dX5_personOf_10 : decode cX5_personOf 10 = .ok (.getfield 23, 3) := by decide +kernel
theorem dX5_personOf_13 : decode cX5_personOf 13 = .ok (.iload_n 1, 1) := by decide +kernel
theorem dX5_personOf_14 : decode cX5_personOf 14 = .ok (.iaload, 1) := by decide +kernel
theorem dX5_personOf_15 : decode cX5_personOf 15 = .ok (.goto 4, 3) := by decide +kernel
theorem dX5_personOf_18 : decode cX5_personOf 18 = .ok (.iload_n 1, 1) := by decide +kernel
theorem dX5_personOf_19 : decode cX5_personOf 19 = .ok (.ireturn, 1) := by decide +kernel
theorem dX5_click_0 : decode cX5_click 0 = .ok (.iload_n 2, 1) := by decide +kernel
theorem dX5_click_1 : decode cX5_click 1 = .ok (.invokestatic 69, 3) := by decide +kernel
theorem dX5_click_4 : decode cX5_click 4 = .ok (.ifCond .ne 7, 3) := by decide +kernel
theorem dX5_click_7 : decode cX5_click 7 = .ok (.sipush (-1001), 3) := by decide +kernel
theorem dX5_click_10 : decode cX5_click 10 = .ok (.ireturn, 1) := by decide +kernel
theorem dX5_click_11 : decode cX5_click 11 = .ok (.iload_n 1, 1) := by decide +kernel
theorem dX5_click_12 : decode cX5_click 12 = .ok (.i2l, 1) := by decide +kernel
theorem dX5_click_13 : decode cX5_click 13 = .ok (.lconst 0, 1) := by decide +kernel
theorem dX5_click_14 : decode cX5_click 14 = .ok (.ldc2_w 73, 3) := by decide +kernel
theorem dX5_click_17 : decode cX5_click 17 = .ok (.invokestatic 61, 3) := by decide +kernel
theorem dX5_click_20 : decode cX5_click 20 = .ok (.ifCond .eq 15, 3) := by decide +kernel
theorem dX5_click_23 : decode cX5_click 23 = .ok (.iload_n 3, 1) := by decide +kernel
theorem dX5_click_24 : decode cX5_click 24 = .ok (.i2l, 1) := by decide +kernel
theorem dX5_click_25 : decode cX5_click 25 = .ok (.lconst 0, 1) := by decide +kernel
theorem dX5_click_26 : decode cX5_click 26 = .ok (.ldc2_w 75, 3) := by decide +kernel
theorem dX5_click_29 : decode cX5_click 29 = .ok (.invokestatic 61, 3) := by decide +kernel
theorem dX5_click_32 : decode cX5_click 32 = .ok (.ifCond .ne 7, 3) := by decide +kernel
theorem dX5_click_35 : decode cX5_click 35 = .ok (.sipush (-1002), 3) := by decide +kernel
theorem dX5_click_38 : decode cX5_click 38 = .ok (.ireturn, 1) := by decide +kernel
theorem dX5_click_39 : decode cX5_click 39 = .ok (.aload_n 0, 1) := by decide +kernel
theorem dX5_click_40 : decode cX5_click 40 = .ok (.getfield 65, 3) := by decide +kernel
theorem dX5_click_43 : decode cX5_click 43 = .ok (.bipush 120, 2) := by decide +kernel
theorem dX5_click_45 : decode cX5_click 45 = .ok (.if_icmp .ne 7, 3) := by decide +kernel
theorem dX5_click_48 : decode cX5_click 48 = .ok (.sipush (-1004), 3) := by decide +kernel
theorem dX5_click_51 : decode cX5_click 51 = .ok (.ireturn, 1) := by decide +kernel
theorem dX5_click_52 : decode cX5_click 52 = .ok (.aload_n 0, 1) := by decide +kernel
theorem dX5_click_53 : decode cX5_click 53 = .ok (.getfield 7, 3) := by decide +kernel
theorem dX5_click_56 : decode cX5_click 56 = .ok (.aload_n 0, 1) := by decide +kernel
theorem dX5_click_57 : decode cX5_click 57 = .ok (.getfield 65, 3) := by decide +kernel
theorem dX5_click_60 : decode cX5_click 60 = .ok (.iload_n 1, 1) := by decide +kernel
theorem dX5_click_61 : decode cX5_click 61 = .ok (.iastore, 1) := by decide +kernel
theorem dX5_click_62 : decode cX5_click 62 = .ok (.aload_n 0, 1) := by decide +kernel
theorem dX5_click_63 : decode cX5_click 63 = .ok (.getfield 13, 3) := by decide +kernel
theorem dX5_click_66 : decode cX5_click 66 = .ok (.aload_n 0, 1) := by decide +kernel
theorem dX5_click_67 : decode cX5_click 67 = .ok (.getfield 65, 3) := by decide +kernel
theorem dX5_click_70 : decode cX5_click 70 = .ok (.iload_n 2, 1) := by decide +kernel
theorem dX5_click_71 : decode cX5_click 71 = .ok (.iastore, 1) := by decide +kernel
theorem dX5_click_72 : decode cX5_click 72 = .ok (.aload_n 0, 1) := by decide +kernel
theorem dX5_click_73 : decode cX5_click 73 = .ok (.getfield 16, 3) := by decide +kernel
theorem dX5_click_76 : decode cX5_click 76 = .ok (.aload_n 0, 1) := by decide +kernel
theorem dX5_click_77 : decode cX5_click 77 = .ok (.getfield 65, 3) := by decide +kernel
theorem dX5_click_80 : decode cX5_click 80 = .ok (.iload_n 3, 1) := by decide +kernel
theorem dX5_click_81 : decode cX5_click 81 = .ok (.iastore, 1) := by decide +kernel
theorem dX5_click_82 : decode cX5_click 82 = .ok (.aload_n 0, 1) := by decide +kernel
theorem dX5_click_83 : decode cX5_click 83 = .ok (.getfield 19, 3) := by decide +kernel
theorem dX5_click_86 : decode cX5_click 86 = .ok (.aload_n 0, 1) := by decide +kernel
theorem dX5_click_87 : decode cX5_click 87 = .ok (.getfield 65, 3) := by decide +kernel
theorem dX5_click_90 : decode cX5_click 90 = .ok (.iconst 0, 1) := by decide +kernel
theorem dX5_click_91 : decode cX5_click 91 = .ok (.bastore, 1) := by decide +kernel
theorem dX5_click_92 : decode cX5_click 92 = .ok (.aload_n 0, 1) := by decide +kernel
theorem dX5_click_93 : decode cX5_click 93 = .ok (.dup, 1) := by decide +kernel
theorem dX5_click_94 : decode cX5_click 94 = .ok (.getfield 65, 3) := by decide +kernel
theorem dX5_click_97 : decode cX5_click 97 = .ok (.iconst 1, 1) := by decide +kernel
theorem dX5_click_98 : decode cX5_click 98 = .ok (.iadd, 1) := by decide +kernel
theorem dX5_click_99 : decode cX5_click 99 = .ok (.putfield 65, 3) := by decide +kernel
theorem dX5_click_102 : decode cX5_click 102 = .ok (.aload_n 0, 1) := by decide +kernel
theorem dX5_click_103 : decode cX5_click 103 = .ok (.getfield 65, 3) := by decide +kernel
theorem dX5_click_106 : decode cX5_click 106 = .ok (.iconst 1, 1) := by decide +kernel
theorem dX5_click_107 : decode cX5_click 107 = .ok (.isub, 1) := by decide +kernel
theorem dX5_click_108 : decode cX5_click 108 = .ok (.ireturn, 1) := by decide +kernel
theorem dX5_strike_0 : decode cX5_strike 0 = .ok (.aload_n 0, 1) := by decide +kernel
theorem dX5_strike_1 : decode cX5_strike 1 = .ok (.iload_n 1, 1) := by decide +kernel
theorem dX5_strike_2 : decode cX5_strike 2 = .ok (.invokevirtual 77, 3) := by decide +kernel
theorem dX5_strike_5 : decode cX5_strike 5 = .ok (.ifCond .ne 7, 3) := by decide +kernel
theorem dX5_strike_8 : decode cX5_strike 8 = .ok (.sipush (-1001), 3) := by decide +kernel
theorem dX5_strike_11 : decode cX5_strike 11 = .ok (.ireturn, 1) := by decide +kernel
theorem dX5_strike_12 : decode cX5_strike 12 = .ok (.aload_n 0, 1) := by decide +kernel
theorem dX5_strike_13 : decode cX5_strike 13 = .ok (.getfield 19, 3) := by decide +kernel
theorem dX5_strike_16 : decode cX5_strike 16 = .ok (.iload_n 1, 1) := by decide +kernel
theorem dX5_strike_17 : decode cX5_strike 17 = .ok (.baload, 1) := by decide +kernel
theorem dX5_strike_18 : decode cX5_strike 18 = .ok (.ifCond .eq 7, 3) := by decide +kernel
theorem dX5_strike_21 : decode cX5_strike 21 = .ok (.iconst 1, 1) := by decide +kernel
theorem dX5_strike_22 : decode cX5_strike 22 = .ok (.goto 4, 3) := by decide +kernel
theorem dX5_strike_25 : decode cX5_strike 25 = .ok (.iconst 0, 1) := by decide +kernel
theorem dX5_strike_26 : decode cX5_strike 26 = .ok (.istore_n 3, 1) := by decide +kernel
theorem dX5_strike_27 : decode cX5_strike 27 = .ok (.aload_n 0, 1) := by decide +kernel
theorem dX5_strike_28 : decode cX5_strike 28 = .ok (.getfield 19, 3) := by decide +kernel
theorem dX5_strike_31 : decode cX5_strike 31 = .ok (.iload_n 1, 1) := by decide +kernel
theorem dX5_strike_32 : decode cX5_strike 32 = .ok (.iload_n 2, 1) := by decide +kernel
theorem dX5_strike_33 : decode cX5_strike 33 = .ok (.bastore, 1) := by decide +kernel
theorem dX5_strike_34 : decode cX5_strike 34 = .ok (.iload_n 3, 1) := by decide +kernel
theorem dX5_strike_35 : decode cX5_strike 35 = .ok (.ireturn, 1) := by decide +kernel
theorem dX5_join_0 : decode cX5_join 0 = .ok (.iload_n 1, 1) := by decide +kernel
theorem dX5_join_1 : decode cX5_join 1 = .ok (.i2l, 1) := by decide +kernel
theorem dX5_join_2 : decode cX5_join 2 = .ok (.ldc2_w 80, 3) := by decide +kernel
theorem dX5_join_5 : decode cX5_join 5 = .ok (.ldc2_w 59, 3) := by decide +kernel
theorem dX5_join_8 : decode cX5_join 8 = .ok (.invokestatic 61, 3) := by decide +kernel
theorem dX5_join_11 : decode cX5_join 11 = .ok (.ifCond .eq 15, 3) := by decide +kernel
theorem dX5_join_14 : decode cX5_join 14 = .ok (.iload_n 2, 1) := by decide +kernel
theorem dX5_join_15 : decode cX5_join 15 = .ok (.i2l, 1) := by decide +kernel
theorem dX5_join_16 : decode cX5_join 16 = .ok (.lconst 0, 1) := by decide +kernel
theorem dX5_join_17 : decode cX5_join 17 = .ok (.ldc2_w 82, 3) := by decide +kernel
theorem dX5_join_20 : decode cX5_join 20 = .ok (.invokestatic 61, 3) := by decide +kernel
theorem dX5_join_23 : decode cX5_join 23 = .ok (.ifCond .ne 7, 3) := by decide +kernel
theorem dX5_join_26 : decode cX5_join 26 = .ok (.sipush (-1001), 3) := by decide +kernel
theorem dX5_join_29 : decode cX5_join 29 = .ok (.ireturn, 1) := by decide +kernel
theorem dX5_join_30 : decode cX5_join 30 = .ok (.aload_n 0, 1) := by decide +kernel
theorem dX5_join_31 : decode cX5_join 31 = .ok (.getfield 23, 3) := by decide +kernel
theorem dX5_join_34 : decode cX5_join 34 = .ok (.iload_n 1, 1) := by decide +kernel
theorem dX5_join_35 : decode cX5_join 35 = .ok (.iaload, 1) := by decide +kernel
theorem dX5_join_36 : decode cX5_join 36 = .ok (.ifCond .lt 7, 3) := by decide +kernel
theorem dX5_join_39 : decode cX5_join 39 = .ok (.sipush (-1003), 3) := by decide +kernel
theorem dX5_join_42 : decode cX5_join 42 = .ok (.ireturn, 1) := by decide +kernel
theorem dX5_join_43 : decode cX5_join 43 = .ok (.aload_n 0, 1) := by decide +kernel
theorem dX5_join_44 : decode cX5_join 44 = .ok (.getfield 23, 3) := by decide +kernel
theorem dX5_join_47 : decode cX5_join 47 = .ok (.iload_n 1, 1) := by decide +kernel
theorem dX5_join_48 : decode cX5_join 48 = .ok (.iload_n 2, 1) := by decide +kernel
theorem dX5_join_49 : decode cX5_join 49 = .ok (.iastore, 1) := by decide +kernel
theorem dX5_join_50 : decode cX5_join 50 = .ok (.iconst 0, 1) := by decide +kernel
theorem dX5_join_51 : decode cX5_join 51 = .ok (.istore_n 3, 1) := by decide +kernel
theorem dX5_join_52 : decode cX5_join 52 = .ok (.iconst 0, 1) := by decide +kernel
theorem dX5_join_53 : decode cX5_join 53 = .ok (.istore 4, 2) := by decide +kernel
theorem dX5_join_55 : decode cX5_join 55 = .ok (.iload 4, 2) := by decide +kernel
theorem dX5_join_57 : decode cX5_join 57 = .ok (.aload_n 0, 1) := by decide +kernel
theorem dX5_join_58 : decode cX5_join 58 = .ok (.getfield 65, 3) := by decide +kernel
theorem dX5_join_61 : decode cX5_join 61 = .ok (.if_icmp .ge 28, 3) := by decide +kernel
theorem dX5_join_64 : decode cX5_join 64 = .ok (.iload_n 3, 1) := by decide +kernel
theorem dX5_join_65 : decode cX5_join 65 = .ok (.aload_n 0, 1) := by decide +kernel
theorem dX5_join_66 : decode cX5_join 66 = .ok (.getfield 13, 3) := by decide +kernel
theorem dX5_join_69 : decode cX5_join 69 = .ok (.iload 4, 2) := by decide +kernel
theorem dX5_join_71 : decode cX5_join 71 = .ok (.iaload, 1) := by decide +kernel
theorem dX5_join_72 : decode cX5_join 72 = .ok (.iload_n 1, 1) := by decide +kernel
theorem dX5_join_73 : decode cX5_join 73 = .ok (.if_icmp .ne 7, 3) := by decide +kernel
theorem dX5_join_76 : decode cX5_join 76 = .ok (.iconst 1, 1) := by decide +kernel
theorem dX5_join_77 : decode cX5_join 77 = .ok (.goto 4, 3) := by decide +kernel
theorem dX5_join_80 : decode cX5_join 80 = .ok (.iconst 0, 1) := by decide +kernel
theorem dX5_join_81 : decode cX5_join 81 = .ok (.iadd, 1) := by decide +kernel
theorem dX5_join_82 : decode cX5_join 82 = .ok (.istore_n 3, 1) := by decide +kernel
theorem dX5_join_83 : decode cX5_join 83 = .ok (.iinc 4 1, 3) := by decide +kernel
theorem dX5_join_86 : decode cX5_join 86 = .ok (.goto (-31), 3) := by decide +kernel
theorem dX5_join_89 : decode cX5_join 89 = .ok (.iload_n 3, 1) := by decide +kernel
theorem dX5_join_90 : decode cX5_join 90 = .ok (.ireturn, 1) := by decide +kernel
theorem dX5_rule_0 : decode cX5_rule 0 = .ok (.iload_n 1, 1) := by decide +kernel
theorem dX5_rule_1 : decode cX5_rule 1 = .ok (.i2l, 1) := by decide +kernel
theorem dX5_rule_2 : decode cX5_rule 2 = .ok (.lconst 0, 1) := by decide +kernel
theorem dX5_rule_3 : decode cX5_rule 3 = .ok (.ldc2_w 84, 3) := by decide +kernel
theorem dX5_rule_6 : decode cX5_rule 6 = .ok (.invokestatic 61, 3) := by decide +kernel
theorem dX5_rule_9 : decode cX5_rule 9 = .ok (.ifCond .ne 7, 3) := by decide +kernel
theorem dX5_rule_12 : decode cX5_rule 12 = .ok (.sipush (-1002), 3) := by decide +kernel
theorem dX5_rule_15 : decode cX5_rule 15 = .ok (.ireturn, 1) := by decide +kernel
theorem dX5_rule_16 : decode cX5_rule 16 = .ok (.iload_n 1, 1) := by decide +kernel
theorem dX5_rule_17 : decode cX5_rule 17 = .ok (.iconst 2, 1) := by decide +kernel
theorem dX5_rule_18 : decode cX5_rule 18 = .ok (.if_icmp .ne 7, 3) := by decide +kernel
theorem dX5_rule_21 : decode cX5_rule 21 = .ok (.iconst (-1), 1) := by decide +kernel
theorem dX5_rule_22 : decode cX5_rule 22 = .ok (.goto 13, 3) := by decide +kernel
theorem dX5_rule_25 : decode cX5_rule 25 = .ok (.iload_n 1, 1) := by decide +kernel
theorem dX5_rule_26 : decode cX5_rule 26 = .ok (.iconst 4, 1) := by decide +kernel
theorem dX5_rule_27 : decode cX5_rule 27 = .ok (.if_icmp .ne 7, 3) := by decide +kernel
theorem dX5_rule_30 : decode cX5_rule 30 = .ok (.iconst 1, 1) := by decide +kernel
theorem dX5_rule_31 : decode cX5_rule 31 = .ok (.goto 4, 3) := by decide +kernel
theorem dX5_rule_34 : decode cX5_rule 34 = .ok (.iconst 0, 1) := by decide +kernel
theorem dX5_rule_35 : decode cX5_rule 35 = .ok (.istore_n 3, 1) := by decide +kernel
theorem dX5_rule_36 : decode cX5_rule 36 = .ok (.iload_n 1, 1) := by decide +kernel
theorem dX5_rule_37 : decode cX5_rule 37 = .ok (.ifCond .eq 8, 3) := by decide +kernel
theorem dX5_rule_40 : decode cX5_rule 40 = .ok (.iload_n 1, 1) := by decide +kernel
theorem dX5_rule_41 : decode cX5_rule 41 = .ok (.iconst 4, 1) := by decide +kernel
theorem dX5_rule_42 : decode cX5_rule 42 = .ok (.if_icmp .ne 9, 3) := by decide +kernel
theorem dX5_rule_45 : decode cX5_rule 45 = .ok (.sipush 10000, 3) := by decide +kernel
theorem dX5_rule_48 : decode cX5_rule 48 = .ok (.goto 24, 3) := by decide +kernel
theorem dX5_rule_51 : decode cX5_rule 51 = .ok (.iload_n 1, 1) := by decide +kernel
theorem dX5_rule_52 : decode cX5_rule 52 = .ok (.iconst 1, 1) := by decide +kernel
theorem dX5_rule_53 : decode cX5_rule 53 = .ok (.if_icmp .ne 7, 3) := by decide +kernel
theorem dX5_rule_56 : decode cX5_rule 56 = .ok (.iconst 1, 1) := by decide +kernel
theorem dX5_rule_57 : decode cX5_rule 57 = .ok (.goto 15, 3) := by decide +kernel
theorem dX5_rule_60 : decode cX5_rule 60 = .ok (.iload_n 1, 1) := by decide +kernel
theorem dX5_rule_61 : decode cX5_rule 61 = .ok (.iconst 3, 1) := by decide +kernel
theorem dX5_rule_62 : decode cX5_rule 62 = .ok (.if_icmp .ne 8, 3) := by decide +kernel
theorem dX5_rule_65 : decode cX5_rule 65 = .ok (.bipush 100, 2) := by decide +kernel
theorem dX5_rule_67 : decode cX5_rule 67 = .ok (.goto 5, 3) := by decide +kernel
theorem dX5_rule_70 : decode cX5_rule 70 = .ok (.bipush 7, 2) := by decide +kernel
theorem dX5_rule_72 : decode cX5_rule 72 = .ok (.istore 4, 2) := by decide +kernel
theorem dX5_rule_74 : decode cX5_rule 74 = .ok (.iload_n 2, 1) := by decide +kernel
theorem dX5_rule_75 : decode cX5_rule 75 = .ok (.i2l, 1) := by decide +kernel
theorem dX5_rule_76 : decode cX5_rule 76 = .ok (.iload_n 3, 1) := by decide +kernel
theorem dX5_rule_77 : decode cX5_rule 77 = .ok (.i2l, 1) := by decide +kernel
theorem dX5_rule_78 : decode cX5_rule 78 = .ok (.iload 4, 2) := by decide +kernel
theorem dX5_rule_80 : decode cX5_rule 80 = .ok (.i2l, 1) := by decide +kernel
theorem dX5_rule_81 : decode cX5_rule 81 = .ok (.invokestatic 61, 3) := by decide +kernel
theorem dX5_rule_84 : decode cX5_rule 84 = .ok (.ifCond .ne 7, 3) := by decide +kernel
theorem dX5_rule_87 : decode cX5_rule 87 = .ok (.sipush (-1002), 3) := by decide +kernel
theorem dX5_rule_90 : decode cX5_rule 90 = .ok (.ireturn, 1) := by decide +kernel
theorem dX5_rule_91 : decode cX5_rule 91 = .ok (.aload_n 0, 1) := by decide +kernel
theorem dX5_rule_92 : decode cX5_rule 92 = .ok (.getfield 26, 3) := by decide +kernel
theorem dX5_rule_95 : decode cX5_rule 95 = .ok (.iload_n 1, 1) := by decide +kernel
theorem dX5_rule_96 : decode cX5_rule 96 = .ok (.iaload, 1) := by decide +kernel
theorem dX5_rule_97 : decode cX5_rule 97 = .ok (.istore 5, 2) := by decide +kernel
theorem dX5_rule_99 : decode cX5_rule 99 = .ok (.aload_n 0, 1) := by decide +kernel
theorem dX5_rule_100 : decode cX5_rule 100 = .ok (.getfield 26, 3) := by decide +kernel
theorem dX5_rule_103 : decode cX5_rule 103 = .ok (.iload_n 1, 1) := by decide +kernel
theorem dX5_rule_104 : decode cX5_rule 104 = .ok (.iload_n 2, 1) := by decide +kernel
theorem dX5_rule_105 : decode cX5_rule 105 = .ok (.iastore, 1) := by decide +kernel
theorem dX5_rule_106 : decode cX5_rule 106 = .ok (.iload 5, 2) := by decide +kernel
theorem dX5_rule_108 : decode cX5_rule 108 = .ok (.ireturn, 1) := by decide +kernel
theorem dX5_isAhead_0 : decode cX5_isAhead 0 = .ok (.aload_n 0, 1) := by decide +kernel
theorem dX5_isAhead_1 : decode cX5_isAhead 1 = .ok (.getfield 7, 3) := by decide +kernel
theorem dX5_isAhead_4 : decode cX5_isAhead 4 = .ok (.iload_n 1, 1) := by decide +kernel
theorem dX5_isAhead_5 : decode cX5_isAhead 5 = .ok (.iaload, 1) := by decide +kernel
theorem dX5_isAhead_6 : decode cX5_isAhead 6 = .ok (.aload_n 0, 1) := by decide +kernel
theorem dX5_isAhead_7 : decode cX5_isAhead 7 = .ok (.getfield 7, 3) := by decide +kernel
theorem dX5_isAhead_10 : decode cX5_isAhead 10 = .ok (.iload_n 2, 1) := by decide +kernel
theorem dX5_isAhead_11 : decode cX5_isAhead 11 = .ok (.iaload, 1) := by decide +kernel
theorem dX5_isAhead_12 : decode cX5_isAhead 12 = .ok (.if_icmp .lt 23, 3) := by decide +kernel
theorem dX5_isAhead_15 : decode cX5_isAhead 15 = .ok (.aload_n 0, 1) := by decide +kernel
theorem dX5_isAhead_16 : decode cX5_isAhead 16 = .ok (.getfield 7, 3) := by decide +kernel
theorem dX5_isAhead_19 : decode cX5_isAhead 19 = .ok (.iload_n 1, 1) := by decide +kernel
theorem dX5_isAhead_20 : decode cX5_isAhead 20 = .ok (.iaload, 1) := by decide +kernel
theorem dX5_isAhead_21 : decode cX5_isAhead 21 = .ok (.aload_n 0, 1) := by decide +kernel
theorem dX5_isAhead_22 : decode cX5_isAhead 22 = .ok (.getfield 7, 3) := by decide +kernel
theorem dX5_isAhead_25 : decode cX5_isAhead 25 = .ok (.iload_n 2, 1) := by decide +kernel
theorem dX5_isAhead_26 : decode cX5_isAhead 26 = .ok (.iaload, 1) := by decide +kernel
theorem dX5_isAhead_27 : decode cX5_isAhead 27 = .ok (.if_icmp .ne 12, 3) := by decide +kernel
theorem dX5_isAhead_30 : decode cX5_isAhead 30 = .ok (.iload_n 1, 1) := by decide +kernel
theorem dX5_isAhead_31 : decode cX5_isAhead 31 = .ok (.iload_n 2, 1) := by decide +kernel
theorem dX5_isAhead_32 : decode cX5_isAhead 32 = .ok (.if_icmp .ge 7, 3) := by decide +kernel
theorem dX5_isAhead_35 : decode cX5_isAhead 35 = .ok (.iconst 1, 1) := by decide +kernel
theorem dX5_isAhead_36 : decode cX5_isAhead 36 = .ok (.goto 4, 3) := by decide +kernel
theorem dX5_isAhead_39 : decode cX5_isAhead 39 = .ok (.iconst 0, 1) := by decide +kernel
theorem dX5_isAhead_40 : decode cX5_isAhead 40 = .ok (.ireturn, 1) := by decide +kernel
theorem dX5_isCut_0 : decode cX5_isCut 0 = .ok (.aload_n 0, 1) := by decide +kernel
theorem dX5_isCut_1 : decode cX5_isCut 1 = .ok (.getfield 44, 3) := by decide +kernel
theorem dX5_isCut_4 : decode cX5_isCut 4 = .ok (.iload_n 1, 1) := by decide +kernel
theorem dX5_isCut_5 : decode cX5_isCut 5 = .ok (.iconst 1, 1) := by decide +kernel
theorem dX5_isCut_6 : decode cX5_isCut 6 = .ok (.isub, 1) := by decide +kernel
theorem dX5_isCut_7 : decode cX5_isCut 7 = .ok (.iaload, 1) := by decide +kernel
theorem dX5_isCut_8 : decode cX5_isCut 8 = .ok (.istore_n 2, 1) := by decide +kernel
theorem dX5_isCut_9 : decode cX5_isCut 9 = .ok (.aload_n 0, 1) := by decide +kernel
theorem dX5_isCut_10 : decode cX5_isCut 10 = .ok (.getfield 44, 3) := by decide +kernel
theorem dX5_isCut_13 : decode cX5_isCut 13 = .ok (.iload_n 1, 1) := by decide +kernel
theorem dX5_isCut_14 : decode cX5_isCut 14 = .ok (.iaload, 1) := by decide +kernel
theorem dX5_isCut_15 : decode cX5_isCut 15 = .ok (.istore_n 3, 1) := by decide +kernel
theorem dX5_isCut_16 : decode cX5_isCut 16 = .ok (.aload_n 0, 1) := by decide +kernel
theorem dX5_isCut_17 : decode cX5_isCut 17 = .ok (.getfield 7, 3) := by decide +kernel
theorem dX5_isCut_20 : decode cX5_isCut 20 = .ok (.iload_n 3, 1) := by decide +kernel
theorem dX5_isCut_21 : decode cX5_isCut 21 = .ok (.iaload, 1) := by decide +kernel
theorem dX5_isCut_22 : decode cX5_isCut 22 = .ok (.aload_n 0, 1) := by decide +kernel
theorem dX5_isCut_23 : decode cX5_isCut 23 = .ok (.getfield 7, 3) := by decide +kernel
theorem dX5_isCut_26 : decode cX5_isCut 26 = .ok (.iload_n 2, 1) := by decide +kernel
theorem dX5_isCut_27 : decode cX5_isCut 27 = .ok (.iaload, 1) := by decide +kernel
theorem dX5_isCut_28 : decode cX5_isCut 28 = .ok (.isub, 1) := by decide +kernel
theorem dX5_isCut_29 : decode cX5_isCut 29 = .ok (.aload_n 0, 1) := by decide +kernel
theorem dX5_isCut_30 : decode cX5_isCut 30 = .ok (.getfield 26, 3) := by decide +kernel
theorem dX5_isCut_33 : decode cX5_isCut 33 = .ok (.iconst 0, 1) := by decide +kernel
theorem dX5_isCut_34 : decode cX5_isCut 34 = .ok (.iaload, 1) := by decide +kernel
theorem dX5_isCut_35 : decode cX5_isCut 35 = .ok (.if_icmp .gt 51, 3) := by decide +kernel
theorem dX5_isCut_38 : decode cX5_isCut 38 = .ok (.aload_n 0, 1) := by decide +kernel
theorem dX5_isCut_39 : decode cX5_isCut 39 = .ok (.getfield 26, 3) := by decide +kernel
theorem dX5_isCut_42 : decode cX5_isCut 42 = .ok (.iconst 1, 1) := by decide +kernel
theorem dX5_isCut_43 : decode cX5_isCut 43 = .ok (.iaload, 1) := by decide +kernel
theorem dX5_isCut_44 : decode cX5_isCut 44 = .ok (.iconst 1, 1) := by decide +kernel
theorem dX5_isCut_45 : decode cX5_isCut 45 = .ok (.if_icmp .ne 26, 3) := by decide +kernel
theorem dX5_isCut_48 : decode cX5_isCut 48 = .ok (.aload_n 0, 1) := by decide +kernel
theorem dX5_isCut_49 : decode cX5_isCut 49 = .ok (.getfield 7, 3) := by decide +kernel
theorem dX5_isCut_52 : decode cX5_isCut 52 = .ok (.iload_n 2, 1) := by decide +kernel
theorem dX5_isCut_53 : decode cX5_isCut 53 = .ok (.iaload, 1) := by decide +kernel
theorem dX5_isCut_54 : decode cX5_isCut 54 = .ok (.sipush 1440, 3) := by decide +kernel
theorem dX5_isCut_57 : decode cX5_isCut 57 = .ok (.idiv, 1) := by decide +kernel
theorem dX5_isCut_58 : decode cX5_isCut 58 = .ok (.aload_n 0, 1) := by decide +kernel
theorem dX5_isCut_59 : decode cX5_isCut 59 = .ok (.getfield 7, 3) := by decide +kernel
theorem dX5_isCut_62 : decode cX5_isCut 62 = .ok (.iload_n 3, 1) := by decide +kernel
theorem dX5_isCut_63 : decode cX5_isCut 63 = .ok (.iaload, 1) := by decide +kernel
theorem dX5_isCut_64 : decode cX5_isCut 64 = .ok (.sipush 1440, 3) := by decide +kernel
theorem dX5_isCut_67 : decode cX5_isCut 67 = .ok (.idiv, 1) := by decide +kernel
theorem dX5_isCut_68 : decode cX5_isCut 68 = .ok (.if_icmp .ne 18, 3) := by decide +kernel
theorem dX5_isCut_71 : decode cX5_isCut 71 = .ok (.aload_n 0, 1) := by decide +kernel
theorem dX5_isCut_72 : decode cX5_isCut 72 = .ok (.getfield 16, 3) := by decide +kernel
theorem dX5_isCut_75 : decode cX5_isCut 75 = .ok (.iload_n 2, 1) := by decide +kernel
theorem dX5_isCut_76 : decode cX5_isCut 76 = .ok (.iaload, 1) := by decide +kernel
theorem dX5_isCut_77 : decode cX5_isCut 77 = .ok (.aload_n 0, 1) := by decide +kernel
theorem dX5_isCut_78 : decode cX5_isCut 78 = .ok (.getfield 26, 3) := by decide +kernel
theorem dX5_isCut_81 : decode cX5_isCut 81 = .ok (.iconst 2, 1) := by decide +kernel
theorem dX5_isCut_82 : decode cX5_isCut 82 = .ok (.iaload, 1) := by decide +kernel
theorem dX5_isCut_83 : decode cX5_isCut 83 = .ok (.if_icmp .ne 7, 3) := by decide +kernel
theorem dX5_isCut_86 : decode cX5_isCut 86 = .ok (.iconst 1, 1) := by decide +kernel
theorem dX5_isCut_87 : decode cX5_isCut 87 = .ok (.goto 4, 3) := by decide +kernel
theorem dX5_isCut_90 : decode cX5_isCut 90 = .ok (.iconst 0, 1) := by decide +kernel
theorem dX5_isCut_91 : decode cX5_isCut 91 = .ok (.ireturn, 1) := by decide +kernel
theorem dX5_gather_0 : decode cX5_gather 0 = .ok (.aload_n 0, 1) := by decide +kernel
theorem dX5_gather_1 : decode cX5_gather 1 = .ok (.iconst 0, 1) := by decide +kernel
theorem dX5_gather_2 : decode cX5_gather 2 = .ok (.putfield 86, 3) := by decide +kernel
theorem dX5_gather_5 : decode cX5_gather 5 = .ok (.iconst 0, 1) := by decide +kernel
theorem dX5_gather_6 : decode cX5_gather 6 = .ok (.istore_n 2, 1) := by decide +kernel
theorem dX5_gather_7 : decode cX5_gather 7 = .ok (.iload_n 2, 1) := by decide +kernel
theorem dX5_gather_8 : decode cX5_gather 8 = .ok (.aload_n 0, 1) := by decide +kernel
theorem dX5_gather_9 : decode cX5_gather 9 = .ok (.getfield 65, 3) := by decide +kernel
theorem dX5_gather_12 : decode cX5_gather 12 = .ok (.if_icmp .ge 94, 3) := by decide +kernel
theorem dX5_gather_15 : decode cX5_gather 15 = .ok (.aload_n 0, 1) := by decide +kernel
theorem dX5_gather_16 : decode cX5_gather 16 = .ok (.aload_n 0, 1) := by decide +kernel
theorem dX5_gather_17 : decode cX5_gather 17 = .ok (.getfield 13, 3) := by decide +kernel
theorem dX5_gather_20 : decode cX5_gather 20 = .ok (.iload_n 2, 1) := by decide +kernel
theorem dX5_gather_21 : decode cX5_gather 21 = .ok (.iaload, 1) := by decide +kernel
theorem dX5_gather_22 : decode cX5_gather 22 = .ok (.invokevirtual 89, 3) := by decide +kernel
theorem dX5_gather_25 : decode cX5_gather 25 = .ok (.iload_n 1, 1) := by decide +kernel
theorem dX5_gather_26 : decode cX5_gather 26 = .ok (.if_icmp .ne 74, 3) := by decide +kernel
theorem dX5_gather_29 : decode cX5_gather 29 = .ok (.aload_n 0, 1) := by decide +kernel
theorem dX5_gather_30 : decode cX5_gather 30 = .ok (.getfield 19, 3) := by decide +kernel
theorem dX5_gather_33 : decode cX5_gather 33 = .ok (.iload_n 2, 1) := by decide +kernel
theorem dX5_gather_34 : decode cX5_gather 34 = .ok (.baload, 1) := by decide +kernel
theorem dX5_gather_35 : decode cX5_gather 35 = .ok (.ifCond .ne 65, 3) := by decide +kernel
theorem dX5_gather_38 : decode cX5_gather 38 = .ok (.aload_n 0, 1) := by decide +kernel
theorem dX5_gather_39 : decode cX5_gather 39 = .ok (.getfield 86, 3) := by decide +kernel
theorem dX5_gather_42 : decode cX5_gather 42 = .ok (.istore_n 3, 1) := by decide +kernel
theorem dX5_gather_43 : decode cX5_gather 43 = .ok (.iload_n 3, 1) := by decide +kernel
theorem dX5_gather_44 : decode cX5_gather 44 = .ok (.ifCond .le 39, 3) := by decide +kernel
theorem dX5_gather_47 : decode cX5_gather 47 = .ok (.aload_n 0, 1) := by decide +kernel
theorem dX5_gather_48 : decode cX5_gather 48 = .ok (.iload_n 2, 1) := by decide +kernel
theorem dX5_gather_49 : decode cX5_gather 49 = .ok (.aload_n 0, 1) := by decide +kernel
theorem dX5_gather_50 : decode cX5_gather 50 = .ok (.getfield 44, 3) := by decide +kernel
theorem dX5_gather_53 : decode cX5_gather 53 = .ok (.iload_n 3, 1) := by decide +kernel
theorem dX5_gather_54 : decode cX5_gather 54 = .ok (.iconst 1, 1) := by decide +kernel
theorem dX5_gather_55 : decode cX5_gather 55 = .ok (.isub, 1) := by decide +kernel
theorem dX5_gather_56 : decode cX5_gather 56 = .ok (.iaload, 1) := by decide +kernel
theorem dX5_gather_57 : decode cX5_gather 57 = .ok (.invokevirtual 93, 3) := by decide +kernel
theorem dX5_gather_60 : decode cX5_gather 60 = .ok (.ifCond .eq 23, 3) := by decide +kernel
theorem dX5_gather_63 : decode cX5_gather 63 = .ok (.aload_n 0, 1) := by decide +kernel
theorem dX5_gather_64 : decode cX5_gather 64 = .ok (.getfield 44, 3) := by decide +kernel
theorem dX5_gather_67 : decode cX5_gather 67 = .ok (.iload_n 3, 1) := by decide +kernel
theorem dX5_gather_68 : decode cX5_gather 68 = .ok (.aload_n 0, 1) := by decide +kernel
theorem dX5_gather_69 : decode cX5_gather 69 = .ok (.getfield 44, 3) := by decide +kernel
theorem dX5_gather_72 : decode cX5_gather 72 = .ok (.iload_n 3, 1) := by decide +kernel
theorem dX5_gather_73 : decode cX5_gather 73 = .ok (.iconst 1, 1) := by decide +kernel
theorem dX5_gather_74 : decode cX5_gather 74 = .ok (.isub, 1) := by decide +kernel
theorem dX5_gather_75 : decode cX5_gather 75 = .ok (.iaload, 1) := by decide +kernel
theorem dX5_gather_76 : decode cX5_gather 76 = .ok (.iastore, 1) := by decide +kernel
theorem dX5_gather_77 : decode cX5_gather 77 = .ok (.iinc 3 (-1), 3) := by decide +kernel
theorem dX5_gather_80 : decode cX5_gather 80 = .ok (.goto (-37), 3) := by decide +kernel
theorem dX5_gather_83 : decode cX5_gather 83 = .ok (.aload_n 0, 1) := by decide +kernel
theorem dX5_gather_84 : decode cX5_gather 84 = .ok (.getfield 44, 3) := by decide +kernel
theorem dX5_gather_87 : decode cX5_gather 87 = .ok (.iload_n 3, 1) := by decide +kernel
theorem dX5_gather_88 : decode cX5_gather 88 = .ok (.iload_n 2, 1) := by decide +kernel
theorem dX5_gather_89 : decode cX5_gather 89 = .ok (.iastore, 1) := by decide +kernel
theorem dX5_gather_90 : decode cX5_gather 90 = .ok (.aload_n 0, 1) := by decide +kernel
theorem dX5_gather_91 : decode cX5_gather 91 = .ok (.dup, 1) := by decide +kernel
theorem dX5_gather_92 : decode cX5_gather 92 = .ok (.getfield 86, 3) := by decide +kernel
theorem dX5_gather_95 : decode cX5_gather 95 = .ok (.iconst 1, 1) := by decide +kernel
theorem dX5_gather_96 : decode cX5_gather 96 = .ok (.iadd, 1) := by decide +kernel
theorem dX5_gather_97 : decode cX5_gather 97 = .ok (.putfield 86, 3) := by decide +kernel
theorem dX5_gather_100 : decode cX5_gather 100 = .ok (.iinc 2 1, 3) := by decide +kernel
theorem dX5_gather_103 : decode cX5_gather 103 = .ok (.goto (-96), 3) := by decide +kernel
theorem dX5_gather_106 : decode cX5_gather 106 = .ok (.aload_n 0, 1) := by decide +kernel
theorem dX5_gather_107 : decode cX5_gather 107 = .ok (.iconst 0, 1) := by decide +kernel
theorem dX5_gather_108 : decode cX5_gather 108 = .ok (.putfield 97, 3) := by decide +kernel
theorem dX5_gather_111 : decode cX5_gather 111 = .ok (.aload_n 0, 1) := by decide +kernel
theorem dX5_gather_112 : decode cX5_gather 112 = .ok (.getfield 26, 3) := by decide +kernel
theorem dX5_gather_115 : decode cX5_gather 115 = .ok (.iconst 3, 1) := by decide +kernel
theorem dX5_gather_116 : decode cX5_gather 116 = .ok (.iaload, 1) := by decide +kernel
theorem dX5_gather_117 : decode cX5_gather 117 = .ok (.istore_n 2, 1) := by decide +kernel
theorem dX5_gather_118 : decode cX5_gather 118 = .ok (.iconst 0, 1) := by decide +kernel
theorem dX5_gather_119 : decode cX5_gather 119 = .ok (.istore_n 3, 1) := by decide +kernel
theorem dX5_gather_120 : decode cX5_gather 120 = .ok (.iload_n 2, 1) := by decide +kernel
theorem dX5_gather_121 : decode cX5_gather 121 = .ok (.ifCond .le 69, 3) := by decide +kernel
theorem dX5_gather_124 : decode cX5_gather 124 = .ok (.iload_n 3, 1) := by decide +kernel
theorem dX5_gather_125 : decode cX5_gather 125 = .ok (.iload_n 2, 1) := by decide +kernel
theorem dX5_gather_126 : decode cX5_gather 126 = .ok (.iadd, 1) := by decide +kernel
theorem dX5_gather_127 : decode cX5_gather 127 = .ok (.aload_n 0, 1) := by decide +kernel
theorem dX5_gather_128 : decode cX5_gather 128 = .ok (.getfield 86, 3) := by decide +kernel
theorem dX5_gather_131 : decode cX5_gather 131 = .ok (.if_icmp .ge 59, 3) := by decide +kernel
theorem dX5_gather_134 : decode cX5_gather 134 = .ok (.aload_n 0, 1) := by decide +kernel
theorem dX5_gather_135 : decode cX5_gather 135 = .ok (.aload_n 0, 1) := by decide +kernel
theorem dX5_gather_136 : decode cX5_gather 136 = .ok (.getfield 97, 3) := by decide +kernel
theorem dX5_gather_139 : decode cX5_gather 139 = .ok (.ifCond .ne 37, 3) := by decide +kernel
theorem dX5_gather_142 : decode cX5_gather 142 = .ok (.aload_n 0, 1) := by decide +kernel
theorem dX5_gather_143 : decode cX5_gather 143 = .ok (.getfield 7, 3) := by decide +kernel
theorem dX5_gather_146 : decode cX5_gather 146 = .ok (.aload_n 0, 1) := by decide +kernel
theorem dX5_gather_147 : decode cX5_gather 147 = .ok (.getfield 44, 3) := by decide +kernel
theorem dX5_gather_150 : decode cX5_gather 150 = .ok (.iload_n 3, 1) := by decide +kernel
theorem dX5_gather_151 : decode cX5_gather 151 = .ok (.iload_n 2, 1) := by decide +kernel
theorem dX5_gather_152 : decode cX5_gather 152 = .ok (.iadd, 1) := by decide +kernel
theorem dX5_gather_153 : decode cX5_gather 153 = .ok (.iaload, 1) := by decide +kernel
theorem dX5_gather_154 : decode cX5_gather 154 = .ok (.iaload, 1) := by decide +kernel
theorem dX5_gather_155 : decode cX5_gather 155 = .ok (.aload_n 0, 1) := by decide +kernel
theorem dX5_gather_156 : decode cX5_gather 156 = .ok (.getfield 7, 3) := by decide +kernel
theorem dX5_gather_159 : decode cX5_gather 159 = .ok (.aload_n 0, 1) := by decide +kernel
theorem dX5_gather_160 : decode cX5_gather 160 = .ok (.getfield 44, 3) := by decide +kernel
theorem dX5_gather_163 : decode cX5_gather 163 = .ok (.iload_n 3, 1) := by decide +kernel
theorem dX5_gather_164 : decode cX5_gather 164 = .ok (.iaload, 1) := by decide +kernel
theorem dX5_gather_165 : decode cX5_gather 165 = .ok (.iaload, 1) := by decide +kernel
theorem dX5_gather_166 : decode cX5_gather 166 = .ok (.isub, 1) := by decide +kernel
theorem dX5_gather_167 : decode cX5_gather 167 = .ok (.aload_n 0, 1) := by decide +kernel
theorem dX5_gather_168 : decode cX5_gather 168 = .ok (.getfield 26, 3) := by decide +kernel
theorem dX5_gather_171 : decode cX5_gather 171 = .ok (.iconst 4, 1) := by decide +kernel
theorem dX5_gather_172 : decode cX5_gather 172 = .ok (.iaload, 1) := by decide +kernel
theorem dX5_gather_173 : decode cX5_gather 173 = .ok (.if_icmp .ge 7, 3) := by decide +kernel
theorem dX5_gather_176 : decode cX5_gather 176 = .ok (.iconst 1, 1) := by decide +kernel
theorem dX5_gather_177 : decode cX5_gather 177 = .ok (.goto 4, 3) := by decide +kernel
theorem dX5_gather_180 : decode cX5_gather 180 = .ok (.iconst 0, 1) := by decide +kernel
theorem dX5_gather_181 : decode cX5_gather 181 = .ok (.putfield 97, 3) := by decide +kernel
theorem dX5_gather_184 : decode cX5_gather 184 = .ok (.iinc 3 1, 3) := by decide +kernel
theorem dX5_gather_187 : decode cX5_gather 187 = .ok (.goto (-67), 3) := by decide +kernel
theorem dX5_gather_190 : decode cX5_gather 190 = .ok (.aload_n 0, 1) := by decide +kernel
theorem dX5_gather_191 : decode cX5_gather 191 = .ok (.aload_n 0, 1) := by decide +kernel
theorem dX5_gather_192 : decode cX5_gather 192 = .ok (.getfield 97, 3) := by decide +kernel
theorem dX5_gather_195 : decode cX5_gather 195 = .ok (.ifCond .eq 7, 3) := by decide +kernel
theorem dX5_gather_198 : decode cX5_gather 198 = .ok (.iconst 0, 1) := by decide +kernel
theorem dX5_gather_199 : decode cX5_gather 199 = .ok (.goto 7, 3) := by decide +kernel
theorem dX5_gather_202 : decode cX5_gather 202 = .ok (.aload_n 0, 1) := by decide +kernel
theorem dX5_gather_203 : decode cX5_gather 203 = .ok (.getfield 86, 3) := by decide +kernel
theorem dX5_gather_206 : decode cX5_gather 206 = .ok (.putfield 86, 3) := by decide +kernel
theorem dX5_gather_209 : decode cX5_gather 209 = .ok (.aload_n 0, 1) := by decide +kernel
theorem dX5_gather_210 : decode cX5_gather 210 = .ok (.iconst 0, 1) := by decide +kernel
theorem dX5_gather_211 : decode cX5_gather 211 = .ok (.putfield 101, 3) := by decide +kernel
theorem dX5_gather_214 : decode cX5_gather 214 = .ok (.iconst 0, 1) := by decide +kernel
theorem dX5_gather_215 : decode cX5_gather 215 = .ok (.istore_n 3, 1) := by decide +kernel
theorem dX5_gather_216 : decode cX5_gather 216 = .ok (.iload_n 3, 1) := by decide +kernel
theorem dX5_gather_217 : decode cX5_gather 217 = .ok (.aload_n 0, 1) := by decide +kernel
theorem dX5_gather_218 : decode cX5_gather 218 = .ok (.getfield 86, 3) := by decide +kernel
theorem dX5_gather_221 : decode cX5_gather 221 = .ok (.if_icmp .ge 47, 3) := by decide +kernel
theorem dX5_gather_224 : decode cX5_gather 224 = .ok (.aload_n 0, 1) := by decide +kernel
theorem dX5_gather_225 : decode cX5_gather 225 = .ok (.dup, 1) := by decide +kernel
theorem dX5_gather_226 : decode cX5_gather 226 = .ok (.getfield 101, 3) := by decide +kernel
theorem dX5_gather_229 : decode cX5_gather 229 = .ok (.iload_n 3, 1) := by decide +kernel
theorem dX5_gather_230 : decode cX5_gather 230 = .ok (.ifCond .eq 11, 3) := by decide +kernel
theorem dX5_gather_233 : decode cX5_gather 233 = .ok (.aload_n 0, 1) := by decide +kernel
theorem dX5_gather_234 : decode cX5_gather 234 = .ok (.iload_n 3, 1) := by decide +kernel
theorem dX5_gather_235 : decode cX5_gather 235 = .ok (.invokevirtual 104, 3) := by decide +kernel
theorem dX5_gather_238 : decode cX5_gather 238 = .ok (.ifCond .eq 7, 3) := by decide +kernel
theorem dX5_gather_241 : decode cX5_gather 241 = .ok (.iconst 1, 1) := by decide +kernel
theorem dX5_gather_242 : decode cX5_gather 242 = .ok (.goto 4, 3) := by decide +kernel
theorem dX5_gather_245 : decode cX5_gather 245 = .ok (.iconst 0, 1) := by decide +kernel
theorem dX5_gather_246 : decode cX5_gather 246 = .ok (.iadd, 1) := by decide +kernel
theorem dX5_gather_247 : decode cX5_gather 247 = .ok (.putfield 101, 3) := by decide +kernel
theorem dX5_gather_250 : decode cX5_gather 250 = .ok (.aload_n 0, 1) := by decide +kernel
theorem dX5_gather_251 : decode cX5_gather 251 = .ok (.getfield 47, 3) := by decide +kernel
theorem dX5_gather_254 : decode cX5_gather 254 = .ok (.iload_n 3, 1) := by decide +kernel
theorem dX5_gather_255 : decode cX5_gather 255 = .ok (.aload_n 0, 1) := by decide +kernel
theorem dX5_gather_256 : decode cX5_gather 256 = .ok (.getfield 101, 3) := by decide +kernel
theorem dX5_gather_259 : decode cX5_gather 259 = .ok (.iconst 1, 1) := by decide +kernel
theorem dX5_gather_260 : decode cX5_gather 260 = .ok (.isub, 1) := by decide +kernel
theorem dX5_gather_261 : decode cX5_gather 261 = .ok (.iastore, 1) := by decide +kernel
theorem dX5_gather_262 : decode cX5_gather 262 = .ok (.iinc 3 1, 3) := by decide +kernel
theorem dX5_gather_265 : decode cX5_gather 265 = .ok (.goto (-49), 3) := by decide +kernel
theorem dX5_gather_268 : decode cX5_gather 268 = .ok (.return_, 1) := by decide +kernel
theorem dX5_placeIn_0 : decode cX5_placeIn 0 = .ok (.iconst (-1), 1) := by decide +kernel
theorem dX5_placeIn_1 : decode cX5_placeIn 1 = .ok (.istore_n 2, 1) := by decide +kernel
theorem dX5_placeIn_2 : decode cX5_placeIn 2 = .ok (.iconst 0, 1) := by decide +kernel
theorem dX5_placeIn_3 : decode cX5_placeIn 3 = .ok (.istore_n 3, 1) := by decide +kernel
theorem dX5_placeIn_4 : decode cX5_placeIn 4 = .ok (.iload_n 3, 1) := by decide +kernel
theorem dX5_placeIn_5 : decode cX5_placeIn 5 = .ok (.aload_n 0, 1) := by decide +kernel
theorem dX5_placeIn_6 : decode cX5_placeIn 6 = .ok (.getfield 86, 3) := by decide +kernel
theorem dX5_placeIn_9 : decode cX5_placeIn 9 = .ok (.if_icmp .ge 25, 3) := by decide +kernel
theorem dX5_placeIn_12 : decode cX5_placeIn 12 = .ok (.aload_n 0, 1) := by decide +kernel
theorem dX5_placeIn_13 : decode cX5_placeIn 13 = .ok (.getfield 44, 3) := by decide +kernel
theorem dX5_placeIn_16 : decode cX5_placeIn 16 = .ok (.iload_n 3, 1) := by decide +kernel
theorem dX5_placeIn_17 : decode cX5_placeIn 17 = .ok (.iaload, 1) := by decide +kernel
theorem dX5_placeIn_18 : decode cX5_placeIn 18 = .ok (.iload_n 1, 1) := by decide +kernel
theorem dX5_placeIn_19 : decode cX5_placeIn 19 = .ok (.if_icmp .ne 7, 3) := by decide +kernel
theorem dX5_placeIn_22 : decode cX5_placeIn 22 = .ok (.iload_n 3, 1) := by decide +kernel
theorem dX5_placeIn_23 : decode cX5_placeIn 23 = .ok (.goto 4, 3) := by decide +kernel
theorem dX5_placeIn_26 : decode cX5_placeIn 26 = .ok (.iload_n 2, 1) := by decide +kernel
theorem dX5_placeIn_27 : decode cX5_placeIn 27 = .ok (.istore_n 2, 1) := by decide +kernel
theorem dX5_placeIn_28 : decode cX5_placeIn 28 = .ok (.iinc 3 1, 3) := by decide +kernel
theorem dX5_placeIn_31 : decode cX5_placeIn 31 = .ok (.goto (-27), 3) := by decide +kernel
theorem dX5_placeIn_34 : decode cX5_placeIn 34 = .ok (.iload_n 2, 1) := by decide +kernel
theorem dX5_placeIn_35 : decode cX5_placeIn 35 = .ok (.ireturn, 1) := by decide +kernel
theorem dX5_told_0 : decode cX5_told 0 = .ok (.aload_n 0, 1) := by decide +kernel
theorem dX5_told_1 : decode cX5_told 1 = .ok (.iload_n 1, 1) := by decide +kernel
theorem dX5_told_2 : decode cX5_told 2 = .ok (.invokevirtual 77, 3) := by decide +kernel
theorem dX5_told_5 : decode cX5_told 5 = .ok (.ifCond .ne 7, 3) := by decide +kernel
theorem dX5_told_8 : decode cX5_told 8 = .ok (.sipush (-1001), 3) := by decide +kernel
theorem dX5_told_11 : decode cX5_told 11 = .ok (.ireturn, 1) := by decide +kernel
theorem dX5_told_12 : decode cX5_told 12 = .ok (.iload_n 2, 1) := by decide +kernel
theorem dX5_told_13 : decode cX5_told 13 = .ok (.i2l, 1) := by decide +kernel
theorem dX5_told_14 : decode cX5_told 14 = .ok (.lconst 0, 1) := by decide +kernel
theorem dX5_told_15 : decode cX5_told 15 = .ok (.ldc2_w 107, 3) := by decide +kernel
theorem dX5_told_18 : decode cX5_told 18 = .ok (.invokestatic 61, 3) := by decide +kernel
theorem dX5_told_21 : decode cX5_told 21 = .ok (.ifCond .ne 7, 3) := by decide +kernel
theorem dX5_told_24 : decode cX5_told 24 = .ok (.sipush (-1002), 3) := by decide +kernel
theorem dX5_told_27 : decode cX5_told 27 = .ok (.ireturn, 1) := by decide +kernel
theorem dX5_told_28 : decode cX5_told 28 = .ok (.aload_n 0, 1) := by decide +kernel
theorem dX5_told_29 : decode cX5_told 29 = .ok (.aload_n 0, 1) := by decide +kernel
theorem dX5_told_30 : decode cX5_told 30 = .ok (.getfield 13, 3) := by decide +kernel
theorem dX5_told_33 : decode cX5_told 33 = .ok (.iload_n 1, 1) := by decide +kernel
theorem dX5_told_34 : decode cX5_told 34 = .ok (.iaload, 1) := by decide +kernel
theorem dX5_told_35 : decode cX5_told 35 = .ok (.invokevirtual 89, 3) := by decide +kernel
theorem dX5_told_38 : decode cX5_told 38 = .ok (.istore_n 3, 1) := by decide +kernel
theorem dX5_told_39 : decode cX5_told 39 = .ok (.aload_n 0, 1) := by decide +kernel
theorem dX5_told_40 : decode cX5_told 40 = .ok (.iload_n 3, 1) := by decide +kernel
theorem dX5_told_41 : decode cX5_told 41 = .ok (.invokevirtual 109, 3) := by decide +kernel
theorem dX5_told_44 : decode cX5_told 44 = .ok (.aload_n 0, 1) := by decide +kernel
theorem dX5_told_45 : decode cX5_told 45 = .ok (.iload_n 1, 1) := by decide +kernel
theorem dX5_told_46 : decode cX5_told 46 = .ok (.invokevirtual 113, 3) := by decide +kernel
theorem dX5_told_49 : decode cX5_told 49 = .ok (.istore 4, 2) := by decide +kernel
theorem dX5_told_51 : decode cX5_told 51 = .ok (.iload_n 2, 1) := by decide +kernel
theorem dX5_told_52 : decode cX5_told 52 = .ok (.tableswitch 91 0 5 #[40, 47, 54, 61, 63, 74], 40) := by decide +kernel
theorem dX5_told_92 : decode cX5_told 92 = .ok (.aload_n 0, 1) := by decide +kernel
theorem dX5_told_93 : decode cX5_told 93 = .ok (.getfield 7, 3) := by decide +kernel
theorem dX5_told_96 : decode cX5_told 96 = .ok (.iload_n 1, 1) := by decide +kernel
theorem dX5_told_97 : decode cX5_told 97 = .ok (.iaload, 1) := by decide +kernel
theorem dX5_told_98 : decode cX5_told 98 = .ok (.ireturn, 1) := by decide +kernel
theorem dX5_told_99 : decode cX5_told 99 = .ok (.aload_n 0, 1) := by decide +kernel
theorem dX5_told_100 : decode cX5_told 100 = .ok (.getfield 13, 3) := by decide +kernel
theorem dX5_told_103 : decode cX5_told 103 = .ok (.iload_n 1, 1) := by decide +kernel
theorem dX5_told_104 : decode cX5_told 104 = .ok (.iaload, 1) := by decide +kernel
theorem dX5_told_105 : decode cX5_told 105 = .ok (.ireturn, 1) := by decide +kernel
theorem dX5_told_106 : decode cX5_told 106 = .ok (.aload_n 0, 1) := by decide +kernel
theorem dX5_told_107 : decode cX5_told 107 = .ok (.getfield 16, 3) := by decide +kernel
theorem dX5_told_110 : decode cX5_told 110 = .ok (.iload_n 1, 1) := by decide +kernel
theorem dX5_told_111 : decode cX5_told 111 = .ok (.iaload, 1) := by decide +kernel
theorem dX5_told_112 : decode cX5_told 112 = .ok (.ireturn, 1) := by decide +kernel
theorem dX5_told_113 : decode cX5_told 113 = .ok (.iload_n 3, 1) := by decide +kernel
theorem dX5_told_114 : decode cX5_told 114 = .ok (.ireturn, 1) := by decide +kernel
theorem dX5_told_115 : decode cX5_told 115 = .ok (.iload 4, 2) := by decide +kernel
theorem dX5_told_117 : decode cX5_told 117 = .ok (.ifCond .ge 7, 3) := by decide +kernel
theorem dX5_told_120 : decode cX5_told 120 = .ok (.iconst 0, 1) := by decide +kernel
theorem dX5_told_121 : decode cX5_told 121 = .ok (.goto 4, 3) := by decide +kernel
theorem dX5_told_124 : decode cX5_told 124 = .ok (.iconst 1, 1) := by decide +kernel
theorem dX5_told_125 : decode cX5_told 125 = .ok (.ireturn, 1) := by decide +kernel
theorem dX5_told_126 : decode cX5_told 126 = .ok (.iload 4, 2) := by decide +kernel
theorem dX5_told_128 : decode cX5_told 128 = .ok (.ifCond .ge 7, 3) := by decide +kernel
theorem dX5_told_131 : decode cX5_told 131 = .ok (.iconst (-1), 1) := by decide +kernel
theorem dX5_told_132 : decode cX5_told 132 = .ok (.goto 10, 3) := by decide +kernel
theorem dX5_told_135 : decode cX5_told 135 = .ok (.aload_n 0, 1) := by decide +kernel
theorem dX5_told_136 : decode cX5_told 136 = .ok (.getfield 47, 3) := by decide +kernel
theorem dX5_told_139 : decode cX5_told 139 = .ok (.iload 4, 2) := by decide +kernel
theorem dX5_told_141 : decode cX5_told 141 = .ok (.iaload, 1) := by decide +kernel
theorem dX5_told_142 : decode cX5_told 142 = .ok (.ireturn, 1) := by decide +kernel
theorem dX5_told_143 : decode cX5_told 143 = .ok (.iload 4, 2) := by decide +kernel
theorem dX5_told_145 : decode cX5_told 145 = .ok (.ireturn, 1) := by decide +kernel
theorem dX5_clicksOf_0 : decode cX5_clicksOf 0 = .ok (.iconst 0, 1) := by decide +kernel
theorem dX5_clicksOf_1 : decode cX5_clicksOf 1 = .ok (.istore_n 2, 1) := by decide +kernel
theorem dX5_clicksOf_2 : decode cX5_clicksOf 2 = .ok (.iconst 0, 1) := by decide +kernel
theorem dX5_clicksOf_3 : decode cX5_clicksOf 3 = .ok (.istore_n 3, 1) := by decide +kernel
theorem dX5_clicksOf_4 : decode cX5_clicksOf 4 = .ok (.iload_n 3, 1) := by decide +kernel
theorem dX5_clicksOf_5 : decode cX5_clicksOf 5 = .ok (.aload_n 0, 1) := by decide +kernel
theorem dX5_clicksOf_6 : decode cX5_clicksOf 6 = .ok (.getfield 65, 3) := by decide +kernel
theorem dX5_clicksOf_9 : decode cX5_clicksOf 9 = .ok (.if_icmp .ge 31, 3) := by decide +kernel
theorem dX5_clicksOf_12 : decode cX5_clicksOf 12 = .ok (.iload_n 2, 1) := by decide +kernel
theorem dX5_clicksOf_13 : decode cX5_clicksOf 13 = .ok (.aload_n 0, 1) := by decide +kernel
theorem dX5_clicksOf_14 : decode cX5_clicksOf 14 = .ok (.aload_n 0, 1) := by decide +kernel
theorem dX5_clicksOf_15 : decode cX5_clicksOf 15 = .ok (.getfield 13, 3) := by decide +kernel
theorem dX5_clicksOf_18 : decode cX5_clicksOf 18 = .ok (.iload_n 3, 1) := by decide +kernel
theorem dX5_clicksOf_19 : decode cX5_clicksOf 19 = .ok (.iaload, 1) := by decide +kernel
theorem dX5_clicksOf_20 : decode cX5_clicksOf 20 = .ok (.invokevirtual 89, 3) := by decide +kernel
theorem dX5_clicksOf_23 : decode cX5_clicksOf 23 = .ok (.iload_n 1, 1) := by decide +kernel
theorem dX5_clicksOf_24 : decode cX5_clicksOf 24 = .ok (.if_icmp .ne 7, 3) := by decide +kernel
theorem dX5_clicksOf_27 : decode cX5_clicksOf 27 = .ok (.iconst 1, 1) := by decide +kernel
theorem dX5_clicksOf_28 : decode cX5_clicksOf 28 = .ok (.goto 4, 3) := by decide +kernel
theorem dX5_clicksOf_31 : decode cX5_clicksOf 31 = .ok (.iconst 0, 1) := by decide +kernel
theorem dX5_clicksOf_32 : decode cX5_clicksOf 32 = .ok (.iadd, 1) := by decide +kernel
theorem dX5_clicksOf_33 : decode cX5_clicksOf 33 = .ok (.istore_n 2, 1) := by decide +kernel
theorem dX5_clicksOf_34 : decode cX5_clicksOf 34 = .ok (.iinc 3 1, 3) := by decide +kernel
theorem dX5_clicksOf_37 : decode cX5_clicksOf 37 = .ok (.goto (-33), 3) := by decide +kernel
theorem dX5_clicksOf_40 : decode cX5_clicksOf 40 = .ok (.iload_n 2, 1) := by decide +kernel
theorem dX5_clicksOf_41 : decode cX5_clicksOf 41 = .ok (.ireturn, 1) := by decide +kernel
theorem dX5_birth_0 : decode cX5_birth 0 = .ok (.iconst 0, 1) := by decide +kernel
theorem dX5_birth_1 : decode cX5_birth 1 = .ok (.istore_n 1, 1) := by decide +kernel
theorem dX5_birth_2 : decode cX5_birth 2 = .ok (.iload_n 1, 1) := by decide +kernel
theorem dX5_birth_3 : decode cX5_birth 3 = .ok (.aload_n 0, 1) := by decide +kernel
theorem dX5_birth_4 : decode cX5_birth 4 = .ok (.getfield 86, 3) := by decide +kernel
theorem dX5_birth_7 : decode cX5_birth 7 = .ok (.if_icmp .ge 45, 3) := by decide +kernel
theorem dX5_birth_10 : decode cX5_birth 10 = .ok (.aload_n 0, 1) := by decide +kernel
theorem dX5_birth_11 : decode cX5_birth 11 = .ok (.getfield 16, 3) := by decide +kernel
theorem dX5_birth_14 : decode cX5_birth 14 = .ok (.aload_n 0, 1) := by decide +kernel
theorem dX5_birth_15 : decode cX5_birth 15 = .ok (.getfield 44, 3) := by decide +kernel
theorem dX5_birth_18 : decode cX5_birth 18 = .ok (.iload_n 1, 1) := by decide +kernel
theorem dX5_birth_19 : decode cX5_birth 19 = .ok (.iaload, 1) := by decide +kernel
theorem dX5_birth_20 : decode cX5_birth 20 = .ok (.iaload, 1) := by decide +kernel
theorem dX5_birth_21 : decode cX5_birth 21 = .ok (.aload_n 0, 1) := by decide +kernel
theorem dX5_birth_22 : decode cX5_birth 22 = .ok (.getfield 26, 3) := by decide +kernel
theorem dX5_birth_25 : decode cX5_birth 25 = .ok (.iconst 5, 1) := by decide +kernel
theorem dX5_birth_26 : decode cX5_birth 26 = .ok (.iaload, 1) := by decide +kernel
theorem dX5_birth_27 : decode cX5_birth 27 = .ok (.if_icmp .ne 19, 3) := by decide +kernel
theorem dX5_birth_30 : decode cX5_birth 30 = .ok (.aload_n 0, 1) := by decide +kernel
theorem dX5_birth_31 : decode cX5_birth 31 = .ok (.getfield 7, 3) := by decide +kernel
theorem dX5_birth_34 : decode cX5_birth 34 = .ok (.aload_n 0, 1) := by decide +kernel
theorem dX5_birth_35 : decode cX5_birth 35 = .ok (.getfield 44, 3) := by decide +kernel
theorem dX5_birth_38 : decode cX5_birth 38 = .ok (.iload_n 1, 1) := by decide +kernel
theorem dX5_birth_39 : decode cX5_birth 39 = .ok (.iaload, 1) := by decide +kernel
theorem dX5_birth_40 : decode cX5_birth 40 = .ok (.iaload, 1) := by decide +kernel
theorem dX5_birth_41 : decode cX5_birth 41 = .ok (.sipush 10080, 3) := by decide +kernel
theorem dX5_birth_44 : decode cX5_birth 44 = .ok (.idiv, 1) := by decide +kernel
theorem dX5_birth_45 : decode cX5_birth 45 = .ok (.ireturn, 1) := by decide +kernel
theorem dX5_birth_46 : decode cX5_birth 46 = .ok (.iinc 1 1, 3) := by decide +kernel
theorem dX5_birth_49 : decode cX5_birth 49 = .ok (.goto (-47), 3) := by decide +kernel
theorem dX5_birth_52 : decode cX5_birth 52 = .ok (.iconst (-1), 1) := by decide +kernel
theorem dX5_birth_53 : decode cX5_birth 53 = .ok (.ireturn, 1) := by decide +kernel
theorem dX5_person_0 : decode cX5_person 0 = .ok (.iload_n 1, 1) := by decide +kernel
theorem dX5_person_1 : decode cX5_person 1 = .ok (.invokestatic 69, 3) := by decide +kernel
theorem dX5_person_4 : decode cX5_person 4 = .ok (.ifCond .ne 7, 3) := by decide +kernel
theorem dX5_person_7 : decode cX5_person 7 = .ok (.sipush (-1001), 3) := by decide +kernel
theorem dX5_person_10 : decode cX5_person 10 = .ok (.ireturn, 1) := by decide +kernel
theorem dX5_person_11 : decode cX5_person 11 = .ok (.aload_n 0, 1) := by decide +kernel
theorem dX5_person_12 : decode cX5_person 12 = .ok (.iload_n 1, 1) := by decide +kernel
theorem dX5_person_13 : decode cX5_person 13 = .ok (.invokevirtual 89, 3) := by decide +kernel
theorem dX5_person_16 : decode cX5_person 16 = .ok (.istore_n 3, 1) := by decide +kernel
theorem dX5_person_17 : decode cX5_person 17 = .ok (.aload_n 0, 1) := by decide +kernel
theorem dX5_person_18 : decode cX5_person 18 = .ok (.iload_n 3, 1) := by decide +kernel
theorem dX5_person_19 : decode cX5_person 19 = .ok (.invokevirtual 109, 3) := by decide +kernel
theorem dX5_person_22 : decode cX5_person 22 = .ok (.iload_n 2, 1) := by decide +kernel
theorem dX5_person_23 : decode cX5_person 23 = .ok (.tableswitch 73 0 5 #[37, 39, 45, 50, 63, 68], 37) := by decide +kernel
theorem dX5_person_60 : decode cX5_person 60 = .ok (.iload_n 3, 1) := by decide +kernel
theorem dX5_person_61 : decode cX5_person 61 = .ok (.ireturn, 1) := by decide +kernel
theorem dX5_person_62 : decode cX5_person 62 = .ok (.aload_n 0, 1) := by decide +kernel
theorem dX5_person_63 : decode cX5_person 63 = .ok (.iload_n 3, 1) := by decide +kernel
theorem dX5_person_64 : decode cX5_person 64 = .ok (.invokevirtual 116, 3) := by decide +kernel
theorem dX5_person_67 : decode cX5_person 67 = .ok (.ireturn, 1) := by decide +kernel
theorem dX5_person_68 : decode cX5_person 68 = .ok (.aload_n 0, 1) := by decide +kernel
theorem dX5_person_69 : decode cX5_person 69 = .ok (.getfield 86, 3) := by decide +kernel
theorem dX5_person_72 : decode cX5_person 72 = .ok (.ireturn, 1) := by decide +kernel
theorem dX5_person_73 : decode cX5_person 73 = .ok (.aload_n 0, 1) := by decide +kernel
theorem dX5_person_74 : decode cX5_person 74 = .ok (.getfield 97, 3) := by decide +kernel
theorem dX5_person_77 : decode cX5_person 77 = .ok (.ifCond .eq 7, 3) := by decide +kernel
theorem dX5_person_80 : decode cX5_person 80 = .ok (.iconst 1, 1) := by decide +kernel
theorem dX5_person_81 : decode cX5_person 81 = .ok (.goto 4, 3) := by decide +kernel
theorem dX5_person_84 : decode cX5_person 84 = .ok (.iconst 0, 1) := by decide +kernel
theorem dX5_person_85 : decode cX5_person 85 = .ok (.ireturn, 1) := by decide +kernel
theorem dX5_person_86 : decode cX5_person 86 = .ok (.aload_n 0, 1) := by decide +kernel
theorem dX5_person_87 : decode cX5_person 87 = .ok (.getfield 101, 3) := by decide +kernel
theorem dX5_person_90 : decode cX5_person 90 = .ok (.ireturn, 1) := by decide +kernel
theorem dX5_person_91 : decode cX5_person 91 = .ok (.aload_n 0, 1) := by decide +kernel
theorem dX5_person_92 : decode cX5_person 92 = .ok (.invokevirtual 119, 3) := by decide +kernel
theorem dX5_person_95 : decode cX5_person 95 = .ok (.ireturn, 1) := by decide +kernel
theorem dX5_person_96 : decode cX5_person 96 = .ok (.sipush (-1002), 3) := by decide +kernel
theorem dX5_person_99 : decode cX5_person 99 = .ok (.ireturn, 1) := by decide +kernel
theorem dX5_row_0 : decode cX5_row 0 = .ok (.iload_n 1, 1) := by decide +kernel
theorem dX5_row_1 : decode cX5_row 1 = .ok (.invokestatic 69, 3) := by decide +kernel
theorem dX5_row_4 : decode cX5_row 4 = .ok (.ifCond .ne 7, 3) := by decide +kernel
theorem dX5_row_7 : decode cX5_row 7 = .ok (.sipush (-1001), 3) := by decide +kernel
theorem dX5_row_10 : decode cX5_row 10 = .ok (.ireturn, 1) := by decide +kernel
theorem dX5_row_11 : decode cX5_row 11 = .ok (.aload_n 0, 1) := by decide +kernel
theorem dX5_row_12 : decode cX5_row 12 = .ok (.aload_n 0, 1) := by decide +kernel
theorem dX5_row_13 : decode cX5_row 13 = .ok (.iload_n 1, 1) := by decide +kernel
theorem dX5_row_14 : decode cX5_row 14 = .ok (.invokevirtual 89, 3) := by decide +kernel
theorem dX5_row_17 : decode cX5_row 17 = .ok (.invokevirtual 109, 3) := by decide +kernel
theorem dX5_row_20 : decode cX5_row 20 = .ok (.iload_n 2, 1) := by decide +kernel
theorem dX5_row_21 : decode cX5_row 21 = .ok (.i2l, 1) := by decide +kernel
theorem dX5_row_22 : decode cX5_row 22 = .ok (.lconst 0, 1) := by decide +kernel
theorem dX5_row_23 : decode cX5_row 23 = .ok (.aload_n 0, 1) := by decide +kernel
theorem dX5_row_24 : decode cX5_row 24 = .ok (.getfield 86, 3) := by decide +kernel
theorem dX5_row_27 : decode cX5_row 27 = .ok (.iconst 1, 1) := by decide +kernel
theorem dX5_row_28 : decode cX5_row 28 = .ok (.isub, 1) := by decide +kernel
theorem dX5_row_29 : decode cX5_row 29 = .ok (.i2l, 1) := by decide +kernel
theorem dX5_row_30 : decode cX5_row 30 = .ok (.invokestatic 61, 3) := by decide +kernel
theorem dX5_row_33 : decode cX5_row 33 = .ok (.ifCond .eq 12, 3) := by decide +kernel
theorem dX5_row_36 : decode cX5_row 36 = .ok (.aload_n 0, 1) := by decide +kernel
theorem dX5_row_37 : decode cX5_row 37 = .ok (.getfield 44, 3) := by decide +kernel
theorem dX5_row_40 : decode cX5_row 40 = .ok (.iload_n 2, 1) := by decide +kernel
theorem dX5_row_41 : decode cX5_row 41 = .ok (.iaload, 1) := by decide +kernel
theorem dX5_row_42 : decode cX5_row 42 = .ok (.goto 4, 3) := by decide +kernel
theorem dX5_row_45 : decode cX5_row 45 = .ok (.iconst (-1), 1) := by decide +kernel
theorem dX5_row_46 : decode cX5_row 46 = .ok (.ireturn, 1) := by decide +kernel
theorem dX5_sitting_0 : decode cX5_sitting 0 = .ok (.iload_n 1, 1) := by decide +kernel
theorem dX5_sitting_1 : decode cX5_sitting 1 = .ok (.invokestatic 69, 3) := by decide +kernel
theorem dX5_sitting_4 : decode cX5_sitting 4 = .ok (.ifCond .ne 7, 3) := by decide +kernel
theorem dX5_sitting_7 : decode cX5_sitting 7 = .ok (.sipush (-1001), 3) := by decide +kernel
theorem dX5_sitting_10 : decode cX5_sitting 10 = .ok (.ireturn, 1) := by decide +kernel
theorem dX5_sitting_11 : decode cX5_sitting 11 = .ok (.aload_n 0, 1) := by decide +kernel
theorem dX5_sitting_12 : decode cX5_sitting 12 = .ok (.aload_n 0, 1) := by decide +kernel
theorem dX5_sitting_13 : decode cX5_sitting 13 = .ok (.iload_n 1, 1) := by decide +kernel
theorem dX5_sitting_14 : decode cX5_sitting 14 = .ok (.invokevirtual 89, 3) := by decide +kernel
theorem dX5_sitting_17 : decode cX5_sitting 17 = .ok (.invokevirtual 109, 3) := by decide +kernel
theorem dX5_sitting_20 : decode cX5_sitting 20 = .ok (.iload_n 2, 1) := by decide +kernel
theorem dX5_sitting_21 : decode cX5_sitting 21 = .ok (.i2l, 1) := by decide +kernel
theorem dX5_sitting_22 : decode cX5_sitting 22 = .ok (.lconst 0, 1) := by decide +kernel
theorem dX5_sitting_23 : decode cX5_sitting 23 = .ok (.aload_n 0, 1) := by decide +kernel
theorem dX5_sitting_24 : decode cX5_sitting 24 = .ok (.getfield 101, 3) := by decide +kernel
theorem dX5_sitting_27 : decode cX5_sitting 27 = .ok (.iconst 1, 1) := by decide +kernel
theorem dX5_sitting_28 : decode cX5_sitting 28 = .ok (.isub, 1) := by decide +kernel
theorem dX5_sitting_29 : decode cX5_sitting 29 = .ok (.i2l, 1) := by decide +kernel
theorem dX5_sitting_30 : decode cX5_sitting 30 = .ok (.invokestatic 61, 3) := by decide +kernel
theorem dX5_sitting_33 : decode cX5_sitting 33 = .ok (.ifCond .ne 7, 3) := by decide +kernel
theorem dX5_sitting_36 : decode cX5_sitting 36 = .ok (.sipush (-1001), 3) := by decide +kernel
theorem dX5_sitting_39 : decode cX5_sitting 39 = .ok (.ireturn, 1) := by decide +kernel
theorem dX5_sitting_40 : decode cX5_sitting 40 = .ok (.iload_n 3, 1) := by decide +kernel
theorem dX5_sitting_41 : decode cX5_sitting 41 = .ok (.i2l, 1) := by decide +kernel
theorem dX5_sitting_42 : decode cX5_sitting 42 = .ok (.lconst 0, 1) := by decide +kernel
theorem dX5_sitting_43 : decode cX5_sitting 43 = .ok (.ldc2_w 123, 3) := by decide +kernel
theorem dX5_sitting_46 : decode cX5_sitting 46 = .ok (.invokestatic 61, 3) := by decide +kernel
theorem dX5_sitting_49 : decode cX5_sitting 49 = .ok (.ifCond .ne 7, 3) := by decide +kernel
theorem dX5_sitting_52 : decode cX5_sitting 52 = .ok (.sipush (-1002), 3) := by decide +kernel
theorem dX5_sitting_55 : decode cX5_sitting 55 = .ok (.ireturn, 1) := by decide +kernel
theorem dX5_sitting_56 : decode cX5_sitting 56 = .ok (.iconst (-1), 1) := by decide +kernel
theorem dX5_sitting_57 : decode cX5_sitting 57 = .ok (.istore 4, 2) := by decide +kernel
theorem dX5_sitting_59 : decode cX5_sitting 59 = .ok (.iconst (-1), 1) := by decide +kernel
theorem dX5_sitting_60 : decode cX5_sitting 60 = .ok (.istore 5, 2) := by decide +kernel
theorem dX5_sitting_62 : decode cX5_sitting 62 = .ok (.iconst 0, 1) := by decide +kernel
theorem dX5_sitting_63 : decode cX5_sitting 63 = .ok (.istore 6, 2) := by decide +kernel
theorem dX5_sitting_65 : decode cX5_sitting 65 = .ok (.iconst 0, 1) := by decide +kernel
theorem dX5_sitting_66 : decode cX5_sitting 66 = .ok (.istore 7, 2) := by decide +kernel
theorem dX5_sitting_68 : decode cX5_sitting 68 = .ok (.iload 7, 2) := by decide +kernel
theorem dX5_sitting_70 : decode cX5_sitting 70 = .ok (.aload_n 0, 1) := by decide +kernel
theorem dX5_sitting_71 : decode cX5_sitting 71 = .ok (.getfield 86, 3) := by decide +kernel
theorem dX5_sitting_74 : decode cX5_sitting 74 = .ok (.if_icmp .ge 51, 3) := by decide +kernel
theorem dX5_sitting_77 : decode cX5_sitting 77 = .ok (.aload_n 0, 1) := by decide +kernel
theorem dX5_sitting_78 : decode cX5_sitting 78 = .ok (.getfield 47, 3) := by decide +kernel
theorem dX5_sitting_81 : decode cX5_sitting 81 = .ok (.iload 7, 2) := by decide +kernel
theorem dX5_sitting_83 : decode cX5_sitting 83 = .ok (.iaload, 1) := by decide +kernel
theorem dX5_sitting_84 : decode cX5_sitting 84 = .ok (.iload_n 2, 1) := by decide +kernel
theorem dX5_sitting_85 : decode cX5_sitting 85 = .ok (.if_icmp .ne 34, 3) := by decide +kernel
theorem dX5_sitting_88 : decode cX5_sitting 88 = .ok (.iload 4, 2) := by decide +kernel
theorem dX5_sitting_90 : decode cX5_sitting 90 = .ok (.ifCond .ge 13, 3) := by decide +kernel
theorem dX5_sitting_93 : decode cX5_sitting 93 = .ok (.aload_n 0, 1) := by decide +kernel
theorem dX5_sitting_94 : decode cX5_sitting 94 = .ok (.getfield 44, 3) := by decide +kernel
theorem dX5_sitting_97 : decode cX5_sitting 97 = .ok (.iload 7, 2) := by decide +kernel
theorem dX5_sitting_99 : decode cX5_sitting 99 = .ok (.iaload, 1) := by decide +kernel
theorem dX5_sitting_100 : decode cX5_sitting 100 = .ok (.goto 5, 3) := by decide +kernel
theorem dX5_sitting_103 : decode cX5_sitting 103 = .ok (.iload 4, 2) := by decide +kernel
theorem dX5_sitting_105 : decode cX5_sitting 105 = .ok (.istore 4, 2) := by decide +kernel
theorem dX5_sitting_107 : decode cX5_sitting 107 = .ok (.aload_n 0, 1) := by decide +kernel
theorem dX5_sitting_108 : decode cX5_sitting 108 = .ok (.getfield 44, 3) := by decide +kernel
theorem dX5_sitting_111 : decode cX5_sitting 111 = .ok (.iload 7, 2) := by decide +kernel
theorem dX5_sitting_113 : decode cX5_sitting 113 = .ok (.iaload, 1) := by decide +kernel
theorem dX5_sitting_114 : decode cX5_sitting 114 = .ok (.istore 5, 2) := by decide +kernel
theorem dX5_sitting_116 : decode cX5_sitting 116 = .ok (.iinc 6 1, 3) := by decide +kernel
theorem dX5_sitting_119 : decode cX5_sitting 119 = .ok (.iinc 7 1, 3) := by decide +kernel
theorem dX5_sitting_122 : decode cX5_sitting 122 = .ok (.goto (-54), 3) := by decide +kernel
theorem dX5_sitting_125 : decode cX5_sitting 125 = .ok (.iload_n 3, 1) := by decide +kernel
theorem dX5_sitting_126 : decode cX5_sitting 126 = .ok (.ifCond .ne 8, 3) := by decide +kernel
theorem dX5_sitting_129 : decode cX5_sitting 129 = .ok (.iload 4, 2) := by decide +kernel
theorem dX5_sitting_131 : decode cX5_sitting 131 = .ok (.goto 38, 3) := by decide +kernel
theorem dX5_sitting_134 : decode cX5_sitting 134 = .ok (.iload_n 3, 1) := by decide +kernel
theorem dX5_sitting_135 : decode cX5_sitting 135 = .ok (.iconst 1, 1) := by decide +kernel
theorem dX5_sitting_136 : decode cX5_sitting 136 = .ok (.if_icmp .ne 8, 3) := by decide +kernel
theorem dX5_sitting_139 : decode cX5_sitting 139 = .ok (.iload 5, 2) := by decide +kernel
theorem dX5_sitting_141 : decode cX5_sitting 141 = .ok (.goto 28, 3) := by decide +kernel
theorem dX5_sitting_144 : decode cX5_sitting 144 = .ok (.iload_n 3, 1) := by decide +kernel
theorem dX5_sitting_145 : decode cX5_sitting 145 = .ok (.iconst 2, 1) := by decide +kernel
theorem dX5_sitting_146 : decode cX5_sitting 146 = .ok (.if_icmp .ne 8, 3) := by decide +kernel
theorem dX5_sitting_149 : decode cX5_sitting 149 = .ok (.iload 6, 2) := by decide +kernel
theorem dX5_sitting_151 : decode cX5_sitting 151 = .ok (.goto 18, 3) := by decide +kernel
theorem dX5_sitting_154 : decode cX5_sitting 154 = .ok (.aload_n 0, 1) := by decide +kernel
theorem dX5_sitting_155 : decode cX5_sitting 155 = .ok (.getfield 7, 3) := by decide +kernel
theorem dX5_sitting_158 : decode cX5_sitting 158 = .ok (.iload 5, 2) := by decide +kernel
theorem dX5_sitting_160 : decode cX5_sitting 160 = .ok (.iaload, 1) := by decide +kernel
theorem dX5_sitting_161 : decode cX5_sitting 161 = .ok (.aload_n 0, 1) := by decide +kernel
theorem dX5_sitting_162 : decode cX5_sitting 162 = .ok (.getfield 7, 3) := by decide +kernel
theorem dX5_sitting_165 : decode cX5_sitting 165 = .ok (.iload 4, 2) := by decide +kernel
theorem dX5_sitting_167 : decode cX5_sitting 167 = .ok (.iaload, 1) := by decide +kernel
theorem dX5_sitting_168 : decode cX5_sitting 168 = .ok (.isub, 1) := by decide +kernel
theorem dX5_sitting_169 : decode cX5_sitting 169 = .ok (.ireturn, 1) := by decide +kernel
theorem dX5_counted_0 : decode cX5_counted 0 = .ok (.iload_n 1, 1) := by decide +kernel
theorem dX5_counted_1 : decode cX5_counted 1 = .ok (.iconst 1, 1) := by decide +kernel
theorem dX5_counted_2 : decode cX5_counted 2 = .ok (.if_icmp .ne 10, 3) := by decide +kernel
theorem dX5_counted_5 : decode cX5_counted 5 = .ok (.aload_n 0, 1) := by decide +kernel
theorem dX5_counted_6 : decode cX5_counted 6 = .ok (.getfield 86, 3) := by decide +kernel
theorem dX5_counted_9 : decode cX5_counted 9 = .ok (.goto 47, 3) := by decide +kernel
theorem dX5_counted_12 : decode cX5_counted 12 = .ok (.iload_n 1, 1) := by decide +kernel
theorem dX5_counted_13 : decode cX5_counted 13 = .ok (.iconst 2, 1) := by decide +kernel
theorem dX5_counted_14 : decode cX5_counted 14 = .ok (.if_icmp .ne 10, 3) := by decide +kernel
theorem dX5_counted_17 : decode cX5_counted 17 = .ok (.aload_n 0, 1) := by decide +kernel
theorem dX5_counted_18 : decode cX5_counted 18 = .ok (.getfield 101, 3) := by decide +kernel
theorem dX5_counted_21 : decode cX5_counted 21 = .ok (.goto 35, 3) := by decide +kernel
theorem dX5_counted_24 : decode cX5_counted 24 = .ok (.iload_n 1, 1) := by decide +kernel
theorem dX5_counted_25 : decode cX5_counted 25 = .ok (.iconst 3, 1) := by decide +kernel
theorem dX5_counted_26 : decode cX5_counted 26 = .ok (.if_icmp .ne 18, 3) := by decide +kernel
theorem dX5_counted_29 : decode cX5_counted 29 = .ok (.aload_n 0, 1) := by decide +kernel
theorem dX5_counted_30 : decode cX5_counted 30 = .ok (.getfield 86, 3) := by decide +kernel
theorem dX5_counted_33 : decode cX5_counted 33 = .ok (.ifCond .le 7, 3) := by decide +kernel
theorem dX5_counted_36 : decode cX5_counted 36 = .ok (.iconst 1, 1) := by decide +kernel
theorem dX5_counted_37 : decode cX5_counted 37 = .ok (.goto 19, 3) := by decide +kernel
theorem dX5_counted_40 : decode cX5_counted 40 = .ok (.iconst 0, 1) := by decide +kernel
theorem dX5_counted_41 : decode cX5_counted 41 = .ok (.goto 15, 3) := by decide +kernel
theorem dX5_counted_44 : decode cX5_counted 44 = .ok (.aload_n 0, 1) := by decide +kernel
theorem dX5_counted_45 : decode cX5_counted 45 = .ok (.getfield 97, 3) := by decide +kernel
theorem dX5_counted_48 : decode cX5_counted 48 = .ok (.ifCond .eq 7, 3) := by decide +kernel
theorem dX5_counted_51 : decode cX5_counted 51 = .ok (.iconst 1, 1) := by decide +kernel
theorem dX5_counted_52 : decode cX5_counted 52 = .ok (.goto 4, 3) := by decide +kernel
theorem dX5_counted_55 : decode cX5_counted 55 = .ok (.iconst 0, 1) := by decide +kernel
theorem dX5_counted_56 : decode cX5_counted 56 = .ok (.ireturn, 1) := by decide +kernel
theorem dX5_count_0 : decode cX5_count 0 = .ok (.iload_n 1, 1) := by decide +kernel
theorem dX5_count_1 : decode cX5_count 1 = .ok (.i2l, 1) := by decide +kernel
theorem dX5_count_2 : decode cX5_count 2 = .ok (.lconst 0, 1) := by decide +kernel
theorem dX5_count_3 : decode cX5_count 3 = .ok (.ldc2_w 107, 3) := by decide +kernel
theorem dX5_count_6 : decode cX5_count 6 = .ok (.invokestatic 61, 3) := by decide +kernel
theorem dX5_count_9 : decode cX5_count 9 = .ok (.ifCond .ne 7, 3) := by decide +kernel
theorem dX5_count_12 : decode cX5_count 12 = .ok (.sipush (-1002), 3) := by decide +kernel
theorem dX5_count_15 : decode cX5_count 15 = .ok (.ireturn, 1) := by decide +kernel
theorem dX5_count_16 : decode cX5_count 16 = .ok (.iconst 0, 1) := by decide +kernel
theorem dX5_count_17 : decode cX5_count 17 = .ok (.istore_n 2, 1) := by decide +kernel
theorem dX5_count_18 : decode cX5_count 18 = .ok (.iconst 0, 1) := by decide +kernel
theorem dX5_count_19 : decode cX5_count 19 = .ok (.istore_n 3, 1) := by decide +kernel
theorem dX5_count_20 : decode cX5_count 20 = .ok (.iload_n 3, 1) := by decide +kernel
theorem dX5_count_21 : decode cX5_count 21 = .ok (.bipush 24, 2) := by decide +kernel
theorem dX5_count_23 : decode cX5_count 23 = .ok (.if_icmp .ge 59, 3) := by decide +kernel
theorem dX5_count_26 : decode cX5_count 26 = .ok (.aload_n 0, 1) := by decide +kernel
theorem dX5_count_27 : decode cX5_count 27 = .ok (.getfield 23, 3) := by decide +kernel
theorem dX5_count_30 : decode cX5_count 30 = .ok (.iload_n 3, 1) := by decide +kernel
theorem dX5_count_31 : decode cX5_count 31 = .ok (.iaload, 1) := by decide +kernel
theorem dX5_count_32 : decode cX5_count 32 = .ok (.ifCond .lt 19, 3) := by decide +kernel
theorem dX5_count_35 : decode cX5_count 35 = .ok (.iload_n 2, 1) := by decide +kernel
theorem dX5_count_36 : decode cX5_count 36 = .ok (.iload_n 1, 1) := by decide +kernel
theorem dX5_count_37 : decode cX5_count 37 = .ok (.iconst 5, 1) := by decide +kernel
theorem dX5_count_38 : decode cX5_count 38 = .ok (.if_icmp .ne 7, 3) := by decide +kernel
theorem dX5_count_41 : decode cX5_count 41 = .ok (.iconst 1, 1) := by decide +kernel
theorem dX5_count_42 : decode cX5_count 42 = .ok (.goto 4, 3) := by decide +kernel
theorem dX5_count_45 : decode cX5_count 45 = .ok (.iconst 0, 1) := by decide +kernel
theorem dX5_count_46 : decode cX5_count 46 = .ok (.iadd, 1) := by decide +kernel
theorem dX5_count_47 : decode cX5_count 47 = .ok (.istore_n 2, 1) := by decide +kernel
theorem dX5_count_48 : decode cX5_count 48 = .ok (.goto 28, 3) := by decide +kernel
theorem dX5_count_51 : decode cX5_count 51 = .ok (.iload_n 1, 1) := by decide +kernel
theorem dX5_count_52 : decode cX5_count 52 = .ok (.i2l, 1) := by decide +kernel
theorem dX5_count_53 : decode cX5_count 53 = .ok (.lconst 1, 1) := by decide +kernel
theorem dX5_count_54 : decode cX5_count 54 = .ok (.ldc2_w 125, 3) := by decide +kernel
theorem dX5_count_57 : decode cX5_count 57 = .ok (.invokestatic 61, 3) := by decide +kernel
theorem dX5_count_60 : decode cX5_count 60 = .ok (.ifCond .eq 16, 3) := by decide +kernel
theorem dX5_count_63 : decode cX5_count 63 = .ok (.aload_n 0, 1) := by decide +kernel
theorem dX5_count_64 : decode cX5_count 64 = .ok (.iload_n 3, 1) := by decide +kernel
theorem dX5_count_65 : decode cX5_count 65 = .ok (.invokevirtual 109, 3) := by decide +kernel
theorem dX5_count_68 : decode cX5_count 68 = .ok (.iload_n 2, 1) := by decide +kernel
theorem dX5_count_69 : decode cX5_count 69 = .ok (.aload_n 0, 1) := by decide +kernel
theorem dX5_count_70 : decode cX5_count 70 = .ok (.iload_n 1, 1) := by decide +kernel
theorem dX5_count_71 : decode cX5_count 71 = .ok (.invokevirtual 127, 3) := by decide +kernel
theorem dX5_count_74 : decode cX5_count 74 = .ok (.iadd, 1) := by decide +kernel
theorem dX5_count_75 : decode cX5_count 75 = .ok (.istore_n 2, 1) := by decide +kernel
theorem dX5_count_76 : decode cX5_count 76 = .ok (.iinc 3 1, 3) := by decide +kernel
theorem dX5_count_79 : decode cX5_count 79 = .ok (.goto (-59), 3) := by decide +kernel
theorem dX5_count_82 : decode cX5_count 82 = .ok (.iload_n 1, 1) := by decide +kernel
theorem dX5_count_83 : decode cX5_count 83 = .ok (.ifCond .ne 10, 3) := by decide +kernel
theorem dX5_count_86 : decode cX5_count 86 = .ok (.aload_n 0, 1) := by decide +kernel
theorem dX5_count_87 : decode cX5_count 87 = .ok (.getfield 65, 3) := by decide +kernel
theorem dX5_count_90 : decode cX5_count 90 = .ok (.goto 17, 3) := by decide +kernel
theorem dX5_count_93 : decode cX5_count 93 = .ok (.iload_n 1, 1) := by decide +kernel
theorem dX5_count_94 : decode cX5_count 94 = .ok (.bipush 6, 2) := by decide +kernel
theorem dX5_count_96 : decode cX5_count 96 = .ok (.if_icmp .ne 10, 3) := by decide +kernel
theorem dX5_count_99 : decode cX5_count 99 = .ok (.aload_n 0, 1) := by decide +kernel
theorem dX5_count_100 : decode cX5_count 100 = .ok (.getfield 130, 3) := by decide +kernel
theorem dX5_count_103 : decode cX5_count 103 = .ok (.goto 4, 3) := by decide +kernel
theorem dX5_count_106 : decode cX5_count 106 = .ok (.iload_n 2, 1) := by decide +kernel
theorem dX5_count_107 : decode cX5_count 107 = .ok (.ireturn, 1) := by decide +kernel
theorem dX5_funnel_0 : decode cX5_funnel 0 = .ok (.iload_n 2, 1) := by decide +kernel
theorem dX5_funnel_1 : decode cX5_funnel 1 = .ok (.i2l, 1) := by decide +kernel
theorem dX5_funnel_2 : decode cX5_funnel 2 = .ok (.lconst 0, 1) := by decide +kernel
theorem dX5_funnel_3 : decode cX5_funnel 3 = .ok (.ldc2_w 133, 3) := by decide +kernel
theorem dX5_funnel_6 : decode cX5_funnel 6 = .ok (.invokestatic 61, 3) := by decide +kernel
theorem dX5_funnel_9 : decode cX5_funnel 9 = .ok (.ifCond .eq 17, 3) := by decide +kernel
theorem dX5_funnel_12 : decode cX5_funnel 12 = .ok (.iload_n 3, 1) := by decide +kernel
theorem dX5_funnel_13 : decode cX5_funnel 13 = .ok (.i2l, 1) := by decide +kernel
theorem dX5_funnel_14 : decode cX5_funnel 14 = .ok (.ldc2_w 135, 3) := by decide +kernel
theorem dX5_funnel_17 : decode cX5_funnel 17 = .ok (.ldc2_w 75, 3) := by decide +kernel
theorem dX5_funnel_20 : decode cX5_funnel 20 = .ok (.invokestatic 61, 3) := by decide +kernel
theorem dX5_funnel_23 : decode cX5_funnel 23 = .ok (.ifCond .ne 7, 3) := by decide +kernel
theorem dX5_funnel_26 : decode cX5_funnel 26 = .ok (.sipush (-1002), 3) := by decide +kernel
theorem dX5_funnel_29 : decode cX5_funnel 29 = .ok (.ireturn, 1) := by decide +kernel
theorem dX5_funnel_30 : decode cX5_funnel 30 = .ok (.aload_n 0, 1) := by decide +kernel
theorem dX5_funnel_31 : decode cX5_funnel 31 = .ok (.getfield 130, 3) := by decide +kernel
theorem dX5_funnel_34 : decode cX5_funnel 34 = .ok (.bipush 6, 2) := by decide +kernel
theorem dX5_funnel_36 : decode cX5_funnel 36 = .ok (.if_icmp .ne 7, 3) := by decide +kernel
theorem dX5_funnel_39 : decode cX5_funnel 39 = .ok (.sipush (-1004), 3) := by decide +kernel
theorem dX5_funnel_42 : decode cX5_funnel 42 = .ok (.ireturn, 1) := by decide +kernel
theorem dX5_funnel_43 : decode cX5_funnel 43 = .ok (.aload_n 0, 1) := by decide +kernel
theorem dX5_funnel_44 : decode cX5_funnel 44 = .ok (.getfield 29, 3) := by decide +kernel
theorem dX5_funnel_47 : decode cX5_funnel 47 = .ok (.aload_n 0, 1) := by decide +kernel
theorem dX5_funnel_48 : decode cX5_funnel 48 = .ok (.getfield 130, 3) := by decide +kernel
theorem dX5_funnel_51 : decode cX5_funnel 51 = .ok (.iload_n 1, 1) := by decide +kernel
theorem dX5_funnel_52 : decode cX5_funnel 52 = .ok (.bastore, 1) := by decide +kernel
theorem dX5_funnel_53 : decode cX5_funnel 53 = .ok (.aload_n 0, 1) := by decide +kernel
theorem dX5_funnel_54 : decode cX5_funnel 54 = .ok (.getfield 32, 3) := by decide +kernel
theorem dX5_funnel_57 : decode cX5_funnel 57 = .ok (.aload_n 0, 1) := by decide +kernel
theorem dX5_funnel_58 : decode cX5_funnel 58 = .ok (.getfield 130, 3) := by decide +kernel
theorem dX5_funnel_61 : decode cX5_funnel 61 = .ok (.iload_n 2, 1) := by decide +kernel
theorem dX5_funnel_62 : decode cX5_funnel 62 = .ok (.iastore, 1) := by decide +kernel
theorem dX5_funnel_63 : decode cX5_funnel 63 = .ok (.aload_n 0, 1) := by decide +kernel
theorem dX5_funnel_64 : decode cX5_funnel 64 = .ok (.getfield 35, 3) := by decide +kernel
theorem dX5_funnel_67 : decode cX5_funnel 67 = .ok (.aload_n 0, 1) := by decide +kernel
theorem dX5_funnel_68 : decode cX5_funnel 68 = .ok (.getfield 130, 3) := by decide +kernel
theorem dX5_funnel_71 : decode cX5_funnel 71 = .ok (.iload_n 3, 1) := by decide +kernel
theorem dX5_funnel_72 : decode cX5_funnel 72 = .ok (.iastore, 1) := by decide +kernel
theorem dX5_funnel_73 : decode cX5_funnel 73 = .ok (.aload_n 0, 1) := by decide +kernel
theorem dX5_funnel_74 : decode cX5_funnel 74 = .ok (.getfield 38, 3) := by decide +kernel
theorem dX5_funnel_77 : decode cX5_funnel 77 = .ok (.aload_n 0, 1) := by decide +kernel
theorem dX5_funnel_78 : decode cX5_funnel 78 = .ok (.getfield 130, 3) := by decide +kernel
theorem dX5_funnel_81 : decode cX5_funnel 81 = .ok (.iconst 0, 1) := by decide +kernel
theorem dX5_funnel_82 : decode cX5_funnel 82 = .ok (.iastore, 1) := by decide +kernel
theorem dX5_funnel_83 : decode cX5_funnel 83 = .ok (.aload_n 0, 1) := by decide +kernel
theorem dX5_funnel_84 : decode cX5_funnel 84 = .ok (.dup, 1) := by decide +kernel
theorem dX5_funnel_85 : decode cX5_funnel 85 = .ok (.getfield 130, 3) := by decide +kernel
theorem dX5_funnel_88 : decode cX5_funnel 88 = .ok (.iconst 1, 1) := by decide +kernel
theorem dX5_funnel_89 : decode cX5_funnel 89 = .ok (.iadd, 1) := by decide +kernel
theorem dX5_funnel_90 : decode cX5_funnel 90 = .ok (.putfield 130, 3) := by decide +kernel
theorem dX5_funnel_93 : decode cX5_funnel 93 = .ok (.aload_n 0, 1) := by decide +kernel
theorem dX5_funnel_94 : decode cX5_funnel 94 = .ok (.getfield 130, 3) := by decide +kernel
theorem dX5_funnel_97 : decode cX5_funnel 97 = .ok (.iconst 1, 1) := by decide +kernel
theorem dX5_funnel_98 : decode cX5_funnel 98 = .ok (.isub, 1) := by decide +kernel
theorem dX5_funnel_99 : decode cX5_funnel 99 = .ok (.ireturn, 1) := by decide +kernel
theorem dX5_isFunnel_0 : decode cX5_isFunnel 0 = .ok (.iload_n 1, 1) := by decide +kernel
theorem dX5_isFunnel_1 : decode cX5_isFunnel 1 = .ok (.i2l, 1) := by decide +kernel
theorem dX5_isFunnel_2 : decode cX5_isFunnel 2 = .ok (.lconst 0, 1) := by decide +kernel
theorem dX5_isFunnel_3 : decode cX5_isFunnel 3 = .ok (.aload_n 0, 1) := by decide +kernel
theorem dX5_isFunnel_4 : decode cX5_isFunnel 4 = .ok (.getfield 130, 3) := by decide +kernel
theorem dX5_isFunnel_7 : decode cX5_isFunnel 7 = .ok (.iconst 1, 1) := by decide +kernel
theorem dX5_isFunnel_8 : decode cX5_isFunnel 8 = .ok (.isub, 1) := by decide +kernel
theorem dX5_isFunnel_9 : decode cX5_isFunnel 9 = .ok (.i2l, 1) := by decide +kernel
theorem dX5_isFunnel_10 : decode cX5_isFunnel 10 = .ok (.invokestatic 61, 3) := by decide +kernel
theorem dX5_isFunnel_13 : decode cX5_isFunnel 13 = .ok (.ireturn, 1) := by decide +kernel
theorem dX5_step_0 : decode cX5_step 0 = .ok (.aload_n 0, 1) := by decide +kernel
theorem dX5_step_1 : decode cX5_step 1 = .ok (.iload_n 1, 1) := by decide +kernel
theorem dX5_step_2 : decode cX5_step 2 = .ok (.invokevirtual 137, 3) := by decide +kernel
theorem dX5_step_5 : decode cX5_step 5 = .ok (.ifCond .ne 7, 3) := by decide +kernel
theorem dX5_step_8 : decode cX5_step 8 = .ok (.sipush (-1001), 3) := by decide +kernel
theorem dX5_step_11 : decode cX5_step 11 = .ok (.ireturn, 1) := by decide +kernel
theorem dX5_step_12 : decode cX5_step 12 = .ok (.iload_n 2, 1) := by decide +kernel
theorem dX5_step_13 : decode cX5_step 13 = .ok (.i2l, 1) := by decide +kernel
theorem dX5_step_14 : decode cX5_step 14 = .ok (.lconst 0, 1) := by decide +kernel
theorem dX5_step_15 : decode cX5_step 15 = .ok (.ldc2_w 75, 3) := by decide +kernel
theorem dX5_step_18 : decode cX5_step 18 = .ok (.invokestatic 61, 3) := by decide +kernel
theorem dX5_step_21 : decode cX5_step 21 = .ok (.ifCond .ne 7, 3) := by decide +kernel
theorem dX5_step_24 : decode cX5_step 24 = .ok (.sipush (-1002), 3) := by decide +kernel
theorem dX5_step_27 : decode cX5_step 27 = .ok (.ireturn, 1) := by decide +kernel
theorem dX5_step_28 : decode cX5_step 28 = .ok (.aload_n 0, 1) := by decide +kernel
theorem dX5_step_29 : decode cX5_step 29 = .ok (.getfield 38, 3) := by decide +kernel
theorem dX5_step_32 : decode cX5_step 32 = .ok (.iload_n 1, 1) := by decide +kernel
theorem dX5_step_33 : decode cX5_step 33 = .ok (.iaload, 1) := by decide +kernel
theorem dX5_step_34 : decode cX5_step 34 = .ok (.iconst 4, 1) := by decide +kernel
theorem dX5_step_35 : decode cX5_step 35 = .ok (.if_icmp .ne 7, 3) := by decide +kernel
theorem dX5_step_38 : decode cX5_step 38 = .ok (.sipush (-1004), 3) := by decide +kernel
theorem dX5_step_41 : decode cX5_step 41 = .ok (.ireturn, 1) := by decide +kernel
theorem dX5_step_42 : decode cX5_step 42 = .ok (.aload_n 0, 1) := by decide +kernel
theorem dX5_step_43 : decode cX5_step 43 = .ok (.getfield 41, 3) := by decide +kernel
theorem dX5_step_46 : decode cX5_step 46 = .ok (.iconst 4, 1) := by decide +kernel
theorem dX5_step_47 : decode cX5_step 47 = .ok (.iload_n 1, 1) := by decide +kernel
theorem dX5_step_48 : decode cX5_step 48 = .ok (.imul, 1) := by decide +kernel
theorem dX5_step_49 : decode cX5_step 49 = .ok (.aload_n 0, 1) := by decide +kernel
theorem dX5_step_50 : decode cX5_step 50 = .ok (.getfield 38, 3) := by decide +kernel
theorem dX5_step_53 : decode cX5_step 53 = .ok (.iload_n 1, 1) := by decide +kernel
theorem dX5_step_54 : decode cX5_step 54 = .ok (.iaload, 1) := by decide +kernel
theorem dX5_step_55 : decode cX5_step 55 = .ok (.iadd, 1) := by decide +kernel
theorem dX5_step_56 : decode cX5_step 56 = .ok (.iload_n 2, 1) := by decide +kernel
theorem dX5_step_57 : decode cX5_step 57 = .ok (.iastore, 1) := by decide +kernel
theorem dX5_step_58 : decode cX5_step 58 = .ok (.aload_n 0, 1) := by decide +kernel
theorem dX5_step_59 : decode cX5_step 59 = .ok (.getfield 38, 3) := by decide +kernel
theorem dX5_step_62 : decode cX5_step 62 = .ok (.iload_n 1, 1) := by decide +kernel
theorem dX5_step_63 : decode cX5_step 63 = .ok (.dup2, 1) := by decide +kernel
theorem dX5_step_64 : decode cX5_step 64 = .ok (.iaload, 1) := by decide +kernel
theorem dX5_step_65 : decode cX5_step 65 = .ok (.iconst 1, 1) := by decide +kernel
theorem dX5_step_66 : decode cX5_step 66 = .ok (.iadd, 1) := by decide +kernel
theorem dX5_step_67 : decode cX5_step 67 = .ok (.iastore, 1) := by decide +kernel
theorem dX5_step_68 : decode cX5_step 68 = .ok (.aload_n 0, 1) := by decide +kernel
theorem dX5_step_69 : decode cX5_step 69 = .ok (.getfield 38, 3) := by decide +kernel
theorem dX5_step_72 : decode cX5_step 72 = .ok (.iload_n 1, 1) := by decide +kernel
theorem dX5_step_73 : decode cX5_step 73 = .ok (.iaload, 1) := by decide +kernel
theorem dX5_step_74 : decode cX5_step 74 = .ok (.ireturn, 1) := by decide +kernel
theorem dX5_suits_0 : decode cX5_suits 0 = .ok (.iconst 0, 1) := by decide +kernel
theorem dX5_suits_1 : decode cX5_suits 1 = .ok (.istore 5, 2) := by decide +kernel
theorem dX5_suits_3 : decode cX5_suits 3 = .ok (.iconst 0, 1) := by decide +kernel
theorem dX5_suits_4 : decode cX5_suits 4 = .ok (.istore 6, 2) := by decide +kernel
theorem dX5_suits_6 : decode cX5_suits 6 = .ok (.iload 6, 2) := by decide +kernel
theorem dX5_suits_8 : decode cX5_suits 8 = .ok (.bipush 8, 2) := by decide +kernel
theorem dX5_suits_10 : decode cX5_suits 10 = .ok (.if_icmp .ge 108, 3) := by decide +kernel
theorem dX5_suits_13 : decode cX5_suits 13 = .ok (.iconst 0, 1) := by decide +kernel
theorem dX5_suits_14 : decode cX5_suits 14 = .ok (.istore 7, 2) := by decide +kernel
theorem dX5_suits_16 : decode cX5_suits 16 = .ok (.iconst 0, 1) := by decide +kernel
theorem dX5_suits_17 : decode cX5_suits 17 = .ok (.istore 8, 2) := by decide +kernel
theorem dX5_suits_19 : decode cX5_suits 19 = .ok (.iload 8, 2) := by decide +kernel
theorem dX5_suits_21 : decode cX5_suits 21 = .ok (.iload_n 2, 1) := by decide +kernel
theorem dX5_suits_22 : decode cX5_suits 22 = .ok (.if_icmp .ge 48, 3) := by decide +kernel
theorem dX5_suits_25 : decode cX5_suits 25 = .ok (.iload 7, 2) := by decide +kernel
theorem dX5_suits_27 : decode cX5_suits 27 = .ok (.iload 8, 2) := by decide +kernel
theorem dX5_suits_29 : decode cX5_suits 29 = .ok (.iload_n 3, 1) := by decide +kernel
theorem dX5_suits_30 : decode cX5_suits 30 = .ok (.if_icmp .eq 30, 3) := by decide +kernel
theorem dX5_suits_33 : decode cX5_suits 33 = .ok (.iload 8, 2) := by decide +kernel
theorem dX5_suits_35 : decode cX5_suits 35 = .ok (.iload 4, 2) := by decide +kernel
theorem dX5_suits_37 : decode cX5_suits 37 = .ok (.if_icmp .eq 23, 3) := by decide +kernel
theorem dX5_suits_40 : decode cX5_suits 40 = .ok (.aload_n 0, 1) := by decide +kernel
theorem dX5_suits_41 : decode cX5_suits 41 = .ok (.getfield 41, 3) := by decide +kernel
theorem dX5_suits_44 : decode cX5_suits 44 = .ok (.iconst 4, 1) := by decide +kernel
theorem dX5_suits_45 : decode cX5_suits 45 = .ok (.iload_n 1, 1) := by decide +kernel
theorem dX5_suits_46 : decode cX5_suits 46 = .ok (.imul, 1) := by decide +kernel
theorem dX5_suits_47 : decode cX5_suits 47 = .ok (.iload 8, 2) := by decide +kernel
theorem dX5_suits_49 : decode cX5_suits 49 = .ok (.iadd, 1) := by decide +kernel
theorem dX5_suits_50 : decode cX5_suits 50 = .ok (.iaload, 1) := by decide +kernel
theorem dX5_suits_51 : decode cX5_suits 51 = .ok (.iload 6, 2) := by decide +kernel
theorem dX5_suits_53 : decode cX5_suits 53 = .ok (.if_icmp .ne 7, 3) := by decide +kernel
theorem dX5_suits_56 : decode cX5_suits 56 = .ok (.iconst 1, 1) := by decide +kernel
theorem dX5_suits_57 : decode cX5_suits 57 = .ok (.goto 4, 3) := by decide +kernel
theorem dX5_suits_60 : decode cX5_suits 60 = .ok (.iconst 0, 1) := by decide +kernel
theorem dX5_suits_61 : decode cX5_suits 61 = .ok (.iadd, 1) := by decide +kernel
theorem dX5_suits_62 : decode cX5_suits 62 = .ok (.istore 7, 2) := by decide +kernel
theorem dX5_suits_64 : decode cX5_suits 64 = .ok (.iinc 8 1, 3) := by decide +kernel
theorem dX5_suits_67 : decode cX5_suits 67 = .ok (.goto (-48), 3) := by decide +kernel
theorem dX5_suits_70 : decode cX5_suits 70 = .ok (.iload 7, 2) := by decide +kernel
theorem dX5_suits_72 : decode cX5_suits 72 = .ok (.aload_n 0, 1) := by decide +kernel
theorem dX5_suits_73 : decode cX5_suits 73 = .ok (.getfield 50, 3) := by decide +kernel
theorem dX5_suits_76 : decode cX5_suits 76 = .ok (.iload 6, 2) := by decide +kernel
theorem dX5_suits_78 : decode cX5_suits 78 = .ok (.iaload, 1) := by decide +kernel
theorem dX5_suits_79 : decode cX5_suits 79 = .ok (.if_icmp .le 5, 3) := by decide +kernel
theorem dX5_suits_82 : decode cX5_suits 82 = .ok (.iconst 0, 1) := by decide +kernel
theorem dX5_suits_83 : decode cX5_suits 83 = .ok (.ireturn, 1) := by decide +kernel
theorem dX5_suits_84 : decode cX5_suits 84 = .ok (.iload 6, 2) := by decide +kernel
theorem dX5_suits_86 : decode cX5_suits 86 = .ok (.aload_n 0, 1) := by decide +kernel
theorem dX5_suits_87 : decode cX5_suits 87 = .ok (.getfield 35, 3) := by decide +kernel
theorem dX5_suits_90 : decode cX5_suits 90 = .ok (.iload_n 1, 1) := by decide +kernel
theorem dX5_suits_91 : decode cX5_suits 91 = .ok (.iaload, 1) := by decide +kernel
theorem dX5_suits_92 : decode cX5_suits 92 = .ok (.if_icmp .ne 16, 3) := by decide +kernel
theorem dX5_suits_95 : decode cX5_suits 95 = .ok (.aload_n 0, 1) := by decide +kernel
theorem dX5_suits_96 : decode cX5_suits 96 = .ok (.getfield 50, 3) := by decide +kernel
theorem dX5_suits_99 : decode cX5_suits 99 = .ok (.iload 6, 2) := by decide +kernel
theorem dX5_suits_101 : decode cX5_suits 101 = .ok (.iaload, 1) := by decide +kernel
theorem dX5_suits_102 : decode cX5_suits 102 = .ok (.iload 7, 2) := by decide +kernel
theorem dX5_suits_104 : decode cX5_suits 104 = .ok (.isub, 1) := by decide +kernel
theorem dX5_suits_105 : decode cX5_suits 105 = .ok (.goto 5, 3) := by decide +kernel
theorem dX5_suits_108 : decode cX5_suits 108 = .ok (.iload 5, 2) := by decide +kernel
theorem dX5_suits_110 : decode cX5_suits 110 = .ok (.istore 5, 2) := by decide +kernel
theorem dX5_suits_112 : decode cX5_suits 112 = .ok (.iinc 6 1, 3) := by decide +kernel
theorem dX5_suits_115 : decode cX5_suits 115 = .ok (.goto (-109), 3) := by decide +kernel
theorem dX5_suits_118 : decode cX5_suits 118 = .ok (.iload 5, 2) := by decide +kernel
theorem dX5_suits_120 : decode cX5_suits 120 = .ok (.ifCond .ne 7, 3) := by decide +kernel
theorem dX5_suits_123 : decode cX5_suits 123 = .ok (.iconst 1, 1) := by decide +kernel
theorem dX5_suits_124 : decode cX5_suits 124 = .ok (.goto 4, 3) := by decide +kernel
theorem dX5_suits_127 : decode cX5_suits 127 = .ok (.iconst 0, 1) := by decide +kernel
theorem dX5_suits_128 : decode cX5_suits 128 = .ok (.ireturn, 1) := by decide +kernel
theorem dX5_isWay_0 : decode cX5_isWay 0 = .ok (.aload_n 0, 1) := by decide +kernel
theorem dX5_isWay_1 : decode cX5_isWay 1 = .ok (.getfield 16, 3) := by decide +kernel
theorem dX5_isWay_4 : decode cX5_isWay 4 = .ok (.aload_n 0, 1) := by decide +kernel
theorem dX5_isWay_5 : decode cX5_isWay 5 = .ok (.getfield 44, 3) := by decide +kernel
theorem dX5_isWay_8 : decode cX5_isWay 8 = .ok (.iload_n 3, 1) := by decide +kernel
theorem dX5_isWay_9 : decode cX5_isWay 9 = .ok (.iaload, 1) := by decide +kernel
theorem dX5_isWay_10 : decode cX5_isWay 10 = .ok (.iaload, 1) := by decide +kernel
theorem dX5_isWay_11 : decode cX5_isWay 11 = .ok (.istore 5, 2) := by decide +kernel
theorem dX5_isWay_13 : decode cX5_isWay 13 = .ok (.aload_n 0, 1) := by decide +kernel
theorem dX5_isWay_14 : decode cX5_isWay 14 = .ok (.getfield 16, 3) := by decide +kernel
theorem dX5_isWay_17 : decode cX5_isWay 17 = .ok (.aload_n 0, 1) := by decide +kernel
theorem dX5_isWay_18 : decode cX5_isWay 18 = .ok (.getfield 44, 3) := by decide +kernel
theorem dX5_isWay_21 : decode cX5_isWay 21 = .ok (.iload 4, 2) := by decide +kernel
theorem dX5_isWay_23 : decode cX5_isWay 23 = .ok (.iaload, 1) := by decide +kernel
theorem dX5_isWay_24 : decode cX5_isWay 24 = .ok (.iaload, 1) := by decide +kernel
theorem dX5_isWay_25 : decode cX5_isWay 25 = .ok (.istore 6, 2) := by decide +kernel
theorem dX5_isWay_27 : decode cX5_isWay 27 = .ok (.iload_n 3, 1) := by decide +kernel
theorem dX5_isWay_28 : decode cX5_isWay 28 = .ok (.iload 4, 2) := by decide +kernel
theorem dX5_isWay_30 : decode cX5_isWay 30 = .ok (.if_icmp .ne 27, 3) := by decide +kernel
theorem dX5_isWay_33 : decode cX5_isWay 33 = .ok (.iload_n 2, 1) := by decide +kernel
theorem dX5_isWay_34 : decode cX5_isWay 34 = .ok (.iconst 1, 1) := by decide +kernel
theorem dX5_isWay_35 : decode cX5_isWay 35 = .ok (.if_icmp .ne 20, 3) := by decide +kernel
theorem dX5_isWay_38 : decode cX5_isWay 38 = .ok (.iload 5, 2) := by decide +kernel
theorem dX5_isWay_40 : decode cX5_isWay 40 = .ok (.aload_n 0, 1) := by decide +kernel
theorem dX5_isWay_41 : decode cX5_isWay 41 = .ok (.getfield 41, 3) := by decide +kernel
theorem dX5_isWay_44 : decode cX5_isWay 44 = .ok (.iconst 4, 1) := by decide +kernel
theorem dX5_isWay_45 : decode cX5_isWay 45 = .ok (.iload_n 1, 1) := by decide +kernel
theorem dX5_isWay_46 : decode cX5_isWay 46 = .ok (.imul, 1) := by decide +kernel
theorem dX5_isWay_47 : decode cX5_isWay 47 = .ok (.iaload, 1) := by decide +kernel
theorem dX5_isWay_48 : decode cX5_isWay 48 = .ok (.if_icmp .ne 7, 3) := by decide +kernel
theorem dX5_isWay_51 : decode cX5_isWay 51 = .ok (.iconst 1, 1) := by decide +kernel
theorem dX5_isWay_52 : decode cX5_isWay 52 = .ok (.goto 4, 3) := by decide +kernel
theorem dX5_isWay_55 : decode cX5_isWay 55 = .ok (.iconst 0, 1) := by decide +kernel
theorem dX5_isWay_56 : decode cX5_isWay 56 = .ok (.ireturn, 1) := by decide +kernel
theorem dX5_isWay_57 : decode cX5_isWay 57 = .ok (.iload_n 2, 1) := by decide +kernel
theorem dX5_isWay_58 : decode cX5_isWay 58 = .ok (.iconst 2, 1) := by decide +kernel
theorem dX5_isWay_59 : decode cX5_isWay 59 = .ok (.if_icmp .ge 5, 3) := by decide +kernel
theorem dX5_isWay_62 : decode cX5_isWay 62 = .ok (.iconst 0, 1) := by decide +kernel
theorem dX5_isWay_63 : decode cX5_isWay 63 = .ok (.ireturn, 1) := by decide +kernel
theorem dX5_isWay_64 : decode cX5_isWay 64 = .ok (.aload_n 0, 1) := by decide +kernel
theorem dX5_isWay_65 : decode cX5_isWay 65 = .ok (.getfield 29, 3) := by decide +kernel
theorem dX5_isWay_68 : decode cX5_isWay 68 = .ok (.iload_n 1, 1) := by decide +kernel
theorem dX5_isWay_69 : decode cX5_isWay 69 = .ok (.baload, 1) := by decide +kernel
theorem dX5_isWay_70 : decode cX5_isWay 70 = .ok (.ifCond .eq 62, 3) := by decide +kernel
theorem dX5_isWay_73 : decode cX5_isWay 73 = .ok (.iload 5, 2) := by decide +kernel
theorem dX5_isWay_75 : decode cX5_isWay 75 = .ok (.aload_n 0, 1) := by decide +kernel
theorem dX5_isWay_76 : decode cX5_isWay 76 = .ok (.getfield 41, 3) := by decide +kernel
theorem dX5_isWay_79 : decode cX5_isWay 79 = .ok (.iconst 4, 1) := by decide +kernel
theorem dX5_isWay_80 : decode cX5_isWay 80 = .ok (.iload_n 1, 1) := by decide +kernel
theorem dX5_isWay_81 : decode cX5_isWay 81 = .ok (.imul, 1) := by decide +kernel
theorem dX5_isWay_82 : decode cX5_isWay 82 = .ok (.iaload, 1) := by decide +kernel
theorem dX5_isWay_83 : decode cX5_isWay 83 = .ok (.if_icmp .ne 47, 3) := by decide +kernel
theorem dX5_isWay_86 : decode cX5_isWay 86 = .ok (.iload 6, 2) := by decide +kernel
theorem dX5_isWay_88 : decode cX5_isWay 88 = .ok (.aload_n 0, 1) := by decide +kernel
theorem dX5_isWay_89 : decode cX5_isWay 89 = .ok (.getfield 41, 3) := by decide +kernel
theorem dX5_isWay_92 : decode cX5_isWay 92 = .ok (.iconst 4, 1) := by decide +kernel
theorem dX5_isWay_93 : decode cX5_isWay 93 = .ok (.iload_n 1, 1) := by decide +kernel
theorem dX5_isWay_94 : decode cX5_isWay 94 = .ok (.imul, 1) := by decide +kernel
theorem dX5_isWay_95 : decode cX5_isWay 95 = .ok (.iload_n 2, 1) := by decide +kernel
theorem dX5_isWay_96 : decode cX5_isWay 96 = .ok (.iadd, 1) := by decide +kernel
theorem dX5_isWay_97 : decode cX5_isWay 97 = .ok (.iconst 1, 1) := by decide +kernel
theorem dX5_isWay_98 : decode cX5_isWay 98 = .ok (.isub, 1) := by decide +kernel
theorem dX5_isWay_99 : decode cX5_isWay 99 = .ok (.iaload, 1) := by decide +kernel
theorem dX5_isWay_100 : decode cX5_isWay 100 = .ok (.if_icmp .ne 30, 3) := by decide +kernel
theorem dX5_isWay_103 : decode cX5_isWay 103 = .ok (.aload_n 0, 1) := by decide +kernel
theorem dX5_isWay_104 : decode cX5_isWay 104 = .ok (.getfield 140, 3) := by decide +kernel
theorem dX5_isWay_107 : decode cX5_isWay 107 = .ok (.iload_n 2, 1) := by decide +kernel
theorem dX5_isWay_108 : decode cX5_isWay 108 = .ok (.iconst 2, 1) := by decide +kernel
theorem dX5_isWay_109 : decode cX5_isWay 109 = .ok (.isub, 1) := by decide +kernel
theorem dX5_isWay_110 : decode cX5_isWay 110 = .ok (.if_icmp .ne 20, 3) := by decide +kernel
theorem dX5_isWay_113 : decode cX5_isWay 113 = .ok (.aload_n 0, 1) := by decide +kernel
theorem dX5_isWay_114 : decode cX5_isWay 114 = .ok (.iload_n 1, 1) := by decide +kernel
theorem dX5_isWay_115 : decode cX5_isWay 115 = .ok (.iload_n 2, 1) := by decide +kernel
theorem dX5_isWay_116 : decode cX5_isWay 116 = .ok (.iconst 0, 1) := by decide +kernel
theorem dX5_isWay_117 : decode cX5_isWay 117 = .ok (.iload_n 2, 1) := by decide +kernel
theorem dX5_isWay_118 : decode cX5_isWay 118 = .ok (.iconst 1, 1) := by decide +kernel
theorem dX5_isWay_119 : decode cX5_isWay 119 = .ok (.isub, 1) := by decide +kernel
theorem dX5_isWay_120 : decode cX5_isWay 120 = .ok (.invokevirtual 143, 3) := by decide +kernel
theorem dX5_isWay_123 : decode cX5_isWay 123 = .ok (.ifCond .eq 7, 3) := by decide +kernel
theorem dX5_isWay_126 : decode cX5_isWay 126 = .ok (.iconst 1, 1) := by decide +kernel
theorem dX5_isWay_127 : decode cX5_isWay 127 = .ok (.goto 4, 3) := by decide +kernel
theorem dX5_isWay_130 : decode cX5_isWay 130 = .ok (.iconst 0, 1) := by decide +kernel
theorem dX5_isWay_131 : decode cX5_isWay 131 = .ok (.ireturn, 1) := by decide +kernel
theorem dX5_isWay_132 : decode cX5_isWay 132 = .ok (.iconst 0, 1) := by decide +kernel
theorem dX5_isWay_133 : decode cX5_isWay 133 = .ok (.istore 7, 2) := by decide +kernel
theorem dX5_isWay_135 : decode cX5_isWay 135 = .ok (.iconst 0, 1) := by decide +kernel
theorem dX5_isWay_136 : decode cX5_isWay 136 = .ok (.istore 8, 2) := by decide +kernel
theorem dX5_isWay_138 : decode cX5_isWay 138 = .ok (.iload 8, 2) := by decide +kernel
theorem dX5_isWay_140 : decode cX5_isWay 140 = .ok (.iload_n 2, 1) := by decide +kernel
theorem dX5_isWay_141 : decode cX5_isWay 141 = .ok (.if_icmp .ge 93, 3) := by decide +kernel
theorem dX5_isWay_144 : decode cX5_isWay 144 = .ok (.iload 7, 2) := by decide +kernel
theorem dX5_isWay_146 : decode cX5_isWay 146 = .ok (.ifCond .ne 88, 3) := by decide +kernel
theorem dX5_isWay_149 : decode cX5_isWay 149 = .ok (.iconst 0, 1) := by decide +kernel
theorem dX5_isWay_150 : decode cX5_isWay 150 = .ok (.istore 9, 2) := by decide +kernel
theorem dX5_isWay_152 : decode cX5_isWay 152 = .ok (.iload 9, 2) := by decide +kernel
theorem dX5_isWay_154 : decode cX5_isWay 154 = .ok (.iload_n 2, 1) := by decide +kernel
theorem dX5_isWay_155 : decode cX5_isWay 155 = .ok (.if_icmp .ge 73, 3) := by decide +kernel
theorem dX5_isWay_158 : decode cX5_isWay 158 = .ok (.iload 7, 2) := by decide +kernel
theorem dX5_isWay_160 : decode cX5_isWay 160 = .ok (.ifCond .ne 68, 3) := by decide +kernel
theorem dX5_isWay_163 : decode cX5_isWay 163 = .ok (.iload 8, 2) := by decide +kernel
theorem dX5_isWay_165 : decode cX5_isWay 165 = .ok (.iload 9, 2) := by decide +kernel
theorem dX5_isWay_167 : decode cX5_isWay 167 = .ok (.if_icmp .eq 52, 3) := by decide +kernel
theorem dX5_isWay_170 : decode cX5_isWay 170 = .ok (.aload_n 0, 1) := by decide +kernel
theorem dX5_isWay_171 : decode cX5_isWay 171 = .ok (.getfield 41, 3) := by decide +kernel
theorem dX5_isWay_174 : decode cX5_isWay 174 = .ok (.iconst 4, 1) := by decide +kernel
theorem dX5_isWay_175 : decode cX5_isWay 175 = .ok (.iload_n 1, 1) := by decide +kernel
theorem dX5_isWay_176 : decode cX5_isWay 176 = .ok (.imul, 1) := by decide +kernel
theorem dX5_isWay_177 : decode cX5_isWay 177 = .ok (.iload 8, 2) := by decide +kernel
theorem dX5_isWay_179 : decode cX5_isWay 179 = .ok (.iadd, 1) := by decide +kernel
theorem dX5_isWay_180 : decode cX5_isWay 180 = .ok (.iaload, 1) := by decide +kernel
theorem dX5_isWay_181 : decode cX5_isWay 181 = .ok (.iload 5, 2) := by decide +kernel
theorem dX5_isWay_183 : decode cX5_isWay 183 = .ok (.if_icmp .ne 36, 3) := by decide +kernel
theorem dX5_isWay_186 : decode cX5_isWay 186 = .ok (.aload_n 0, 1) := by decide +kernel
theorem dX5_isWay_187 : decode cX5_isWay 187 = .ok (.getfield 41, 3) := by decide +kernel
theorem dX5_isWay_190 : decode cX5_isWay 190 = .ok (.iconst 4, 1) := by decide +kernel
theorem dX5_isWay_191 : decode cX5_isWay 191 = .ok (.iload_n 1, 1) := by decide +kernel
theorem dX5_isWay_192 : decode cX5_isWay 192 = .ok (.imul, 1) := by decide +kernel
theorem dX5_isWay_193 : decode cX5_isWay 193 = .ok (.iload 9, 2) := by decide +kernel
theorem dX5_isWay_195 : decode cX5_isWay 195 = .ok (.iadd, 1) := by decide +kernel
theorem dX5_isWay_196 : decode cX5_isWay 196 = .ok (.iaload, 1) := by decide +kernel
theorem dX5_isWay_197 : decode cX5_isWay 197 = .ok (.iload 6, 2) := by decide +kernel
theorem dX5_isWay_199 : decode cX5_isWay 199 = .ok (.if_icmp .ne 20, 3) := by decide +kernel
theorem dX5_isWay_202 : decode cX5_isWay 202 = .ok (.aload_n 0, 1) := by decide +kernel
theorem dX5_isWay_203 : decode cX5_isWay 203 = .ok (.iload_n 1, 1) := by decide +kernel
theorem dX5_isWay_204 : decode cX5_isWay 204 = .ok (.iload_n 2, 1) := by decide +kernel
theorem dX5_isWay_205 : decode cX5_isWay 205 = .ok (.iload 8, 2) := by decide +kernel
theorem dX5_isWay_207 : decode cX5_isWay 207 = .ok (.iload 9, 2) := by decide +kernel
theorem dX5_isWay_209 : decode cX5_isWay 209 = .ok (.invokevirtual 143, 3) := by decide +kernel
theorem dX5_isWay_212 : decode cX5_isWay 212 = .ok (.ifCond .eq 7, 3) := by decide +kernel
theorem dX5_isWay_215 : decode cX5_isWay 215 = .ok (.iconst 1, 1) := by decide +kernel
theorem dX5_isWay_216 : decode cX5_isWay 216 = .ok (.goto 4, 3) := by decide +kernel
theorem dX5_isWay_219 : decode cX5_isWay 219 = .ok (.iconst 0, 1) := by decide +kernel
theorem dX5_isWay_220 : decode cX5_isWay 220 = .ok (.istore 7, 2) := by decide +kernel
theorem dX5_isWay_222 : decode cX5_isWay 222 = .ok (.iinc 9 1, 3) := by decide +kernel
theorem dX5_isWay_225 : decode cX5_isWay 225 = .ok (.goto (-73), 3) := by decide +kernel
theorem dX5_isWay_228 : decode cX5_isWay 228 = .ok (.iinc 8 1, 3) := by decide +kernel
theorem dX5_isWay_231 : decode cX5_isWay 231 = .ok (.goto (-93), 3) := by decide +kernel
theorem dX5_isWay_234 : decode cX5_isWay 234 = .ok (.iload 7, 2) := by decide +kernel
theorem dX5_isWay_236 : decode cX5_isWay 236 = .ok (.ireturn, 1) := by decide +kernel
theorem dX5_endOf_0 : decode cX5_endOf 0 = .ok (.iconst 0, 1) := by decide +kernel
theorem dX5_endOf_1 : decode cX5_endOf 1 = .ok (.istore 4, 2) := by decide +kernel
theorem dX5_endOf_3 : decode cX5_endOf 3 = .ok (.iload 4, 2) := by decide +kernel
theorem dX5_endOf_5 : decode cX5_endOf 5 = .ok (.bipush 8, 2) := by decide +kernel
theorem dX5_endOf_7 : decode cX5_endOf 7 = .ok (.if_icmp .ge 17, 3) := by decide +kernel
theorem dX5_endOf_10 : decode cX5_endOf 10 = .ok (.aload_n 0, 1) := by decide +kernel
theorem dX5_endOf_11 : decode cX5_endOf 11 = .ok (.getfield 50, 3) := by decide +kernel
theorem dX5_endOf_14 : decode cX5_endOf 14 = .ok (.iload 4, 2) := by decide +kernel
theorem dX5_endOf_16 : decode cX5_endOf 16 = .ok (.iconst 0, 1) := by decide +kernel
theorem dX5_endOf_17 : decode cX5_endOf 17 = .ok (.iastore, 1) := by decide +kernel
theorem dX5_endOf_18 : decode cX5_endOf 18 = .ok (.iinc 4 1, 3) := by decide +kernel
theorem dX5_endOf_21 : decode cX5_endOf 21 = .ok (.goto (-18), 3) := by decide +kernel
theorem dX5_endOf_24 : decode cX5_endOf 24 = .ok (.aload_n 0, 1) := by decide +kernel
theorem dX5_endOf_25 : decode cX5_endOf 25 = .ok (.iconst 0, 1) := by decide +kernel
theorem dX5_endOf_26 : decode cX5_endOf 26 = .ok (.putfield 140, 3) := by decide +kernel
theorem dX5_endOf_29 : decode cX5_endOf 29 = .ok (.iload_n 3, 1) := by decide +kernel
theorem dX5_endOf_30 : decode cX5_endOf 30 = .ok (.istore 4, 2) := by decide +kernel
theorem dX5_endOf_32 : decode cX5_endOf 32 = .ok (.iload 4, 2) := by decide +kernel
theorem dX5_endOf_34 : decode cX5_endOf 34 = .ok (.aload_n 0, 1) := by decide +kernel
theorem dX5_endOf_35 : decode cX5_endOf 35 = .ok (.getfield 86, 3) := by decide +kernel
theorem dX5_endOf_38 : decode cX5_endOf 38 = .ok (.if_icmp .ge 136, 3) := by decide +kernel
theorem dX5_endOf_41 : decode cX5_endOf 41 = .ok (.aload_n 0, 1) := by decide +kernel
theorem dX5_endOf_42 : decode cX5_endOf 42 = .ok (.getfield 7, 3) := by decide +kernel
theorem dX5_endOf_45 : decode cX5_endOf 45 = .ok (.aload_n 0, 1) := by decide +kernel
theorem dX5_endOf_46 : decode cX5_endOf 46 = .ok (.getfield 44, 3) := by decide +kernel
theorem dX5_endOf_49 : decode cX5_endOf 49 = .ok (.iload 4, 2) := by decide +kernel
theorem dX5_endOf_51 : decode cX5_endOf 51 = .ok (.iaload, 1) := by decide +kernel
theorem dX5_endOf_52 : decode cX5_endOf 52 = .ok (.iaload, 1) := by decide +kernel
theorem dX5_endOf_53 : decode cX5_endOf 53 = .ok (.aload_n 0, 1) := by decide +kernel
theorem dX5_endOf_54 : decode cX5_endOf 54 = .ok (.getfield 7, 3) := by decide +kernel
theorem dX5_endOf_57 : decode cX5_endOf 57 = .ok (.aload_n 0, 1) := by decide +kernel
theorem dX5_endOf_58 : decode cX5_endOf 58 = .ok (.getfield 44, 3) := by decide +kernel
theorem dX5_endOf_61 : decode cX5_endOf 61 = .ok (.iload_n 3, 1) := by decide +kernel
theorem dX5_endOf_62 : decode cX5_endOf 62 = .ok (.iaload, 1) := by decide +kernel
theorem dX5_endOf_63 : decode cX5_endOf 63 = .ok (.iaload, 1) := by decide +kernel
theorem dX5_endOf_64 : decode cX5_endOf 64 = .ok (.isub, 1) := by decide +kernel
theorem dX5_endOf_65 : decode cX5_endOf 65 = .ok (.aload_n 0, 1) := by decide +kernel
theorem dX5_endOf_66 : decode cX5_endOf 66 = .ok (.getfield 32, 3) := by decide +kernel
theorem dX5_endOf_69 : decode cX5_endOf 69 = .ok (.iload_n 1, 1) := by decide +kernel
theorem dX5_endOf_70 : decode cX5_endOf 70 = .ok (.iaload, 1) := by decide +kernel
theorem dX5_endOf_71 : decode cX5_endOf 71 = .ok (.if_icmp .gt 103, 3) := by decide +kernel
theorem dX5_endOf_74 : decode cX5_endOf 74 = .ok (.iload 4, 2) := by decide +kernel
theorem dX5_endOf_76 : decode cX5_endOf 76 = .ok (.iload_n 3, 1) := by decide +kernel
theorem dX5_endOf_77 : decode cX5_endOf 77 = .ok (.iconst 1, 1) := by decide +kernel
theorem dX5_endOf_78 : decode cX5_endOf 78 = .ok (.iadd, 1) := by decide +kernel
theorem dX5_endOf_79 : decode cX5_endOf 79 = .ok (.if_icmp .le 74, 3) := by decide +kernel
theorem dX5_endOf_82 : decode cX5_endOf 82 = .ok (.aload_n 0, 1) := by decide +kernel
theorem dX5_endOf_83 : decode cX5_endOf 83 = .ok (.getfield 16, 3) := by decide +kernel
theorem dX5_endOf_86 : decode cX5_endOf 86 = .ok (.aload_n 0, 1) := by decide +kernel
theorem dX5_endOf_87 : decode cX5_endOf 87 = .ok (.getfield 44, 3) := by decide +kernel
theorem dX5_endOf_90 : decode cX5_endOf 90 = .ok (.iload 4, 2) := by decide +kernel
theorem dX5_endOf_92 : decode cX5_endOf 92 = .ok (.iconst 1, 1) := by decide +kernel
theorem dX5_endOf_93 : decode cX5_endOf 93 = .ok (.isub, 1) := by decide +kernel
theorem dX5_endOf_94 : decode cX5_endOf 94 = .ok (.iaload, 1) := by decide +kernel
theorem dX5_endOf_95 : decode cX5_endOf 95 = .ok (.iaload, 1) := by decide +kernel
theorem dX5_endOf_96 : decode cX5_endOf 96 = .ok (.istore 5, 2) := by decide +kernel
theorem dX5_endOf_98 : decode cX5_endOf 98 = .ok (.aload_n 0, 1) := by decide +kernel
theorem dX5_endOf_99 : decode cX5_endOf 99 = .ok (.getfield 50, 3) := by decide +kernel
theorem dX5_endOf_102 : decode cX5_endOf 102 = .ok (.iload 5, 2) := by decide +kernel
theorem dX5_endOf_104 : decode cX5_endOf 104 = .ok (.dup2, 1) := by decide +kernel
theorem dX5_endOf_105 : decode cX5_endOf 105 = .ok (.iaload, 1) := by decide +kernel
theorem dX5_endOf_106 : decode cX5_endOf 106 = .ok (.iconst 1, 1) := by decide +kernel
theorem dX5_endOf_107 : decode cX5_endOf 107 = .ok (.iadd, 1) := by decide +kernel
theorem dX5_endOf_108 : decode cX5_endOf 108 = .ok (.iastore, 1) := by decide +kernel
theorem dX5_endOf_109 : decode cX5_endOf 109 = .ok (.aload_n 0, 1) := by decide +kernel
theorem dX5_endOf_110 : decode cX5_endOf 110 = .ok (.dup, 1) := by decide +kernel
theorem dX5_endOf_111 : decode cX5_endOf 111 = .ok (.getfield 140, 3) := by decide +kernel
theorem dX5_endOf_114 : decode cX5_endOf 114 = .ok (.aload_n 0, 1) := by decide +kernel
theorem dX5_endOf_115 : decode cX5_endOf 115 = .ok (.getfield 140, 3) := by decide +kernel
theorem dX5_endOf_118 : decode cX5_endOf 118 = .ok (.iload_n 2, 1) := by decide +kernel
theorem dX5_endOf_119 : decode cX5_endOf 119 = .ok (.iconst 2, 1) := by decide +kernel
theorem dX5_endOf_120 : decode cX5_endOf 120 = .ok (.isub, 1) := by decide +kernel
theorem dX5_endOf_121 : decode cX5_endOf 121 = .ok (.if_icmp .ge 27, 3) := by decide +kernel
theorem dX5_endOf_124 : decode cX5_endOf 124 = .ok (.iload 5, 2) := by decide +kernel
theorem dX5_endOf_126 : decode cX5_endOf 126 = .ok (.aload_n 0, 1) := by decide +kernel
theorem dX5_endOf_127 : decode cX5_endOf 127 = .ok (.getfield 41, 3) := by decide +kernel
theorem dX5_endOf_130 : decode cX5_endOf 130 = .ok (.iconst 4, 1) := by decide +kernel
theorem dX5_endOf_131 : decode cX5_endOf 131 = .ok (.iload_n 1, 1) := by decide +kernel
theorem dX5_endOf_132 : decode cX5_endOf 132 = .ok (.imul, 1) := by decide +kernel
theorem dX5_endOf_133 : decode cX5_endOf 133 = .ok (.iconst 1, 1) := by decide +kernel
theorem dX5_endOf_134 : decode cX5_endOf 134 = .ok (.iadd, 1) := by decide +kernel
theorem dX5_endOf_135 : decode cX5_endOf 135 = .ok (.aload_n 0, 1) := by decide +kernel
theorem dX5_endOf_136 : decode cX5_endOf 136 = .ok (.getfield 140, 3) := by decide +kernel
theorem dX5_endOf_139 : decode cX5_endOf 139 = .ok (.iadd, 1) := by decide +kernel
theorem dX5_endOf_140 : decode cX5_endOf 140 = .ok (.iaload, 1) := by decide +kernel
theorem dX5_endOf_141 : decode cX5_endOf 141 = .ok (.if_icmp .ne 7, 3) := by decide +kernel
theorem dX5_endOf_144 : decode cX5_endOf 144 = .ok (.iconst 1, 1) := by decide +kernel
theorem dX5_endOf_145 : decode cX5_endOf 145 = .ok (.goto 4, 3) := by decide +kernel
theorem dX5_endOf_148 : decode cX5_endOf 148 = .ok (.iconst 0, 1) := by decide +kernel
theorem dX5_endOf_149 : decode cX5_endOf 149 = .ok (.iadd, 1) := by decide +kernel
theorem dX5_endOf_150 : decode cX5_endOf 150 = .ok (.putfield 140, 3) := by decide +kernel
theorem dX5_endOf_153 : decode cX5_endOf 153 = .ok (.aload_n 0, 1) := by decide +kernel
theorem dX5_endOf_154 : decode cX5_endOf 154 = .ok (.iload_n 1, 1) := by decide +kernel
theorem dX5_endOf_155 : decode cX5_endOf 155 = .ok (.iload_n 2, 1) := by decide +kernel
theorem dX5_endOf_156 : decode cX5_endOf 156 = .ok (.iload_n 3, 1) := by decide +kernel
theorem dX5_endOf_157 : decode cX5_endOf 157 = .ok (.iload 4, 2) := by decide +kernel
theorem dX5_endOf_159 : decode cX5_endOf 159 = .ok (.invokevirtual 147, 3) := by decide +kernel
theorem dX5_endOf_162 : decode cX5_endOf 162 = .ok (.ifCond .eq 6, 3) := by decide +kernel
theorem dX5_endOf_165 : decode cX5_endOf 165 = .ok (.iload 4, 2) := by decide +kernel
theorem dX5_endOf_167 : decode cX5_endOf 167 = .ok (.ireturn, 1) := by decide +kernel
theorem dX5_endOf_168 : decode cX5_endOf 168 = .ok (.iinc 4 1, 3) := by decide +kernel
theorem dX5_endOf_171 : decode cX5_endOf 171 = .ok (.goto (-139), 3) := by decide +kernel
theorem dX5_endOf_174 : decode cX5_endOf 174 = .ok (.iconst (-1), 1) := by decide +kernel
theorem dX5_endOf_175 : decode cX5_endOf 175 = .ok (.ireturn, 1) := by decide +kernel
theorem dX5_findWays_0 : decode cX5_findWays 0 = .ok (.aload_n 0, 1) := by decide +kernel
theorem dX5_findWays_1 : decode cX5_findWays 1 = .ok (.iconst 0, 1) := by decide +kernel
theorem dX5_findWays_2 : decode cX5_findWays 2 = .ok (.putfield 150, 3) := by decide +kernel
theorem dX5_findWays_5 : decode cX5_findWays 5 = .ok (.aload_n 0, 1) := by decide +kernel
theorem dX5_findWays_6 : decode cX5_findWays 6 = .ok (.getfield 38, 3) := by decide +kernel
theorem dX5_findWays_9 : decode cX5_findWays 9 = .ok (.iload_n 1, 1) := by decide +kernel
theorem dX5_findWays_10 : decode cX5_findWays 10 = .ok (.iaload, 1) := by decide +kernel
theorem dX5_findWays_11 : decode cX5_findWays 11 = .ok (.istore_n 2, 1) := by decide +kernel
theorem dX5_findWays_12 : decode cX5_findWays 12 = .ok (.iconst 0, 1) := by decide +kernel
theorem dX5_findWays_13 : decode cX5_findWays 13 = .ok (.istore_n 3, 1) := by decide +kernel
theorem dX5_findWays_14 : decode cX5_findWays 14 = .ok (.iload_n 3, 1) := by decide +kernel
theorem dX5_findWays_15 : decode cX5_findWays 15 = .ok (.aload_n 0, 1) := by decide +kernel
theorem dX5_findWays_16 : decode cX5_findWays 16 = .ok (.getfield 86, 3) := by decide +kernel
theorem dX5_findWays_19 : decode cX5_findWays 19 = .ok (.if_icmp .ge 123, 3) := by decide +kernel
theorem dX5_findWays_22 : decode cX5_findWays 22 = .ok (.iload_n 2, 1) := by decide +kernel
theorem dX5_findWays_23 : decode cX5_findWays 23 = .ok (.ifCond .le 119, 3) := by decide +kernel
theorem dX5_findWays_26 : decode cX5_findWays 26 = .ok (.aload_n 0, 1) := by decide +kernel
theorem dX5_findWays_27 : decode cX5_findWays 27 = .ok (.getfield 150, 3) := by decide +kernel
theorem dX5_findWays_30 : decode cX5_findWays 30 = .ok (.ifCond .eq 45, 3) := by decide +kernel
theorem dX5_findWays_33 : decode cX5_findWays 33 = .ok (.aload_n 0, 1) := by decide +kernel
theorem dX5_findWays_34 : decode cX5_findWays 34 = .ok (.getfield 7, 3) := by decide +kernel
theorem dX5_findWays_37 : decode cX5_findWays 37 = .ok (.aload_n 0, 1) := by decide +kernel
theorem dX5_findWays_38 : decode cX5_findWays 38 = .ok (.getfield 44, 3) := by decide +kernel
theorem dX5_findWays_41 : decode cX5_findWays 41 = .ok (.iload_n 3, 1) := by decide +kernel
theorem dX5_findWays_42 : decode cX5_findWays 42 = .ok (.iaload, 1) := by decide +kernel
theorem dX5_findWays_43 : decode cX5_findWays 43 = .ok (.iaload, 1) := by decide +kernel
theorem dX5_findWays_44 : decode cX5_findWays 44 = .ok (.aload_n 0, 1) := by decide +kernel
theorem dX5_findWays_45 : decode cX5_findWays 45 = .ok (.getfield 7, 3) := by decide +kernel
theorem dX5_findWays_48 : decode cX5_findWays 48 = .ok (.aload_n 0, 1) := by decide +kernel
theorem dX5_findWays_49 : decode cX5_findWays 49 = .ok (.getfield 44, 3) := by decide +kernel
theorem dX5_findWays_52 : decode cX5_findWays 52 = .ok (.aload_n 0, 1) := by decide +kernel
theorem dX5_findWays_53 : decode cX5_findWays 53 = .ok (.getfield 53, 3) := by decide +kernel
theorem dX5_findWays_56 : decode cX5_findWays 56 = .ok (.aload_n 0, 1) := by decide +kernel
theorem dX5_findWays_57 : decode cX5_findWays 57 = .ok (.getfield 150, 3) := by decide +kernel
theorem dX5_findWays_60 : decode cX5_findWays 60 = .ok (.iconst 1, 1) := by decide +kernel
theorem dX5_findWays_61 : decode cX5_findWays 61 = .ok (.isub, 1) := by decide +kernel
theorem dX5_findWays_62 : decode cX5_findWays 62 = .ok (.iaload, 1) := by decide +kernel
theorem dX5_findWays_63 : decode cX5_findWays 63 = .ok (.iaload, 1) := by decide +kernel
theorem dX5_findWays_64 : decode cX5_findWays 64 = .ok (.iaload, 1) := by decide +kernel
theorem dX5_findWays_65 : decode cX5_findWays 65 = .ok (.isub, 1) := by decide +kernel
theorem dX5_findWays_66 : decode cX5_findWays 66 = .ok (.aload_n 0, 1) := by decide +kernel
theorem dX5_findWays_67 : decode cX5_findWays 67 = .ok (.getfield 32, 3) := by decide +kernel
theorem dX5_findWays_70 : decode cX5_findWays 70 = .ok (.iload_n 1, 1) := by decide +kernel
theorem dX5_findWays_71 : decode cX5_findWays 71 = .ok (.iaload, 1) := by decide +kernel
theorem dX5_findWays_72 : decode cX5_findWays 72 = .ok (.if_icmp .le 7, 3) := by decide +kernel
theorem dX5_findWays_75 : decode cX5_findWays 75 = .ok (.iconst 1, 1) := by decide +kernel
theorem dX5_findWays_76 : decode cX5_findWays 76 = .ok (.goto 4, 3) := by decide +kernel
theorem dX5_findWays_79 : decode cX5_findWays 79 = .ok (.iconst 0, 1) := by decide +kernel
theorem dX5_findWays_80 : decode cX5_findWays 80 = .ok (.istore 4, 2) := by decide +kernel
theorem dX5_findWays_82 : decode cX5_findWays 82 = .ok (.iload 4, 2) := by decide +kernel
theorem dX5_findWays_84 : decode cX5_findWays 84 = .ok (.ifCond .eq 13, 3) := by decide +kernel
theorem dX5_findWays_87 : decode cX5_findWays 87 = .ok (.aload_n 0, 1) := by decide +kernel
theorem dX5_findWays_88 : decode cX5_findWays 88 = .ok (.iload_n 1, 1) := by decide +kernel
theorem dX5_findWays_89 : decode cX5_findWays 89 = .ok (.iload_n 2, 1) := by decide +kernel
theorem dX5_findWays_90 : decode cX5_findWays 90 = .ok (.iload_n 3, 1) := by decide +kernel
theorem dX5_findWays_91 : decode cX5_findWays 91 = .ok (.invokevirtual 153, 3) := by decide +kernel
theorem dX5_findWays_94 : decode cX5_findWays 94 = .ok (.goto 4, 3) := by decide +kernel
theorem dX5_findWays_97 : decode cX5_findWays 97 = .ok (.iconst (-1), 1) := by decide +kernel
theorem dX5_findWays_98 : decode cX5_findWays 98 = .ok (.istore 5, 2) := by decide +kernel
theorem dX5_findWays_100 : decode cX5_findWays 100 = .ok (.iload 5, 2) := by decide +kernel
theorem dX5_findWays_102 : decode cX5_findWays 102 = .ok (.ifCond .lt 34, 3) := by decide +kernel
theorem dX5_findWays_105 : decode cX5_findWays 105 = .ok (.aload_n 0, 1) := by decide +kernel
theorem dX5_findWays_106 : decode cX5_findWays 106 = .ok (.getfield 53, 3) := by decide +kernel
theorem dX5_findWays_109 : decode cX5_findWays 109 = .ok (.aload_n 0, 1) := by decide +kernel
theorem dX5_findWays_110 : decode cX5_findWays 110 = .ok (.getfield 150, 3) := by decide +kernel
theorem dX5_findWays_113 : decode cX5_findWays 113 = .ok (.iload_n 3, 1) := by decide +kernel
theorem dX5_findWays_114 : decode cX5_findWays 114 = .ok (.iastore, 1) := by decide +kernel
theorem dX5_findWays_115 : decode cX5_findWays 115 = .ok (.aload_n 0, 1) := by decide +kernel
theorem dX5_findWays_116 : decode cX5_findWays 116 = .ok (.getfield 56, 3) := by decide +kernel
theorem dX5_findWays_119 : decode cX5_findWays 119 = .ok (.aload_n 0, 1) := by decide +kernel
theorem dX5_findWays_120 : decode cX5_findWays 120 = .ok (.getfield 150, 3) := by decide +kernel
theorem dX5_findWays_123 : decode cX5_findWays 123 = .ok (.iload 5, 2) := by decide +kernel
theorem dX5_findWays_125 : decode cX5_findWays 125 = .ok (.iastore, 1) := by decide +kernel
theorem dX5_findWays_126 : decode cX5_findWays 126 = .ok (.aload_n 0, 1) := by decide +kernel
theorem dX5_findWays_127 : decode cX5_findWays 127 = .ok (.dup, 1) := by decide +kernel
theorem dX5_findWays_128 : decode cX5_findWays 128 = .ok (.getfield 150, 3) := by decide +kernel
theorem dX5_findWays_131 : decode cX5_findWays 131 = .ok (.iconst 1, 1) := by decide +kernel
theorem dX5_findWays_132 : decode cX5_findWays 132 = .ok (.iadd, 1) := by decide +kernel
theorem dX5_findWays_133 : decode cX5_findWays 133 = .ok (.putfield 150, 3) := by decide +kernel
theorem dX5_findWays_136 : decode cX5_findWays 136 = .ok (.iinc 3 1, 3) := by decide +kernel
theorem dX5_findWays_139 : decode cX5_findWays 139 = .ok (.goto (-125), 3) := by decide +kernel
theorem dX5_findWays_142 : decode cX5_findWays 142 = .ok (.return_, 1) := by decide +kernel
theorem dX5_ways_0 : decode cX5_ways 0 = .ok (.aload_n 0, 1) := by decide +kernel
theorem dX5_ways_1 : decode cX5_ways 1 = .ok (.iload_n 1, 1) := by decide +kernel
theorem dX5_ways_2 : decode cX5_ways 2 = .ok (.invokevirtual 137, 3) := by decide +kernel
theorem dX5_ways_5 : decode cX5_ways 5 = .ok (.ifCond .eq 15, 3) := by decide +kernel
theorem dX5_ways_8 : decode cX5_ways 8 = .ok (.iload_n 2, 1) := by decide +kernel
theorem dX5_ways_9 : decode cX5_ways 9 = .ok (.iconst (-1), 1) := by decide +kernel
theorem dX5_ways_10 : decode cX5_ways 10 = .ok (.if_icmp .eq 14, 3) := by decide +kernel
theorem dX5_ways_13 : decode cX5_ways 13 = .ok (.iload_n 2, 1) := by decide +kernel
theorem dX5_ways_14 : decode cX5_ways 14 = .ok (.invokestatic 69, 3) := by decide +kernel
theorem dX5_ways_17 : decode cX5_ways 17 = .ok (.ifCond .ne 7, 3) := by decide +kernel
theorem dX5_ways_20 : decode cX5_ways 20 = .ok (.sipush (-1001), 3) := by decide +kernel
theorem dX5_ways_23 : decode cX5_ways 23 = .ok (.ireturn, 1) := by decide +kernel
theorem dX5_ways_24 : decode cX5_ways 24 = .ok (.iconst 0, 1) := by decide +kernel
theorem dX5_ways_25 : decode cX5_ways 25 = .ok (.istore_n 3, 1) := by decide +kernel
theorem dX5_ways_26 : decode cX5_ways 26 = .ok (.iconst 0, 1) := by decide +kernel
theorem dX5_ways_27 : decode cX5_ways 27 = .ok (.istore 4, 2) := by decide +kernel
theorem dX5_ways_29 : decode cX5_ways 29 = .ok (.iload 4, 2) := by decide +kernel
theorem dX5_ways_31 : decode cX5_ways 31 = .ok (.bipush 24, 2) := by decide +kernel
theorem dX5_ways_33 : decode cX5_ways 33 = .ok (.if_icmp .ge 72, 3) := by decide +kernel
theorem dX5_ways_36 : decode cX5_ways 36 = .ok (.iload_n 2, 1) := by decide +kernel
theorem dX5_ways_37 : decode cX5_ways 37 = .ok (.iconst (-1), 1) := by decide +kernel
theorem dX5_ways_38 : decode cX5_ways 38 = .ok (.if_icmp .ne 21, 3) := by decide +kernel
theorem dX5_ways_41 : decode cX5_ways 41 = .ok (.aload_n 0, 1) := by decide +kernel
theorem dX5_ways_42 : decode cX5_ways 42 = .ok (.getfield 23, 3) := by decide +kernel
theorem dX5_ways_45 : decode cX5_ways 45 = .ok (.iload 4, 2) := by decide +kernel
theorem dX5_ways_47 : decode cX5_ways 47 = .ok (.iaload, 1) := by decide +kernel
theorem dX5_ways_48 : decode cX5_ways 48 = .ok (.ifCond .ge 7, 3) := by decide +kernel
theorem dX5_ways_51 : decode cX5_ways 51 = .ok (.iconst 1, 1) := by decide +kernel
theorem dX5_ways_52 : decode cX5_ways 52 = .ok (.goto 22, 3) := by decide +kernel
theorem dX5_ways_55 : decode cX5_ways 55 = .ok (.iconst 0, 1) := by decide +kernel
theorem dX5_ways_56 : decode cX5_ways 56 = .ok (.goto 18, 3) := by decide +kernel
theorem dX5_ways_59 : decode cX5_ways 59 = .ok (.iload 4, 2) := by decide +kernel
theorem dX5_ways_61 : decode cX5_ways 61 = .ok (.aload_n 0, 1) := by decide +kernel
theorem dX5_ways_62 : decode cX5_ways 62 = .ok (.iload_n 2, 1) := by decide +kernel
theorem dX5_ways_63 : decode cX5_ways 63 = .ok (.invokevirtual 89, 3) := by decide +kernel
theorem dX5_ways_66 : decode cX5_ways 66 = .ok (.if_icmp .ne 7, 3) := by decide +kernel
theorem dX5_ways_69 : decode cX5_ways 69 = .ok (.iconst 1, 1) := by decide +kernel
theorem dX5_ways_70 : decode cX5_ways 70 = .ok (.goto 4, 3) := by decide +kernel
theorem dX5_ways_73 : decode cX5_ways 73 = .ok (.iconst 0, 1) := by decide +kernel
theorem dX5_ways_74 : decode cX5_ways 74 = .ok (.istore 5, 2) := by decide +kernel
theorem dX5_ways_76 : decode cX5_ways 76 = .ok (.iload 5, 2) := by decide +kernel
theorem dX5_ways_78 : decode cX5_ways 78 = .ok (.ifCond .eq 21, 3) := by decide +kernel
theorem dX5_ways_81 : decode cX5_ways 81 = .ok (.aload_n 0, 1) := by decide +kernel
theorem dX5_ways_82 : decode cX5_ways 82 = .ok (.iload 4, 2) := by decide +kernel
theorem dX5_ways_84 : decode cX5_ways 84 = .ok (.invokevirtual 109, 3) := by decide +kernel
theorem dX5_ways_87 : decode cX5_ways 87 = .ok (.aload_n 0, 1) := by decide +kernel
theorem dX5_ways_88 : decode cX5_ways 88 = .ok (.iload_n 1, 1) := by decide +kernel
theorem dX5_ways_89 : decode cX5_ways 89 = .ok (.invokevirtual 157, 3) := by decide +kernel
theorem dX5_ways_92 : decode cX5_ways 92 = .ok (.iload_n 3, 1) := by decide +kernel
theorem dX5_ways_93 : decode cX5_ways 93 = .ok (.aload_n 0, 1) := by decide +kernel
theorem dX5_ways_94 : decode cX5_ways 94 = .ok (.getfield 150, 3) := by decide +kernel
theorem dX5_ways_97 : decode cX5_ways 97 = .ok (.iadd, 1) := by decide +kernel
theorem dX5_ways_98 : decode cX5_ways 98 = .ok (.istore_n 3, 1) := by decide +kernel
theorem dX5_ways_99 : decode cX5_ways 99 = .ok (.iinc 4 1, 3) := by decide +kernel
theorem dX5_ways_102 : decode cX5_ways 102 = .ok (.goto (-73), 3) := by decide +kernel
theorem dX5_ways_105 : decode cX5_ways 105 = .ok (.iload_n 3, 1) := by decide +kernel
theorem dX5_ways_106 : decode cX5_ways 106 = .ok (.ireturn, 1) := by decide +kernel
theorem dX5_way_0 : decode cX5_way 0 = .ok (.aload_n 0, 1) := by decide +kernel
theorem dX5_way_1 : decode cX5_way 1 = .ok (.iload_n 1, 1) := by decide +kernel
theorem dX5_way_2 : decode cX5_way 2 = .ok (.invokevirtual 137, 3) := by decide +kernel
theorem dX5_way_5 : decode cX5_way 5 = .ok (.ifCond .eq 10, 3) := by decide +kernel
theorem dX5_way_8 : decode cX5_way 8 = .ok (.iload_n 2, 1) := by decide +kernel
theorem dX5_way_9 : decode cX5_way 9 = .ok (.invokestatic 69, 3) := by decide +kernel
theorem dX5_way_12 : decode cX5_way 12 = .ok (.ifCond .ne 7, 3) := by decide +kernel
theorem dX5_way_15 : decode cX5_way 15 = .ok (.sipush (-1001), 3) := by decide +kernel
theorem dX5_way_18 : decode cX5_way 18 = .ok (.ireturn, 1) := by decide +kernel
theorem dX5_way_19 : decode cX5_way 19 = .ok (.aload_n 0, 1) := by decide +kernel
theorem dX5_way_20 : decode cX5_way 20 = .ok (.aload_n 0, 1) := by decide +kernel
theorem dX5_way_21 : decode cX5_way 21 = .ok (.iload_n 2, 1) := by decide +kernel
theorem dX5_way_22 : decode cX5_way 22 = .ok (.invokevirtual 89, 3) := by decide +kernel
theorem dX5_way_25 : decode cX5_way 25 = .ok (.invokevirtual 109, 3) := by decide +kernel
theorem dX5_way_28 : decode cX5_way 28 = .ok (.aload_n 0, 1) := by decide +kernel
theorem dX5_way_29 : decode cX5_way 29 = .ok (.iload_n 1, 1) := by decide +kernel
theorem dX5_way_30 : decode cX5_way 30 = .ok (.invokevirtual 157, 3) := by decide +kernel
theorem dX5_way_33 : decode cX5_way 33 = .ok (.iload_n 3, 1) := by decide +kernel
theorem dX5_way_34 : decode cX5_way 34 = .ok (.i2l, 1) := by decide +kernel
theorem dX5_way_35 : decode cX5_way 35 = .ok (.lconst 0, 1) := by decide +kernel
theorem dX5_way_36 : decode cX5_way 36 = .ok (.aload_n 0, 1) := by decide +kernel
theorem dX5_way_37 : decode cX5_way 37 = .ok (.getfield 150, 3) := by decide +kernel
theorem dX5_way_40 : decode cX5_way 40 = .ok (.iconst 1, 1) := by decide +kernel
theorem dX5_way_41 : decode cX5_way 41 = .ok (.isub, 1) := by decide +kernel
theorem dX5_way_42 : decode cX5_way 42 = .ok (.i2l, 1) := by decide +kernel
theorem dX5_way_43 : decode cX5_way 43 = .ok (.invokestatic 61, 3) := by decide +kernel
theorem dX5_way_46 : decode cX5_way 46 = .ok (.ifCond .ne 7, 3) := by decide +kernel
theorem dX5_way_49 : decode cX5_way 49 = .ok (.sipush (-1001), 3) := by decide +kernel
theorem dX5_way_52 : decode cX5_way 52 = .ok (.ireturn, 1) := by decide +kernel
theorem dX5_way_53 : decode cX5_way 53 = .ok (.iload 4, 2) := by decide +kernel
theorem dX5_way_55 : decode cX5_way 55 = .ok (.ifCond .ne 17, 3) := by decide +kernel
theorem dX5_way_58 : decode cX5_way 58 = .ok (.aload_n 0, 1) := by decide +kernel
theorem dX5_way_59 : decode cX5_way 59 = .ok (.getfield 44, 3) := by decide +kernel
theorem dX5_way_62 : decode cX5_way 62 = .ok (.aload_n 0, 1) := by decide +kernel
theorem dX5_way_63 : decode cX5_way 63 = .ok (.getfield 53, 3) := by decide +kernel
theorem dX5_way_66 : decode cX5_way 66 = .ok (.iload_n 3, 1) := by decide +kernel
theorem dX5_way_67 : decode cX5_way 67 = .ok (.iaload, 1) := by decide +kernel
theorem dX5_way_68 : decode cX5_way 68 = .ok (.iaload, 1) := by decide +kernel
theorem dX5_way_69 : decode cX5_way 69 = .ok (.goto 26, 3) := by decide +kernel
theorem dX5_way_72 : decode cX5_way 72 = .ok (.iload 4, 2) := by decide +kernel
theorem dX5_way_74 : decode cX5_way 74 = .ok (.iconst 1, 1) := by decide +kernel
theorem dX5_way_75 : decode cX5_way 75 = .ok (.if_icmp .ne 17, 3) := by decide +kernel
theorem dX5_way_78 : decode cX5_way 78 = .ok (.aload_n 0, 1) := by decide +kernel
theorem dX5_way_79 : decode cX5_way 79 = .ok (.getfield 44, 3) := by decide +kernel
theorem dX5_way_82 : decode cX5_way 82 = .ok (.aload_n 0, 1) := by decide +kernel
theorem dX5_way_83 : decode cX5_way 83 = .ok (.getfield 56, 3) := by decide +kernel
theorem dX5_way_86 : decode cX5_way 86 = .ok (.iload_n 3, 1) := by decide +kernel
theorem dX5_way_87 : decode cX5_way 87 = .ok (.iaload, 1) := by decide +kernel
theorem dX5_way_88 : decode cX5_way 88 = .ok (.iaload, 1) := by decide +kernel
theorem dX5_way_89 : decode cX5_way 89 = .ok (.goto 6, 3) := by decide +kernel
theorem dX5_way_92 : decode cX5_way 92 = .ok (.sipush (-1002), 3) := by decide +kernel
theorem dX5_way_95 : decode cX5_way 95 = .ok (.ireturn, 1) := by decide +kernel
theorem dX5_reachOf_0 : decode cX5_reachOf 0 = .ok (.iconst 0, 1) := by decide +kernel
theorem dX5_reachOf_1 : decode cX5_reachOf 1 = .ok (.istore_n 2, 1) := by decide +kernel
theorem dX5_reachOf_2 : decode cX5_reachOf 2 = .ok (.aload_n 0, 1) := by decide +kernel
theorem dX5_reachOf_3 : decode cX5_reachOf 3 = .ok (.getfield 38, 3) := by decide +kernel
theorem dX5_reachOf_6 : decode cX5_reachOf 6 = .ok (.iload_n 1, 1) := by decide +kernel
theorem dX5_reachOf_7 : decode cX5_reachOf 7 = .ok (.iaload, 1) := by decide +kernel
theorem dX5_reachOf_8 : decode cX5_reachOf 8 = .ok (.istore_n 3, 1) := by decide +kernel
theorem dX5_reachOf_9 : decode cX5_reachOf 9 = .ok (.iload_n 3, 1) := by decide +kernel
theorem dX5_reachOf_10 : decode cX5_reachOf 10 = .ok (.ifCond .le 52, 3) := by decide +kernel
theorem dX5_reachOf_13 : decode cX5_reachOf 13 = .ok (.iload_n 2, 1) := by decide +kernel
theorem dX5_reachOf_14 : decode cX5_reachOf 14 = .ok (.ifCond .ne 48, 3) := by decide +kernel
theorem dX5_reachOf_17 : decode cX5_reachOf 17 = .ok (.iconst 0, 1) := by decide +kernel
theorem dX5_reachOf_18 : decode cX5_reachOf 18 = .ok (.istore 4, 2) := by decide +kernel
theorem dX5_reachOf_20 : decode cX5_reachOf 20 = .ok (.iload 4, 2) := by decide +kernel
theorem dX5_reachOf_22 : decode cX5_reachOf 22 = .ok (.aload_n 0, 1) := by decide +kernel
theorem dX5_reachOf_23 : decode cX5_reachOf 23 = .ok (.getfield 86, 3) := by decide +kernel
theorem dX5_reachOf_26 : decode cX5_reachOf 26 = .ok (.if_icmp .ge 30, 3) := by decide +kernel
theorem dX5_reachOf_29 : decode cX5_reachOf 29 = .ok (.iload_n 2, 1) := by decide +kernel
theorem dX5_reachOf_30 : decode cX5_reachOf 30 = .ok (.ifCond .ne 26, 3) := by decide +kernel
theorem dX5_reachOf_33 : decode cX5_reachOf 33 = .ok (.aload_n 0, 1) := by decide +kernel
theorem dX5_reachOf_34 : decode cX5_reachOf 34 = .ok (.iload_n 1, 1) := by decide +kernel
theorem dX5_reachOf_35 : decode cX5_reachOf 35 = .ok (.iload_n 3, 1) := by decide +kernel
theorem dX5_reachOf_36 : decode cX5_reachOf 36 = .ok (.iload 4, 2) := by decide +kernel
theorem dX5_reachOf_38 : decode cX5_reachOf 38 = .ok (.invokevirtual 153, 3) := by decide +kernel
theorem dX5_reachOf_41 : decode cX5_reachOf 41 = .ok (.ifCond .lt 7, 3) := by decide +kernel
theorem dX5_reachOf_44 : decode cX5_reachOf 44 = .ok (.iload_n 3, 1) := by decide +kernel
theorem dX5_reachOf_45 : decode cX5_reachOf 45 = .ok (.goto 4, 3) := by decide +kernel
theorem dX5_reachOf_48 : decode cX5_reachOf 48 = .ok (.iconst 0, 1) := by decide +kernel
theorem dX5_reachOf_49 : decode cX5_reachOf 49 = .ok (.istore_n 2, 1) := by decide +kernel
theorem dX5_reachOf_50 : decode cX5_reachOf 50 = .ok (.iinc 4 1, 3) := by decide +kernel
theorem dX5_reachOf_53 : decode cX5_reachOf 53 = .ok (.goto (-33), 3) := by decide +kernel
theorem dX5_reachOf_56 : decode cX5_reachOf 56 = .ok (.iinc 3 (-1), 3) := by decide +kernel
theorem dX5_reachOf_59 : decode cX5_reachOf 59 = .ok (.goto (-50), 3) := by decide +kernel
theorem dX5_reachOf_62 : decode cX5_reachOf 62 = .ok (.iload_n 2, 1) := by decide +kernel
theorem dX5_reachOf_63 : decode cX5_reachOf 63 = .ok (.ireturn, 1) := by decide +kernel
theorem dX5_reach_0 : decode cX5_reach 0 = .ok (.aload_n 0, 1) := by decide +kernel
theorem dX5_reach_1 : decode cX5_reach 1 = .ok (.iload_n 1, 1) := by decide +kernel
theorem dX5_reach_2 : decode cX5_reach 2 = .ok (.invokevirtual 137, 3) := by decide +kernel
theorem dX5_reach_5 : decode cX5_reach 5 = .ok (.ifCond .eq 10, 3) := by decide +kernel
theorem dX5_reach_8 : decode cX5_reach 8 = .ok (.iload_n 2, 1) := by decide +kernel
theorem dX5_reach_9 : decode cX5_reach 9 = .ok (.invokestatic 69, 3) := by decide +kernel
theorem dX5_reach_12 : decode cX5_reach 12 = .ok (.ifCond .ne 7, 3) := by decide +kernel
theorem dX5_reach_15 : decode cX5_reach 15 = .ok (.sipush (-1001), 3) := by decide +kernel
theorem dX5_reach_18 : decode cX5_reach 18 = .ok (.ireturn, 1) := by decide +kernel
theorem dX5_reach_19 : decode cX5_reach 19 = .ok (.aload_n 0, 1) := by decide +kernel
theorem dX5_reach_20 : decode cX5_reach 20 = .ok (.aload_n 0, 1) := by decide +kernel
theorem dX5_reach_21 : decode cX5_reach 21 = .ok (.iload_n 2, 1) := by decide +kernel
theorem dX5_reach_22 : decode cX5_reach 22 = .ok (.invokevirtual 89, 3) := by decide +kernel
theorem dX5_reach_25 : decode cX5_reach 25 = .ok (.invokevirtual 109, 3) := by decide +kernel
theorem dX5_reach_28 : decode cX5_reach 28 = .ok (.aload_n 0, 1) := by decide +kernel
theorem dX5_reach_29 : decode cX5_reach 29 = .ok (.iload_n 1, 1) := by decide +kernel
theorem dX5_reach_30 : decode cX5_reach 30 = .ok (.invokevirtual 160, 3) := by decide +kernel
theorem dX5_reach_33 : decode cX5_reach 33 = .ok (.ireturn, 1) := by decide +kernel
theorem dX5_reached_0 : decode cX5_reached 0 = .ok (.aload_n 0, 1) := by decide +kernel
theorem dX5_reached_1 : decode cX5_reached 1 = .ok (.iload_n 1, 1) := by decide +kernel
theorem dX5_reached_2 : decode cX5_reached 2 = .ok (.invokevirtual 137, 3) := by decide +kernel
theorem dX5_reached_5 : decode cX5_reached 5 = .ok (.ifCond .ne 7, 3) := by decide +kernel
theorem dX5_reached_8 : decode cX5_reached 8 = .ok (.sipush (-1001), 3) := by decide +kernel
theorem dX5_reached_11 : decode cX5_reached 11 = .ok (.ireturn, 1) := by decide +kernel
theorem dX5_reached_12 : decode cX5_reached 12 = .ok (.iload_n 2, 1) := by decide +kernel
theorem dX5_reached_13 : decode cX5_reached 13 = .ok (.i2l, 1) := by decide +kernel
theorem dX5_reached_14 : decode cX5_reached 14 = .ok (.lconst 0, 1) := by decide +kernel
theorem dX5_reached_15 : decode cX5_reached 15 = .ok (.ldc2_w 125, 3) := by decide +kernel
theorem dX5_reached_18 : decode cX5_reached 18 = .ok (.invokestatic 61, 3) := by decide +kernel
theorem dX5_reached_21 : decode cX5_reached 21 = .ok (.ifCond .ne 7, 3) := by decide +kernel
theorem dX5_reached_24 : decode cX5_reached 24 = .ok (.sipush (-1002), 3) := by decide +kernel
theorem dX5_reached_27 : decode cX5_reached 27 = .ok (.ireturn, 1) := by decide +kernel
theorem dX5_reached_28 : decode cX5_reached 28 = .ok (.iconst 0, 1) := by decide +kernel
theorem dX5_reached_29 : decode cX5_reached 29 = .ok (.istore_n 3, 1) := by decide +kernel
theorem dX5_reached_30 : decode cX5_reached 30 = .ok (.iconst 0, 1) := by decide +kernel
theorem dX5_reached_31 : decode cX5_reached 31 = .ok (.istore 4, 2) := by decide +kernel
theorem dX5_reached_33 : decode cX5_reached 33 = .ok (.iload 4, 2) := by decide +kernel
theorem dX5_reached_35 : decode cX5_reached 35 = .ok (.bipush 24, 2) := by decide +kernel
theorem dX5_reached_37 : decode cX5_reached 37 = .ok (.if_icmp .ge 49, 3) := by decide +kernel
theorem dX5_reached_40 : decode cX5_reached 40 = .ok (.aload_n 0, 1) := by decide +kernel
theorem dX5_reached_41 : decode cX5_reached 41 = .ok (.getfield 23, 3) := by decide +kernel
theorem dX5_reached_44 : decode cX5_reached 44 = .ok (.iload 4, 2) := by decide +kernel
theorem dX5_reached_46 : decode cX5_reached 46 = .ok (.iaload, 1) := by decide +kernel
theorem dX5_reached_47 : decode cX5_reached 47 = .ok (.ifCond .ge 33, 3) := by decide +kernel
theorem dX5_reached_50 : decode cX5_reached 50 = .ok (.aload_n 0, 1) := by decide +kernel
theorem dX5_reached_51 : decode cX5_reached 51 = .ok (.iload 4, 2) := by decide +kernel
theorem dX5_reached_53 : decode cX5_reached 53 = .ok (.invokevirtual 109, 3) := by decide +kernel
theorem dX5_reached_56 : decode cX5_reached 56 = .ok (.iload_n 3, 1) := by decide +kernel
theorem dX5_reached_57 : decode cX5_reached 57 = .ok (.aload_n 0, 1) := by decide +kernel
theorem dX5_reached_58 : decode cX5_reached 58 = .ok (.getfield 86, 3) := by decide +kernel
theorem dX5_reached_61 : decode cX5_reached 61 = .ok (.ifCond .le 16, 3) := by decide +kernel
theorem dX5_reached_64 : decode cX5_reached 64 = .ok (.aload_n 0, 1) := by decide +kernel
theorem dX5_reached_65 : decode cX5_reached 65 = .ok (.iload_n 1, 1) := by decide +kernel
theorem dX5_reached_66 : decode cX5_reached 66 = .ok (.invokevirtual 160, 3) := by decide +kernel
theorem dX5_reached_69 : decode cX5_reached 69 = .ok (.iload_n 2, 1) := by decide +kernel
theorem dX5_reached_70 : decode cX5_reached 70 = .ok (.if_icmp .lt 7, 3) := by decide +kernel
theorem dX5_reached_73 : decode cX5_reached 73 = .ok (.iconst 1, 1) := by decide +kernel
theorem dX5_reached_74 : decode cX5_reached 74 = .ok (.goto 4, 3) := by decide +kernel
theorem dX5_reached_77 : decode cX5_reached 77 = .ok (.iconst 0, 1) := by decide +kernel
theorem dX5_reached_78 : decode cX5_reached 78 = .ok (.iadd, 1) := by decide +kernel
theorem dX5_reached_79 : decode cX5_reached 79 = .ok (.istore_n 3, 1) := by decide +kernel
theorem dX5_reached_80 : decode cX5_reached 80 = .ok (.iinc 4 1, 3) := by decide +kernel
theorem dX5_reached_83 : decode cX5_reached 83 = .ok (.goto (-50), 3) := by decide +kernel
theorem dX5_reached_86 : decode cX5_reached 86 = .ok (.iload_n 3, 1) := by decide +kernel
theorem dX5_reached_87 : decode cX5_reached 87 = .ok (.ireturn, 1) := by decide +kernel
theorem dX5_cameIn_0 : decode cX5_cameIn 0 = .ok (.iconst 0, 1) := by decide +kernel
theorem dX5_cameIn_1 : decode cX5_cameIn 1 = .ok (.istore_n 2, 1) := by decide +kernel
theorem dX5_cameIn_2 : decode cX5_cameIn 2 = .ok (.iconst 0, 1) := by decide +kernel
theorem dX5_cameIn_3 : decode cX5_cameIn 3 = .ok (.istore_n 3, 1) := by decide +kernel
theorem dX5_cameIn_4 : decode cX5_cameIn 4 = .ok (.iload_n 3, 1) := by decide +kernel
theorem dX5_cameIn_5 : decode cX5_cameIn 5 = .ok (.aload_n 0, 1) := by decide +kernel
theorem dX5_cameIn_6 : decode cX5_cameIn 6 = .ok (.getfield 86, 3) := by decide +kernel
theorem dX5_cameIn_9 : decode cX5_cameIn 9 = .ok (.if_icmp .ge 38, 3) := by decide +kernel
theorem dX5_cameIn_12 : decode cX5_cameIn 12 = .ok (.iload_n 2, 1) := by decide +kernel
theorem dX5_cameIn_13 : decode cX5_cameIn 13 = .ok (.ifCond .ne 22, 3) := by decide +kernel
theorem dX5_cameIn_16 : decode cX5_cameIn 16 = .ok (.aload_n 0, 1) := by decide +kernel
theorem dX5_cameIn_17 : decode cX5_cameIn 17 = .ok (.getfield 7, 3) := by decide +kernel
theorem dX5_cameIn_20 : decode cX5_cameIn 20 = .ok (.aload_n 0, 1) := by decide +kernel
theorem dX5_cameIn_21 : decode cX5_cameIn 21 = .ok (.getfield 44, 3) := by decide +kernel
theorem dX5_cameIn_24 : decode cX5_cameIn 24 = .ok (.iload_n 3, 1) := by decide +kernel
theorem dX5_cameIn_25 : decode cX5_cameIn 25 = .ok (.iaload, 1) := by decide +kernel
theorem dX5_cameIn_26 : decode cX5_cameIn 26 = .ok (.iaload, 1) := by decide +kernel
theorem dX5_cameIn_27 : decode cX5_cameIn 27 = .ok (.sipush 10080, 3) := by decide +kernel
theorem dX5_cameIn_30 : decode cX5_cameIn 30 = .ok (.idiv, 1) := by decide +kernel
theorem dX5_cameIn_31 : decode cX5_cameIn 31 = .ok (.iload_n 1, 1) := by decide +kernel
theorem dX5_cameIn_32 : decode cX5_cameIn 32 = .ok (.if_icmp .ne 7, 3) := by decide +kernel
theorem dX5_cameIn_35 : decode cX5_cameIn 35 = .ok (.iconst 1, 1) := by decide +kernel
theorem dX5_cameIn_36 : decode cX5_cameIn 36 = .ok (.goto 4, 3) := by decide +kernel
theorem dX5_cameIn_39 : decode cX5_cameIn 39 = .ok (.iconst 0, 1) := by decide +kernel
theorem dX5_cameIn_40 : decode cX5_cameIn 40 = .ok (.istore_n 2, 1) := by decide +kernel
theorem dX5_cameIn_41 : decode cX5_cameIn 41 = .ok (.iinc 3 1, 3) := by decide +kernel
theorem dX5_cameIn_44 : decode cX5_cameIn 44 = .ok (.goto (-40), 3) := by decide +kernel
theorem dX5_cameIn_47 : decode cX5_cameIn 47 = .ok (.iload_n 2, 1) := by decide +kernel
theorem dX5_cameIn_48 : decode cX5_cameIn 48 = .ok (.ireturn, 1) := by decide +kernel
theorem dX5_born_0 : decode cX5_born 0 = .ok (.aload_n 0, 1) := by decide +kernel
theorem dX5_born_1 : decode cX5_born 1 = .ok (.iload_n 1, 1) := by decide +kernel
theorem dX5_born_2 : decode cX5_born 2 = .ok (.iconst 0, 1) := by decide +kernel
theorem dX5_born_3 : decode cX5_born 3 = .ok (.invokevirtual 163, 3) := by decide +kernel
theorem dX5_born_6 : decode cX5_born 6 = .ok (.ireturn, 1) := by decide +kernel
theorem dX5_came_0 : decode cX5_came 0 = .ok (.iload_n 1, 1) := by decide +kernel
theorem dX5_came_1 : decode cX5_came 1 = .ok (.i2l, 1) := by decide +kernel
theorem dX5_came_2 : decode cX5_came 2 = .ok (.lconst 0, 1) := by decide +kernel
theorem dX5_came_3 : decode cX5_came 3 = .ok (.ldc2_w 167, 3) := by decide +kernel
theorem dX5_came_6 : decode cX5_came 6 = .ok (.invokestatic 61, 3) := by decide +kernel
theorem dX5_came_9 : decode cX5_came 9 = .ok (.ifCond .eq 15, 3) := by decide +kernel
theorem dX5_came_12 : decode cX5_came 12 = .ok (.iload_n 2, 1) := by decide +kernel
theorem dX5_came_13 : decode cX5_came 13 = .ok (.i2l, 1) := by decide +kernel
theorem dX5_came_14 : decode cX5_came 14 = .ok (.lconst 0, 1) := by decide +kernel
theorem dX5_came_15 : decode cX5_came 15 = .ok (.ldc2_w 167, 3) := by decide +kernel
theorem dX5_came_18 : decode cX5_came 18 = .ok (.invokestatic 61, 3) := by decide +kernel
theorem dX5_came_21 : decode cX5_came 21 = .ok (.ifCond .ne 7, 3) := by decide +kernel
theorem dX5_came_24 : decode cX5_came 24 = .ok (.sipush (-1002), 3) := by decide +kernel
theorem dX5_came_27 : decode cX5_came 27 = .ok (.ireturn, 1) := by decide +kernel
theorem dX5_came_28 : decode cX5_came 28 = .ok (.iconst 0, 1) := by decide +kernel
theorem dX5_came_29 : decode cX5_came 29 = .ok (.istore_n 3, 1) := by decide +kernel
theorem dX5_came_30 : decode cX5_came 30 = .ok (.iconst 0, 1) := by decide +kernel
theorem dX5_came_31 : decode cX5_came 31 = .ok (.istore 4, 2) := by decide +kernel
theorem dX5_came_33 : decode cX5_came 33 = .ok (.iload 4, 2) := by decide +kernel
theorem dX5_came_35 : decode cX5_came 35 = .ok (.bipush 24, 2) := by decide +kernel
theorem dX5_came_37 : decode cX5_came 37 = .ok (.if_icmp .ge 51, 3) := by decide +kernel
theorem dX5_came_40 : decode cX5_came 40 = .ok (.aload_n 0, 1) := by decide +kernel
theorem dX5_came_41 : decode cX5_came 41 = .ok (.getfield 23, 3) := by decide +kernel
theorem dX5_came_44 : decode cX5_came 44 = .ok (.iload 4, 2) := by decide +kernel
theorem dX5_came_46 : decode cX5_came 46 = .ok (.iaload, 1) := by decide +kernel
theorem dX5_came_47 : decode cX5_came 47 = .ok (.ifCond .ge 35, 3) := by decide +kernel
theorem dX5_came_50 : decode cX5_came 50 = .ok (.aload_n 0, 1) := by decide +kernel
theorem dX5_came_51 : decode cX5_came 51 = .ok (.iload 4, 2) := by decide +kernel
theorem dX5_came_53 : decode cX5_came 53 = .ok (.invokevirtual 109, 3) := by decide +kernel
theorem dX5_came_56 : decode cX5_came 56 = .ok (.iload_n 3, 1) := by decide +kernel
theorem dX5_came_57 : decode cX5_came 57 = .ok (.aload_n 0, 1) := by decide +kernel
theorem dX5_came_58 : decode cX5_came 58 = .ok (.invokevirtual 119, 3) := by decide +kernel
theorem dX5_came_61 : decode cX5_came 61 = .ok (.iload_n 1, 1) := by decide +kernel
theorem dX5_came_62 : decode cX5_came 62 = .ok (.if_icmp .ne 17, 3) := by decide +kernel
theorem dX5_came_65 : decode cX5_came 65 = .ok (.aload_n 0, 1) := by decide +kernel
theorem dX5_came_66 : decode cX5_came 66 = .ok (.iload_n 1, 1) := by decide +kernel
theorem dX5_came_67 : decode cX5_came 67 = .ok (.iload_n 2, 1) := by decide +kernel
theorem dX5_came_68 : decode cX5_came 68 = .ok (.iadd, 1) := by decide +kernel
theorem dX5_came_69 : decode cX5_came 69 = .ok (.invokevirtual 169, 3) := by decide +kernel
theorem dX5_came_72 : decode cX5_came 72 = .ok (.ifCond .eq 7, 3) := by decide +kernel
theorem dX5_came_75 : decode cX5_came 75 = .ok (.iconst 1, 1) := by decide +kernel
theorem dX5_came_76 : decode cX5_came 76 = .ok (.goto 4, 3) := by decide +kernel
theorem dX5_came_79 : decode cX5_came 79 = .ok (.iconst 0, 1) := by decide +kernel
theorem dX5_came_80 : decode cX5_came 80 = .ok (.iadd, 1) := by decide +kernel
theorem dX5_came_81 : decode cX5_came 81 = .ok (.istore_n 3, 1) := by decide +kernel
theorem dX5_came_82 : decode cX5_came 82 = .ok (.iinc 4 1, 3) := by decide +kernel
theorem dX5_came_85 : decode cX5_came 85 = .ok (.goto (-52), 3) := by decide +kernel
theorem dX5_came_88 : decode cX5_came 88 = .ok (.iload_n 3, 1) := by decide +kernel
theorem dX5_came_89 : decode cX5_came 89 = .ok (.ireturn, 1) := by decide +kernel
theorem dX5_digest_0 : decode cX5_digest 0 = .ok (.bipush 7, 2) := by decide +kernel
theorem dX5_digest_2 : decode cX5_digest 2 = .ok (.istore_n 1, 1) := by decide +kernel
theorem dX5_digest_3 : decode cX5_digest 3 = .ok (.iconst 0, 1) := by decide +kernel
theorem dX5_digest_4 : decode cX5_digest 4 = .ok (.istore_n 2, 1) := by decide +kernel
theorem dX5_digest_5 : decode cX5_digest 5 = .ok (.iload_n 2, 1) := by decide +kernel
theorem dX5_digest_6 : decode cX5_digest 6 = .ok (.bipush 24, 2) := by decide +kernel
theorem dX5_digest_8 : decode cX5_digest 8 = .ok (.if_icmp .ge 73, 3) := by decide +kernel
theorem dX5_digest_11 : decode cX5_digest 11 = .ok (.aload_n 0, 1) := by decide +kernel
theorem dX5_digest_12 : decode cX5_digest 12 = .ok (.getfield 23, 3) := by decide +kernel
theorem dX5_digest_15 : decode cX5_digest 15 = .ok (.iload_n 2, 1) := by decide +kernel
theorem dX5_digest_16 : decode cX5_digest 16 = .ok (.iaload, 1) := by decide +kernel
theorem dX5_digest_17 : decode cX5_digest 17 = .ok (.ifCond .ge 58, 3) := by decide +kernel
theorem dX5_digest_20 : decode cX5_digest 20 = .ok (.aload_n 0, 1) := by decide +kernel
theorem dX5_digest_21 : decode cX5_digest 21 = .ok (.iload_n 2, 1) := by decide +kernel
theorem dX5_digest_22 : decode cX5_digest 22 = .ok (.invokevirtual 109, 3) := by decide +kernel
theorem dX5_digest_25 : decode cX5_digest 25 = .ok (.iconst 0, 1) := by decide +kernel
theorem dX5_digest_26 : decode cX5_digest 26 = .ok (.istore_n 3, 1) := by decide +kernel
theorem dX5_digest_27 : decode cX5_digest 27 = .ok (.iload_n 3, 1) := by decide +kernel
theorem dX5_digest_28 : decode cX5_digest 28 = .ok (.aload_n 0, 1) := by decide +kernel
theorem dX5_digest_29 : decode cX5_digest 29 = .ok (.getfield 86, 3) := by decide +kernel
theorem dX5_digest_32 : decode cX5_digest 32 = .ok (.if_icmp .ge 33, 3) := by decide +kernel
theorem dX5_digest_35 : decode cX5_digest 35 = .ok (.bipush 31, 2) := by decide +kernel
theorem dX5_digest_37 : decode cX5_digest 37 = .ok (.iload_n 1, 1) := by decide +kernel
theorem dX5_digest_38 : decode cX5_digest 38 = .ok (.imul, 1) := by decide +kernel
theorem dX5_digest_39 : decode cX5_digest 39 = .ok (.aload_n 0, 1) := by decide +kernel
theorem dX5_digest_40 : decode cX5_digest 40 = .ok (.getfield 44, 3) := by decide +kernel
theorem dX5_digest_43 : decode cX5_digest 43 = .ok (.iload_n 3, 1) := by decide +kernel
theorem dX5_digest_44 : decode cX5_digest 44 = .ok (.iaload, 1) := by decide +kernel
theorem dX5_digest_45 : decode cX5_digest 45 = .ok (.iadd, 1) := by decide +kernel
theorem dX5_digest_46 : decode cX5_digest 46 = .ok (.istore_n 1, 1) := by decide +kernel
theorem dX5_digest_47 : decode cX5_digest 47 = .ok (.bipush 31, 2) := by decide +kernel
theorem dX5_digest_49 : decode cX5_digest 49 = .ok (.iload_n 1, 1) := by decide +kernel
theorem dX5_digest_50 : decode cX5_digest 50 = .ok (.imul, 1) := by decide +kernel
theorem dX5_digest_51 : decode cX5_digest 51 = .ok (.aload_n 0, 1) := by decide +kernel
theorem dX5_digest_52 : decode cX5_digest 52 = .ok (.getfield 47, 3) := by decide +kernel
theorem dX5_digest_55 : decode cX5_digest 55 = .ok (.iload_n 3, 1) := by decide +kernel
theorem dX5_digest_56 : decode cX5_digest 56 = .ok (.iaload, 1) := by decide +kernel
theorem dX5_digest_57 : decode cX5_digest 57 = .ok (.iadd, 1) := by decide +kernel
theorem dX5_digest_58 : decode cX5_digest 58 = .ok (.istore_n 1, 1) := by decide +kernel
theorem dX5_digest_59 : decode cX5_digest 59 = .ok (.iinc 3 1, 3) := by decide +kernel
theorem dX5_digest_62 : decode cX5_digest 62 = .ok (.goto (-35), 3) := by decide +kernel
theorem dX5_digest_65 : decode cX5_digest 65 = .ok (.bipush 31, 2) := by decide +kernel
theorem dX5_digest_67 : decode cX5_digest 67 = .ok (.iload_n 1, 1) := by decide +kernel
theorem dX5_digest_68 : decode cX5_digest 68 = .ok (.imul, 1) := by decide +kernel
theorem dX5_digest_69 : decode cX5_digest 69 = .ok (.aload_n 0, 1) := by decide +kernel
theorem dX5_digest_70 : decode cX5_digest 70 = .ok (.invokevirtual 119, 3) := by decide +kernel
theorem dX5_digest_73 : decode cX5_digest 73 = .ok (.iadd, 1) := by decide +kernel
theorem dX5_digest_74 : decode cX5_digest 74 = .ok (.istore_n 1, 1) := by decide +kernel
theorem dX5_digest_75 : decode cX5_digest 75 = .ok (.iinc 2 1, 3) := by decide +kernel
theorem dX5_digest_78 : decode cX5_digest 78 = .ok (.goto (-73), 3) := by decide +kernel
theorem dX5_digest_81 : decode cX5_digest 81 = .ok (.iload_n 1, 1) := by decide +kernel
theorem dX5_digest_82 : decode cX5_digest 82 = .ok (.ireturn, 1) := by decide +kernel
end
section
theorem dL_law_0 : decode cL_law 0 = .ok (.new 7, 3) := by decide +kernel
theorem dL_law_3 : decode cL_law 3 = .ok (.dup, 1) := by decide +kernel
theorem dL_law_4 : decode cL_law 4 = .ok (.invokespecial 9, 3) := by decide +kernel
theorem dL_law_7 : decode cL_law 7 = .ok (.astore_n 1, 1) := by decide +kernel
theorem dL_law_8 : decode cL_law 8 = .ok (.new 10, 3) := by decide +kernel
theorem dL_law_11 : decode cL_law 11 = .ok (.dup, 1) := by decide +kernel
theorem dL_law_12 : decode cL_law 12 = .ok (.invokespecial 12, 3) := by decide +kernel
theorem dL_law_15 : decode cL_law 15 = .ok (.astore_n 2, 1) := by decide +kernel
theorem dL_law_16 : decode cL_law 16 = .ok (.iconst 0, 1) := by decide +kernel
theorem dL_law_17 : decode cL_law 17 = .ok (.istore_n 3, 1) := by decide +kernel
theorem dL_law_18 : decode cL_law 18 = .ok (.iload_n 3, 1) := by decide +kernel
theorem dL_law_19 : decode cL_law 19 = .ok (.aload_n 0, 1) := by decide +kernel
theorem dL_law_20 : decode cL_law 20 = .ok (.arraylength, 1) := by decide +kernel
theorem dL_law_21 : decode cL_law 21 = .ok (.iconst 5, 1) := by decide +kernel
theorem dL_law_22 : decode cL_law 22 = .ok (.isub, 1) := by decide +kernel
theorem dL_law_23 : decode cL_law 23 = .ok (.if_icmp .gt 739, 3) := by decide +kernel
theorem dL_law_26 : decode cL_law 26 = .ok (.aload_n 0, 1) := by decide +kernel
theorem dL_law_27 : decode cL_law 27 = .ok (.iload_n 3, 1) := by decide +kernel
theorem dL_law_28 : decode cL_law 28 = .ok (.iaload, 1) := by decide +kernel
theorem dL_law_29 : decode cL_law 29 = .ok (.bipush 31, 2) := by decide +kernel
theorem dL_law_31 : decode cL_law 31 = .ok (.iand, 1) := by decide +kernel
theorem dL_law_32 : decode cL_law 32 = .ok (.tableswitch 724 0 17 #[88, 131, 180, 213, 246, 279, 312, 345, 388, 411, 470, 503, 536, 589, 622, 655, 678, 711], 88) := by decide +kernel
theorem dL_law_120 : decode cL_law 120 = .ok (.aload_n 1, 1) := by decide +kernel
theorem dL_law_121 : decode cL_law 121 = .ok (.aload_n 0, 1) := by decide +kernel
theorem dL_law_122 : decode cL_law 122 = .ok (.iload_n 3, 1) := by decide +kernel
theorem dL_law_123 : decode cL_law 123 = .ok (.iconst 1, 1) := by decide +kernel
theorem dL_law_124 : decode cL_law 124 = .ok (.iadd, 1) := by decide +kernel
theorem dL_law_125 : decode cL_law 125 = .ok (.iaload, 1) := by decide +kernel
theorem dL_law_126 : decode cL_law 126 = .ok (.aload_n 0, 1) := by decide +kernel
theorem dL_law_127 : decode cL_law 127 = .ok (.iload_n 3, 1) := by decide +kernel
theorem dL_law_128 : decode cL_law 128 = .ok (.iconst 2, 1) := by decide +kernel
theorem dL_law_129 : decode cL_law 129 = .ok (.iadd, 1) := by decide +kernel
theorem dL_law_130 : decode cL_law 130 = .ok (.iaload, 1) := by decide +kernel
theorem dL_law_131 : decode cL_law 131 = .ok (.aload_n 0, 1) := by decide +kernel
theorem dL_law_132 : decode cL_law 132 = .ok (.iload_n 3, 1) := by decide +kernel
theorem dL_law_133 : decode cL_law 133 = .ok (.iconst 3, 1) := by decide +kernel
theorem dL_law_134 : decode cL_law 134 = .ok (.iadd, 1) := by decide +kernel
theorem dL_law_135 : decode cL_law 135 = .ok (.iaload, 1) := by decide +kernel
theorem dL_law_136 : decode cL_law 136 = .ok (.invokevirtual 13, 3) := by decide +kernel
theorem dL_law_139 : decode cL_law 139 = .ok (.aload_n 2, 1) := by decide +kernel
theorem dL_law_140 : decode cL_law 140 = .ok (.aload_n 0, 1) := by decide +kernel
theorem dL_law_141 : decode cL_law 141 = .ok (.iload_n 3, 1) := by decide +kernel
theorem dL_law_142 : decode cL_law 142 = .ok (.iconst 1, 1) := by decide +kernel
theorem dL_law_143 : decode cL_law 143 = .ok (.iadd, 1) := by decide +kernel
theorem dL_law_144 : decode cL_law 144 = .ok (.iaload, 1) := by decide +kernel
theorem dL_law_145 : decode cL_law 145 = .ok (.aload_n 0, 1) := by decide +kernel
theorem dL_law_146 : decode cL_law 146 = .ok (.iload_n 3, 1) := by decide +kernel
theorem dL_law_147 : decode cL_law 147 = .ok (.iconst 2, 1) := by decide +kernel
theorem dL_law_148 : decode cL_law 148 = .ok (.iadd, 1) := by decide +kernel
theorem dL_law_149 : decode cL_law 149 = .ok (.iaload, 1) := by decide +kernel
theorem dL_law_150 : decode cL_law 150 = .ok (.aload_n 0, 1) := by decide +kernel
theorem dL_law_151 : decode cL_law 151 = .ok (.iload_n 3, 1) := by decide +kernel
theorem dL_law_152 : decode cL_law 152 = .ok (.iconst 3, 1) := by decide +kernel
theorem dL_law_153 : decode cL_law 153 = .ok (.iadd, 1) := by decide +kernel
theorem dL_law_154 : decode cL_law 154 = .ok (.iaload, 1) := by decide +kernel
theorem dL_law_155 : decode cL_law 155 = .ok (.invokevirtual 17, 3) := by decide +kernel
theorem dL_law_158 : decode cL_law 158 = .ok (.if_icmp .eq 598, 3) := by decide +kernel
theorem dL_law_161 : decode cL_law 161 = .ok (.iconst 0, 1) := by decide +kernel
theorem dL_law_162 : decode cL_law 162 = .ok (.ireturn, 1) := by decide +kernel
theorem dL_law_163 : decode cL_law 163 = .ok (.aload_n 1, 1) := by decide +kernel
theorem dL_law_164 : decode cL_law 164 = .ok (.aload_n 0, 1) := by decide +kernel
theorem dL_law_165 : decode cL_law 165 = .ok (.iload_n 3, 1) := by decide +kernel
theorem dL_law_166 : decode cL_law 166 = .ok (.iconst 1, 1) := by decide +kernel
theorem dL_law_167 : decode cL_law 167 = .ok (.iadd, 1) := by decide +kernel
theorem dL_law_168 : decode cL_law 168 = .ok (.iaload, 1) := by decide +kernel
theorem dL_law_169 : decode cL_law 169 = .ok (.aload_n 0, 1) := by decide +kernel
theorem dL_law_170 : decode cL_law 170 = .ok (.iload_n 3, 1) := by decide +kernel
theorem dL_law_171 : decode cL_law 171 = .ok (.iconst 2, 1) := by decide +kernel
theorem dL_law_172 : decode cL_law 172 = .ok (.iadd, 1) := by decide +kernel
theorem dL_law_173 : decode cL_law 173 = .ok (.iaload, 1) := by decide +kernel
theorem dL_law_174 : decode cL_law 174 = .ok (.ifCond .eq 7, 3) := by decide +kernel
theorem dL_law_177 : decode cL_law 177 = .ok (.iconst 1, 1) := by decide +kernel
theorem dL_law_178 : decode cL_law 178 = .ok (.goto 4, 3) := by decide +kernel
theorem dL_law_181 : decode cL_law 181 = .ok (.iconst 0, 1) := by decide +kernel
theorem dL_law_182 : decode cL_law 182 = .ok (.invokevirtual 18, 3) := by decide +kernel
theorem dL_law_185 : decode cL_law 185 = .ok (.aload_n 2, 1) := by decide +kernel
theorem dL_law_186 : decode cL_law 186 = .ok (.aload_n 0, 1) := by decide +kernel
theorem dL_law_187 : decode cL_law 187 = .ok (.iload_n 3, 1) := by decide +kernel
theorem dL_law_188 : decode cL_law 188 = .ok (.iconst 1, 1) := by decide +kernel
theorem dL_law_189 : decode cL_law 189 = .ok (.iadd, 1) := by decide +kernel
theorem dL_law_190 : decode cL_law 190 = .ok (.iaload, 1) := by decide +kernel
theorem dL_law_191 : decode cL_law 191 = .ok (.aload_n 0, 1) := by decide +kernel
theorem dL_law_192 : decode cL_law 192 = .ok (.iload_n 3, 1) := by decide +kernel
theorem dL_law_193 : decode cL_law 193 = .ok (.iconst 2, 1) := by decide +kernel
theorem dL_law_194 : decode cL_law 194 = .ok (.iadd, 1) := by decide +kernel
theorem dL_law_195 : decode cL_law 195 = .ok (.iaload, 1) := by decide +kernel
theorem dL_law_196 : decode cL_law 196 = .ok (.ifCond .eq 7, 3) := by decide +kernel
theorem dL_law_199 : decode cL_law 199 = .ok (.iconst 1, 1) := by decide +kernel
theorem dL_law_200 : decode cL_law 200 = .ok (.goto 4, 3) := by decide +kernel
theorem dL_law_203 : decode cL_law 203 = .ok (.iconst 0, 1) := by decide +kernel
theorem dL_law_204 : decode cL_law 204 = .ok (.invokevirtual 22, 3) := by decide +kernel
theorem dL_law_207 : decode cL_law 207 = .ok (.if_icmp .eq 549, 3) := by decide +kernel
theorem dL_law_210 : decode cL_law 210 = .ok (.iconst 0, 1) := by decide +kernel
theorem dL_law_211 : decode cL_law 211 = .ok (.ireturn, 1) := by decide +kernel
theorem dL_law_212 : decode cL_law 212 = .ok (.aload_n 1, 1) := by decide +kernel
theorem dL_law_213 : decode cL_law 213 = .ok (.aload_n 0, 1) := by decide +kernel
theorem dL_law_214 : decode cL_law 214 = .ok (.iload_n 3, 1) := by decide +kernel
theorem dL_law_215 : decode cL_law 215 = .ok (.iconst 1, 1) := by decide +kernel
theorem dL_law_216 : decode cL_law 216 = .ok (.iadd, 1) := by decide +kernel
theorem dL_law_217 : decode cL_law 217 = .ok (.iaload, 1) := by decide +kernel
theorem dL_law_218 : decode cL_law 218 = .ok (.aload_n 0, 1) := by decide +kernel
theorem dL_law_219 : decode cL_law 219 = .ok (.iload_n 3, 1) := by decide +kernel
theorem dL_law_220 : decode cL_law 220 = .ok (.iconst 2, 1) := by decide +kernel
theorem dL_law_221 : decode cL_law 221 = .ok (.iadd, 1) := by decide +kernel
theorem dL_law_222 : decode cL_law 222 = .ok (.iaload, 1) := by decide +kernel
theorem dL_law_223 : decode cL_law 223 = .ok (.invokevirtual 23, 3) := by decide +kernel
theorem dL_law_226 : decode cL_law 226 = .ok (.aload_n 2, 1) := by decide +kernel
theorem dL_law_227 : decode cL_law 227 = .ok (.aload_n 0, 1) := by decide +kernel
theorem dL_law_228 : decode cL_law 228 = .ok (.iload_n 3, 1) := by decide +kernel
theorem dL_law_229 : decode cL_law 229 = .ok (.iconst 1, 1) := by decide +kernel
theorem dL_law_230 : decode cL_law 230 = .ok (.iadd, 1) := by decide +kernel
theorem dL_law_231 : decode cL_law 231 = .ok (.iaload, 1) := by decide +kernel
theorem dL_law_232 : decode cL_law 232 = .ok (.aload_n 0, 1) := by decide +kernel
theorem dL_law_233 : decode cL_law 233 = .ok (.iload_n 3, 1) := by decide +kernel
theorem dL_law_234 : decode cL_law 234 = .ok (.iconst 2, 1) := by decide +kernel
theorem dL_law_235 : decode cL_law 235 = .ok (.iadd, 1) := by decide +kernel
theorem dL_law_236 : decode cL_law 236 = .ok (.iaload, 1) := by decide +kernel
theorem dL_law_237 : decode cL_law 237 = .ok (.invokevirtual 27, 3) := by decide +kernel
theorem dL_law_240 : decode cL_law 240 = .ok (.if_icmp .eq 516, 3) := by decide +kernel
theorem dL_law_243 : decode cL_law 243 = .ok (.iconst 0, 1) := by decide +kernel
theorem dL_law_244 : decode cL_law 244 = .ok (.ireturn, 1) := by decide +kernel
theorem dL_law_245 : decode cL_law 245 = .ok (.aload_n 1, 1) := by decide +kernel
theorem dL_law_246 : decode cL_law 246 = .ok (.aload_n 0, 1) := by decide +kernel
theorem dL_law_247 : decode cL_law 247 = .ok (.iload_n 3, 1) := by decide +kernel
theorem dL_law_248 : decode cL_law 248 = .ok (.iconst 1, 1) := by decide +kernel
theorem dL_law_249 : decode cL_law 249 = .ok (.iadd, 1) := by decide +kernel
theorem dL_law_250 : decode cL_law 250 = .ok (.iaload, 1) := by decide +kernel
theorem dL_law_251 : decode cL_law 251 = .ok (.aload_n 0, 1) := by decide +kernel
theorem dL_law_252 : decode cL_law 252 = .ok (.iload_n 3, 1) := by decide +kernel
theorem dL_law_253 : decode cL_law 253 = .ok (.iconst 2, 1) := by decide +kernel
theorem dL_law_254 : decode cL_law 254 = .ok (.iadd, 1) := by decide +kernel
theorem dL_law_255 : decode cL_law 255 = .ok (.iaload, 1) := by decide +kernel
theorem dL_law_256 : decode cL_law 256 = .ok (.invokevirtual 28, 3) := by decide +kernel
theorem dL_law_259 : decode cL_law 259 = .ok (.aload_n 2, 1) := by decide +kernel
theorem dL_law_260 : decode cL_law 260 = .ok (.aload_n 0, 1) := by decide +kernel
theorem dL_law_261 : decode cL_law 261 = .ok (.iload_n 3, 1) := by decide +kernel
theorem dL_law_262 : decode cL_law 262 = .ok (.iconst 1, 1) := by decide +kernel
theorem dL_law_263 : decode cL_law 263 = .ok (.iadd, 1) := by decide +kernel
theorem dL_law_264 : decode cL_law 264 = .ok (.iaload, 1) := by decide +kernel
theorem dL_law_265 : decode cL_law 265 = .ok (.aload_n 0, 1) := by decide +kernel
theorem dL_law_266 : decode cL_law 266 = .ok (.iload_n 3, 1) := by decide +kernel
theorem dL_law_267 : decode cL_law 267 = .ok (.iconst 2, 1) := by decide +kernel
theorem dL_law_268 : decode cL_law 268 = .ok (.iadd, 1) := by decide +kernel
theorem dL_law_269 : decode cL_law 269 = .ok (.iaload, 1) := by decide +kernel
theorem dL_law_270 : decode cL_law 270 = .ok (.invokevirtual 31, 3) := by decide +kernel
theorem dL_law_273 : decode cL_law 273 = .ok (.if_icmp .eq 483, 3) := by decide +kernel
theorem dL_law_276 : decode cL_law 276 = .ok (.iconst 0, 1) := by decide +kernel
theorem dL_law_277 : decode cL_law 277 = .ok (.ireturn, 1) := by decide +kernel
theorem dL_law_278 : decode cL_law 278 = .ok (.aload_n 1, 1) := by decide +kernel
theorem dL_law_279 : decode cL_law 279 = .ok (.aload_n 0, 1) := by decide +kernel
theorem dL_law_280 : decode cL_law 280 = .ok (.iload_n 3, 1) := by decide +kernel
theorem dL_law_281 : decode cL_law 281 = .ok (.iconst 1, 1) := by decide +kernel
theorem dL_law_282 : decode cL_law 282 = .ok (.iadd, 1) := by decide +kernel
theorem dL_law_283 : decode cL_law 283 = .ok (.iaload, 1) := by decide +kernel
theorem dL_law_284 : decode cL_law 284 = .ok (.aload_n 0, 1) := by decide +kernel
theorem dL_law_285 : decode cL_law 285 = .ok (.iload_n 3, 1) := by decide +kernel
theorem dL_law_286 : decode cL_law 286 = .ok (.iconst 2, 1) := by decide +kernel
theorem dL_law_287 : decode cL_law 287 = .ok (.iadd, 1) := by decide +kernel
theorem dL_law_288 : decode cL_law 288 = .ok (.iaload, 1) := by decide +kernel
theorem dL_law_289 : decode cL_law 289 = .ok (.invokevirtual 32, 3) := by decide +kernel
theorem dL_law_292 : decode cL_law 292 = .ok (.aload_n 2, 1) := by decide +kernel
theorem dL_law_293 : decode cL_law 293 = .ok (.aload_n 0, 1) := by decide +kernel
theorem dL_law_294 : decode cL_law 294 = .ok (.iload_n 3, 1) := by decide +kernel
theorem dL_law_295 : decode cL_law 295 = .ok (.iconst 1, 1) := by decide +kernel
theorem dL_law_296 : decode cL_law 296 = .ok (.iadd, 1) := by decide +kernel
theorem dL_law_297 : decode cL_law 297 = .ok (.iaload, 1) := by decide +kernel
theorem dL_law_298 : decode cL_law 298 = .ok (.aload_n 0, 1) := by decide +kernel
theorem dL_law_299 : decode cL_law 299 = .ok (.iload_n 3, 1) := by decide +kernel
theorem dL_law_300 : decode cL_law 300 = .ok (.iconst 2, 1) := by decide +kernel
theorem dL_law_301 : decode cL_law 301 = .ok (.iadd, 1) := by decide +kernel
theorem dL_law_302 : decode cL_law 302 = .ok (.iaload, 1) := by decide +kernel
theorem dL_law_303 : decode cL_law 303 = .ok (.invokevirtual 35, 3) := by decide +kernel
theorem dL_law_306 : decode cL_law 306 = .ok (.if_icmp .eq 450, 3) := by decide +kernel
theorem dL_law_309 : decode cL_law 309 = .ok (.iconst 0, 1) := by decide +kernel
theorem dL_law_310 : decode cL_law 310 = .ok (.ireturn, 1) := by decide +kernel
theorem dL_law_311 : decode cL_law 311 = .ok (.aload_n 1, 1) := by decide +kernel
theorem dL_law_312 : decode cL_law 312 = .ok (.aload_n 0, 1) := by decide +kernel
theorem dL_law_313 : decode cL_law 313 = .ok (.iload_n 3, 1) := by decide +kernel
theorem dL_law_314 : decode cL_law 314 = .ok (.iconst 1, 1) := by decide +kernel
theorem dL_law_315 : decode cL_law 315 = .ok (.iadd, 1) := by decide +kernel
theorem dL_law_316 : decode cL_law 316 = .ok (.iaload, 1) := by decide +kernel
theorem dL_law_317 : decode cL_law 317 = .ok (.aload_n 0, 1) := by decide +kernel
theorem dL_law_318 : decode cL_law 318 = .ok (.iload_n 3, 1) := by decide +kernel
theorem dL_law_319 : decode cL_law 319 = .ok (.iconst 2, 1) := by decide +kernel
theorem dL_law_320 : decode cL_law 320 = .ok (.iadd, 1) := by decide +kernel
theorem dL_law_321 : decode cL_law 321 = .ok (.iaload, 1) := by decide +kernel
theorem dL_law_322 : decode cL_law 322 = .ok (.invokevirtual 36, 3) := by decide +kernel
theorem dL_law_325 : decode cL_law 325 = .ok (.aload_n 2, 1) := by decide +kernel
theorem dL_law_326 : decode cL_law 326 = .ok (.aload_n 0, 1) := by decide +kernel
theorem dL_law_327 : decode cL_law 327 = .ok (.iload_n 3, 1) := by decide +kernel
theorem dL_law_328 : decode cL_law 328 = .ok (.iconst 1, 1) := by decide +kernel
theorem dL_law_329 : decode cL_law 329 = .ok (.iadd, 1) := by decide +kernel
theorem dL_law_330 : decode cL_law 330 = .ok (.iaload, 1) := by decide +kernel
theorem dL_law_331 : decode cL_law 331 = .ok (.aload_n 0, 1) := by decide +kernel
theorem dL_law_332 : decode cL_law 332 = .ok (.iload_n 3, 1) := by decide +kernel
theorem dL_law_333 : decode cL_law 333 = .ok (.iconst 2, 1) := by decide +kernel
theorem dL_law_334 : decode cL_law 334 = .ok (.iadd, 1) := by decide +kernel
theorem dL_law_335 : decode cL_law 335 = .ok (.iaload, 1) := by decide +kernel
theorem dL_law_336 : decode cL_law 336 = .ok (.invokevirtual 39, 3) := by decide +kernel
theorem dL_law_339 : decode cL_law 339 = .ok (.if_icmp .eq 417, 3) := by decide +kernel
theorem dL_law_342 : decode cL_law 342 = .ok (.iconst 0, 1) := by decide +kernel
theorem dL_law_343 : decode cL_law 343 = .ok (.ireturn, 1) := by decide +kernel
theorem dL_law_344 : decode cL_law 344 = .ok (.aload_n 1, 1) := by decide +kernel
theorem dL_law_345 : decode cL_law 345 = .ok (.aload_n 0, 1) := by decide +kernel
theorem dL_law_346 : decode cL_law 346 = .ok (.iload_n 3, 1) := by decide +kernel
theorem dL_law_347 : decode cL_law 347 = .ok (.iconst 1, 1) := by decide +kernel
theorem dL_law_348 : decode cL_law 348 = .ok (.iadd, 1) := by decide +kernel
theorem dL_law_349 : decode cL_law 349 = .ok (.iaload, 1) := by decide +kernel
theorem dL_law_350 : decode cL_law 350 = .ok (.aload_n 0, 1) := by decide +kernel
theorem dL_law_351 : decode cL_law 351 = .ok (.iload_n 3, 1) := by decide +kernel
theorem dL_law_352 : decode cL_law 352 = .ok (.iconst 2, 1) := by decide +kernel
theorem dL_law_353 : decode cL_law 353 = .ok (.iadd, 1) := by decide +kernel
theorem dL_law_354 : decode cL_law 354 = .ok (.iaload, 1) := by decide +kernel
theorem dL_law_355 : decode cL_law 355 = .ok (.invokevirtual 40, 3) := by decide +kernel
theorem dL_law_358 : decode cL_law 358 = .ok (.aload_n 2, 1) := by decide +kernel
theorem dL_law_359 : decode cL_law 359 = .ok (.aload_n 0, 1) := by decide +kernel
theorem dL_law_360 : decode cL_law 360 = .ok (.iload_n 3, 1) := by decide +kernel
theorem dL_law_361 : decode cL_law 361 = .ok (.iconst 1, 1) := by decide +kernel
theorem dL_law_362 : decode cL_law 362 = .ok (.iadd, 1) := by decide +kernel
theorem dL_law_363 : decode cL_law 363 = .ok (.iaload, 1) := by decide +kernel
theorem dL_law_364 : decode cL_law 364 = .ok (.aload_n 0, 1) := by decide +kernel
theorem dL_law_365 : decode cL_law 365 = .ok (.iload_n 3, 1) := by decide +kernel
theorem dL_law_366 : decode cL_law 366 = .ok (.iconst 2, 1) := by decide +kernel
theorem dL_law_367 : decode cL_law 367 = .ok (.iadd, 1) := by decide +kernel
theorem dL_law_368 : decode cL_law 368 = .ok (.iaload, 1) := by decide +kernel
theorem dL_law_369 : decode cL_law 369 = .ok (.invokevirtual 43, 3) := by decide +kernel
theorem dL_law_372 : decode cL_law 372 = .ok (.if_icmp .eq 384, 3) := by decide +kernel
theorem dL_law_375 : decode cL_law 375 = .ok (.iconst 0, 1) := by decide +kernel
theorem dL_law_376 : decode cL_law 376 = .ok (.ireturn, 1) := by decide +kernel
theorem dL_law_377 : decode cL_law 377 = .ok (.aload_n 1, 1) := by decide +kernel
theorem dL_law_378 : decode cL_law 378 = .ok (.aload_n 0, 1) := by decide +kernel
theorem dL_law_379 : decode cL_law 379 = .ok (.iload_n 3, 1) := by decide +kernel
theorem dL_law_380 : decode cL_law 380 = .ok (.iconst 1, 1) := by decide +kernel
theorem dL_law_381 : decode cL_law 381 = .ok (.iadd, 1) := by decide +kernel
theorem dL_law_382 : decode cL_law 382 = .ok (.iaload, 1) := by decide +kernel
theorem dL_law_383 : decode cL_law 383 = .ok (.aload_n 0, 1) := by decide +kernel
theorem dL_law_384 : decode cL_law 384 = .ok (.iload_n 3, 1) := by decide +kernel
theorem dL_law_385 : decode cL_law 385 = .ok (.iconst 2, 1) := by decide +kernel
theorem dL_law_386 : decode cL_law 386 = .ok (.iadd, 1) := by decide +kernel
theorem dL_law_387 : decode cL_law 387 = .ok (.iaload, 1) := by decide +kernel
theorem dL_law_388 : decode cL_law 388 = .ok (.aload_n 0, 1) := by decide +kernel
theorem dL_law_389 : decode cL_law 389 = .ok (.iload_n 3, 1) := by decide +kernel
theorem dL_law_390 : decode cL_law 390 = .ok (.iconst 3, 1) := by decide +kernel
theorem dL_law_391 : decode cL_law 391 = .ok (.iadd, 1) := by decide +kernel
theorem dL_law_392 : decode cL_law 392 = .ok (.iaload, 1) := by decide +kernel
theorem dL_law_393 : decode cL_law 393 = .ok (.invokevirtual 44, 3) := by decide +kernel
theorem dL_law_396 : decode cL_law 396 = .ok (.aload_n 2, 1) := by decide +kernel
theorem dL_law_397 : decode cL_law 397 = .ok (.aload_n 0, 1) := by decide +kernel
theorem dL_law_398 : decode cL_law 398 = .ok (.iload_n 3, 1) := by decide +kernel
theorem dL_law_399 : decode cL_law 399 = .ok (.iconst 1, 1) := by decide +kernel
theorem dL_law_400 : decode cL_law 400 = .ok (.iadd, 1) := by decide +kernel
theorem dL_law_401 : decode cL_law 401 = .ok (.iaload, 1) := by decide +kernel
theorem dL_law_402 : decode cL_law 402 = .ok (.aload_n 0, 1) := by decide +kernel
theorem dL_law_403 : decode cL_law 403 = .ok (.iload_n 3, 1) := by decide +kernel
theorem dL_law_404 : decode cL_law 404 = .ok (.iconst 2, 1) := by decide +kernel
theorem dL_law_405 : decode cL_law 405 = .ok (.iadd, 1) := by decide +kernel
theorem dL_law_406 : decode cL_law 406 = .ok (.iaload, 1) := by decide +kernel
theorem dL_law_407 : decode cL_law 407 = .ok (.aload_n 0, 1) := by decide +kernel
theorem dL_law_408 : decode cL_law 408 = .ok (.iload_n 3, 1) := by decide +kernel
theorem dL_law_409 : decode cL_law 409 = .ok (.iconst 3, 1) := by decide +kernel
theorem dL_law_410 : decode cL_law 410 = .ok (.iadd, 1) := by decide +kernel
theorem dL_law_411 : decode cL_law 411 = .ok (.iaload, 1) := by decide +kernel
theorem dL_law_412 : decode cL_law 412 = .ok (.invokevirtual 47, 3) := by decide +kernel
theorem dL_law_415 : decode cL_law 415 = .ok (.if_icmp .eq 341, 3) := by decide +kernel
theorem dL_law_418 : decode cL_law 418 = .ok (.iconst 0, 1) := by decide +kernel
theorem dL_law_419 : decode cL_law 419 = .ok (.ireturn, 1) := by decide +kernel
theorem dL_law_420 : decode cL_law 420 = .ok (.aload_n 1, 1) := by decide +kernel
theorem dL_law_421 : decode cL_law 421 = .ok (.aload_n 0, 1) := by decide +kernel
theorem dL_law_422 : decode cL_law 422 = .ok (.iload_n 3, 1) := by decide +kernel
theorem dL_law_423 : decode cL_law 423 = .ok (.iconst 1, 1) := by decide +kernel
theorem dL_law_424 : decode cL_law 424 = .ok (.iadd, 1) := by decide +kernel
theorem dL_law_425 : decode cL_law 425 = .ok (.iaload, 1) := by decide +kernel
theorem dL_law_426 : decode cL_law 426 = .ok (.invokevirtual 48, 3) := by decide +kernel
theorem dL_law_429 : decode cL_law 429 = .ok (.aload_n 2, 1) := by decide +kernel
theorem dL_law_430 : decode cL_law 430 = .ok (.aload_n 0, 1) := by decide +kernel
theorem dL_law_431 : decode cL_law 431 = .ok (.iload_n 3, 1) := by decide +kernel
theorem dL_law_432 : decode cL_law 432 = .ok (.iconst 1, 1) := by decide +kernel
theorem dL_law_433 : decode cL_law 433 = .ok (.iadd, 1) := by decide +kernel
theorem dL_law_434 : decode cL_law 434 = .ok (.iaload, 1) := by decide +kernel
theorem dL_law_435 : decode cL_law 435 = .ok (.invokevirtual 52, 3) := by decide +kernel
theorem dL_law_438 : decode cL_law 438 = .ok (.if_icmp .eq 318, 3) := by decide +kernel
theorem dL_law_441 : decode cL_law 441 = .ok (.iconst 0, 1) := by decide +kernel
theorem dL_law_442 : decode cL_law 442 = .ok (.ireturn, 1) := by decide +kernel
theorem dL_law_443 : decode cL_law 443 = .ok (.aload_n 1, 1) := by decide +kernel
theorem dL_law_444 : decode cL_law 444 = .ok (.aload_n 0, 1) := by decide +kernel
theorem dL_law_445 : decode cL_law 445 = .ok (.iload_n 3, 1) := by decide +kernel
theorem dL_law_446 : decode cL_law 446 = .ok (.iconst 1, 1) := by decide +kernel
theorem dL_law_447 : decode cL_law 447 = .ok (.iadd, 1) := by decide +kernel
theorem dL_law_448 : decode cL_law 448 = .ok (.iaload, 1) := by decide +kernel
theorem dL_law_449 : decode cL_law 449 = .ok (.ifCond .eq 7, 3) := by decide +kernel
theorem dL_law_452 : decode cL_law 452 = .ok (.iconst 1, 1) := by decide +kernel
theorem dL_law_453 : decode cL_law 453 = .ok (.goto 4, 3) := by decide +kernel
theorem dL_law_456 : decode cL_law 456 = .ok (.iconst 0, 1) := by decide +kernel
theorem dL_law_457 : decode cL_law 457 = .ok (.aload_n 0, 1) := by decide +kernel
theorem dL_law_458 : decode cL_law 458 = .ok (.iload_n 3, 1) := by decide +kernel
theorem dL_law_459 : decode cL_law 459 = .ok (.iconst 2, 1) := by decide +kernel
theorem dL_law_460 : decode cL_law 460 = .ok (.iadd, 1) := by decide +kernel
theorem dL_law_461 : decode cL_law 461 = .ok (.iaload, 1) := by decide +kernel
theorem dL_law_462 : decode cL_law 462 = .ok (.aload_n 0, 1) := by decide +kernel
theorem dL_law_463 : decode cL_law 463 = .ok (.iload_n 3, 1) := by decide +kernel
theorem dL_law_464 : decode cL_law 464 = .ok (.iconst 3, 1) := by decide +kernel
theorem dL_law_465 : decode cL_law 465 = .ok (.iadd, 1) := by decide +kernel
theorem dL_law_466 : decode cL_law 466 = .ok (.iaload, 1) := by decide +kernel
theorem dL_law_467 : decode cL_law 467 = .ok (.invokevirtual 53, 3) := by decide +kernel
theorem dL_law_470 : decode cL_law 470 = .ok (.aload_n 2, 1) := by decide +kernel
theorem dL_law_471 : decode cL_law 471 = .ok (.aload_n 0, 1) := by decide +kernel
theorem dL_law_472 : decode cL_law 472 = .ok (.iload_n 3, 1) := by decide +kernel
theorem dL_law_473 : decode cL_law 473 = .ok (.iconst 1, 1) := by decide +kernel
theorem dL_law_474 : decode cL_law 474 = .ok (.iadd, 1) := by decide +kernel
theorem dL_law_475 : decode cL_law 475 = .ok (.iaload, 1) := by decide +kernel
theorem dL_law_476 : decode cL_law 476 = .ok (.ifCond .eq 7, 3) := by decide +kernel
theorem dL_law_479 : decode cL_law 479 = .ok (.iconst 1, 1) := by decide +kernel
theorem dL_law_480 : decode cL_law 480 = .ok (.goto 4, 3) := by decide +kernel
theorem dL_law_483 : decode cL_law 483 = .ok (.iconst 0, 1) := by decide +kernel
theorem dL_law_484 : decode cL_law 484 = .ok (.aload_n 0, 1) := by decide +kernel
theorem dL_law_485 : decode cL_law 485 = .ok (.iload_n 3, 1) := by decide +kernel
theorem dL_law_486 : decode cL_law 486 = .ok (.iconst 2, 1) := by decide +kernel
theorem dL_law_487 : decode cL_law 487 = .ok (.iadd, 1) := by decide +kernel
theorem dL_law_488 : decode cL_law 488 = .ok (.iaload, 1) := by decide +kernel
theorem dL_law_489 : decode cL_law 489 = .ok (.aload_n 0, 1) := by decide +kernel
theorem dL_law_490 : decode cL_law 490 = .ok (.iload_n 3, 1) := by decide +kernel
theorem dL_law_491 : decode cL_law 491 = .ok (.iconst 3, 1) := by decide +kernel
theorem dL_law_492 : decode cL_law 492 = .ok (.iadd, 1) := by decide +kernel
theorem dL_law_493 : decode cL_law 493 = .ok (.iaload, 1) := by decide +kernel
theorem dL_law_494 : decode cL_law 494 = .ok (.invokevirtual 57, 3) := by decide +kernel
theorem dL_law_497 : decode cL_law 497 = .ok (.if_icmp .eq 259, 3) := by decide +kernel
theorem dL_law_500 : decode cL_law 500 = .ok (.iconst 0, 1) := by decide +kernel
theorem dL_law_501 : decode cL_law 501 = .ok (.ireturn, 1) := by decide +kernel
theorem dL_law_502 : decode cL_law 502 = .ok (.aload_n 1, 1) := by decide +kernel
theorem dL_law_503 : decode cL_law 503 = .ok (.aload_n 0, 1) := by decide +kernel
theorem dL_law_504 : decode cL_law 504 = .ok (.iload_n 3, 1) := by decide +kernel
theorem dL_law_505 : decode cL_law 505 = .ok (.iconst 1, 1) := by decide +kernel
theorem dL_law_506 : decode cL_law 506 = .ok (.iadd, 1) := by decide +kernel
theorem dL_law_507 : decode cL_law 507 = .ok (.iaload, 1) := by decide +kernel
theorem dL_law_508 : decode cL_law 508 = .ok (.aload_n 0, 1) := by decide +kernel
theorem dL_law_509 : decode cL_law 509 = .ok (.iload_n 3, 1) := by decide +kernel
theorem dL_law_510 : decode cL_law 510 = .ok (.iconst 2, 1) := by decide +kernel
theorem dL_law_511 : decode cL_law 511 = .ok (.iadd, 1) := by decide +kernel
theorem dL_law_512 : decode cL_law 512 = .ok (.iaload, 1) := by decide +kernel
theorem dL_law_513 : decode cL_law 513 = .ok (.invokevirtual 58, 3) := by decide +kernel
theorem dL_law_516 : decode cL_law 516 = .ok (.aload_n 2, 1) := by decide +kernel
theorem dL_law_517 : decode cL_law 517 = .ok (.aload_n 0, 1) := by decide +kernel
theorem dL_law_518 : decode cL_law 518 = .ok (.iload_n 3, 1) := by decide +kernel
theorem dL_law_519 : decode cL_law 519 = .ok (.iconst 1, 1) := by decide +kernel
theorem dL_law_520 : decode cL_law 520 = .ok (.iadd, 1) := by decide +kernel
theorem dL_law_521 : decode cL_law 521 = .ok (.iaload, 1) := by decide +kernel
theorem dL_law_522 : decode cL_law 522 = .ok (.aload_n 0, 1) := by decide +kernel
theorem dL_law_523 : decode cL_law 523 = .ok (.iload_n 3, 1) := by decide +kernel
theorem dL_law_524 : decode cL_law 524 = .ok (.iconst 2, 1) := by decide +kernel
theorem dL_law_525 : decode cL_law 525 = .ok (.iadd, 1) := by decide +kernel
theorem dL_law_526 : decode cL_law 526 = .ok (.iaload, 1) := by decide +kernel
theorem dL_law_527 : decode cL_law 527 = .ok (.invokevirtual 61, 3) := by decide +kernel
theorem dL_law_530 : decode cL_law 530 = .ok (.if_icmp .eq 226, 3) := by decide +kernel
theorem dL_law_533 : decode cL_law 533 = .ok (.iconst 0, 1) := by decide +kernel
theorem dL_law_534 : decode cL_law 534 = .ok (.ireturn, 1) := by decide +kernel
theorem dL_law_535 : decode cL_law 535 = .ok (.aload_n 1, 1) := by decide +kernel
theorem dL_law_536 : decode cL_law 536 = .ok (.aload_n 0, 1) := by decide +kernel
theorem dL_law_537 : decode cL_law 537 = .ok (.iload_n 3, 1) := by decide +kernel
theorem dL_law_538 : decode cL_law 538 = .ok (.iconst 1, 1) := by decide +kernel
theorem dL_law_539 : decode cL_law 539 = .ok (.iadd, 1) := by decide +kernel
theorem dL_law_540 : decode cL_law 540 = .ok (.iaload, 1) := by decide +kernel
theorem dL_law_541 : decode cL_law 541 = .ok (.aload_n 0, 1) := by decide +kernel
theorem dL_law_542 : decode cL_law 542 = .ok (.iload_n 3, 1) := by decide +kernel
theorem dL_law_543 : decode cL_law 543 = .ok (.iconst 2, 1) := by decide +kernel
theorem dL_law_544 : decode cL_law 544 = .ok (.iadd, 1) := by decide +kernel
theorem dL_law_545 : decode cL_law 545 = .ok (.iaload, 1) := by decide +kernel
theorem dL_law_546 : decode cL_law 546 = .ok (.invokevirtual 62, 3) := by decide +kernel
theorem dL_law_549 : decode cL_law 549 = .ok (.aload_n 2, 1) := by decide +kernel
theorem dL_law_550 : decode cL_law 550 = .ok (.aload_n 0, 1) := by decide +kernel
theorem dL_law_551 : decode cL_law 551 = .ok (.iload_n 3, 1) := by decide +kernel
theorem dL_law_552 : decode cL_law 552 = .ok (.iconst 1, 1) := by decide +kernel
theorem dL_law_553 : decode cL_law 553 = .ok (.iadd, 1) := by decide +kernel
theorem dL_law_554 : decode cL_law 554 = .ok (.iaload, 1) := by decide +kernel
theorem dL_law_555 : decode cL_law 555 = .ok (.aload_n 0, 1) := by decide +kernel
theorem dL_law_556 : decode cL_law 556 = .ok (.iload_n 3, 1) := by decide +kernel
theorem dL_law_557 : decode cL_law 557 = .ok (.iconst 2, 1) := by decide +kernel
theorem dL_law_558 : decode cL_law 558 = .ok (.iadd, 1) := by decide +kernel
theorem dL_law_559 : decode cL_law 559 = .ok (.iaload, 1) := by decide +kernel
theorem dL_law_560 : decode cL_law 560 = .ok (.invokevirtual 65, 3) := by decide +kernel
theorem dL_law_563 : decode cL_law 563 = .ok (.if_icmp .eq 193, 3) := by decide +kernel
theorem dL_law_566 : decode cL_law 566 = .ok (.iconst 0, 1) := by decide +kernel
theorem dL_law_567 : decode cL_law 567 = .ok (.ireturn, 1) := by decide +kernel
theorem dL_law_568 : decode cL_law 568 = .ok (.aload_n 1, 1) := by decide +kernel
theorem dL_law_569 : decode cL_law 569 = .ok (.aload_n 0, 1) := by decide +kernel
theorem dL_law_570 : decode cL_law 570 = .ok (.iload_n 3, 1) := by decide +kernel
theorem dL_law_571 : decode cL_law 571 = .ok (.iconst 1, 1) := by decide +kernel
theorem dL_law_572 : decode cL_law 572 = .ok (.iadd, 1) := by decide +kernel
theorem dL_law_573 : decode cL_law 573 = .ok (.iaload, 1) := by decide +kernel
theorem dL_law_574 : decode cL_law 574 = .ok (.aload_n 0, 1) := by decide +kernel
theorem dL_law_575 : decode cL_law 575 = .ok (.iload_n 3, 1) := by decide +kernel
theorem dL_law_576 : decode cL_law 576 = .ok (.iconst 2, 1) := by decide +kernel
theorem dL_law_577 : decode cL_law 577 = .ok (.iadd, 1) := by decide +kernel
theorem dL_law_578 : decode cL_law 578 = .ok (.iaload, 1) := by decide +kernel
theorem dL_law_579 : decode cL_law 579 = .ok (.aload_n 0, 1) := by decide +kernel
theorem dL_law_580 : decode cL_law 580 = .ok (.iload_n 3, 1) := by decide +kernel
theorem dL_law_581 : decode cL_law 581 = .ok (.iconst 3, 1) := by decide +kernel
theorem dL_law_582 : decode cL_law 582 = .ok (.iadd, 1) := by decide +kernel
theorem dL_law_583 : decode cL_law 583 = .ok (.iaload, 1) := by decide +kernel
theorem dL_law_584 : decode cL_law 584 = .ok (.aload_n 0, 1) := by decide +kernel
theorem dL_law_585 : decode cL_law 585 = .ok (.iload_n 3, 1) := by decide +kernel
theorem dL_law_586 : decode cL_law 586 = .ok (.iconst 4, 1) := by decide +kernel
theorem dL_law_587 : decode cL_law 587 = .ok (.iadd, 1) := by decide +kernel
theorem dL_law_588 : decode cL_law 588 = .ok (.iaload, 1) := by decide +kernel
theorem dL_law_589 : decode cL_law 589 = .ok (.invokevirtual 66, 3) := by decide +kernel
theorem dL_law_592 : decode cL_law 592 = .ok (.aload_n 2, 1) := by decide +kernel
theorem dL_law_593 : decode cL_law 593 = .ok (.aload_n 0, 1) := by decide +kernel
theorem dL_law_594 : decode cL_law 594 = .ok (.iload_n 3, 1) := by decide +kernel
theorem dL_law_595 : decode cL_law 595 = .ok (.iconst 1, 1) := by decide +kernel
theorem dL_law_596 : decode cL_law 596 = .ok (.iadd, 1) := by decide +kernel
theorem dL_law_597 : decode cL_law 597 = .ok (.iaload, 1) := by decide +kernel
theorem dL_law_598 : decode cL_law 598 = .ok (.aload_n 0, 1) := by decide +kernel
theorem dL_law_599 : decode cL_law 599 = .ok (.iload_n 3, 1) := by decide +kernel
theorem dL_law_600 : decode cL_law 600 = .ok (.iconst 2, 1) := by decide +kernel
theorem dL_law_601 : decode cL_law 601 = .ok (.iadd, 1) := by decide +kernel
theorem dL_law_602 : decode cL_law 602 = .ok (.iaload, 1) := by decide +kernel
theorem dL_law_603 : decode cL_law 603 = .ok (.aload_n 0, 1) := by decide +kernel
theorem dL_law_604 : decode cL_law 604 = .ok (.iload_n 3, 1) := by decide +kernel
theorem dL_law_605 : decode cL_law 605 = .ok (.iconst 3, 1) := by decide +kernel
theorem dL_law_606 : decode cL_law 606 = .ok (.iadd, 1) := by decide +kernel
theorem dL_law_607 : decode cL_law 607 = .ok (.iaload, 1) := by decide +kernel
theorem dL_law_608 : decode cL_law 608 = .ok (.aload_n 0, 1) := by decide +kernel
theorem dL_law_609 : decode cL_law 609 = .ok (.iload_n 3, 1) := by decide +kernel
theorem dL_law_610 : decode cL_law 610 = .ok (.iconst 4, 1) := by decide +kernel
theorem dL_law_611 : decode cL_law 611 = .ok (.iadd, 1) := by decide +kernel
theorem dL_law_612 : decode cL_law 612 = .ok (.iaload, 1) := by decide +kernel
theorem dL_law_613 : decode cL_law 613 = .ok (.invokevirtual 70, 3) := by decide +kernel
theorem dL_law_616 : decode cL_law 616 = .ok (.if_icmp .eq 140, 3) := by decide +kernel
theorem dL_law_619 : decode cL_law 619 = .ok (.iconst 0, 1) := by decide +kernel
theorem dL_law_620 : decode cL_law 620 = .ok (.ireturn, 1) := by decide +kernel
theorem dL_law_621 : decode cL_law 621 = .ok (.aload_n 1, 1) := by decide +kernel
theorem dL_law_622 : decode cL_law 622 = .ok (.aload_n 0, 1) := by decide +kernel
theorem dL_law_623 : decode cL_law 623 = .ok (.iload_n 3, 1) := by decide +kernel
theorem dL_law_624 : decode cL_law 624 = .ok (.iconst 1, 1) := by decide +kernel
theorem dL_law_625 : decode cL_law 625 = .ok (.iadd, 1) := by decide +kernel
theorem dL_law_626 : decode cL_law 626 = .ok (.iaload, 1) := by decide +kernel
theorem dL_law_627 : decode cL_law 627 = .ok (.aload_n 0, 1) := by decide +kernel
theorem dL_law_628 : decode cL_law 628 = .ok (.iload_n 3, 1) := by decide +kernel
theorem dL_law_629 : decode cL_law 629 = .ok (.iconst 2, 1) := by decide +kernel
theorem dL_law_630 : decode cL_law 630 = .ok (.iadd, 1) := by decide +kernel
theorem dL_law_631 : decode cL_law 631 = .ok (.iaload, 1) := by decide +kernel
theorem dL_law_632 : decode cL_law 632 = .ok (.invokevirtual 71, 3) := by decide +kernel
theorem dL_law_635 : decode cL_law 635 = .ok (.aload_n 2, 1) := by decide +kernel
theorem dL_law_636 : decode cL_law 636 = .ok (.aload_n 0, 1) := by decide +kernel
theorem dL_law_637 : decode cL_law 637 = .ok (.iload_n 3, 1) := by decide +kernel
theorem dL_law_638 : decode cL_law 638 = .ok (.iconst 1, 1) := by decide +kernel
theorem dL_law_639 : decode cL_law 639 = .ok (.iadd, 1) := by decide +kernel
theorem dL_law_640 : decode cL_law 640 = .ok (.iaload, 1) := by decide +kernel
theorem dL_law_641 : decode cL_law 641 = .ok (.aload_n 0, 1) := by decide +kernel
theorem dL_law_642 : decode cL_law 642 = .ok (.iload_n 3, 1) := by decide +kernel
theorem dL_law_643 : decode cL_law 643 = .ok (.iconst 2, 1) := by decide +kernel
theorem dL_law_644 : decode cL_law 644 = .ok (.iadd, 1) := by decide +kernel
theorem dL_law_645 : decode cL_law 645 = .ok (.iaload, 1) := by decide +kernel
theorem dL_law_646 : decode cL_law 646 = .ok (.invokevirtual 74, 3) := by decide +kernel
theorem dL_law_649 : decode cL_law 649 = .ok (.if_icmp .eq 107, 3) := by decide +kernel
theorem dL_law_652 : decode cL_law 652 = .ok (.iconst 0, 1) := by decide +kernel
theorem dL_law_653 : decode cL_law 653 = .ok (.ireturn, 1) := by decide +kernel
theorem dL_law_654 : decode cL_law 654 = .ok (.aload_n 1, 1) := by decide +kernel
theorem dL_law_655 : decode cL_law 655 = .ok (.aload_n 0, 1) := by decide +kernel
theorem dL_law_656 : decode cL_law 656 = .ok (.iload_n 3, 1) := by decide +kernel
theorem dL_law_657 : decode cL_law 657 = .ok (.iconst 1, 1) := by decide +kernel
theorem dL_law_658 : decode cL_law 658 = .ok (.iadd, 1) := by decide +kernel
theorem dL_law_659 : decode cL_law 659 = .ok (.iaload, 1) := by decide +kernel
theorem dL_law_660 : decode cL_law 660 = .ok (.aload_n 0, 1) := by decide +kernel
theorem dL_law_661 : decode cL_law 661 = .ok (.iload_n 3, 1) := by decide +kernel
theorem dL_law_662 : decode cL_law 662 = .ok (.iconst 2, 1) := by decide +kernel
theorem dL_law_663 : decode cL_law 663 = .ok (.iadd, 1) := by decide +kernel
theorem dL_law_664 : decode cL_law 664 = .ok (.iaload, 1) := by decide +kernel
theorem dL_law_665 : decode cL_law 665 = .ok (.invokevirtual 75, 3) := by decide +kernel
theorem dL_law_668 : decode cL_law 668 = .ok (.aload_n 2, 1) := by decide +kernel
theorem dL_law_669 : decode cL_law 669 = .ok (.aload_n 0, 1) := by decide +kernel
theorem dL_law_670 : decode cL_law 670 = .ok (.iload_n 3, 1) := by decide +kernel
theorem dL_law_671 : decode cL_law 671 = .ok (.iconst 1, 1) := by decide +kernel
theorem dL_law_672 : decode cL_law 672 = .ok (.iadd, 1) := by decide +kernel
theorem dL_law_673 : decode cL_law 673 = .ok (.iaload, 1) := by decide +kernel
theorem dL_law_674 : decode cL_law 674 = .ok (.aload_n 0, 1) := by decide +kernel
theorem dL_law_675 : decode cL_law 675 = .ok (.iload_n 3, 1) := by decide +kernel
theorem dL_law_676 : decode cL_law 676 = .ok (.iconst 2, 1) := by decide +kernel
theorem dL_law_677 : decode cL_law 677 = .ok (.iadd, 1) := by decide +kernel
theorem dL_law_678 : decode cL_law 678 = .ok (.iaload, 1) := by decide +kernel
theorem dL_law_679 : decode cL_law 679 = .ok (.invokevirtual 78, 3) := by decide +kernel
theorem dL_law_682 : decode cL_law 682 = .ok (.if_icmp .eq 74, 3) := by decide +kernel
theorem dL_law_685 : decode cL_law 685 = .ok (.iconst 0, 1) := by decide +kernel
theorem dL_law_686 : decode cL_law 686 = .ok (.ireturn, 1) := by decide +kernel
theorem dL_law_687 : decode cL_law 687 = .ok (.aload_n 1, 1) := by decide +kernel
theorem dL_law_688 : decode cL_law 688 = .ok (.aload_n 0, 1) := by decide +kernel
theorem dL_law_689 : decode cL_law 689 = .ok (.iload_n 3, 1) := by decide +kernel
theorem dL_law_690 : decode cL_law 690 = .ok (.iconst 1, 1) := by decide +kernel
theorem dL_law_691 : decode cL_law 691 = .ok (.iadd, 1) := by decide +kernel
theorem dL_law_692 : decode cL_law 692 = .ok (.iaload, 1) := by decide +kernel
theorem dL_law_693 : decode cL_law 693 = .ok (.invokevirtual 79, 3) := by decide +kernel
theorem dL_law_696 : decode cL_law 696 = .ok (.aload_n 2, 1) := by decide +kernel
theorem dL_law_697 : decode cL_law 697 = .ok (.aload_n 0, 1) := by decide +kernel
theorem dL_law_698 : decode cL_law 698 = .ok (.iload_n 3, 1) := by decide +kernel
theorem dL_law_699 : decode cL_law 699 = .ok (.iconst 1, 1) := by decide +kernel
theorem dL_law_700 : decode cL_law 700 = .ok (.iadd, 1) := by decide +kernel
theorem dL_law_701 : decode cL_law 701 = .ok (.iaload, 1) := by decide +kernel
theorem dL_law_702 : decode cL_law 702 = .ok (.invokevirtual 82, 3) := by decide +kernel
theorem dL_law_705 : decode cL_law 705 = .ok (.if_icmp .eq 51, 3) := by decide +kernel
theorem dL_law_708 : decode cL_law 708 = .ok (.iconst 0, 1) := by decide +kernel
theorem dL_law_709 : decode cL_law 709 = .ok (.ireturn, 1) := by decide +kernel
theorem dL_law_710 : decode cL_law 710 = .ok (.aload_n 1, 1) := by decide +kernel
theorem dL_law_711 : decode cL_law 711 = .ok (.aload_n 0, 1) := by decide +kernel
theorem dL_law_712 : decode cL_law 712 = .ok (.iload_n 3, 1) := by decide +kernel
theorem dL_law_713 : decode cL_law 713 = .ok (.iconst 1, 1) := by decide +kernel
theorem dL_law_714 : decode cL_law 714 = .ok (.iadd, 1) := by decide +kernel
theorem dL_law_715 : decode cL_law 715 = .ok (.iaload, 1) := by decide +kernel
theorem dL_law_716 : decode cL_law 716 = .ok (.aload_n 0, 1) := by decide +kernel
theorem dL_law_717 : decode cL_law 717 = .ok (.iload_n 3, 1) := by decide +kernel
theorem dL_law_718 : decode cL_law 718 = .ok (.iconst 2, 1) := by decide +kernel
theorem dL_law_719 : decode cL_law 719 = .ok (.iadd, 1) := by decide +kernel
theorem dL_law_720 : decode cL_law 720 = .ok (.iaload, 1) := by decide +kernel
theorem dL_law_721 : decode cL_law 721 = .ok (.invokevirtual 83, 3) := by decide +kernel
theorem dL_law_724 : decode cL_law 724 = .ok (.aload_n 2, 1) := by decide +kernel
theorem dL_law_725 : decode cL_law 725 = .ok (.aload_n 0, 1) := by decide +kernel
theorem dL_law_726 : decode cL_law 726 = .ok (.iload_n 3, 1) := by decide +kernel
theorem dL_law_727 : decode cL_law 727 = .ok (.iconst 1, 1) := by decide +kernel
theorem dL_law_728 : decode cL_law 728 = .ok (.iadd, 1) := by decide +kernel
theorem dL_law_729 : decode cL_law 729 = .ok (.iaload, 1) := by decide +kernel
theorem dL_law_730 : decode cL_law 730 = .ok (.aload_n 0, 1) := by decide +kernel
theorem dL_law_731 : decode cL_law 731 = .ok (.iload_n 3, 1) := by decide +kernel
theorem dL_law_732 : decode cL_law 732 = .ok (.iconst 2, 1) := by decide +kernel
theorem dL_law_733 : decode cL_law 733 = .ok (.iadd, 1) := by decide +kernel
theorem dL_law_734 : decode cL_law 734 = .ok (.iaload, 1) := by decide +kernel
theorem dL_law_735 : decode cL_law 735 = .ok (.invokevirtual 86, 3) := by decide +kernel
theorem dL_law_738 : decode cL_law 738 = .ok (.if_icmp .eq 18, 3) := by decide +kernel
theorem dL_law_741 : decode cL_law 741 = .ok (.iconst 0, 1) := by decide +kernel
theorem dL_law_742 : decode cL_law 742 = .ok (.ireturn, 1) := by decide +kernel
theorem dL_law_743 : decode cL_law 743 = .ok (.aload_n 1, 1) := by decide +kernel
theorem dL_law_744 : decode cL_law 744 = .ok (.invokevirtual 87, 3) := by decide +kernel
theorem dL_law_747 : decode cL_law 747 = .ok (.aload_n 2, 1) := by decide +kernel
theorem dL_law_748 : decode cL_law 748 = .ok (.invokevirtual 91, 3) := by decide +kernel
theorem dL_law_751 : decode cL_law 751 = .ok (.if_icmp .eq 5, 3) := by decide +kernel
theorem dL_law_754 : decode cL_law 754 = .ok (.iconst 0, 1) := by decide +kernel
theorem dL_law_755 : decode cL_law 755 = .ok (.ireturn, 1) := by decide +kernel
theorem dL_law_756 : decode cL_law 756 = .ok (.iinc 3 5, 3) := by decide +kernel
theorem dL_law_759 : decode cL_law 759 = .ok (.goto (-741), 3) := by decide +kernel
theorem dL_law_762 : decode cL_law 762 = .ok (.iconst 1, 1) := by decide +kernel
theorem dL_law_763 : decode cL_law 763 = .ok (.ireturn, 1) := by decide +kernel
end
section
/-! the memory: what each cell of ours holds, by its number and its slot -/
abbrev sd_Mem : Type := Nat → Nat → Int32
def sd_st (σ : sd_Mem) (i k : Nat) (v : Int32) : sd_Mem := fun a => if a = i then upd (σ i) k v else σ a
theorem sd_st_at (σ : sd_Mem) (i k : Nat) (v : Int32) : sd_st σ i k v i k = v := by simp [sd_st, upd]
theorem sd_st_ne {σ : sd_Mem} {i k a : Nat} {v : Int32} (h : a ≠ i) : sd_st σ i k v a = σ a := by simp [sd_st, h]
theorem sd_st_nk {σ : sd_Mem} {i k a b : Nat} {v : Int32} (h : b ≠ k) : sd_st σ i k v a b = σ a b := by
  by_cases ha : a = i
  · subst ha; simp [sd_st, upd, h]
  · simp [sd_st, ha]
theorem sd_st_eq (σ : sd_Mem) (i k : Nat) (v : Int32) (a b : Nat) : sd_st σ i k v a b = if a = i ∧ b = k then v else σ a b := by
  by_cases ha : a = i
  · subst ha
    by_cases hb : b = k
    · subst hb; simp [sd_st, upd]
    · simp [sd_st, upd, hb]
  · simp [sd_st, ha]
def sd_cell (ad : Nat → Nat) (ca : Nat → ClassId) (i : Nat) (f : Nat → Int32) : va_E :=
  if i < 16 then
    match i with
    | 0 => .inr (4, [.ref (ad 1), .ref (ad 7), .ref (ad 8), .ref (ad 9), .ref (ad 10), .ref (ad 11), .ref (ad 12), .int (f 7), .ref (ad 13)])
    | 1 => .inr (0, [.ref (ad 2), .ref (ad 3), .ref (ad 4), .ref (ad 5), .ref (ad 6), .int (f 5)])
    | 5 => .inl (ca 1, 120, .inl f)
    | 7 => .inl (ca 0, 24, .inl f)
    | 8 => .inl (ca 0, 6, .inl f)
    | 9 => .inl (ca 3, 24, .inr (.inr (.inr (.inr (fun p => some (ad (16 + p)))))))
    | 12 => .inl (ca 2, 6, .inr (.inr (.inr (.inr (fun p => some (ad (64 + p)))))))
    | 13 => .inr (3, [.ref (ad 14), .ref (ad 15), .int (f 2), .int (f 3)])
    | _ => .inl (ca 0, 120, .inl f)
  else if i < 40 then .inr (2, [.ref (ad 1), .ref (ad (i + 24)), .int (f 2), .int (f 3), .int (f 4), .int (f 5)])
  else if i < 64 then .inl (ca 0, 120, .inl f)
  else if i < 70 then .inr (1, [.ref (ad (i + 6)), .int (f 1), .int (f 2), .int (f 3), .int (f 4)])
  else if i < 76 then .inl (ca 0, 4, .inl f)
  else match i with
    | 76 => .inr (5, [.int (f 0), .ref (ad 77), .ref (ad 78), .ref (ad 79), .ref (ad 80), .ref (ad 81), .ref (ad 82), .int (f 7), .ref (ad 83), .ref (ad 84), .ref (ad 85), .ref (ad 86), .ref (ad 87), .ref (ad 88), .ref (ad 89), .int (f 15), .int (f 16), .int (f 17), .ref (ad 90), .int (f 19), .ref (ad 91), .ref (ad 92), .int (f 22)])
    | 80 => .inl (ca 1, 120, .inl f)
    | 81 => .inl (ca 0, 24, .inl f)
    | 82 => .inl (ca 0, 6, .inl f)
    | 83 => .inl (ca 1, 6, .inl f)
    | 84 => .inl (ca 0, 6, .inl f)
    | 85 => .inl (ca 0, 6, .inl f)
    | 86 => .inl (ca 0, 6, .inl f)
    | 87 => .inl (ca 0, 24, .inl f)
    | 90 => .inl (ca 0, 8, .inl f)
    | _ => .inl (ca 0, 120, .inl f)
theorem sd_cell_row {ad : Nat → Nat} {ca : Nat → ClassId} {f : Nat → Int32} (q : Nat) (h : q < 24) : sd_cell ad ca (16 + q) f = .inr (2, [.ref (ad 1), .ref (ad (40 + q)), .int (f 2), .int (f 3), .int (f 4), .int (f 5)]) := by
  unfold sd_cell
  rw [if_neg (by omega), if_pos (by omega)]
  rw [show 16 + q + 24 = 40 + q by omega]
theorem sd_cell_rowA {ad : Nat → Nat} {ca : Nat → ClassId} {f : Nat → Int32} (q : Nat) (h : q < 24) : sd_cell ad ca (40 + q) f = .inl (ca 0, 120, .inl f) := by
  unfold sd_cell
  rw [if_neg (by omega), if_neg (by omega), if_pos (by omega)]
theorem sd_cell_fun {ad : Nat → Nat} {ca : Nat → ClassId} {f : Nat → Int32} (q : Nat) (h : q < 6) : sd_cell ad ca (64 + q) f = .inr (1, [.ref (ad (70 + q)), .int (f 1), .int (f 2), .int (f 3), .int (f 4)]) := by
  unfold sd_cell
  rw [if_neg (by omega), if_neg (by omega), if_neg (by omega), if_pos (by omega)]
  rw [show 64 + q + 6 = 70 + q by omega]
theorem sd_cell_funA {ad : Nat → Nat} {ca : Nat → ClassId} {f : Nat → Int32} (q : Nat) (h : q < 6) : sd_cell ad ca (70 + q) f = .inl (ca 0, 4, .inl f) := by
  unfold sd_cell
  rw [if_neg (by omega), if_neg (by omega), if_neg (by omega), if_neg (by omega), if_pos (by omega)]
def sd_w (ad : Nat → Nat) (ca : Nat → ClassId) (σ : sd_Mem) : va_W := (List.range 93).map (fun i => (ad i, sd_cell ad ca i (σ i)))
theorem sd_w_at {ad : Nat → Nat} {ca : Nat → ClassId} {σ : sd_Mem} {i : Nat} (hi : i < 93) : (sd_w ad ca σ)[i]? = some (ad i, sd_cell ad ca i (σ i)) := by simp [sd_w, hi]
theorem sd_w_set {ad : Nat → Nat} {ca : Nat → ClassId} {σ : sd_Mem} {i : Nat} (hi : i < 93) {k : Nat} {v : Int32} {e : va_E} (he : e = sd_cell ad ca i (upd (σ i) k v)) : (sd_w ad ca σ).set i (ad i, e) = sd_w ad ca (sd_st σ i k v) := by
  subst he
  apply List.ext_getElem?
  intro j
  by_cases hj : j = i
  · subst hj
    rw [List.getElem?_set_self (by simp [sd_w, hi]), sd_w_at hi]
    simp [sd_st]
  · rw [List.getElem?_set_ne (Ne.symm hj)]
    simp only [sd_w, List.getElem?_map]
    by_cases h : j < 93
    · simp [h, sd_st, hj]
    · simp [h]
def sd_A (ad : Nat → Nat) : Nat → Prop := fun q => ∃ i, i < 93 ∧ q = ad i
def sd_inj (ad : Nat → Nat) : Prop := ∀ i j, i < 93 → j < 93 → ad i = ad j → i = j
theorem sd_D {ad : Nat → Nat} {ca : Nat → ClassId} {σ : sd_Mem} (h : sd_inj ad) : va_D (sd_A ad) (sd_w ad ca σ) := by
  have key : ∀ (k : Nat) (q : Nat × va_E), (sd_w ad ca σ)[k]? = some q → k < 93 ∧ q.1 = ad k := by
    intro k q hk
    by_cases h9 : k < 93
    · rw [sd_w_at h9] at hk
      cases hk
      exact ⟨h9, rfl⟩
    · simp [sd_w, h9] at hk
  refine ⟨fun i j x y hi hj hxy => ?_, fun k q hk => ?_⟩
  · obtain ⟨a1, a2⟩ := key i x hi
    obtain ⟨b1, b2⟩ := key j y hj
    exact h i j a1 b1 (by rw [← a2, ← b2]; exact hxy)
  · obtain ⟨a1, a2⟩ := key k q hk
    exact ⟨k, a1, a2⟩
abbrev sd_ty (ca : Nat → ClassId) : List (ClassId × FieldType) := [(ca 0, .int), (ca 1, .boolean), (ca 2, .object RX1), (ca 3, .object RX2)]
def sd_t0 (j : Nat) : Int32 := ([0, 0, -1, 0, 1, 0] : List Int32).getD j 0
def sd_t1 (j : Nat) : Int32 := ([10000, 1, 7, 100, 10000, 7] : List Int32).getD j 0
def sd_t2 (j : Nat) : Int32 := ([1, 2, 8, 128] : List Int32).getD j 0
def sd_t3 (j : Nat) : Int32 := ([21845, 13107, 3855, 255] : List Int32).getD j 0
def sd_Tb (ad T : Nat → Nat) (U : State) (H : Heap) : Prop :=
  (va_Z "SittingDesk" "LEAST_RULE" "[I" (.ref (T 0)) (sd_A ad) U H ∧ va_T .int (T 0) 6 (fun j => .int (sd_t0 j)) (sd_A ad) U H) ∧
  (va_Z "SittingDesk" "GREATEST_RULE" "[I" (.ref (T 1)) (sd_A ad) U H ∧ va_T .int (T 1) 6 (fun j => .int (sd_t1 j)) (sd_A ad) U H) ∧
  (va_Z "SittingDesk$Funnel" "JUST_THOSE_AHEAD" "[I" (.ref (T 2)) (sd_A ad) U H ∧ va_T .int (T 2) 4 (fun j => .int (sd_t2 j)) (sd_A ad) U H) ∧
  (va_Z "SittingDesk$Funnel" "ALL_WITHOUT" "[I" (.ref (T 3)) (sd_A ad) U H ∧ va_T .int (T 3) 4 (fun j => .int (sd_t3 j)) (sd_A ad) U H)
theorem sd_Tb.go {ad T : Nat → Nat} {u U : State} {H H1 : Heap} (h : sd_Tb ad T u H) (hvm : u.vm.Alike U.vm) (hq : ∀ a : Nat, a < H.size → ¬ sd_A ad a → H1[a]? = H[a]?) : sd_Tb ad T U H1 := by
  obtain ⟨⟨a1, a2⟩, ⟨b1, b2⟩, ⟨c1, c2⟩, ⟨d1, d2⟩⟩ := h
  exact ⟨⟨(a1.kept hq).moved hvm, (a2.kept hq).moved hvm⟩, ⟨(b1.kept hq).moved hvm, (b2.kept hq).moved hvm⟩, ⟨(c1.kept hq).moved hvm, (c2.kept hq).moved hvm⟩, ⟨(d1.kept hq).moved hvm, (d2.kept hq).moved hvm⟩⟩
def sd_Wl (D : va_G) (ad : Nat → Nat) (ca : Nat → ClassId) (T : Nat → Nat) (σ : sd_Mem) (U : State) : Prop := va_P D vwCl (sd_w ad ca σ) U.heap ∧ va_K D vwCl (sd_ty ca) U ∧ sd_inj ad ∧ sd_Tb ad T U U.heap
def sd_rm (k : Nat) : Room := { frames := k, cells := 0, slots := 0, locals := 29 * k }
abbrev sd_X : Type := Program × Launch × Env × Room × State × MethodId × Array Value × List Frame × Method × Code × Nat × Nat × (State → Prop)
def sd_Wd (X : sd_X) (nL : Nat) (D : va_G) (ad : Nat → Nat) (ca : Nat → ClassId) (σ : sd_Mem) (lv : List (Nat × Value)) (pc : Nat) (stk : List Value) : Prop := match X with
  | (p, l, e, R, s, m, args, below, meth, c, kc, ks, Q) => ∀ (H : Heap) (locs : List Loc) (ls : Array Slot), lv_has ls nL lv → va_P D vwCl (sd_w ad ca σ) H → va_S (sd_A ad) s.heap H locs → W p l e R s m args below meth c H locs kc ks Q (F0 m pc ls stk)
def sd_Cx (X : sd_X) (l : Launch) (cc : ByteArray) (own : String) (k nL : Nat) (D : va_G) (ad : Nat → Nat) (ca : Nat → ClassId) (T : Nat → Nat) : Prop := match X with
  | (p, l', _, R, s, m, args, _, _, c, kc, ks, _) => l' = l ∧ p.tables.exec = Jvm.exec ∧ c.code = cc ∧ s.vm.findClass own = some m.cls ∧ c.maxLocals = nL ∧ (∀ w ∈ sd_gt, w.before args s = true) ∧ (k ≤ R.frames ∧ 29 * k ≤ R.locals ∧ kc ≤ R.cells ∧ ks ≤ R.slots) ∧ va_K D vwCl (sd_ty ca) s ∧ sd_inj ad ∧ sd_Tb ad T s s.heap
def sd_Ci (l : Launch) (y : MethodName) (b : ByteArray) (n k : Nat) (D : va_G) (ad : Nat → Nat) (ca : Nat → ClassId) (T : Nat → Nat) (σ : sd_Mem) (as : List Value) (post : Int32 → sd_Mem → Prop) : Prop :=
  Met l y (.code y b n (some .int) :: sd_gt) (sd_rm k) (va_Pc as (sd_Wl D ad ca T σ)) (va_Qi post (sd_Wl D ad ca T) (sd_A ad)) 0 0 (sd_A ad)
def sd_Cz (l : Launch) (y : MethodName) (b : ByteArray) (n k : Nat) (D : va_G) (ad : Nat → Nat) (ca : Nat → ClassId) (T : Nat → Nat) (σ : sd_Mem) (as : List Value) (post : Int32 → sd_Mem → Prop) : Prop :=
  Met l y (.code y b n (some .boolean) :: sd_gt) (sd_rm k) (va_Pc as (sd_Wl D ad ca T σ)) (va_Qi post (sd_Wl D ad ca T) (sd_A ad)) 0 0 (sd_A ad)
def sd_Cv (l : Launch) (y : MethodName) (b : ByteArray) (n k : Nat) (D : va_G) (ad : Nat → Nat) (ca : Nat → ClassId) (T : Nat → Nat) (σ : sd_Mem) (as : List Value) (post : sd_Mem → Prop) : Prop :=
  Met l y (.code y b n none :: sd_gt) (sd_rm k) (va_Pc as (sd_Wl D ad ca T σ)) (va_Qv post (sd_Wl D ad ca T) (sd_A ad)) 0 0 (sd_A ad)
section SDE
variable {l : Launch} {y : MethodName} {b : ByteArray} {n k : Nat} {D : va_G} {ad : Nat → Nat} {ca : Nat → ClassId} {T : Nat → Nat} {σ : sd_Mem} {as : List Value} {own : String}
theorem sd_ent_i {post : Int32 → sd_Mem → Prop} (hy : plainName y.cls = true) (ho : y.cls = own) (hn : (lg_sl as).length ≤ n) (body : ∀ X, sd_Cx X l b own k n D ad ca T → (∀ (σ' : sd_Mem) (lv : List (Nat × Value)) (pc : Nat) (v : Int32), decode b pc = .ok (.ireturn, 1) → post v σ' → sd_Wd X n D ad ca σ' lv pc [.int v]) → sd_Wd X n D ad ca σ (lv_args 0 as) 0 []) : sd_Ci l y b n k D ad ca T σ as post := by
  refine Met.ofW (cc := b) (maxL := n) (ret := some .int) hy rfl ?_
  intro p e s m args below meth c s₁ B hml hv
  obtain ⟨rfl, hP, hK, hI, hT⟩ := hv
  have hx := B.exec
  have hb := B.bytes
  have hr := B.returns
  have hts := atoms_spec (ws := _ :: sd_gt) B.pre
  have hown : s.vm.findClass own = some m.cls := ho ▸ findClass_of_methodNamed B.named
  have hlocks := B.notSynchronized
  have hl := lv_entry as (n := n) hn
  rw [lg_entry_eq]
  exact body (p, l, e, _, s, m, as.toArray, below, meth, c, 0, 0, _) ⟨rfl, hx, hb, hown, hml, fun w hw => hts w (List.mem_cons_of_mem _ hw), ⟨Nat.le_refl _, Nat.le_refl _, Nat.zero_le _, Nat.zero_le _⟩, hK, hI, hT⟩ (fun σ' lv pc v hd hpost H locs ls _ hP' hS => W.iret hx hb hr (fun t ht hW => ⟨⟨v, σ', rfl, hpost, by rw [ht]; exact hP', va_K.moved hW.alike hK, hI, hT.go hW.alike (by rw [ht]; exact hS.2.1)⟩, hS.F ht⟩) hS.2.2 hd) s.heap [] _ hl hP va_S.rf
theorem sd_ent_z {post : Int32 → sd_Mem → Prop} (hy : plainName y.cls = true) (ho : y.cls = own) (hn : (lg_sl as).length ≤ n) (body : ∀ X, sd_Cx X l b own k n D ad ca T → (∀ (σ' : sd_Mem) (lv : List (Nat × Value)) (pc : Nat) (v : Int32), decode b pc = .ok (.ireturn, 1) → (v.toInt = 0 ∨ v.toInt = 1) → post v σ' → sd_Wd X n D ad ca σ' lv pc [.int v]) → sd_Wd X n D ad ca σ (lv_args 0 as) 0 []) : sd_Cz l y b n k D ad ca T σ as post := by
  refine Met.ofW (cc := b) (maxL := n) (ret := some .boolean) hy rfl ?_
  intro p e s m args below meth c s₁ B hml hv
  obtain ⟨rfl, hP, hK, hI, hT⟩ := hv
  have hx := B.exec
  have hb := B.bytes
  have hr := B.returns
  have hts := atoms_spec (ws := _ :: sd_gt) B.pre
  have hown : s.vm.findClass own = some m.cls := ho ▸ findClass_of_methodNamed B.named
  have hlocks := B.notSynchronized
  have hl := lv_entry as (n := n) hn
  rw [lg_entry_eq]
  have hnar : ∀ v : Int32, (v.toInt = 0 ∨ v.toInt = 1) → narrow .boolean (.int v) = .int v := by
    intro v hv
    have h2 : v = 0 ∨ v = 1 := by
      rcases hv with h | h
      · exact Or.inl (Int32.toInt_inj.mp (by rw [h]; rfl))
      · exact Or.inr (Int32.toInt_inj.mp (by rw [h]; rfl))
    rcases h2 with rfl | rfl <;> rfl
  exact body (p, l, e, _, s, m, as.toArray, below, meth, c, 0, 0, _) ⟨rfl, hx, hb, hown, hml, fun w hw => hts w (List.mem_cons_of_mem _ hw), ⟨Nat.le_refl _, Nat.le_refl _, Nat.zero_le _, Nat.zero_le _⟩, hK, hI, hT⟩ (fun σ' lv pc v hd hv hpost H locs ls _ hP' hS => W.zret hx hb hr (hnar v hv) (fun t ht hW => ⟨⟨v, σ', rfl, hpost, by rw [ht]; exact hP', va_K.moved hW.alike hK, hI, hT.go hW.alike (by rw [ht]; exact hS.2.1)⟩, hS.F ht⟩) hS.2.2 hd) s.heap [] _ hl hP va_S.rf
theorem sd_ent_v {post : sd_Mem → Prop} (hy : plainName y.cls = true) (ho : y.cls = own) (hn : (lg_sl as).length ≤ n) (body : ∀ X, sd_Cx X l b own k n D ad ca T → (∀ (σ' : sd_Mem) (lv : List (Nat × Value)) (pc : Nat), decode b pc = .ok (.return_, 1) → post σ' → sd_Wd X n D ad ca σ' lv pc []) → sd_Wd X n D ad ca σ (lv_args 0 as) 0 []) : sd_Cv l y b n k D ad ca T σ as post := by
  refine Met.ofW (cc := b) (maxL := n) (ret := none) hy rfl ?_
  intro p e s m args below meth c s₁ B hml hv
  obtain ⟨rfl, hP, hK, hI, hT⟩ := hv
  have hx := B.exec
  have hb := B.bytes
  have hr := B.returns
  have hts := atoms_spec (ws := _ :: sd_gt) B.pre
  have hown : s.vm.findClass own = some m.cls := ho ▸ findClass_of_methodNamed B.named
  have hlocks := B.notSynchronized
  have hl := lv_entry as (n := n) hn
  rw [lg_entry_eq]
  exact body (p, l, e, _, s, m, as.toArray, below, meth, c, 0, 0, _) ⟨rfl, hx, hb, hown, hml, fun w hw => hts w (List.mem_cons_of_mem _ hw), ⟨Nat.le_refl _, Nat.le_refl _, Nat.zero_le _, Nat.zero_le _⟩, hK, hI, hT⟩ (fun σ' lv pc hd hpost H locs ls _ hP' hS => W.vret hx hb hr (fun t ht hW => ⟨⟨σ', rfl, hpost, by rw [ht]; exact hP', va_K.moved hW.alike hK, hI, hT.go hW.alike (by rw [ht]; exact hS.2.1)⟩, hS.F ht⟩) hS.2.2 hd) s.heap [] _ hl hP va_S.rf
end SDE
end
section
theorem sd_inX0 : ∀ w ∈ u_ws RX0 TX0 6, w ∈ sd_gt := by decide +kernel
theorem sd_inX1 : ∀ w ∈ u_ws RX1 TX1 5, w ∈ sd_gt := by decide +kernel
theorem sd_inX2 : ∀ w ∈ u_ws RX2 TX2 6, w ∈ sd_gt := by decide +kernel
theorem sd_inX3 : ∀ w ∈ u_ws RX3 TX3 4, w ∈ sd_gt := by decide +kernel
theorem sd_inX4 : ∀ w ∈ u_ws RX4 TX4 9, w ∈ sd_gt := by decide +kernel
theorem sd_inX5 : ∀ w ∈ u_ws RX5 TX5 23, w ∈ sd_gt := by decide +kernel
theorem sd_rng (x : Int32) : -2147483648 ≤ x.toInt ∧ x.toInt < 2147483648 := ⟨Int32.le_toInt x, Int32.toInt_lt x⟩
theorem sd_bmod {z : Int} (h1 : -2147483648 ≤ z) (h2 : z < 2147483648) : z.bmod (2 ^ 32) = z := by
  rw [Int.bmod_eq_of_le] <;> omega
theorem sd_addI {x y : Int32} (h1 : -2147483648 ≤ x.toInt + y.toInt) (h2 : x.toInt + y.toInt < 2147483648) : (x + y).toInt = x.toInt + y.toInt := by
  rw [Int32.toInt_add]; exact sd_bmod h1 h2
theorem sd_subI {x y : Int32} (h1 : -2147483648 ≤ x.toInt - y.toInt) (h2 : x.toInt - y.toInt < 2147483648) : (x - y).toInt = x.toInt - y.toInt := by
  rw [Int32.toInt_sub]; exact sd_bmod h1 h2
theorem sd_mulI {x y : Int32} (h1 : -2147483648 ≤ x.toInt * y.toInt) (h2 : x.toInt * y.toInt < 2147483648) : (x * y).toInt = x.toInt * y.toInt := by
  rw [Int32.toInt_mul]; exact sd_bmod h1 h2
theorem sd_divI {x y : Int32} {n : Int} (hn : 0 < n) (hy : y.toInt = n) (h0 : 0 ≤ x.toInt) : (x / y).toInt = x.toInt / n := by
  have hr := sd_rng x
  rw [Int32.toInt_div, hy, Int.tdiv_eq_ediv_of_nonneg h0]
  have h1 : 0 ≤ x.toInt / n := Int.ediv_nonneg h0 (by omega)
  have h2 : x.toInt / n ≤ x.toInt := Int.ediv_le_self _ h0
  exact sd_bmod (by omega) (by omega)
theorem sd_ilt {x y : Int32} (h : x < y) : x.toInt < y.toInt := Int32.lt_iff_toInt_lt.mp h
theorem sd_inlt {x y : Int32} (h : ¬ x < y) : y.toInt ≤ x.toInt := by
  have h3 : ¬ x.toInt < y.toInt := fun q => h (Int32.lt_iff_toInt_lt.mpr q)
  omega
theorem sd_ile {x y : Int32} (h : x ≤ y) : x.toInt ≤ y.toInt := Int32.le_iff_toInt_le.mp h
theorem sd_inle {x y : Int32} (h : ¬ x ≤ y) : y.toInt < x.toInt := by
  have h3 : ¬ x.toInt ≤ y.toInt := fun q => h (Int32.le_iff_toInt_le.mpr q)
  omega
theorem sd_i0 {x : Int32} (h : x = 0) : x.toInt = 0 := by rw [h]; rfl
theorem sd_i0n {x : Int32} (h : ¬ x = 0) : x.toInt ≠ 0 := fun q => h (Int32.toInt_inj.mp (by rw [q]; rfl))
theorem sd_b01 {v : Int32} (hv : v.toInt = 0 ∨ v.toInt = 1) : v = 0 ∨ v = 1 := by
  rcases hv with h | h
  · exact Or.inl (Int32.toInt_inj.mp (by rw [h]; rfl))
  · exact Or.inr (Int32.toInt_inj.mp (by rw [h]; rfl))
theorem sd_clamp {x : Int32} {j : Nat} (h : x.toInt = (j : Int)) : x.toNatClampNeg = j := by
  show x.toInt.toNat = j
  rw [h]; rfl
theorem sd_vpin {x : Int32} {j n : Nat} (h : x.toInt = (j : Int)) (hj : j < n) : vp_in x n := vp_in_iff.mpr ⟨by omega, by omega⟩
theorem sd_in {ci N : Nat} {Cn : String} {TT : u_T} (h : vwCl[ci]? = some (Cn, TT, N)) : ∀ w ∈ u_ws Cn TT N, w ∈ sd_gt := by
  match ci, h with
  | 0, h => cases h; exact sd_inX0
  | 1, h => cases h; exact sd_inX1
  | 2, h => cases h; exact sd_inX2
  | 3, h => cases h; exact sd_inX3
  | 4, h => cases h; exact sd_inX4
  | 5, h => cases h; exact sd_inX5
  | n + 6, h => simp [vwCl] at h
theorem sd_nmty {ci N : Nat} {Cn : String} {TT : u_T} (h : vwCl[ci]? = some (Cn, TT, N)) : ∃ ty0 : Nat → FieldType, (∀ k, k < N → parseFieldDescriptor (TT k).2.2.1 = some (ty0 k)) ∧ (∀ a, a < N → ∀ b, b < N → a ≠ b → (TT a).2.1 ≠ (TT b).2.1) := by
  match ci, h with
  | 0, h => cases h; exact ⟨tyX0, tyX0_ok, nmX0⟩
  | 1, h => cases h; exact ⟨tyX1, tyX1_ok, nmX1⟩
  | 2, h => cases h; exact ⟨tyX2, tyX2_ok, nmX2⟩
  | 3, h => cases h; exact ⟨tyX3, tyX3_ok, nmX3⟩
  | 4, h => cases h; exact ⟨tyX4, tyX4_ok, nmX4⟩
  | 5, h => cases h; exact ⟨tyX5, tyX5_ok, nmX5⟩
  | n + 6, h => simp [vwCl] at h
theorem sd_gtgood {w : Cond} (h : w ∈ sd_gt) : goodWord w = true := (List.mem_filter.mp h).2
theorem sd_good {pre : List Cond} {c : Cond} (h : ∀ w ∈ pre, w ∈ sd_gt) (hc : c ∈ sd_gt) : GoodIn sd_gt (pre ++ (c :: sd_gt)) := by
  intro w hw
  have h1 : w ∈ sd_gt := by
    rcases List.mem_append.mp hw with a | a
    · exact h w a
    · rcases List.mem_cons.mp a with rfl | a
      · exact hc
      · exact a
  exact ⟨h1, good_of_word (sd_gtgood h1)⟩
theorem sd_roomok {kc k n : Nat} {R : Room} (hk : kc < k) (hn : n ≤ 10) (h1 : k ≤ R.frames) (h2 : 29 * k ≤ R.locals) : (sd_rm kc).frames + 1 ≤ R.frames ∧ 8 + (n + 11) + (sd_rm kc).locals ≤ R.locals := by
  constructor
  · show kc + 1 ≤ R.frames; omega
  · show 8 + (n + 11) + 29 * kc ≤ R.locals; omega
section SDR
variable {X : sd_X} {l : Launch} {cc : ByteArray} {own : String} {k nL : Nat} {D : va_G} {ad : Nat → Nat} {ca : Nat → ClassId} {T : Nat → Nat} {σ : sd_Mem} {lv : List (Nat × Value)} {pc : Nat} {stk : List Value}
theorem sd_iconst (C : sd_Cx X l cc own k nL D ad ca T) {n : Int} (d : decode cc pc = .ok (.iconst n, 1)) (h : (Int32.ofInt n).toInt = n) (kk : ∀ x : Int32, x.toInt = n → sd_Wd X nL D ad ca σ lv (pc + 1) (.int x :: stk)) : sd_Wd X nL D ad ca σ lv pc (stk) := by
  obtain ⟨p, l', e, R, s, m, args, below, meth, c, kc, ks, Q⟩ := X
  obtain ⟨rfl, hx, hb, hown, hml, hts, hR, hK, hI, hT⟩ := C
  intro H locs ls hl hP hS
  exact lv_iconst hx hb d rfl (kk _ h H locs ls hl hP hS)
theorem sd_bipush (C : sd_Cx X l cc own k nL D ad ca T) {n : Int} (d : decode cc pc = .ok (.bipush n, 2)) (h : (Int8.ofInt n).toInt32.toInt = n) (kk : ∀ x : Int32, x.toInt = n → sd_Wd X nL D ad ca σ lv (pc + 2) (.int x :: stk)) : sd_Wd X nL D ad ca σ lv pc (stk) := by
  obtain ⟨p, l', e, R, s, m, args, below, meth, c, kc, ks, Q⟩ := X
  obtain ⟨rfl, hx, hb, hown, hml, hts, hR, hK, hI, hT⟩ := C
  intro H locs ls hl hP hS
  exact lv_bipush hx hb d rfl (kk _ h H locs ls hl hP hS)
theorem sd_sipush (C : sd_Cx X l cc own k nL D ad ca T) {n : Int} (d : decode cc pc = .ok (.sipush n, 3)) (h : (Int16.ofInt n).toInt32.toInt = n) (kk : ∀ x : Int32, x.toInt = n → sd_Wd X nL D ad ca σ lv (pc + 3) (.int x :: stk)) : sd_Wd X nL D ad ca σ lv pc (stk) := by
  obtain ⟨p, l', e, R, s, m, args, below, meth, c, kc, ks, Q⟩ := X
  obtain ⟨rfl, hx, hb, hown, hml, hts, hR, hK, hI, hT⟩ := C
  intro H locs ls hl hP hS
  exact lv_sipush hx hb d rfl (kk _ h H locs ls hl hP hS)
theorem sd_ldc (C : sd_Cx X l cc own k nL D ad ca T) {n : Int} {idx : Nat} {v : Int32} (d : decode cc pc = .ok (.ldc idx, 2)) (w : Cond.constant own idx v ∈ sd_gt) (h : v.toInt = n) (kk : ∀ x : Int32, x.toInt = n → sd_Wd X nL D ad ca σ lv (pc + 2) (.int x :: stk)) : sd_Wd X nL D ad ca σ lv pc (stk) := by
  obtain ⟨p, l', e, R, s, m, args, below, meth, c, kc, ks, Q⟩ := X
  obtain ⟨rfl, hx, hb, hown, hml, hts, hR, hK, hI, hT⟩ := C
  intro H locs ls hl hP hS
  exact lv_ldc hx hb hown (hts _ w) d (kk _ h H locs ls hl hP hS)
theorem sd_ldc2 (C : sd_Cx X l cc own k nL D ad ca T) {n : Int} {idx : Nat} {v : Int64} (d : decode cc pc = .ok (.ldc2_w idx, 3)) (w : Cond.constantLong own idx v ∈ sd_gt) (h : v.toInt = n) (kk : ∀ x : Int64, x.toInt = n → sd_Wd X nL D ad ca σ lv (pc + 3) (.long x :: stk)) : sd_Wd X nL D ad ca σ lv pc (stk) := by
  obtain ⟨p, l', e, R, s, m, args, below, meth, c, kc, ks, Q⟩ := X
  obtain ⟨rfl, hx, hb, hown, hml, hts, hR, hK, hI, hT⟩ := C
  intro H locs ls hl hP hS
  exact lv_ldc2 hx hb hown (hts _ w) d (kk _ h H locs ls hl hP hS)
theorem sd_lconst (C : sd_Cx X l cc own k nL D ad ca T) {n : Fin 2} {z : Int} (d : decode cc pc = .ok (.lconst n, 1)) (h : (Int64.ofNat (n : Nat)).toInt = z) (kk : ∀ x : Int64, x.toInt = z → sd_Wd X nL D ad ca σ lv (pc + 1) (.long x :: stk)) : sd_Wd X nL D ad ca σ lv pc (stk) := by
  obtain ⟨p, l', e, R, s, m, args, below, meth, c, kc, ks, Q⟩ := X
  obtain ⟨rfl, hx, hb, hown, hml, hts, hR, hK, hI, hT⟩ := C
  intro H locs ls hl hP hS
  exact lv_lconst hx hb d rfl (kk _ h H locs ls hl hP hS)
theorem sd_i2l (C : sd_Cx X l cc own k nL D ad ca T) {x : Int32} (d : decode cc pc = .ok (.i2l, 1)) (kk : ∀ z : Int64, z.toInt = x.toInt → sd_Wd X nL D ad ca σ lv (pc + 1) (.long z :: stk)) : sd_Wd X nL D ad ca σ lv pc (.int x :: stk) := by
  obtain ⟨p, l', e, R, s, m, args, below, meth, c, kc, ks, Q⟩ := X
  obtain ⟨rfl, hx, hb, hown, hml, hts, hR, hK, hI, hT⟩ := C
  intro H locs ls hl hP hS
  exact lv_i2l hx hb d rfl (kk _ (by simp) H locs ls hl hP hS)
theorem sd_lcmp (C : sd_Cx X l cc own k nL D ad ca T) {x y : Int64} (d : decode cc pc = .ok (.lcmp, 1)) (kk : ∀ z : Int32, ((z.toInt = 1 ∧ y.toInt < x.toInt) ∨ (z.toInt = 0 ∧ x.toInt = y.toInt) ∨ (z.toInt = -1 ∧ x.toInt < y.toInt)) → sd_Wd X nL D ad ca σ lv (pc + 1) (.int z :: stk)) : sd_Wd X nL D ad ca σ lv pc (.long y :: .long x :: stk) := by
  obtain ⟨p, l', e, R, s, m, args, below, meth, c, kc, ks, Q⟩ := X
  obtain ⟨rfl, hx, hb, hown, hml, hts, hR, hK, hI, hT⟩ := C
  intro H locs ls hl hP hS
  refine W.lcmp hx hb d (kk _ ?_ H locs ls hl hP hS)
  unfold lg_cmp
  by_cases h1 : x > y
  · rw [if_pos h1]
    exact Or.inl ⟨rfl, Int64.lt_iff_toInt_lt.mp h1⟩
  · rw [if_neg h1]
    by_cases h2 : x = y
    · rw [if_pos h2]
      exact Or.inr (Or.inl ⟨rfl, by rw [h2]⟩)
    · rw [if_neg h2]
      refine Or.inr (Or.inr ⟨rfl, ?_⟩)
      have h3 : ¬ y.toInt < x.toInt := fun q => h1 (Int64.lt_iff_toInt_lt.mpr q)
      have h4 : ¬ x.toInt = y.toInt := fun q => h2 (Int64.toInt_inj.mp q)
      omega
theorem sd_iload_n (C : sd_Cx X l cc own k nL D ad ca T) {j : Fin 4} {i : Nat} {x : Int32} (d : decode cc pc = .ok (.iload_n j, 1)) (q : Nat) (hq : lv[q]? = some (i, .int x)) (hi : (j : Nat) = i) (kk : sd_Wd X nL D ad ca σ lv (pc + 1) (.int x :: stk)) : sd_Wd X nL D ad ca σ lv pc (stk) := by
  obtain ⟨p, l', e, R, s, m, args, below, meth, c, kc, ks, Q⟩ := X
  obtain ⟨rfl, hx, hb, hown, hml, hts, hR, hK, hI, hT⟩ := C
  intro H locs ls hl hP hS
  exact lv_iload_n hx hb d hi (lv_at hl q hq) (kk H locs ls hl hP hS)
theorem sd_iload (C : sd_Cx X l cc own k nL D ad ca T) {i : Nat} {x : Int32} (d : decode cc pc = .ok (.iload i, 2)) (q : Nat) (hq : lv[q]? = some (i, .int x)) (kk : sd_Wd X nL D ad ca σ lv (pc + 2) (.int x :: stk)) : sd_Wd X nL D ad ca σ lv pc (stk) := by
  obtain ⟨p, l', e, R, s, m, args, below, meth, c, kc, ks, Q⟩ := X
  obtain ⟨rfl, hx, hb, hown, hml, hts, hR, hK, hI, hT⟩ := C
  intro H locs ls hl hP hS
  exact lv_iload hx hb d (lv_at hl q hq) (kk H locs ls hl hP hS)
theorem sd_lload_n (C : sd_Cx X l cc own k nL D ad ca T) {j : Fin 4} {i : Nat} {x : Int64} (d : decode cc pc = .ok (.lload_n j, 1)) (q : Nat) (hq : lv[q]? = some (i, .long x)) (hi : (j : Nat) = i) (kk : sd_Wd X nL D ad ca σ lv (pc + 1) (.long x :: stk)) : sd_Wd X nL D ad ca σ lv pc (stk) := by
  obtain ⟨p, l', e, R, s, m, args, below, meth, c, kc, ks, Q⟩ := X
  obtain ⟨rfl, hx, hb, hown, hml, hts, hR, hK, hI, hT⟩ := C
  intro H locs ls hl hP hS
  exact lv_lload_n hx hb d hi (lv_at hl q hq) (kk H locs ls hl hP hS)
theorem sd_lload (C : sd_Cx X l cc own k nL D ad ca T) {i : Nat} {x : Int64} (d : decode cc pc = .ok (.lload i, 2)) (q : Nat) (hq : lv[q]? = some (i, .long x)) (kk : sd_Wd X nL D ad ca σ lv (pc + 2) (.long x :: stk)) : sd_Wd X nL D ad ca σ lv pc (stk) := by
  obtain ⟨p, l', e, R, s, m, args, below, meth, c, kc, ks, Q⟩ := X
  obtain ⟨rfl, hx, hb, hown, hml, hts, hR, hK, hI, hT⟩ := C
  intro H locs ls hl hP hS
  exact lv_lload hx hb d (lv_at hl q hq) (kk H locs ls hl hP hS)
theorem sd_aload_n (C : sd_Cx X l cc own k nL D ad ca T) {j : Fin 4} {i : Nat} {x : Nat} (d : decode cc pc = .ok (.aload_n j, 1)) (q : Nat) (hq : lv[q]? = some (i, .ref x)) (hi : (j : Nat) = i) (kk : sd_Wd X nL D ad ca σ lv (pc + 1) (.ref x :: stk)) : sd_Wd X nL D ad ca σ lv pc (stk) := by
  obtain ⟨p, l', e, R, s, m, args, below, meth, c, kc, ks, Q⟩ := X
  obtain ⟨rfl, hx, hb, hown, hml, hts, hR, hK, hI, hT⟩ := C
  intro H locs ls hl hP hS
  exact lv_aload_n hx hb d hi (lv_at hl q hq) (kk H locs ls hl hP hS)
theorem sd_aload (C : sd_Cx X l cc own k nL D ad ca T) {i : Nat} {x : Nat} (d : decode cc pc = .ok (.aload i, 2)) (q : Nat) (hq : lv[q]? = some (i, .ref x)) (kk : sd_Wd X nL D ad ca σ lv (pc + 2) (.ref x :: stk)) : sd_Wd X nL D ad ca σ lv pc (stk) := by
  obtain ⟨p, l', e, R, s, m, args, below, meth, c, kc, ks, Q⟩ := X
  obtain ⟨rfl, hx, hb, hown, hml, hts, hR, hK, hI, hT⟩ := C
  intro H locs ls hl hP hS
  exact lv_aload hx hb d (lv_at hl q hq) (kk H locs ls hl hP hS)
theorem sd_istore_n (C : sd_Cx X l cc own k nL D ad ca T) {j : Fin 4} {i : Nat} {x : Int32} {lv' : List (Nat × Value)} (d : decode cc pc = .ok (.istore_n j, 1)) (hi : (j : Nat) = i) (hn : i < nL) (h : (i, Value.int x) :: lv.filter (fun q => !(q.1 == i) && !(q.1 + 1 == i && q.2.category == 2)) = lv') (kk : sd_Wd X nL D ad ca σ lv' (pc + 1) (stk)) : sd_Wd X nL D ad ca σ lv pc (.int x :: stk) := by
  obtain ⟨p, l', e, R, s, m, args, below, meth, c, kc, ks, Q⟩ := X
  obtain ⟨rfl, hx, hb, hown, hml, hts, hR, hK, hI, hT⟩ := C
  intro H locs ls hl hP hS
  exact lv_istore_n hx hb d hi hl hn h (fun ls hl => kk H locs ls hl hP hS)
theorem sd_istore (C : sd_Cx X l cc own k nL D ad ca T) {i : Nat} {x : Int32} {lv' : List (Nat × Value)} (d : decode cc pc = .ok (.istore i, 2)) (hn : i < nL) (h : (i, Value.int x) :: lv.filter (fun q => !(q.1 == i) && !(q.1 + 1 == i && q.2.category == 2)) = lv') (kk : sd_Wd X nL D ad ca σ lv' (pc + 2) (stk)) : sd_Wd X nL D ad ca σ lv pc (.int x :: stk) := by
  obtain ⟨p, l', e, R, s, m, args, below, meth, c, kc, ks, Q⟩ := X
  obtain ⟨rfl, hx, hb, hown, hml, hts, hR, hK, hI, hT⟩ := C
  intro H locs ls hl hP hS
  exact lv_istore hx hb d hl hn h (fun ls hl => kk H locs ls hl hP hS)
theorem sd_astore_n (C : sd_Cx X l cc own k nL D ad ca T) {j : Fin 4} {i : Nat} {x : Nat} {lv' : List (Nat × Value)} (d : decode cc pc = .ok (.astore_n j, 1)) (hi : (j : Nat) = i) (hn : i < nL) (h : (i, Value.ref x) :: lv.filter (fun q => !(q.1 == i) && !(q.1 + 1 == i && q.2.category == 2)) = lv') (kk : sd_Wd X nL D ad ca σ lv' (pc + 1) (stk)) : sd_Wd X nL D ad ca σ lv pc (.ref x :: stk) := by
  obtain ⟨p, l', e, R, s, m, args, below, meth, c, kc, ks, Q⟩ := X
  obtain ⟨rfl, hx, hb, hown, hml, hts, hR, hK, hI, hT⟩ := C
  intro H locs ls hl hP hS
  exact lv_astore_n hx hb d hi hl hn h (fun ls hl => kk H locs ls hl hP hS)
theorem sd_astore (C : sd_Cx X l cc own k nL D ad ca T) {i : Nat} {x : Nat} {lv' : List (Nat × Value)} (d : decode cc pc = .ok (.astore i, 2)) (hn : i < nL) (h : (i, Value.ref x) :: lv.filter (fun q => !(q.1 == i) && !(q.1 + 1 == i && q.2.category == 2)) = lv') (kk : sd_Wd X nL D ad ca σ lv' (pc + 2) (stk)) : sd_Wd X nL D ad ca σ lv pc (.ref x :: stk) := by
  obtain ⟨p, l', e, R, s, m, args, below, meth, c, kc, ks, Q⟩ := X
  obtain ⟨rfl, hx, hb, hown, hml, hts, hR, hK, hI, hT⟩ := C
  intro H locs ls hl hP hS
  exact lv_astore hx hb d hl hn h (fun ls hl => kk H locs ls hl hP hS)
theorem sd_iinc (C : sd_Cx X l cc own k nL D ad ca T) {i : Nat} {n : Int} {x : Int32} (d : decode cc pc = .ok (.iinc i n, 3)) (q : Nat) (hq : lv[q]? = some (i, .int x)) (hn : i < nL) (hn2 : (Int32.ofInt n).toInt = n) (hr : -2147483648 ≤ x.toInt + n ∧ x.toInt + n < 2147483648) (lv' : Int32 → List (Nat × Value)) (h : ∀ z : Int32, (i, Value.int z) :: lv.filter (fun q => !(q.1 == i) && !(q.1 + 1 == i && q.2.category == 2)) = lv' z) (kk : ∀ z : Int32, z.toInt = x.toInt + n → sd_Wd X nL D ad ca σ (lv' z) (pc + 3) (stk)) : sd_Wd X nL D ad ca σ lv pc (stk) := by
  obtain ⟨p, l', e, R, s, m, args, below, meth, c, kc, ks, Q⟩ := X
  obtain ⟨rfl, hx, hb, hown, hml, hts, hR, hK, hI, hT⟩ := C
  intro H locs ls hl hP hS
  refine lv_iinc hx hb d hl hq rfl hn (h _) (fun ls hl => kk _ ?_ H locs ls hl hP hS)
  rw [sd_addI (by rw [hn2]; exact hr.1) (by rw [hn2]; exact hr.2), hn2]
theorem sd_iadd (C : sd_Cx X l cc own k nL D ad ca T) {x y : Int32} (d : decode cc pc = .ok (.iadd, 1)) (h : -2147483648 ≤ x.toInt + y.toInt ∧ x.toInt + y.toInt < 2147483648) (kk : ∀ z : Int32, z.toInt = x.toInt + y.toInt → sd_Wd X nL D ad ca σ lv (pc + 1) (.int z :: stk)) : sd_Wd X nL D ad ca σ lv pc (.int y :: .int x :: stk) := by
  obtain ⟨p, l', e, R, s, m, args, below, meth, c, kc, ks, Q⟩ := X
  obtain ⟨rfl, hx, hb, hown, hml, hts, hR, hK, hI, hT⟩ := C
  intro H locs ls hl hP hS
  exact lv_iadd hx hb d (kk _ (sd_addI h.1 h.2) H locs ls hl hP hS)
theorem sd_iaddW (C : sd_Cx X l cc own k nL D ad ca T) {x y : Int32} (d : decode cc pc = .ok (.iadd, 1)) (kk : sd_Wd X nL D ad ca σ lv (pc + 1) (.int (x + y) :: stk)) : sd_Wd X nL D ad ca σ lv pc (.int y :: .int x :: stk) := by
  obtain ⟨p, l', e, R, s, m, args, below, meth, c, kc, ks, Q⟩ := X
  obtain ⟨rfl, hx, hb, hown, hml, hts, hR, hK, hI, hT⟩ := C
  intro H locs ls hl hP hS
  exact lv_iadd hx hb d (kk H locs ls hl hP hS)
theorem sd_isub (C : sd_Cx X l cc own k nL D ad ca T) {x y : Int32} (d : decode cc pc = .ok (.isub, 1)) (h : -2147483648 ≤ x.toInt - y.toInt ∧ x.toInt - y.toInt < 2147483648) (kk : ∀ z : Int32, z.toInt = x.toInt - y.toInt → sd_Wd X nL D ad ca σ lv (pc + 1) (.int z :: stk)) : sd_Wd X nL D ad ca σ lv pc (.int y :: .int x :: stk) := by
  obtain ⟨p, l', e, R, s, m, args, below, meth, c, kc, ks, Q⟩ := X
  obtain ⟨rfl, hx, hb, hown, hml, hts, hR, hK, hI, hT⟩ := C
  intro H locs ls hl hP hS
  exact lv_isub hx hb d (kk _ (sd_subI h.1 h.2) H locs ls hl hP hS)
theorem sd_isubW (C : sd_Cx X l cc own k nL D ad ca T) {x y : Int32} (d : decode cc pc = .ok (.isub, 1)) (kk : sd_Wd X nL D ad ca σ lv (pc + 1) (.int (x - y) :: stk)) : sd_Wd X nL D ad ca σ lv pc (.int y :: .int x :: stk) := by
  obtain ⟨p, l', e, R, s, m, args, below, meth, c, kc, ks, Q⟩ := X
  obtain ⟨rfl, hx, hb, hown, hml, hts, hR, hK, hI, hT⟩ := C
  intro H locs ls hl hP hS
  exact lv_isub hx hb d (kk H locs ls hl hP hS)
theorem sd_imul (C : sd_Cx X l cc own k nL D ad ca T) {x y : Int32} (d : decode cc pc = .ok (.imul, 1)) (h : -2147483648 ≤ x.toInt * y.toInt ∧ x.toInt * y.toInt < 2147483648) (kk : ∀ z : Int32, z.toInt = x.toInt * y.toInt → sd_Wd X nL D ad ca σ lv (pc + 1) (.int z :: stk)) : sd_Wd X nL D ad ca σ lv pc (.int y :: .int x :: stk) := by
  obtain ⟨p, l', e, R, s, m, args, below, meth, c, kc, ks, Q⟩ := X
  obtain ⟨rfl, hx, hb, hown, hml, hts, hR, hK, hI, hT⟩ := C
  intro H locs ls hl hP hS
  exact lv_imul hx hb d (kk _ (sd_mulI h.1 h.2) H locs ls hl hP hS)
theorem sd_imulW (C : sd_Cx X l cc own k nL D ad ca T) {x y : Int32} (d : decode cc pc = .ok (.imul, 1)) (kk : sd_Wd X nL D ad ca σ lv (pc + 1) (.int (x * y) :: stk)) : sd_Wd X nL D ad ca σ lv pc (.int y :: .int x :: stk) := by
  obtain ⟨p, l', e, R, s, m, args, below, meth, c, kc, ks, Q⟩ := X
  obtain ⟨rfl, hx, hb, hown, hml, hts, hR, hK, hI, hT⟩ := C
  intro H locs ls hl hP hS
  exact lv_imul hx hb d (kk H locs ls hl hP hS)
theorem sd_iand (C : sd_Cx X l cc own k nL D ad ca T) {x y : Int32} (d : decode cc pc = .ok (.iand, 1)) (kk : sd_Wd X nL D ad ca σ lv (pc + 1) (.int (x &&& y) :: stk)) : sd_Wd X nL D ad ca σ lv pc (.int y :: .int x :: stk) := by
  obtain ⟨p, l', e, R, s, m, args, below, meth, c, kc, ks, Q⟩ := X
  obtain ⟨rfl, hx, hb, hown, hml, hts, hR, hK, hI, hT⟩ := C
  intro H locs ls hl hP hS
  exact lv_iand hx hb d (kk H locs ls hl hP hS)
theorem sd_ior (C : sd_Cx X l cc own k nL D ad ca T) {x y : Int32} (d : decode cc pc = .ok (.ior, 1)) (kk : sd_Wd X nL D ad ca σ lv (pc + 1) (.int (x ||| y) :: stk)) : sd_Wd X nL D ad ca σ lv pc (.int y :: .int x :: stk) := by
  obtain ⟨p, l', e, R, s, m, args, below, meth, c, kc, ks, Q⟩ := X
  obtain ⟨rfl, hx, hb, hown, hml, hts, hR, hK, hI, hT⟩ := C
  intro H locs ls hl hP hS
  exact lv_ior hx hb d (kk H locs ls hl hP hS)
theorem sd_ishl (C : sd_Cx X l cc own k nL D ad ca T) {x y : Int32} (d : decode cc pc = .ok (.ishl, 1)) (kk : sd_Wd X nL D ad ca σ lv (pc + 1) (.int (x <<< (y &&& 31)) :: stk)) : sd_Wd X nL D ad ca σ lv pc (.int y :: .int x :: stk) := by
  obtain ⟨p, l', e, R, s, m, args, below, meth, c, kc, ks, Q⟩ := X
  obtain ⟨rfl, hx, hb, hown, hml, hts, hR, hK, hI, hT⟩ := C
  intro H locs ls hl hP hS
  exact lv_ishl hx hb d (kk H locs ls hl hP hS)
theorem sd_ishr (C : sd_Cx X l cc own k nL D ad ca T) {x y : Int32} (d : decode cc pc = .ok (.ishr, 1)) (kk : sd_Wd X nL D ad ca σ lv (pc + 1) (.int (x >>> (y &&& 31)) :: stk)) : sd_Wd X nL D ad ca σ lv pc (.int y :: .int x :: stk) := by
  obtain ⟨p, l', e, R, s, m, args, below, meth, c, kc, ks, Q⟩ := X
  obtain ⟨rfl, hx, hb, hown, hml, hts, hR, hK, hI, hT⟩ := C
  intro H locs ls hl hP hS
  exact lv_ishr hx hb d (kk H locs ls hl hP hS)
theorem sd_idiv (C : sd_Cx X l cc own k nL D ad ca T) {x y : Int32} (n : Int) (hn : 0 < n) (d : decode cc pc = .ok (.idiv, 1)) (hy : y.toInt = n) (h0 : 0 ≤ x.toInt) (kk : ∀ z : Int32, z.toInt = x.toInt / n → sd_Wd X nL D ad ca σ lv (pc + 1) (.int z :: stk)) : sd_Wd X nL D ad ca σ lv pc (.int y :: .int x :: stk) := by
  obtain ⟨p, l', e, R, s, m, args, below, meth, c, kc, ks, Q⟩ := X
  obtain ⟨rfl, hx, hb, hown, hml, hts, hR, hK, hI, hT⟩ := C
  intro H locs ls hl hP hS
  refine lv_idiv hx hb d (fun q => ?_) (kk _ (sd_divI hn hy h0) H locs ls hl hP hS)
  rw [q] at hy
  simp at hy
  omega
theorem sd_dup (C : sd_Cx X l cc own k nL D ad ca T) {v : Value} (d : decode cc pc = .ok (.dup, 1)) (hv : v.category = 1) (kk : sd_Wd X nL D ad ca σ lv (pc + 1) (v :: v :: stk)) : sd_Wd X nL D ad ca σ lv pc (v :: stk) := by
  obtain ⟨p, l', e, R, s, m, args, below, meth, c, kc, ks, Q⟩ := X
  obtain ⟨rfl, hx, hb, hown, hml, hts, hR, hK, hI, hT⟩ := C
  intro H locs ls hl hP hS
  exact lv_dup hx hb d hv (kk H locs ls hl hP hS)
theorem sd_dup2 (C : sd_Cx X l cc own k nL D ad ca T) {v w : Value} (d : decode cc pc = .ok (.dup2, 1)) (hv : v.category = 1) (hw : w.category = 1) (kk : sd_Wd X nL D ad ca σ lv (pc + 1) (v :: w :: v :: w :: stk)) : sd_Wd X nL D ad ca σ lv pc (v :: w :: stk) := by
  obtain ⟨p, l', e, R, s, m, args, below, meth, c, kc, ks, Q⟩ := X
  obtain ⟨rfl, hx, hb, hown, hml, hts, hR, hK, hI, hT⟩ := C
  intro H locs ls hl hP hS
  exact lv_dup2_11 hx hb d hv hw (kk H locs ls hl hP hS)
theorem sd_pop (C : sd_Cx X l cc own k nL D ad ca T) {v : Value} (d : decode cc pc = .ok (.pop, 1)) (hv : v.category = 1) (kk : sd_Wd X nL D ad ca σ lv (pc + 1) (stk)) : sd_Wd X nL D ad ca σ lv pc (v :: stk) := by
  obtain ⟨p, l', e, R, s, m, args, below, meth, c, kc, ks, Q⟩ := X
  obtain ⟨rfl, hx, hb, hown, hml, hts, hR, hK, hI, hT⟩ := C
  intro H locs ls hl hP hS
  exact lv_pop hx hb d hv (kk H locs ls hl hP hS)
theorem sd_goto (C : sd_Cx X l cc own k nL D ad ca T) {off : Int} (t : Nat) (d : decode cc pc = .ok (.goto off, 3)) (ht : (pc : Int) + off = (t : Int)) (kk : sd_Wd X nL D ad ca σ lv t (stk)) : sd_Wd X nL D ad ca σ lv pc (stk) := by
  obtain ⟨p, l', e, R, s, m, args, below, meth, c, kc, ks, Q⟩ := X
  obtain ⟨rfl, hx, hb, hown, hml, hts, hR, hK, hI, hT⟩ := C
  intro H locs ls hl hP hS
  exact lv_goto hx hb d ht (kk H locs ls hl hP hS)
theorem sd_icmp_eq (C : sd_Cx X l cc own k nL D ad ca T) {x y : Int32} {off : Int} (t : Nat) (d : decode cc pc = .ok (.if_icmp .eq off, 3)) (ht : (pc : Int) + off = (t : Int)) (kt : x.toInt = y.toInt → sd_Wd X nL D ad ca σ lv t (stk)) (kf : x.toInt ≠ y.toInt → sd_Wd X nL D ad ca σ lv (pc + 3) (stk)) : sd_Wd X nL D ad ca σ lv pc (.int y :: .int x :: stk) := by
  obtain ⟨p, l', e, R, s, m, args, below, meth, c, kc, ks, Q⟩ := X
  obtain ⟨rfl, hx, hb, hown, hml, hts, hR, hK, hI, hT⟩ := C
  intro H locs ls hl hP hS
  exact lv_icmp_eq hx hb d ht (fun q => kt (by first | (rw [q]; done) | (exact fun z => q (Int32.toInt_inj.mp z)) | (have q1 := sd_ilt q; omega) | (have q1 := sd_inlt q; omega) | (have q1 := sd_ile q; omega) | (have q1 := sd_inle q; omega)) H locs ls hl hP hS) (fun q => kf (by first | (rw [q]; done) | (exact fun z => q (Int32.toInt_inj.mp z)) | (have q1 := sd_ilt q; omega) | (have q1 := sd_inlt q; omega) | (have q1 := sd_ile q; omega) | (have q1 := sd_inle q; omega)) H locs ls hl hP hS)
theorem sd_if_eq (C : sd_Cx X l cc own k nL D ad ca T) {x : Int32} {off : Int} (t : Nat) (d : decode cc pc = .ok (.ifCond .eq off, 3)) (ht : (pc : Int) + off = (t : Int)) (kt : x.toInt = 0 → sd_Wd X nL D ad ca σ lv t (stk)) (kf : x.toInt ≠ 0 → sd_Wd X nL D ad ca σ lv (pc + 3) (stk)) : sd_Wd X nL D ad ca σ lv pc (.int x :: stk) := by
  obtain ⟨p, l', e, R, s, m, args, below, meth, c, kc, ks, Q⟩ := X
  obtain ⟨rfl, hx, hb, hown, hml, hts, hR, hK, hI, hT⟩ := C
  intro H locs ls hl hP hS
  exact lv_if_eq hx hb d ht (fun q => kt (by first | (exact sd_i0 q) | (exact sd_i0n q) | (have q1 := sd_ilt q; simp at q1; omega) | (have q1 := sd_inlt q; simp at q1; omega) | (have q1 := sd_ile q; simp at q1; omega) | (have q1 := sd_inle q; simp at q1; omega)) H locs ls hl hP hS) (fun q => kf (by first | (exact sd_i0 q) | (exact sd_i0n q) | (have q1 := sd_ilt q; simp at q1; omega) | (have q1 := sd_inlt q; simp at q1; omega) | (have q1 := sd_ile q; simp at q1; omega) | (have q1 := sd_inle q; simp at q1; omega)) H locs ls hl hP hS)
theorem sd_icmp_ne (C : sd_Cx X l cc own k nL D ad ca T) {x y : Int32} {off : Int} (t : Nat) (d : decode cc pc = .ok (.if_icmp .ne off, 3)) (ht : (pc : Int) + off = (t : Int)) (kt : x.toInt ≠ y.toInt → sd_Wd X nL D ad ca σ lv t (stk)) (kf : x.toInt = y.toInt → sd_Wd X nL D ad ca σ lv (pc + 3) (stk)) : sd_Wd X nL D ad ca σ lv pc (.int y :: .int x :: stk) := by
  obtain ⟨p, l', e, R, s, m, args, below, meth, c, kc, ks, Q⟩ := X
  obtain ⟨rfl, hx, hb, hown, hml, hts, hR, hK, hI, hT⟩ := C
  intro H locs ls hl hP hS
  exact lv_icmp_ne hx hb d ht (fun q => kt (by first | (rw [q]; done) | (exact fun z => q (Int32.toInt_inj.mp z)) | (have q1 := sd_ilt q; omega) | (have q1 := sd_inlt q; omega) | (have q1 := sd_ile q; omega) | (have q1 := sd_inle q; omega)) H locs ls hl hP hS) (fun q => kf (by first | (rw [q]; done) | (exact fun z => q (Int32.toInt_inj.mp z)) | (have q1 := sd_ilt q; omega) | (have q1 := sd_inlt q; omega) | (have q1 := sd_ile q; omega) | (have q1 := sd_inle q; omega)) H locs ls hl hP hS)
theorem sd_if_ne (C : sd_Cx X l cc own k nL D ad ca T) {x : Int32} {off : Int} (t : Nat) (d : decode cc pc = .ok (.ifCond .ne off, 3)) (ht : (pc : Int) + off = (t : Int)) (kt : x.toInt ≠ 0 → sd_Wd X nL D ad ca σ lv t (stk)) (kf : x.toInt = 0 → sd_Wd X nL D ad ca σ lv (pc + 3) (stk)) : sd_Wd X nL D ad ca σ lv pc (.int x :: stk) := by
  obtain ⟨p, l', e, R, s, m, args, below, meth, c, kc, ks, Q⟩ := X
  obtain ⟨rfl, hx, hb, hown, hml, hts, hR, hK, hI, hT⟩ := C
  intro H locs ls hl hP hS
  exact lv_if_ne hx hb d ht (fun q => kt (by first | (exact sd_i0 q) | (exact sd_i0n q) | (have q1 := sd_ilt q; simp at q1; omega) | (have q1 := sd_inlt q; simp at q1; omega) | (have q1 := sd_ile q; simp at q1; omega) | (have q1 := sd_inle q; simp at q1; omega)) H locs ls hl hP hS) (fun q => kf (by first | (exact sd_i0 q) | (exact sd_i0n q) | (have q1 := sd_ilt q; simp at q1; omega) | (have q1 := sd_inlt q; simp at q1; omega) | (have q1 := sd_ile q; simp at q1; omega) | (have q1 := sd_inle q; simp at q1; omega)) H locs ls hl hP hS)
theorem sd_icmp_lt (C : sd_Cx X l cc own k nL D ad ca T) {x y : Int32} {off : Int} (t : Nat) (d : decode cc pc = .ok (.if_icmp .lt off, 3)) (ht : (pc : Int) + off = (t : Int)) (kt : x.toInt < y.toInt → sd_Wd X nL D ad ca σ lv t (stk)) (kf : y.toInt ≤ x.toInt → sd_Wd X nL D ad ca σ lv (pc + 3) (stk)) : sd_Wd X nL D ad ca σ lv pc (.int y :: .int x :: stk) := by
  obtain ⟨p, l', e, R, s, m, args, below, meth, c, kc, ks, Q⟩ := X
  obtain ⟨rfl, hx, hb, hown, hml, hts, hR, hK, hI, hT⟩ := C
  intro H locs ls hl hP hS
  exact lv_icmp_lt hx hb d ht (fun q => kt (by first | (rw [q]; done) | (exact fun z => q (Int32.toInt_inj.mp z)) | (have q1 := sd_ilt q; omega) | (have q1 := sd_inlt q; omega) | (have q1 := sd_ile q; omega) | (have q1 := sd_inle q; omega)) H locs ls hl hP hS) (fun q => kf (by first | (rw [q]; done) | (exact fun z => q (Int32.toInt_inj.mp z)) | (have q1 := sd_ilt q; omega) | (have q1 := sd_inlt q; omega) | (have q1 := sd_ile q; omega) | (have q1 := sd_inle q; omega)) H locs ls hl hP hS)
theorem sd_if_lt (C : sd_Cx X l cc own k nL D ad ca T) {x : Int32} {off : Int} (t : Nat) (d : decode cc pc = .ok (.ifCond .lt off, 3)) (ht : (pc : Int) + off = (t : Int)) (kt : x.toInt < 0 → sd_Wd X nL D ad ca σ lv t (stk)) (kf : 0 ≤ x.toInt → sd_Wd X nL D ad ca σ lv (pc + 3) (stk)) : sd_Wd X nL D ad ca σ lv pc (.int x :: stk) := by
  obtain ⟨p, l', e, R, s, m, args, below, meth, c, kc, ks, Q⟩ := X
  obtain ⟨rfl, hx, hb, hown, hml, hts, hR, hK, hI, hT⟩ := C
  intro H locs ls hl hP hS
  exact lv_if_lt hx hb d ht (fun q => kt (by first | (exact sd_i0 q) | (exact sd_i0n q) | (have q1 := sd_ilt q; simp at q1; omega) | (have q1 := sd_inlt q; simp at q1; omega) | (have q1 := sd_ile q; simp at q1; omega) | (have q1 := sd_inle q; simp at q1; omega)) H locs ls hl hP hS) (fun q => kf (by first | (exact sd_i0 q) | (exact sd_i0n q) | (have q1 := sd_ilt q; simp at q1; omega) | (have q1 := sd_inlt q; simp at q1; omega) | (have q1 := sd_ile q; simp at q1; omega) | (have q1 := sd_inle q; simp at q1; omega)) H locs ls hl hP hS)
theorem sd_icmp_ge (C : sd_Cx X l cc own k nL D ad ca T) {x y : Int32} {off : Int} (t : Nat) (d : decode cc pc = .ok (.if_icmp .ge off, 3)) (ht : (pc : Int) + off = (t : Int)) (kt : y.toInt ≤ x.toInt → sd_Wd X nL D ad ca σ lv t (stk)) (kf : x.toInt < y.toInt → sd_Wd X nL D ad ca σ lv (pc + 3) (stk)) : sd_Wd X nL D ad ca σ lv pc (.int y :: .int x :: stk) := by
  obtain ⟨p, l', e, R, s, m, args, below, meth, c, kc, ks, Q⟩ := X
  obtain ⟨rfl, hx, hb, hown, hml, hts, hR, hK, hI, hT⟩ := C
  intro H locs ls hl hP hS
  exact lv_icmp_ge hx hb d ht (fun q => kt (by first | (rw [q]; done) | (exact fun z => q (Int32.toInt_inj.mp z)) | (have q1 := sd_ilt q; omega) | (have q1 := sd_inlt q; omega) | (have q1 := sd_ile q; omega) | (have q1 := sd_inle q; omega)) H locs ls hl hP hS) (fun q => kf (by first | (rw [q]; done) | (exact fun z => q (Int32.toInt_inj.mp z)) | (have q1 := sd_ilt q; omega) | (have q1 := sd_inlt q; omega) | (have q1 := sd_ile q; omega) | (have q1 := sd_inle q; omega)) H locs ls hl hP hS)
theorem sd_if_ge (C : sd_Cx X l cc own k nL D ad ca T) {x : Int32} {off : Int} (t : Nat) (d : decode cc pc = .ok (.ifCond .ge off, 3)) (ht : (pc : Int) + off = (t : Int)) (kt : 0 ≤ x.toInt → sd_Wd X nL D ad ca σ lv t (stk)) (kf : x.toInt < 0 → sd_Wd X nL D ad ca σ lv (pc + 3) (stk)) : sd_Wd X nL D ad ca σ lv pc (.int x :: stk) := by
  obtain ⟨p, l', e, R, s, m, args, below, meth, c, kc, ks, Q⟩ := X
  obtain ⟨rfl, hx, hb, hown, hml, hts, hR, hK, hI, hT⟩ := C
  intro H locs ls hl hP hS
  exact lv_if_ge hx hb d ht (fun q => kt (by first | (exact sd_i0 q) | (exact sd_i0n q) | (have q1 := sd_ilt q; simp at q1; omega) | (have q1 := sd_inlt q; simp at q1; omega) | (have q1 := sd_ile q; simp at q1; omega) | (have q1 := sd_inle q; simp at q1; omega)) H locs ls hl hP hS) (fun q => kf (by first | (exact sd_i0 q) | (exact sd_i0n q) | (have q1 := sd_ilt q; simp at q1; omega) | (have q1 := sd_inlt q; simp at q1; omega) | (have q1 := sd_ile q; simp at q1; omega) | (have q1 := sd_inle q; simp at q1; omega)) H locs ls hl hP hS)
theorem sd_icmp_gt (C : sd_Cx X l cc own k nL D ad ca T) {x y : Int32} {off : Int} (t : Nat) (d : decode cc pc = .ok (.if_icmp .gt off, 3)) (ht : (pc : Int) + off = (t : Int)) (kt : y.toInt < x.toInt → sd_Wd X nL D ad ca σ lv t (stk)) (kf : x.toInt ≤ y.toInt → sd_Wd X nL D ad ca σ lv (pc + 3) (stk)) : sd_Wd X nL D ad ca σ lv pc (.int y :: .int x :: stk) := by
  obtain ⟨p, l', e, R, s, m, args, below, meth, c, kc, ks, Q⟩ := X
  obtain ⟨rfl, hx, hb, hown, hml, hts, hR, hK, hI, hT⟩ := C
  intro H locs ls hl hP hS
  exact lv_icmp_gt hx hb d ht (fun q => kt (by first | (rw [q]; done) | (exact fun z => q (Int32.toInt_inj.mp z)) | (have q1 := sd_ilt q; omega) | (have q1 := sd_inlt q; omega) | (have q1 := sd_ile q; omega) | (have q1 := sd_inle q; omega)) H locs ls hl hP hS) (fun q => kf (by first | (rw [q]; done) | (exact fun z => q (Int32.toInt_inj.mp z)) | (have q1 := sd_ilt q; omega) | (have q1 := sd_inlt q; omega) | (have q1 := sd_ile q; omega) | (have q1 := sd_inle q; omega)) H locs ls hl hP hS)
theorem sd_if_gt (C : sd_Cx X l cc own k nL D ad ca T) {x : Int32} {off : Int} (t : Nat) (d : decode cc pc = .ok (.ifCond .gt off, 3)) (ht : (pc : Int) + off = (t : Int)) (kt : 0 < x.toInt → sd_Wd X nL D ad ca σ lv t (stk)) (kf : x.toInt ≤ 0 → sd_Wd X nL D ad ca σ lv (pc + 3) (stk)) : sd_Wd X nL D ad ca σ lv pc (.int x :: stk) := by
  obtain ⟨p, l', e, R, s, m, args, below, meth, c, kc, ks, Q⟩ := X
  obtain ⟨rfl, hx, hb, hown, hml, hts, hR, hK, hI, hT⟩ := C
  intro H locs ls hl hP hS
  exact lv_if_gt hx hb d ht (fun q => kt (by first | (exact sd_i0 q) | (exact sd_i0n q) | (have q1 := sd_ilt q; simp at q1; omega) | (have q1 := sd_inlt q; simp at q1; omega) | (have q1 := sd_ile q; simp at q1; omega) | (have q1 := sd_inle q; simp at q1; omega)) H locs ls hl hP hS) (fun q => kf (by first | (exact sd_i0 q) | (exact sd_i0n q) | (have q1 := sd_ilt q; simp at q1; omega) | (have q1 := sd_inlt q; simp at q1; omega) | (have q1 := sd_ile q; simp at q1; omega) | (have q1 := sd_inle q; simp at q1; omega)) H locs ls hl hP hS)
theorem sd_icmp_le (C : sd_Cx X l cc own k nL D ad ca T) {x y : Int32} {off : Int} (t : Nat) (d : decode cc pc = .ok (.if_icmp .le off, 3)) (ht : (pc : Int) + off = (t : Int)) (kt : x.toInt ≤ y.toInt → sd_Wd X nL D ad ca σ lv t (stk)) (kf : y.toInt < x.toInt → sd_Wd X nL D ad ca σ lv (pc + 3) (stk)) : sd_Wd X nL D ad ca σ lv pc (.int y :: .int x :: stk) := by
  obtain ⟨p, l', e, R, s, m, args, below, meth, c, kc, ks, Q⟩ := X
  obtain ⟨rfl, hx, hb, hown, hml, hts, hR, hK, hI, hT⟩ := C
  intro H locs ls hl hP hS
  exact lv_icmp_le hx hb d ht (fun q => kt (by first | (rw [q]; done) | (exact fun z => q (Int32.toInt_inj.mp z)) | (have q1 := sd_ilt q; omega) | (have q1 := sd_inlt q; omega) | (have q1 := sd_ile q; omega) | (have q1 := sd_inle q; omega)) H locs ls hl hP hS) (fun q => kf (by first | (rw [q]; done) | (exact fun z => q (Int32.toInt_inj.mp z)) | (have q1 := sd_ilt q; omega) | (have q1 := sd_inlt q; omega) | (have q1 := sd_ile q; omega) | (have q1 := sd_inle q; omega)) H locs ls hl hP hS)
theorem sd_if_le (C : sd_Cx X l cc own k nL D ad ca T) {x : Int32} {off : Int} (t : Nat) (d : decode cc pc = .ok (.ifCond .le off, 3)) (ht : (pc : Int) + off = (t : Int)) (kt : x.toInt ≤ 0 → sd_Wd X nL D ad ca σ lv t (stk)) (kf : 0 < x.toInt → sd_Wd X nL D ad ca σ lv (pc + 3) (stk)) : sd_Wd X nL D ad ca σ lv pc (.int x :: stk) := by
  obtain ⟨p, l', e, R, s, m, args, below, meth, c, kc, ks, Q⟩ := X
  obtain ⟨rfl, hx, hb, hown, hml, hts, hR, hK, hI, hT⟩ := C
  intro H locs ls hl hP hS
  exact lv_if_le hx hb d ht (fun q => kt (by first | (exact sd_i0 q) | (exact sd_i0n q) | (have q1 := sd_ilt q; simp at q1; omega) | (have q1 := sd_inlt q; simp at q1; omega) | (have q1 := sd_ile q; simp at q1; omega) | (have q1 := sd_inle q; simp at q1; omega)) H locs ls hl hP hS) (fun q => kf (by first | (exact sd_i0 q) | (exact sd_i0n q) | (have q1 := sd_ilt q; simp at q1; omega) | (have q1 := sd_inlt q; simp at q1; omega) | (have q1 := sd_ile q; simp at q1; omega) | (have q1 := sd_inle q; simp at q1; omega)) H locs ls hl hP hS)
theorem sd_tableOut (C : sd_Cx X l cc own k nL D ad ca T) {dflt lo hi : Int} {offs : Array Int} {len : Nat} {x : Int32} (t : Nat) (d : decode cc pc = .ok (.tableswitch dflt lo hi offs, len)) (h : x.toInt < lo ∨ hi < x.toInt) (ht : (pc : Int) + dflt = (t : Int)) (kk : sd_Wd X nL D ad ca σ lv t (stk)) : sd_Wd X nL D ad ca σ lv pc (.int x :: stk) := by
  obtain ⟨p, l', e, R, s, m, args, below, meth, c, kc, ks, Q⟩ := X
  obtain ⟨rfl, hx, hb, hown, hml, hts, hR, hK, hI, hT⟩ := C
  intro H locs ls hl hP hS
  exact lv_tableOut hx hb d h ht (kk H locs ls hl hP hS)
theorem sd_tableIn (C : sd_Cx X l cc own k nL D ad ca T) {dflt lo hi : Int} {offs : Array Int} {len : Nat} {x : Int32} {off : Int} (t : Nat) (v : Int) (d : decode cc pc = .ok (.tableswitch dflt lo hi offs, len)) (hv : x.toInt = v) (h : ¬ v < lo ∧ ¬ hi < v) (ho : offs[(v - lo).toNat]? = some off) (ht : (pc : Int) + off = (t : Int)) (kk : sd_Wd X nL D ad ca σ lv t (stk)) : sd_Wd X nL D ad ca σ lv pc (.int x :: stk) := by
  obtain ⟨p, l', e, R, s, m, args, below, meth, c, kc, ks, Q⟩ := X
  obtain ⟨rfl, hx, hb, hown, hml, hts, hR, hK, hI, hT⟩ := C
  intro H locs ls hl hP hS
  exact lv_tableIn hx hb d (by rw [hv]; exact h.1) (by rw [hv]; exact h.2) (by rw [hv]; exact ho) ht (kk H locs ls hl hP hS)
theorem sd_lookup (C : sd_Cx X l cc own k nL D ad ca T) {dflt : Int} {ps : Array (Int × Int)} {len : Nat} {x : Int32} {off : Int} (t : Nat) (d : decode cc pc = .ok (.lookupswitch dflt ps, len)) (hp : (ps.toList.zip (ps.toList.drop 1)).all (fun (a, next) => a.1 < next.1) = true) (ho : Op.lookupswitch.offset ps.toList dflt x.toInt = off) (ht : (pc : Int) + off = (t : Int)) (kk : sd_Wd X nL D ad ca σ lv t (stk)) : sd_Wd X nL D ad ca σ lv pc (.int x :: stk) := by
  obtain ⟨p, l', e, R, s, m, args, below, meth, c, kc, ks, Q⟩ := X
  obtain ⟨rfl, hx, hb, hown, hml, hts, hR, hK, hI, hT⟩ := C
  intro H locs ls hl hP hS
  exact lv_lookup hx hb d hp ho ht (kk H locs ls hl hP hS)
theorem sd_get (C : sd_Cx X l cc own k nL D ad ca T) {i ci N idx : Nat} {fs : List Value} {Cn : String} {TT : u_T} {v : Value} (hi : i < 93) (hc : sd_cell ad ca i (σ i) = .inr (ci, fs)) (hcl : vwCl[ci]? = some (Cn, TT, N)) (kf : Nat) (hk : kf < N) (hv : fs[kf]? = some v) (w : Cond.fieldLink own idx (TT kf).1 (TT kf).2.1 (TT kf).2.2.1 ∈ sd_gt) (d : decode cc pc = .ok (.getfield idx, 3)) (kk : sd_Wd X nL D ad ca σ lv (pc + 3) (v :: stk)) : sd_Wd X nL D ad ca σ lv pc (.ref (ad i) :: stk) := by
  obtain ⟨p, l', e, R, s, m, args, below, meth, c, kc, ks, Q⟩ := X
  obtain ⟨rfl, hx, hb, hown, hml, hts, hR, hK, hI, hT⟩ := C
  intro H locs ls hl hP hS
  exact va_get (D := D) (tys := sd_ty ca) hx hb hts (sd_in hcl) hown hK hP i (by rw [sd_w_at hi, hc]) hcl kf hk (hts _ w) (fun _ h => h) hv d (kk H locs ls hl hP hS)
theorem sd_put (C : sd_Cx X l cc own k nL D ad ca T) {i ci N idx : Nat} {fs : List Value} {Cn : String} {TT : u_T} {x : Int32} {ty : FieldType} (hi : i < 93) (hc : sd_cell ad ca i (σ i) = .inr (ci, fs)) (hcl : vwCl[ci]? = some (Cn, TT, N)) (kf : Nat) (hk : kf < N) (hf : (TT kf).2.2.2 = false) (hd : parseFieldDescriptor (TT kf).2.2.1 = some ty) (hn : narrow ty (.int x) = .int x) (hfit : fits ty (.int x) = true) (hle : kf < fs.length) (he : ∀ f : Nat → Int32, (Sum.inr (ci, fs.set kf (.int x)) : va_E) = sd_cell ad ca i (upd (σ i) kf x)) (w : Cond.fieldLink own idx (TT kf).1 (TT kf).2.1 (TT kf).2.2.1 ∈ sd_gt) (d : decode cc pc = .ok (.putfield idx, 3)) (kk : ∀ σ' : sd_Mem, σ' = sd_st σ i kf x → sd_Wd X nL D ad ca σ' lv (pc + 3) (stk)) : sd_Wd X nL D ad ca σ lv pc (.int x :: .ref (ad i) :: stk) := by
  obtain ⟨p, l', e, R, s, m, args, below, meth, c, kc, ks, Q⟩ := X
  obtain ⟨rfl, hx, hb, hown, hml, hts, hR, hK, hI, hT⟩ := C
  intro H locs ls hl hP hS
  obtain ⟨ty0, h1, h2⟩ := sd_nmty hcl
  refine va_put (D := D) (tys := sd_ty ca) hx hb hts (sd_in hcl) ty0 h1 h2 hown hK hP (sd_D hI) hS i (by rw [sd_w_at hi, hc]) hcl kf hk (hts _ w) (fun _ h => h) hf hd hn hfit hle d (fun H1 locs1 hP1 _ hS1 => ?_)
  rw [sd_w_set hi (he (σ i))] at hP1
  exact kk _ rfl H1 locs1 ls hl hP1 hS1
theorem sd_iald (C : sd_Cx X l cc own k nL D ad ca T) {i n : Nat} {x : Int32} (hi : i < 93) (hc : sd_cell ad ca i (σ i) = .inl (ca 0, n, .inl (σ i))) (j : Nat) (hj : x.toInt = (j : Int) ∧ j < n) (d : decode cc pc = .ok (.iaload, 1)) (kk : sd_Wd X nL D ad ca σ lv (pc + 1) (.int (σ i j) :: stk)) : sd_Wd X nL D ad ca σ lv pc (.int x :: .ref (ad i) :: stk) := by
  obtain ⟨p, l', e, R, s, m, args, below, meth, c, kc, ks, Q⟩ := X
  obtain ⟨rfl, hx, hb, hown, hml, hts, hR, hK, hI, hT⟩ := C
  intro H locs ls hl hP hS
  have hcl : x.toNatClampNeg = j := sd_clamp hj.1
  refine va_iald (D := D) (tys := sd_ty ca) hx hb hK hP i 0 (by rw [sd_w_at hi, hc]) rfl (sd_vpin hj.1 hj.2) d ?_
  rw [hcl]
  exact kk H locs ls hl hP hS
theorem sd_zald (C : sd_Cx X l cc own k nL D ad ca T) {i n : Nat} {x : Int32} (hi : i < 93) (hc : sd_cell ad ca i (σ i) = .inl (ca 1, n, .inl (σ i))) (j : Nat) (hj : x.toInt = (j : Int) ∧ j < n) (d : decode cc pc = .ok (.baload, 1)) (kk : sd_Wd X nL D ad ca σ lv (pc + 1) (.int (σ i j) :: stk)) : sd_Wd X nL D ad ca σ lv pc (.int x :: .ref (ad i) :: stk) := by
  obtain ⟨p, l', e, R, s, m, args, below, meth, c, kc, ks, Q⟩ := X
  obtain ⟨rfl, hx, hb, hown, hml, hts, hR, hK, hI, hT⟩ := C
  intro H locs ls hl hP hS
  have hcl : x.toNatClampNeg = j := sd_clamp hj.1
  refine va_zald (D := D) (tys := sd_ty ca) hx hb hK hP i 1 (by rw [sd_w_at hi, hc]) rfl (sd_vpin hj.1 hj.2) d ?_
  rw [hcl]
  exact kk H locs ls hl hP hS
theorem sd_iast (C : sd_Cx X l cc own k nL D ad ca T) {i n : Nat} {x v : Int32} (hi : i < 93) (hc : ∀ f : Nat → Int32, sd_cell ad ca i f = .inl (ca 0, n, .inl f)) (j : Nat) (hj : x.toInt = (j : Int) ∧ j < n) (d : decode cc pc = .ok (.iastore, 1)) (kk : ∀ σ' : sd_Mem, σ' = sd_st σ i j v → sd_Wd X nL D ad ca σ' lv (pc + 1) (stk)) : sd_Wd X nL D ad ca σ lv pc (.int v :: .int x :: .ref (ad i) :: stk) := by
  obtain ⟨p, l', e, R, s, m, args, below, meth, c, kc, ks, Q⟩ := X
  obtain ⟨rfl, hx, hb, hown, hml, hts, hR, hK, hI, hT⟩ := C
  intro H locs ls hl hP hS
  have hcl : x.toNatClampNeg = j := sd_clamp hj.1
  refine va_iast (D := D) (tys := sd_ty ca) hx hb hK hP (sd_D hI) hS i 0 (by rw [sd_w_at hi, hc]) rfl (sd_vpin hj.1 hj.2) d (fun H1 locs1 hP1 _ hS1 => ?_)
  rw [hcl, sd_w_set hi (hc _).symm] at hP1
  exact kk _ rfl H1 locs1 ls hl hP1 hS1
theorem sd_zast (C : sd_Cx X l cc own k nL D ad ca T) {i n : Nat} {x v : Int32} (hi : i < 93) (hc : ∀ f : Nat → Int32, sd_cell ad ca i f = .inl (ca 1, n, .inl f)) (j : Nat) (hj : x.toInt = (j : Int) ∧ j < n) (hv : v.toInt = 0 ∨ v.toInt = 1) (d : decode cc pc = .ok (.bastore, 1)) (kk : ∀ σ' : sd_Mem, σ' = sd_st σ i j v → sd_Wd X nL D ad ca σ' lv (pc + 1) (stk)) : sd_Wd X nL D ad ca σ lv pc (.int v :: .int x :: .ref (ad i) :: stk) := by
  obtain ⟨p, l', e, R, s, m, args, below, meth, c, kc, ks, Q⟩ := X
  obtain ⟨rfl, hx, hb, hown, hml, hts, hR, hK, hI, hT⟩ := C
  intro H locs ls hl hP hS
  have hcl : x.toNatClampNeg = j := sd_clamp hj.1
  have hnar : vp_nar .boolean v = v := by
    rcases sd_b01 hv with rfl | rfl <;> rfl
  refine va_zast (D := D) (tys := sd_ty ca) hx hb hK hP (sd_D hI) hS i 1 (by rw [sd_w_at hi, hc]) rfl (sd_vpin hj.1 hj.2) d (fun H1 locs1 hP1 _ hS1 => ?_)
  rw [hcl, hnar, sd_w_set hi (hc _).symm] at hP1
  exact kk _ rfl H1 locs1 ls hl hP1 hS1
theorem sd_aald9 (C : sd_Cx X l cc own k nL D ad ca T) {x : Int32} (j : Nat) (hj : x.toInt = (j : Int) ∧ j < 24) (d : decode cc pc = .ok (.aaload, 1)) (kk : sd_Wd X nL D ad ca σ lv (pc + 1) (.ref (ad (16 + j)) :: stk)) : sd_Wd X nL D ad ca σ lv pc (.int x :: .ref (ad 9) :: stk) := by
  obtain ⟨p, l', e, R, s, m, args, below, meth, c, kc, ks, Q⟩ := X
  obtain ⟨rfl, hx, hb, hown, hml, hts, hR, hK, hI, hT⟩ := C
  intro H locs ls hl hP hS
  have hcl : x.toNatClampNeg = j := sd_clamp hj.1
  refine va_aldq (D := D) (tys := sd_ty ca) (f := fun p => some (ad (16 + p))) hx hb hK hP 9 3 (sd_w_at (by decide)) rfl (sd_vpin hj.1 hj.2) d ?_
  rw [hcl]
  exact kk H locs ls hl hP hS
theorem sd_aald12 (C : sd_Cx X l cc own k nL D ad ca T) {x : Int32} (j : Nat) (hj : x.toInt = (j : Int) ∧ j < 6) (d : decode cc pc = .ok (.aaload, 1)) (kk : sd_Wd X nL D ad ca σ lv (pc + 1) (.ref (ad (64 + j)) :: stk)) : sd_Wd X nL D ad ca σ lv pc (.int x :: .ref (ad 12) :: stk) := by
  obtain ⟨p, l', e, R, s, m, args, below, meth, c, kc, ks, Q⟩ := X
  obtain ⟨rfl, hx, hb, hown, hml, hts, hR, hK, hI, hT⟩ := C
  intro H locs ls hl hP hS
  have hcl : x.toNatClampNeg = j := sd_clamp hj.1
  refine va_aldq (D := D) (tys := sd_ty ca) (f := fun p => some (ad (64 + p))) hx hb hK hP 12 2 (sd_w_at (by decide)) rfl (sd_vpin hj.1 hj.2) d ?_
  rw [hcl]
  exact kk H locs ls hl hP hS
theorem sd_gs0 (C : sd_Cx X l cc own k nL D ad ca T) {idx : Nat} (w : Cond.fieldLink own idx "SittingDesk" "LEAST_RULE" "[I" ∈ sd_gt) (d : decode cc pc = .ok (.getstatic idx, 3)) (kk : sd_Wd X nL D ad ca σ lv (pc + 3) (.ref (T 0) :: stk)) : sd_Wd X nL D ad ca σ lv pc (stk) := by
  obtain ⟨p, l', e, R, s, m, args, below, meth, c, kc, ks, Q⟩ := X
  obtain ⟨rfl, hx, hb, hown, hml, hts, hR, hK, hI, hT⟩ := C
  intro H locs ls hl hP hS
  exact va_gets hx hb hT.1.1 hS hown (hts _ w) (fun _ h => h) d (kk H locs ls hl hP hS)
theorem sd_tl0 (C : sd_Cx X l cc own k nL D ad ca T) {x : Int32} (j : Nat) (hj : x.toInt = (j : Int) ∧ j < 6) (d : decode cc pc = .ok (.iaload, 1)) (kk : sd_Wd X nL D ad ca σ lv (pc + 1) (.int (sd_t0 j) :: stk)) : sd_Wd X nL D ad ca σ lv pc (.int x :: .ref (T 0) :: stk) := by
  obtain ⟨p, l', e, R, s, m, args, below, meth, c, kc, ks, Q⟩ := X
  obtain ⟨rfl, hx, hb, hown, hml, hts, hR, hK, hI, hT⟩ := C
  intro H locs ls hl hP hS
  have hcl : x.toNatClampNeg = j := sd_clamp hj.1
  refine va_ti hx hb hT.1.2 hS (sd_vpin hj.1 hj.2) rfl d ?_
  rw [hcl]
  exact kk H locs ls hl hP hS
theorem sd_gs1 (C : sd_Cx X l cc own k nL D ad ca T) {idx : Nat} (w : Cond.fieldLink own idx "SittingDesk" "GREATEST_RULE" "[I" ∈ sd_gt) (d : decode cc pc = .ok (.getstatic idx, 3)) (kk : sd_Wd X nL D ad ca σ lv (pc + 3) (.ref (T 1) :: stk)) : sd_Wd X nL D ad ca σ lv pc (stk) := by
  obtain ⟨p, l', e, R, s, m, args, below, meth, c, kc, ks, Q⟩ := X
  obtain ⟨rfl, hx, hb, hown, hml, hts, hR, hK, hI, hT⟩ := C
  intro H locs ls hl hP hS
  exact va_gets hx hb hT.2.1.1 hS hown (hts _ w) (fun _ h => h) d (kk H locs ls hl hP hS)
theorem sd_tl1 (C : sd_Cx X l cc own k nL D ad ca T) {x : Int32} (j : Nat) (hj : x.toInt = (j : Int) ∧ j < 6) (d : decode cc pc = .ok (.iaload, 1)) (kk : sd_Wd X nL D ad ca σ lv (pc + 1) (.int (sd_t1 j) :: stk)) : sd_Wd X nL D ad ca σ lv pc (.int x :: .ref (T 1) :: stk) := by
  obtain ⟨p, l', e, R, s, m, args, below, meth, c, kc, ks, Q⟩ := X
  obtain ⟨rfl, hx, hb, hown, hml, hts, hR, hK, hI, hT⟩ := C
  intro H locs ls hl hP hS
  have hcl : x.toNatClampNeg = j := sd_clamp hj.1
  refine va_ti hx hb hT.2.1.2 hS (sd_vpin hj.1 hj.2) rfl d ?_
  rw [hcl]
  exact kk H locs ls hl hP hS
theorem sd_gs2 (C : sd_Cx X l cc own k nL D ad ca T) {idx : Nat} (w : Cond.fieldLink own idx "SittingDesk$Funnel" "JUST_THOSE_AHEAD" "[I" ∈ sd_gt) (d : decode cc pc = .ok (.getstatic idx, 3)) (kk : sd_Wd X nL D ad ca σ lv (pc + 3) (.ref (T 2) :: stk)) : sd_Wd X nL D ad ca σ lv pc (stk) := by
  obtain ⟨p, l', e, R, s, m, args, below, meth, c, kc, ks, Q⟩ := X
  obtain ⟨rfl, hx, hb, hown, hml, hts, hR, hK, hI, hT⟩ := C
  intro H locs ls hl hP hS
  exact va_gets hx hb hT.2.2.1.1 hS hown (hts _ w) (fun _ h => h) d (kk H locs ls hl hP hS)
theorem sd_tl2 (C : sd_Cx X l cc own k nL D ad ca T) {x : Int32} (j : Nat) (hj : x.toInt = (j : Int) ∧ j < 4) (d : decode cc pc = .ok (.iaload, 1)) (kk : sd_Wd X nL D ad ca σ lv (pc + 1) (.int (sd_t2 j) :: stk)) : sd_Wd X nL D ad ca σ lv pc (.int x :: .ref (T 2) :: stk) := by
  obtain ⟨p, l', e, R, s, m, args, below, meth, c, kc, ks, Q⟩ := X
  obtain ⟨rfl, hx, hb, hown, hml, hts, hR, hK, hI, hT⟩ := C
  intro H locs ls hl hP hS
  have hcl : x.toNatClampNeg = j := sd_clamp hj.1
  refine va_ti hx hb hT.2.2.1.2 hS (sd_vpin hj.1 hj.2) rfl d ?_
  rw [hcl]
  exact kk H locs ls hl hP hS
theorem sd_gs3 (C : sd_Cx X l cc own k nL D ad ca T) {idx : Nat} (w : Cond.fieldLink own idx "SittingDesk$Funnel" "ALL_WITHOUT" "[I" ∈ sd_gt) (d : decode cc pc = .ok (.getstatic idx, 3)) (kk : sd_Wd X nL D ad ca σ lv (pc + 3) (.ref (T 3) :: stk)) : sd_Wd X nL D ad ca σ lv pc (stk) := by
  obtain ⟨p, l', e, R, s, m, args, below, meth, c, kc, ks, Q⟩ := X
  obtain ⟨rfl, hx, hb, hown, hml, hts, hR, hK, hI, hT⟩ := C
  intro H locs ls hl hP hS
  exact va_gets hx hb hT.2.2.2.1 hS hown (hts _ w) (fun _ h => h) d (kk H locs ls hl hP hS)
theorem sd_tl3 (C : sd_Cx X l cc own k nL D ad ca T) {x : Int32} (j : Nat) (hj : x.toInt = (j : Int) ∧ j < 4) (d : decode cc pc = .ok (.iaload, 1)) (kk : sd_Wd X nL D ad ca σ lv (pc + 1) (.int (sd_t3 j) :: stk)) : sd_Wd X nL D ad ca σ lv pc (.int x :: .ref (T 3) :: stk) := by
  obtain ⟨p, l', e, R, s, m, args, below, meth, c, kc, ks, Q⟩ := X
  obtain ⟨rfl, hx, hb, hown, hml, hts, hR, hK, hI, hT⟩ := C
  intro H locs ls hl hP hS
  have hcl : x.toNatClampNeg = j := sd_clamp hj.1
  refine va_ti hx hb hT.2.2.2.2 hS (sd_vpin hj.1 hj.2) rfl d ?_
  rw [hcl]
  exact kk H locs ls hl hP hS
theorem sd_max (C : sd_Cx X l cc own k nL D ad ca T) {x y : Int32} {idx : Nat} (w : Cond.methodLink own idx Lib.Math.max.name ∈ sd_gt) (hk : 1 ≤ k) (hr : (stk.map fun v => v.category).sum ≤ 8) (d : decode cc pc = .ok (.invokestatic idx, 3)) (kk : ∀ z : Int32, ((z = x ∧ y.toInt ≤ x.toInt) ∨ (z = y ∧ x.toInt < y.toInt)) → sd_Wd X nL D ad ca σ lv (pc + 3) (.int z :: stk)) : sd_Wd X nL D ad ca σ lv pc (.int y :: .int x :: stk) := by
  obtain ⟨p, l', e, R, s, m, args, below, meth, c, kc, ks, Q⟩ := X
  obtain ⟨rfl, hx, hb, hown, hml, hts, hR, hK, hI, hT⟩ := C
  intro H locs ls hl hP hS
  refine va_mmax hx hb (by rw [hml, hl.1]) hown (hts _ w) (hts _ wt_J9_max_7cf53) (hts _ wn_J9) (hts _ wc_J9_max_7cf53) (by omega) (by omega) hR.2.2.1 hR.2.2.2 d (kk _ ?_ H locs ls hl hP hS)
  by_cases h : x < y
  · rw [if_pos h]; exact Or.inr ⟨rfl, Int32.lt_iff_toInt_lt.mp h⟩
  · rw [if_neg h]; exact Or.inl ⟨rfl, by have h3 : ¬ x.toInt < y.toInt := fun q => h (Int32.lt_iff_toInt_lt.mpr q)
                                         omega⟩
theorem sd_callVi (C : sd_Cx X l cc own k nL D ad ca T) {y : MethodName} {b : ByteArray} {n kc' np i ci N idx : Nat} {fs : List Value} {TT : u_T} {As rest : List Value} {post : Int32 → sd_Mem → Prop} (hM : sd_Ci l y b n kc' D ad ca T σ (.ref (ad i) :: As) post) (mw : sd_MV y b n (some .int) np) (w : Cond.methodLink own idx y ∈ sd_gt) (hi : i < 93) (hc : sd_cell ad ca i (σ i) = .inr (ci, fs)) (hcl : vwCl[ci]? = some (y.cls, TT, N)) (hk : kc' < k) (hAs : As.length = np) (hst : stk = As.reverse ++ .ref (ad i) :: rest) (hr : (rest.map fun v => v.category).sum ≤ 8) (d : decode cc pc = .ok (.invokevirtual idx, 3)) (kk : ∀ (r : Int32) (σ' : sd_Mem), post r σ' → sd_Wd X nL D ad ca σ' lv (pc + 3) (.int r :: rest)) : sd_Wd X nL D ad ca σ lv pc (stk) := by
  obtain ⟨p, l', e, R, s, m, args, below, meth, c, kc, ks, Q⟩ := X
  obtain ⟨rfl, hx, hb, hown, hml, hts, hR, hK, hI, hT⟩ := C
  intro H locs ls hl hP hS
  subst hst
  obtain ⟨m0, m1, m2, m3, m4, m5, m6, m7⟩ := mw
  have hg : GoodIn sd_gt (wsV own idx y.cls y (.code y b n (some .int) :: sd_gt)) := sd_good (by intro z hz; simp only [List.mem_cons, List.not_mem_nil, or_false] at hz; rcases hz with rfl | rfl | rfl | rfl <;> assumption) m4
  refine va_calli (va_runV (As := As) (rest := rest) ⟨hx, hb, hml, hown, hts⟩ hM (cwV np hts hg rfl rfl rfl ⟨rfl, m5, m6, m7⟩ (sd_roomok hk m0 hR.1 hR.2.1)) ⟨fun a U g mk q => by obtain ⟨q0, qP, qK, qI, qT⟩ := q; exact ⟨q0, qP, va_K.moved (u := U) (U := U.calling g mk a) (Vm.Alike.refl U.vm) qK, qI, qT.go (U := U.calling g mk a) (Vm.Alike.refl U.vm) (fun _ _ _ => rfl)⟩, va_recv hK hP hcl (by rw [sd_w_at hi, hc]), fun U hU hW => ⟨rfl, by rw [hU]; exact hP, va_K.moved hW.alike hK, hI, hT.go hW.alike (by rw [hU]; exact hS.2.1)⟩⟩ rfl hAs hl.1 rfl (lv_room hr) d ⟨hR.2.2.1, hR.2.2.2⟩) hS (fun q _ h => h) (fun q h => h) (fun r σ' t H1 locs1 ht hvm hpost hB hz hkeep hS' => ?_)
  obtain ⟨hP1, -, -, -⟩ := hB
  rw [ht] at hP1
  exact kk r σ' hpost H1 locs1 ls hl hP1 hS'
theorem sd_callVz (C : sd_Cx X l cc own k nL D ad ca T) {y : MethodName} {b : ByteArray} {n kc' np i ci N idx : Nat} {fs : List Value} {TT : u_T} {As rest : List Value} {post : Int32 → sd_Mem → Prop} (hM : sd_Cz l y b n kc' D ad ca T σ (.ref (ad i) :: As) post) (mw : sd_MV y b n (some .boolean) np) (w : Cond.methodLink own idx y ∈ sd_gt) (hi : i < 93) (hc : sd_cell ad ca i (σ i) = .inr (ci, fs)) (hcl : vwCl[ci]? = some (y.cls, TT, N)) (hk : kc' < k) (hAs : As.length = np) (hst : stk = As.reverse ++ .ref (ad i) :: rest) (hr : (rest.map fun v => v.category).sum ≤ 8) (d : decode cc pc = .ok (.invokevirtual idx, 3)) (kk : ∀ (r : Int32) (σ' : sd_Mem), post r σ' → sd_Wd X nL D ad ca σ' lv (pc + 3) (.int r :: rest)) : sd_Wd X nL D ad ca σ lv pc (stk) := by
  obtain ⟨p, l', e, R, s, m, args, below, meth, c, kc, ks, Q⟩ := X
  obtain ⟨rfl, hx, hb, hown, hml, hts, hR, hK, hI, hT⟩ := C
  intro H locs ls hl hP hS
  subst hst
  obtain ⟨m0, m1, m2, m3, m4, m5, m6, m7⟩ := mw
  have hg : GoodIn sd_gt (wsV own idx y.cls y (.code y b n (some .boolean) :: sd_gt)) := sd_good (by intro z hz; simp only [List.mem_cons, List.not_mem_nil, or_false] at hz; rcases hz with rfl | rfl | rfl | rfl <;> assumption) m4
  refine va_calli (va_runV (As := As) (rest := rest) ⟨hx, hb, hml, hown, hts⟩ hM (cwV np hts hg rfl rfl rfl ⟨rfl, m5, m6, m7⟩ (sd_roomok hk m0 hR.1 hR.2.1)) ⟨fun a U g mk q => by obtain ⟨q0, qP, qK, qI, qT⟩ := q; exact ⟨q0, qP, va_K.moved (u := U) (U := U.calling g mk a) (Vm.Alike.refl U.vm) qK, qI, qT.go (U := U.calling g mk a) (Vm.Alike.refl U.vm) (fun _ _ _ => rfl)⟩, va_recv hK hP hcl (by rw [sd_w_at hi, hc]), fun U hU hW => ⟨rfl, by rw [hU]; exact hP, va_K.moved hW.alike hK, hI, hT.go hW.alike (by rw [hU]; exact hS.2.1)⟩⟩ rfl hAs hl.1 rfl (lv_room hr) d ⟨hR.2.2.1, hR.2.2.2⟩) hS (fun q _ h => h) (fun q h => h) (fun r σ' t H1 locs1 ht hvm hpost hB hz hkeep hS' => ?_)
  obtain ⟨hP1, -, -, -⟩ := hB
  rw [ht] at hP1
  exact kk r σ' hpost H1 locs1 ls hl hP1 hS'
theorem sd_callVv (C : sd_Cx X l cc own k nL D ad ca T) {y : MethodName} {b : ByteArray} {n kc' np i ci N idx : Nat} {fs : List Value} {TT : u_T} {As rest : List Value} {post : sd_Mem → Prop} (hM : sd_Cv l y b n kc' D ad ca T σ (.ref (ad i) :: As) post) (mw : sd_MV y b n none np) (w : Cond.methodLink own idx y ∈ sd_gt) (hi : i < 93) (hc : sd_cell ad ca i (σ i) = .inr (ci, fs)) (hcl : vwCl[ci]? = some (y.cls, TT, N)) (hk : kc' < k) (hAs : As.length = np) (hst : stk = As.reverse ++ .ref (ad i) :: rest) (hr : (rest.map fun v => v.category).sum ≤ 8) (d : decode cc pc = .ok (.invokevirtual idx, 3)) (kk : ∀ σ' : sd_Mem, post σ' → sd_Wd X nL D ad ca σ' lv (pc + 3) (rest)) : sd_Wd X nL D ad ca σ lv pc (stk) := by
  obtain ⟨p, l', e, R, s, m, args, below, meth, c, kc, ks, Q⟩ := X
  obtain ⟨rfl, hx, hb, hown, hml, hts, hR, hK, hI, hT⟩ := C
  intro H locs ls hl hP hS
  subst hst
  obtain ⟨m0, m1, m2, m3, m4, m5, m6, m7⟩ := mw
  have hg : GoodIn sd_gt (wsV own idx y.cls y (.code y b n none :: sd_gt)) := sd_good (by intro z hz; simp only [List.mem_cons, List.not_mem_nil, or_false] at hz; rcases hz with rfl | rfl | rfl | rfl <;> assumption) m4
  refine va_callv (va_runV (As := As) (rest := rest) ⟨hx, hb, hml, hown, hts⟩ hM (cwV np hts hg rfl rfl rfl ⟨rfl, m5, m6, m7⟩ (sd_roomok hk m0 hR.1 hR.2.1)) ⟨fun a U g mk q => by obtain ⟨q0, qP, qK, qI, qT⟩ := q; exact ⟨q0, qP, va_K.moved (u := U) (U := U.calling g mk a) (Vm.Alike.refl U.vm) qK, qI, qT.go (U := U.calling g mk a) (Vm.Alike.refl U.vm) (fun _ _ _ => rfl)⟩, va_recv hK hP hcl (by rw [sd_w_at hi, hc]), fun U hU hW => ⟨rfl, by rw [hU]; exact hP, va_K.moved hW.alike hK, hI, hT.go hW.alike (by rw [hU]; exact hS.2.1)⟩⟩ rfl hAs hl.1 rfl (lv_room hr) d ⟨hR.2.2.1, hR.2.2.2⟩) hS (fun q _ h => h) (fun q h => h) (fun σ' t H1 locs1 ht hvm hpost hB hz hkeep hS' => ?_)
  obtain ⟨hP1, -, -, -⟩ := hB
  rw [ht] at hP1
  exact kk σ' hpost H1 locs1 ls hl hP1 hS'
theorem sd_callSi (C : sd_Cx X l cc own k nL D ad ca T) {y : MethodName} {b : ByteArray} {n kc' np idx : Nat} {As rest : List Value} {post : Int32 → sd_Mem → Prop} (hM : sd_Ci l y b n kc' D ad ca T σ As post) (mw : sd_MS y b n (some .int) np) (w : Cond.methodLink own idx y ∈ sd_gt) (hk : kc' < k) (hAs : As.length = np) (hst : stk = As.reverse ++ rest) (hr : (rest.map fun v => v.category).sum ≤ 8) (d : decode cc pc = .ok (.invokestatic idx, 3)) (kk : ∀ (r : Int32) (σ' : sd_Mem), post r σ' → sd_Wd X nL D ad ca σ' lv (pc + 3) (.int r :: rest)) : sd_Wd X nL D ad ca σ lv pc (stk) := by
  obtain ⟨p, l', e, R, s, m, args, below, meth, c, kc, ks, Q⟩ := X
  obtain ⟨rfl, hx, hb, hown, hml, hts, hR, hK, hI, hT⟩ := C
  intro H locs ls hl hP hS
  subst hst
  obtain ⟨m0, m1, m3, m4, m5, m6, m7⟩ := mw
  have hg : GoodIn sd_gt (va_wsS own idx y (.code y b n (some .int) :: sd_gt)) := sd_good (by intro z hz; simp only [List.mem_cons, List.not_mem_nil, or_false] at hz; rcases hz with rfl | rfl | rfl <;> assumption) m4
  refine va_calli (va_runS (As := As) (rest := rest) ⟨hx, hb, hml, hown, hts⟩ hM (va_cwS np hts hg rfl rfl rfl ⟨m5, m6, m7⟩ (sd_roomok hk m0 hR.1 hR.2.1)) ⟨fun a U g mk q => by obtain ⟨q0, qP, qK, qI, qT⟩ := q; exact ⟨q0, qP, va_K.moved (u := U) (U := U.calling g mk a) (Vm.Alike.refl U.vm) qK, qI, qT.go (U := U.calling g mk a) (Vm.Alike.refl U.vm) (fun _ _ _ => rfl)⟩, fun U hU hW => ⟨rfl, by rw [hU]; exact hP, va_K.moved hW.alike hK, hI, hT.go hW.alike (by rw [hU]; exact hS.2.1)⟩⟩ rfl hAs hl.1 rfl (lv_room hr) d ⟨hR.2.2.1, hR.2.2.2⟩) hS (fun q _ h => h) (fun q h => h) (fun r σ' t H1 locs1 ht hvm hpost hB hz hkeep hS' => ?_)
  obtain ⟨hP1, -, -, -⟩ := hB
  rw [ht] at hP1
  exact kk r σ' hpost H1 locs1 ls hl hP1 hS'
theorem sd_callSz (C : sd_Cx X l cc own k nL D ad ca T) {y : MethodName} {b : ByteArray} {n kc' np idx : Nat} {As rest : List Value} {post : Int32 → sd_Mem → Prop} (hM : sd_Cz l y b n kc' D ad ca T σ As post) (mw : sd_MS y b n (some .boolean) np) (w : Cond.methodLink own idx y ∈ sd_gt) (hk : kc' < k) (hAs : As.length = np) (hst : stk = As.reverse ++ rest) (hr : (rest.map fun v => v.category).sum ≤ 8) (d : decode cc pc = .ok (.invokestatic idx, 3)) (kk : ∀ (r : Int32) (σ' : sd_Mem), post r σ' → sd_Wd X nL D ad ca σ' lv (pc + 3) (.int r :: rest)) : sd_Wd X nL D ad ca σ lv pc (stk) := by
  obtain ⟨p, l', e, R, s, m, args, below, meth, c, kc, ks, Q⟩ := X
  obtain ⟨rfl, hx, hb, hown, hml, hts, hR, hK, hI, hT⟩ := C
  intro H locs ls hl hP hS
  subst hst
  obtain ⟨m0, m1, m3, m4, m5, m6, m7⟩ := mw
  have hg : GoodIn sd_gt (va_wsS own idx y (.code y b n (some .boolean) :: sd_gt)) := sd_good (by intro z hz; simp only [List.mem_cons, List.not_mem_nil, or_false] at hz; rcases hz with rfl | rfl | rfl <;> assumption) m4
  refine va_calli (va_runS (As := As) (rest := rest) ⟨hx, hb, hml, hown, hts⟩ hM (va_cwS np hts hg rfl rfl rfl ⟨m5, m6, m7⟩ (sd_roomok hk m0 hR.1 hR.2.1)) ⟨fun a U g mk q => by obtain ⟨q0, qP, qK, qI, qT⟩ := q; exact ⟨q0, qP, va_K.moved (u := U) (U := U.calling g mk a) (Vm.Alike.refl U.vm) qK, qI, qT.go (U := U.calling g mk a) (Vm.Alike.refl U.vm) (fun _ _ _ => rfl)⟩, fun U hU hW => ⟨rfl, by rw [hU]; exact hP, va_K.moved hW.alike hK, hI, hT.go hW.alike (by rw [hU]; exact hS.2.1)⟩⟩ rfl hAs hl.1 rfl (lv_room hr) d ⟨hR.2.2.1, hR.2.2.2⟩) hS (fun q _ h => h) (fun q h => h) (fun r σ' t H1 locs1 ht hvm hpost hB hz hkeep hS' => ?_)
  obtain ⟨hP1, -, -, -⟩ := hB
  rw [ht] at hP1
  exact kk r σ' hpost H1 locs1 ls hl hP1 hS'
end SDR
end
section
section SDP
variable {X : sd_X} {l : Launch} {cc : ByteArray} {own : String} {k nL : Nat} {D : va_G} {ad : Nat → Nat} {ca : Nat → ClassId} {T : Nat → Nat} {σ : sd_Mem} {lv : List (Nat × Value)} {pc : Nat} {stk : List Value}
theorem sd_nb {x : Int32} (h : x.toInt = 0 ∨ x.toInt = 1) : narrow .boolean (.int x) = .int x := by rcases sd_b01 h with rfl | rfl <;> rfl
theorem sd_fb {x : Int32} (h : x.toInt = 0 ∨ x.toInt = 1) : fits .boolean (.int x) = true := by rcases sd_b01 h with rfl | rfl <;> rfl
theorem sd_pVi (C : sd_Cx X l cc own k nL D ad ca T) {y : MethodName} {b : ByteArray} {n kc' np i ci N idx : Nat} {fs : List Value} {TT : u_T} {As rest : List Value} {P : Int32 → Prop} (hM : sd_Ci l y b n kc' D ad ca T σ (.ref (ad i) :: As) (fun r σ' => σ' = σ ∧ P r)) (mw : sd_MV y b n (some .int) np) (w : Cond.methodLink own idx y ∈ sd_gt) (hi : i < 93) (hc : sd_cell ad ca i (σ i) = .inr (ci, fs)) (hcl : vwCl[ci]? = some (y.cls, TT, N)) (hk : kc' < k) (hAs : As.length = np) (hst : stk = As.reverse ++ .ref (ad i) :: rest) (hr : (rest.map fun v => v.category).sum ≤ 8) (d : decode cc pc = .ok (.invokevirtual idx, 3)) (kk : ∀ r : Int32, P r → sd_Wd X nL D ad ca σ lv (pc + 3) (.int r :: rest)) : sd_Wd X nL D ad ca σ lv pc stk :=
  sd_callVi C hM mw w hi hc hcl hk hAs hst hr d (fun r σ' h => by rw [h.1]; exact kk r h.2)
theorem sd_pVz (C : sd_Cx X l cc own k nL D ad ca T) {y : MethodName} {b : ByteArray} {n kc' np i ci N idx : Nat} {fs : List Value} {TT : u_T} {As rest : List Value} {P : Int32 → Prop} (hM : sd_Cz l y b n kc' D ad ca T σ (.ref (ad i) :: As) (fun r σ' => σ' = σ ∧ P r)) (mw : sd_MV y b n (some .boolean) np) (w : Cond.methodLink own idx y ∈ sd_gt) (hi : i < 93) (hc : sd_cell ad ca i (σ i) = .inr (ci, fs)) (hcl : vwCl[ci]? = some (y.cls, TT, N)) (hk : kc' < k) (hAs : As.length = np) (hst : stk = As.reverse ++ .ref (ad i) :: rest) (hr : (rest.map fun v => v.category).sum ≤ 8) (d : decode cc pc = .ok (.invokevirtual idx, 3)) (kk : ∀ r : Int32, P r → sd_Wd X nL D ad ca σ lv (pc + 3) (.int r :: rest)) : sd_Wd X nL D ad ca σ lv pc stk :=
  sd_callVz C hM mw w hi hc hcl hk hAs hst hr d (fun r σ' h => by rw [h.1]; exact kk r h.2)
theorem sd_pSi (C : sd_Cx X l cc own k nL D ad ca T) {y : MethodName} {b : ByteArray} {n kc' np idx : Nat} {As rest : List Value} {P : Int32 → Prop} (hM : sd_Ci l y b n kc' D ad ca T σ As (fun r σ' => σ' = σ ∧ P r)) (mw : sd_MS y b n (some .int) np) (w : Cond.methodLink own idx y ∈ sd_gt) (hk : kc' < k) (hAs : As.length = np) (hst : stk = As.reverse ++ rest) (hr : (rest.map fun v => v.category).sum ≤ 8) (d : decode cc pc = .ok (.invokestatic idx, 3)) (kk : ∀ r : Int32, P r → sd_Wd X nL D ad ca σ lv (pc + 3) (.int r :: rest)) : sd_Wd X nL D ad ca σ lv pc stk :=
  sd_callSi C hM mw w hk hAs hst hr d (fun r σ' h => by rw [h.1]; exact kk r h.2)
theorem sd_pSz (C : sd_Cx X l cc own k nL D ad ca T) {y : MethodName} {b : ByteArray} {n kc' np idx : Nat} {As rest : List Value} {P : Int32 → Prop} (hM : sd_Cz l y b n kc' D ad ca T σ As (fun r σ' => σ' = σ ∧ P r)) (mw : sd_MS y b n (some .boolean) np) (w : Cond.methodLink own idx y ∈ sd_gt) (hk : kc' < k) (hAs : As.length = np) (hst : stk = As.reverse ++ rest) (hr : (rest.map fun v => v.category).sum ≤ 8) (d : decode cc pc = .ok (.invokestatic idx, 3)) (kk : ∀ r : Int32, P r → sd_Wd X nL D ad ca σ lv (pc + 3) (.int r :: rest)) : sd_Wd X nL D ad ca σ lv pc stk :=
  sd_callSz C hM mw w hk hAs hst hr d (fun r σ' h => by rw [h.1]; exact kk r h.2)
end SDP
theorem sd_lv {X : sd_X} {nL : Nat} {D : va_G} {ad : Nat → Nat} {ca : Nat → ClassId} {σ : sd_Mem} {lv lv' : List (Nat × Value)} {pc : Nat} {stk : List Value} (kk : sd_Wd X nL D ad ca σ lv' pc stk) (ks : List Nat) (h : lv_pick lv ks = lv') : sd_Wd X nL D ad ca σ lv pc stk := by
  obtain ⟨p, l', e, R, s, m, args, below, meth, c, kc, ks', Q⟩ := X
  intro H locs ls hl hP hS
  exact kk H locs ls (lv_sub hl ks h) hP hS
theorem sd_lookD {ps : List (Int × Int)} {d x : Int} (h : ∀ q ∈ ps, x ≠ q.1) : Op.lookupswitch.offset ps d x = d := by
  induction ps with
  | nil => rfl
  | cons a l ih =>
    rw [Op.lookupswitch.offset_cons, if_neg (fun q => h a List.mem_cons_self q.symm)]
    exact ih (fun q hq => h q (List.mem_cons_of_mem _ hq))
end
section
/-! the rows of a person, as the document has them: sorted clicks, cut into sittings -/
def sp_ins (t : Nat → Int) (c : Nat) (l : List Nat) : List Nat := l.filter (fun d => decide (t d ≤ t c)) ++ c :: l.filter (fun d => decide (t c < t d))
def sp_srt (t : Nat → Int) : Nat → List Nat
  | 0 => []
  | c + 1 => sp_ins t c (sp_srt t c)
def sp_ct (p : Nat → Bool) : Nat → Nat
  | 0 => 0
  | n + 1 => sp_ct p n + if p n then 1 else 0
theorem sp_ins_mem {t : Nat → Int} {c d : Nat} {l : List Nat} : d ∈ sp_ins t c l ↔ d = c ∨ d ∈ l := by
  unfold sp_ins
  simp only [List.mem_append, List.mem_cons, List.mem_filter, decide_eq_true_eq]
  constructor
  · rintro (h | h | h)
    · exact Or.inr h.1
    · exact Or.inl h
    · exact Or.inr h.1
  · rintro (h | h)
    · exact Or.inr (Or.inl h)
    · rcases Int.lt_or_le (t c) (t d) with q | q
      · exact Or.inr (Or.inr ⟨h, q⟩)
      · exact Or.inl ⟨h, q⟩
theorem sp_srt_mem {t : Nat → Int} : ∀ {n c : Nat}, c ∈ sp_srt t n ↔ c < n
  | 0, c => by simp [sp_srt]
  | n + 1, c => by
    rw [sp_srt, sp_ins_mem, sp_srt_mem (n := n)]
    omega
theorem sp_ins_sorted {t : Nat → Int} {c : Nat} {l : List Nat} (h : l.Pairwise (fun a b => t a ≤ t b)) : (sp_ins t c l).Pairwise (fun a b => t a ≤ t b) := by
  unfold sp_ins
  refine List.pairwise_append.mpr ⟨h.filter _, List.pairwise_cons.mpr ⟨fun b hb => ?_, h.filter _⟩, fun a ha b hb => ?_⟩
  · have := (List.mem_filter.mp hb).2
    simp only [decide_eq_true_eq] at this
    omega
  · have h1 := (List.mem_filter.mp ha).2
    simp only [decide_eq_true_eq] at h1
    rcases List.mem_cons.mp hb with rfl | hb
    · exact h1
    · have h2 := (List.mem_filter.mp hb).2
      simp only [decide_eq_true_eq] at h2
      omega
theorem sp_srt_sorted {t : Nat → Int} : ∀ n : Nat, (sp_srt t n).Pairwise (fun a b => t a ≤ t b)
  | 0 => List.Pairwise.nil
  | n + 1 => sp_ins_sorted (sp_srt_sorted n)
theorem sp_split {t : Nat → Int} (x : Int) : ∀ {l : List Nat}, l.Pairwise (fun a b => t a ≤ t b) → l.filter (fun d => decide (t d ≤ x)) ++ l.filter (fun d => decide (x < t d)) = l
  | [], _ => rfl
  | a :: l, h => by
    obtain ⟨h1, h2⟩ := List.pairwise_cons.mp h
    have ih := sp_split x h2
    by_cases q : t a ≤ x
    · have q2 : ¬ x < t a := by omega
      simp only [List.filter_cons, q, q2, decide_true, decide_false, if_true, List.cons_append]
      simpa using ih
    · have q2 : x < t a := by omega
      have e1 : l.filter (fun d => decide (t d ≤ x)) = [] := by
        rw [List.filter_eq_nil_iff]
        intro b hb
        have := h1 b hb
        simp only [decide_eq_true_eq]
        omega
      have e2 : l.filter (fun d => decide (x < t d)) = l := by
        rw [List.filter_eq_self]
        intro b hb
        have := h1 b hb
        simp only [decide_eq_true_eq]
        omega
      simp only [List.filter_cons, q, q2, decide_true, decide_false, if_true, e1, e2]
      simp
theorem sp_ins_filter {t : Nat → Int} {c : Nat} {l : List Nat} (p : Nat → Bool) (h : l.Pairwise (fun a b => t a ≤ t b)) : (sp_ins t c l).filter p = if p c then sp_ins t c (l.filter p) else l.filter p := by
  unfold sp_ins
  rw [List.filter_append, List.filter_cons]
  have comm : ∀ q : Nat → Bool, (l.filter q).filter p = (l.filter p).filter q := by
    intro q
    rw [List.filter_filter, List.filter_filter]
    congr 1
    funext a
    exact Bool.and_comm _ _
  by_cases hp : p c = true
  · rw [if_pos hp, if_pos hp, comm, comm]
  · rw [if_neg hp, if_neg hp, comm, comm]
    exact sp_split (t c) (h.filter p)
def sp_gr (t : Nat → Int) (p : Nat → Bool) : Nat → List Nat
  | 0 => []
  | c + 1 => if p c then sp_ins t c (sp_gr t p c) else sp_gr t p c
theorem sp_gr_eq {t : Nat → Int} (p : Nat → Bool) : ∀ n : Nat, sp_gr t p n = (sp_srt t n).filter p
  | 0 => rfl
  | n + 1 => by
    rw [sp_gr, sp_srt, sp_ins_filter p (sp_srt_sorted n), sp_gr_eq p n]
theorem sp_ins_len {t : Nat → Int} {c : Nat} {l : List Nat} : (sp_ins t c l).length = l.length + 1 := by
  unfold sp_ins
  rw [List.length_append, List.length_cons]
  have h : ∀ l : List Nat, (l.filter (fun d => decide (t d ≤ t c))).length + (l.filter (fun d => decide (t c < t d))).length = l.length := by
    intro l
    induction l with
    | nil => rfl
    | cons a l ih =>
      by_cases q : t a ≤ t c
      · have q2 : ¬ t c < t a := by omega
        simp only [List.filter_cons, q, q2, decide_true, decide_false, if_true, List.length_cons]
        simp
        omega
      · have q2 : t c < t a := by omega
        simp only [List.filter_cons, q, q2, decide_true, decide_false, if_true, List.length_cons]
        simp
        omega
  have := h l
  omega
theorem sp_srt_len {t : Nat → Int} : ∀ n : Nat, (sp_srt t n).length = n
  | 0 => rfl
  | n + 1 => by rw [sp_srt, sp_ins_len, sp_srt_len n]
theorem sp_srt_ct {t : Nat → Int} (p : Nat → Bool) : ∀ n : Nat, ((sp_srt t n).filter p).length = sp_ct p n
  | 0 => rfl
  | n + 1 => by
    rw [sp_srt, sp_ins_filter p (sp_srt_sorted n), sp_ct, ← sp_srt_ct (t := t) p n]
    by_cases hp : p n = true
    · rw [if_pos hp, if_pos hp, sp_ins_len]
    · rw [if_neg hp, if_neg hp]; rfl
theorem sp_ct_cong {p q : Nat → Bool} : ∀ {n : Nat}, (∀ c, c < n → p c = q c) → sp_ct p n = sp_ct q n
  | 0, _ => rfl
  | n + 1, h => by rw [sp_ct, sp_ct, sp_ct_cong (n := n) (fun c hc => h c (by omega)), h n (by omega)]
theorem sp_ct_le {p : Nat → Bool} : ∀ n : Nat, sp_ct p n ≤ n
  | 0 => Nat.le_refl 0
  | n + 1 => by
    have := sp_ct_le (p := p) n
    rw [sp_ct]
    by_cases hp : p n = true
    · rw [if_pos hp]; omega
    · rw [if_neg hp]; omega
theorem sp_ins_nodup {t : Nat → Int} {c : Nat} {l : List Nat} (h : l.Nodup) (hc : c ∉ l) : (sp_ins t c l).Nodup := by
  unfold sp_ins
  refine List.pairwise_append.mpr ⟨h.filter _, List.pairwise_cons.mpr ⟨fun b hb e => ?_, h.filter _⟩, fun a ha b hb e => ?_⟩
  · subst e
    exact hc (List.mem_filter.mp hb).1
  · subst e
    rcases List.mem_cons.mp hb with e2 | hb
    · subst e2
      exact hc (List.mem_filter.mp ha).1
    · have h1 := (List.mem_filter.mp ha).2
      have h2 := (List.mem_filter.mp hb).2
      simp only [decide_eq_true_eq] at h1 h2
      omega
theorem sp_srt_nodup {t : Nat → Int} : ∀ n : Nat, (sp_srt t n).Nodup
  | 0 => List.Pairwise.nil
  | n + 1 => sp_ins_nodup (sp_srt_nodup n) (fun h => by have := sp_srt_mem.mp h; omega)
theorem sp_ins_cong {t t' : Nat → Int} {c : Nat} {l : List Nat} (hc : t c = t' c) (h : ∀ d ∈ l, t d = t' d) : sp_ins t c l = sp_ins t' c l := by
  unfold sp_ins
  rw [List.filter_congr (l := l) (q := fun d => decide (t' d ≤ t' c)) (fun d hd => by rw [h d hd, hc]), List.filter_congr (l := l) (p := fun d => decide (t c < t d)) (q := fun d => decide (t' c < t' d)) (fun d hd => by rw [h d hd, hc])]
theorem sp_srt_cong {t t' : Nat → Int} : ∀ {n : Nat}, (∀ c, c < n → t c = t' c) → sp_srt t n = sp_srt t' n
  | 0, _ => rfl
  | n + 1, h => by
    rw [sp_srt, sp_srt, ← sp_srt_cong (n := n) (fun c hc => h c (by omega))]
    exact sp_ins_cong (h n (by omega)) (fun d hd => h d (by have := sp_srt_mem.mp hd; omega))
theorem sp_take_filter {t : Nat → Int} {x : Int} : ∀ {l : List Nat} {a : Nat}, l.Pairwise (fun a b => t a ≤ t b) → a ≤ l.length → (∀ j, a ≤ j → j < l.length → x < t (l.getD j 0)) → (a = 0 ∨ t (l.getD (a - 1) 0) ≤ x) → l.filter (fun d => decide (t d ≤ x)) = l.take a ∧ l.filter (fun d => decide (x < t d)) = l.drop a
  | [], a, _, ha, _, _ => by
    have : a = 0 := by simpa using ha
    subst this
    exact ⟨rfl, rfl⟩
  | b :: l, 0, hs, _, hj, _ => by
    obtain ⟨h1, h2⟩ := List.pairwise_cons.mp hs
    have hb : x < t b := by simpa using hj 0 (Nat.le_refl 0) (by simp)
    constructor
    · rw [List.take_zero, List.filter_eq_nil_iff]
      intro d hd
      simp only [decide_eq_true_eq]
      rcases List.mem_cons.mp hd with rfl | hd
      · omega
      · have := h1 d hd; omega
    · rw [List.drop_zero, List.filter_eq_self]
      intro d hd
      simp only [decide_eq_true_eq]
      rcases List.mem_cons.mp hd with rfl | hd
      · omega
      · have := h1 d hd; omega
  | b :: l, a + 1, hs, ha, hj, hx => by
    obtain ⟨h1, h2⟩ := List.pairwise_cons.mp hs
    have ha' : a ≤ l.length := by simpa using ha
    have hb : t b ≤ x := by
      rcases hx with q | q
      · omega
      · cases a with
        | zero => simpa using q
        | succ a =>
          have e : (b :: l).getD (a + 1 + 1 - 1) 0 = l.getD a 0 := by simp
          rw [e] at q
          have hm : l.getD a 0 ∈ l := by
            rw [List.getD_eq_getElem?_getD, List.getElem?_eq_getElem (by omega)]
            simp
          have := h1 _ hm
          omega
    have ih := sp_take_filter (t := t) (x := x) (l := l) (a := a) h2 ha' (fun j q1 q2 => by simpa using hj (j + 1) (by omega) (by simpa using q2)) (by
      cases a with
      | zero => exact Or.inl rfl
      | succ a =>
        right
        rcases hx with q | q
        · omega
        · simpa using q)
    have q2 : ¬ x < t b := by omega
    constructor
    · simp only [List.filter_cons, hb, decide_true, if_true, List.take_succ_cons]
      rw [ih.1]
    · simp only [List.filter_cons, q2, decide_false, List.drop_succ_cons]
      simpa using ih.2
theorem sp_ins_at {t : Nat → Int} {c : Nat} {l : List Nat} {a : Nat} (hs : l.Pairwise (fun a b => t a ≤ t b)) (ha : a ≤ l.length) (hj : ∀ j, a ≤ j → j < l.length → t c < t (l.getD j 0)) (hx : a = 0 ∨ t (l.getD (a - 1) 0) ≤ t c) : sp_ins t c l = l.take a ++ c :: l.drop a := by
  obtain ⟨h1, h2⟩ := sp_take_filter hs ha hj hx
  unfold sp_ins
  rw [h1, h2]
theorem sp_insD {l : List Nat} {c a j : Nat} (ha : a ≤ l.length) : (l.take a ++ c :: l.drop a).getD j 0 = if j < a then l.getD j 0 else if j = a then c else l.getD (j - 1) 0 := by
  simp only [List.getD_eq_getElem?_getD]
  by_cases h1 : j < a
  · rw [if_pos h1, List.getElem?_append_left (by rw [List.length_take]; omega), List.getElem?_take_of_lt h1]
  · rw [if_neg h1, List.getElem?_append_right (by rw [List.length_take]; omega)]
    have hl : (l.take a).length = a := by rw [List.length_take]; omega
    rw [hl]
    by_cases h2 : j = a
    · subst h2
      simp
    · rw [if_neg h2]
      have e : j - a = (j - a - 1) + 1 := by omega
      rw [e, List.getElem?_cons_succ, List.getElem?_drop]
      rw [show a + (j - a - 1) = j - 1 by omega]
/-! the base: what was told -/
abbrev sp_B : Type := Nat → Nat → Int
def sp_n (β : sp_B) : Nat := (β 0 0).toNat
def sp_mine (β : sp_B) (p c : Nat) : Bool := decide (β 5 (β 2 c).toNat = (p : Int))
def sp_cnts (β : sp_B) (p c : Nat) : Bool := sp_mine β p c && decide (β 4 c = 0)
def sp_raw (β : sp_B) (p : Nat) : List Nat := (sp_srt (β 1) (sp_n β)).filter (sp_cnts β p)
def sp_quick (β : sp_B) (l : List Nat) : Bool := decide (0 < β 6 3) && (List.range l.length).any (fun i => decide (i + (β 6 3).toNat < l.length) && decide (β 1 (l.getD (i + (β 6 3).toNat) 0) - β 1 (l.getD i 0) < β 6 4))
def sp_row (β : sp_B) (p : Nat) : List Nat := if sp_quick β (sp_raw β p) then [] else sp_raw β p
def sp_owned (β : sp_B) (p : Nat) : Nat := sp_ct (sp_mine β p) (sp_n β)
def sp_cut (β : sp_B) (a b : Nat) : Bool := decide (β 1 b - β 1 a > β 6 0) || (decide (β 6 1 = 1) && decide (β 1 a / 1440 ≠ β 1 b / 1440)) || decide (β 3 a = β 6 2)
def sp_ns (β : sp_B) (l : List Nat) : Nat → Nat
  | 0 => 0
  | j + 1 => sp_ns β l j + if (decide (j = 0) || sp_cut β (l.getD (j - 1) 0) (l.getD j 0)) then 1 else 0
def sp_birth (β : sp_B) (l : List Nat) : Int := match l.find? (fun c => decide (β 3 c = β 6 5)) with
  | none => -1
  | some c => β 1 c / 10080
def sp_came (β : sp_B) (l : List Nat) (w : Int) : Bool := l.any (fun c => decide (β 1 c / 10080 = w))
def sp_pl (l : List Nat) (c : Nat) : Int := if c ∈ l then (l.idxOf c : Int) else -1
theorem sp_raw_mem {β : sp_B} {p c : Nat} (h : c ∈ sp_raw β p) : c < sp_n β ∧ sp_mine β p c = true ∧ β 4 c = 0 := by
  obtain ⟨h1, h2⟩ := List.mem_filter.mp h
  unfold sp_cnts at h2
  simp only [Bool.and_eq_true, decide_eq_true_eq] at h2
  exact ⟨sp_srt_mem.mp h1, h2.1, h2.2⟩
theorem sp_row_sub {β : sp_B} {p c : Nat} (h : c ∈ sp_row β p) : c ∈ sp_raw β p := by
  unfold sp_row at h
  split at h
  · cases h
  · exact h
theorem sp_raw_len (β : sp_B) (p : Nat) : (sp_raw β p).length ≤ sp_n β := by
  unfold sp_raw
  rw [sp_srt_ct]
  exact sp_ct_le _
theorem sp_row_len (β : sp_B) (p : Nat) : (sp_row β p).length ≤ sp_n β := by
  unfold sp_row
  split
  · exact Nat.zero_le _
  · exact sp_raw_len β p
theorem sp_getD_mem {l : List Nat} {j : Nat} (h : j < l.length) : l.getD j 0 ∈ l := by
  rw [List.getD_eq_getElem?_getD, List.getElem?_eq_getElem h]
  simp
theorem sp_raw_nodup (β : sp_B) (p : Nat) : (sp_raw β p).Nodup := (sp_srt_nodup _).filter _
theorem sp_row_nodup (β : sp_B) (p : Nat) : (sp_row β p).Nodup := by
  unfold sp_row
  split
  · exact List.Pairwise.nil
  · exact sp_raw_nodup β p
theorem sp_pl_at {l : List Nat} (hn : l.Nodup) {j : Nat} (h : j < l.length) : sp_pl l (l.getD j 0) = (j : Int) := by
  unfold sp_pl
  rw [if_pos (sp_getD_mem h)]
  have e : l.getD j 0 = l[j] := by rw [List.getD_eq_getElem?_getD, List.getElem?_eq_getElem h]; rfl
  rw [e, hn.idxOf_getElem j h]
theorem sp_pl_no {l : List Nat} {c : Nat} (h : c ∉ l) : sp_pl l c = -1 := by unfold sp_pl; rw [if_neg h]
theorem sp_ns_le (β : sp_B) (l : List Nat) : ∀ j : Nat, sp_ns β l j ≤ j
  | 0 => Nat.le_refl 0
  | j + 1 => by
    have := sp_ns_le β l j
    rw [sp_ns]
    split <;> omega
theorem sp_ns_pos (β : sp_B) (l : List Nat) : ∀ j : Nat, 1 ≤ sp_ns β l (j + 1)
  | 0 => by simp [sp_ns]
  | j + 1 => by
    have := sp_ns_pos β l j
    rw [sp_ns]
    omega
end
section
def sp_si (β : sp_B) (l : List Nat) (c : Nat) : Int := if c ∈ l then (sp_ns β l (l.idxOf c + 1) : Int) - 1 else -1
theorem sp_si_at {β : sp_B} {l : List Nat} (hn : l.Nodup) {j : Nat} (h : j < l.length) : sp_si β l (l.getD j 0) = (sp_ns β l (j + 1) : Int) - 1 := by
  unfold sp_si
  rw [if_pos (sp_getD_mem h)]
  have e : l.getD j 0 = l[j] := by rw [List.getD_eq_getElem?_getD, List.getElem?_eq_getElem h]; rfl
  rw [e, hn.idxOf_getElem j h]
theorem sp_si_no {β : sp_B} {l : List Nat} {c : Nat} (h : c ∉ l) : sp_si β l c = -1 := by unfold sp_si; rw [if_neg h]
/-- the ranges of what was told -/
def sd_RG (β : sp_B) : Prop := (0 ≤ β 0 0 ∧ β 0 0 ≤ 120 ∧ 0 ≤ β 0 1 ∧ β 0 1 ≤ 6) ∧ (∀ c, c < 120 → 0 ≤ β 1 c ∧ β 1 c ≤ 200000 ∧ 0 ≤ β 2 c ∧ β 2 c < 24 ∧ 0 ≤ β 3 c ∧ β 3 c < 8 ∧ (β 4 c = 0 ∨ β 4 c = 1)) ∧ (∀ p, p < 24 → 0 ≤ β 5 p ∧ β 5 p < 24 ∧ (β 5 p = (p : Int) ∨ (12 ≤ p ∧ β 5 p < 12))) ∧ (0 ≤ β 6 0 ∧ β 6 0 ≤ 10000 ∧ 0 ≤ β 6 1 ∧ β 6 1 ≤ 1 ∧ -1 ≤ β 6 2 ∧ β 6 2 ≤ 7 ∧ 0 ≤ β 6 3 ∧ β 6 3 ≤ 100 ∧ 1 ≤ β 6 4 ∧ β 6 4 ≤ 10000 ∧ 0 ≤ β 6 5 ∧ β 6 5 ≤ 7) ∧ (∀ f, f < 6 → 0 ≤ β 7 f ∧ β 7 f ≤ 4 ∧ (β 8 f = 0 ∨ β 8 f = 1) ∧ 0 ≤ β 9 f ∧ β 9 f ≤ 100000 ∧ -1 ≤ β 10 f ∧ β 10 f ≤ 7) ∧ (∀ k, k < 24 → 0 ≤ β 11 k ∧ β 11 k < 8)
def sd_CR (σ : sd_Mem) (β : sp_B) : Prop := ((σ 1 5).toInt = β 0 0 ∧ (σ 0 7).toInt = β 0 1) ∧ (∀ c, c < 120 → (σ 2 c).toInt = β 1 c ∧ (σ 3 c).toInt = β 2 c ∧ (σ 4 c).toInt = β 3 c ∧ (σ 5 c).toInt = β 4 c) ∧ (∀ p, p < 24 → (σ 7 p).toInt = β 5 p) ∧ (∀ j, j < 6 → (σ 8 j).toInt = β 6 j) ∧ (∀ f, f < 6 → (σ (64 + f) 1).toInt = β 7 f ∧ (σ (64 + f) 2).toInt = β 8 f ∧ (σ (64 + f) 3).toInt = β 9 f ∧ (σ (64 + f) 4).toInt = β 10 f) ∧ (∀ f j, f < 6 → j < 4 → (σ (70 + f) j).toInt = β 11 (4 * f + j))
def sd_BT (σ : sd_Mem) (β : sp_B) : Prop := ∀ i, i < sp_n β → (σ 6 i).toInt = (((sp_srt (β 1) (sp_n β)).getD i 0 : Nat) : Int)
def sd_RV (σ : sd_Mem) (q : Nat) (l : List Nat) : Prop := (σ (16 + q) 2).toInt = (l.length : Int) ∧ ∀ j, j < l.length → (σ (40 + q) j).toInt = ((l.getD j 0 : Nat) : Int)
def sd_RW (σ : sd_Mem) (β : sp_B) (q : Nat) (l : List Nat) : Prop := sd_CR σ β ∧ sd_RG β ∧ sd_RV σ q l ∧ l.length ≤ 120 ∧ ∀ j, j < l.length → l.getD j 0 < 120
def sd_LR (σ : sd_Mem) (β : sp_B) (q : Nat) : Prop := sd_RV σ q (sp_row β q) ∧ (σ (16 + q) 3).toInt = (sp_owned β q : Int) ∧ (σ (16 + q) 4).toInt = (if sp_quick β (sp_raw β q) then 1 else 0) ∧ (σ (16 + q) 5).toInt = (sp_ns β (sp_row β q) (sp_row β q).length : Int)
def sp_per (β : sp_B) (c : Nat) : Nat := (β 5 (β 2 c).toNat).toNat
def sd_LP (σ : sd_Mem) (β : sp_B) (c : Nat) : Prop := (σ 10 c).toInt = sp_pl (sp_row β (sp_per β c)) c ∧ (σ 11 c).toInt = sp_si β (sp_row β (sp_per β c)) c
def sd_LD (σ : sd_Mem) (β : sp_B) : Prop := (∀ q, q < 24 → sd_LR σ β q) ∧ ∀ c, c < sp_n β → sd_LP σ β c
def sd_MR (σ : sd_Mem) (β : sp_B) : Prop := ((σ 76 0).toInt = β 0 0 ∧ (σ 76 7).toInt = β 0 1) ∧ (∀ c, c < 120 → (σ 77 c).toInt = β 1 c ∧ (σ 78 c).toInt = β 2 c ∧ (σ 79 c).toInt = β 3 c ∧ (σ 80 c).toInt = β 4 c) ∧ (∀ p, p < 24 → ((σ 81 p).toInt = -1 ∧ β 5 p = (p : Int)) ∨ ((σ 81 p).toInt = β 5 p ∧ 12 ≤ p ∧ 0 ≤ β 5 p ∧ β 5 p < 12)) ∧ (∀ j, j < 6 → (σ 82 j).toInt = β 6 j) ∧ (∀ f, f < 6 → (σ 83 f).toInt = β 8 f ∧ (σ 84 f).toInt = β 9 f ∧ (σ 85 f).toInt = β 10 f ∧ (σ 86 f).toInt = β 7 f) ∧ (∀ k, k < 24 → (σ 87 k).toInt = β 11 k)
theorem sp_n_le {β : sp_B} (h : sd_RG β) : sp_n β ≤ 120 ∧ ((sp_n β : Nat) : Int) = β 0 0 := by
  obtain ⟨⟨h1, h2, -⟩, -⟩ := h
  unfold sp_n
  omega
theorem sp_row_ok {β : sp_B} (h : sd_RG β) (p : Nat) : (sp_row β p).length ≤ 120 ∧ ∀ j, j < (sp_row β p).length → (sp_row β p).getD j 0 < 120 := by
  have h1 := sp_n_le h
  have h2 := sp_row_len β p
  refine ⟨by omega, fun j hj => ?_⟩
  have h3 := (sp_raw_mem (sp_row_sub (sp_getD_mem hj))).1
  omega
theorem sp_raw_ok {β : sp_B} (h : sd_RG β) (p : Nat) : (sp_raw β p).length ≤ 120 ∧ ∀ j, j < (sp_raw β p).length → (sp_raw β p).getD j 0 < 120 := by
  have h1 := sp_n_le h
  have h2 := sp_raw_len β p
  refine ⟨by omega, fun j hj => ?_⟩
  have h3 := (sp_raw_mem (sp_getD_mem hj)).1
  omega
theorem sd_LR.rw {σ : sd_Mem} {β : sp_B} {q : Nat} (h : sd_LR σ β q) (hC : sd_CR σ β) (hG : sd_RG β) : sd_RW σ β q (sp_row β q) := ⟨hC, hG, h.1, sp_row_ok hG q⟩
/-- at a place of a row -/
theorem sd_RW.at {σ : sd_Mem} {β : sp_B} {q : Nat} {l : List Nat} (h : sd_RW σ β q l) {j : Nat} (hj : j < l.length) : (σ (40 + q) j).toInt.toNat = l.getD j 0 ∧ l.getD j 0 < 120 ∧ 0 ≤ (σ (40 + q) j).toInt ∧ (σ (40 + q) j).toInt < 120 ∧ (σ 2 (l.getD j 0)).toInt = β 1 (l.getD j 0) ∧ (σ 4 (l.getD j 0)).toInt = β 3 (l.getD j 0) ∧ 0 ≤ β 1 (l.getD j 0) ∧ β 1 (l.getD j 0) ≤ 200000 ∧ 0 ≤ β 3 (l.getD j 0) ∧ β 3 (l.getD j 0) < 8 := by
  obtain ⟨hC, hG, hV, hL, hB⟩ := h
  have h1 := hV.2 j hj
  have h2 := hB j hj
  have h3 := hC.2.1 _ h2
  have h4 := hG.2.1 _ h2
  refine ⟨by omega, h2, by omega, by omega, h3.1, h3.2.2.1, h4.1, h4.2.1, h4.2.2.2.2.1, h4.2.2.2.2.2.1⟩
theorem sp_find_none {p : Nat → Bool} {l : List Nat} (h : ∀ j, j < l.length → p (l.getD j 0) = false) : l.find? p = none := by
  rw [List.find?_eq_none]
  intro x hx
  obtain ⟨i, hi, rfl⟩ := List.getElem_of_mem hx
  have := h i hi
  rw [List.getD_eq_getElem?_getD, List.getElem?_eq_getElem hi] at this
  simpa using this
theorem sp_find_some {p : Nat → Bool} : ∀ {l : List Nat} {i : Nat}, i < l.length → p (l.getD i 0) = true → (∀ j, j < i → p (l.getD j 0) = false) → l.find? p = some (l.getD i 0)
  | [], i, hi, _, _ => by simp at hi
  | a :: l, 0, _, h, _ => by
    have h' : p a = true := by simpa using h
    simp [List.find?_cons, h']
  | a :: l, i + 1, hi, h, hj => by
    have h0 : p a = false := by simpa using hj 0 (by omega)
    rw [List.find?_cons, h0]
    have := sp_find_some (p := p) (l := l) (i := i) (by simpa using hi) (by simpa using h) (fun j q => by simpa using hj (j + 1) (by omega))
    simpa using this
theorem sp_birth_none {β : sp_B} {l : List Nat} (h : ∀ j, j < l.length → β 3 (l.getD j 0) ≠ β 6 5) : sp_birth β l = -1 := by
  unfold sp_birth
  rw [sp_find_none (fun j hj => by simpa using h j hj)]
theorem sp_birth_some {β : sp_B} {l : List Nat} {i : Nat} (hi : i < l.length) (h : β 3 (l.getD i 0) = β 6 5) (hj : ∀ j, j < i → β 3 (l.getD j 0) ≠ β 6 5) : sp_birth β l = β 1 (l.getD i 0) / 10080 := by
  unfold sp_birth
  rw [sp_find_some hi (by simpa using h) (fun j q => by simpa using hj j q)]
theorem sp_any_false {p : Nat → Bool} {l : List Nat} (h : ∀ j, j < l.length → p (l.getD j 0) = false) : l.any p = false := by
  rw [List.any_eq_false]
  intro x hx
  obtain ⟨i, hi, rfl⟩ := List.getElem_of_mem hx
  have := h i hi
  rw [List.getD_eq_getElem?_getD, List.getElem?_eq_getElem hi] at this
  simpa using this
theorem sp_any_true {p : Nat → Bool} {l : List Nat} {i : Nat} (hi : i < l.length) (h : p (l.getD i 0) = true) : l.any p = true := List.any_eq_true.mpr ⟨_, sp_getD_mem hi, h⟩
theorem sp_came_true {β : sp_B} {l : List Nat} {w : Int} {i : Nat} (hi : i < l.length) (h : β 1 (l.getD i 0) / 10080 = w) : sp_came β l w = true := sp_any_true hi (by simpa using h)
theorem sp_came_false {β : sp_B} {l : List Nat} {w : Int} (h : ∀ j, j < l.length → β 1 (l.getD j 0) / 10080 ≠ w) : sp_came β l w = false := sp_any_false (fun j hj => by simpa using h j hj)
theorem sp_quick_zero {β : sp_B} {l : List Nat} (h : β 6 3 ≤ 0) : sp_quick β l = false := by
  unfold sp_quick
  have : ¬ 0 < β 6 3 := by omega
  simp [this]
theorem sp_quick_true {β : sp_B} {l : List Nat} {r i : Nat} (hr : β 6 3 = (r : Int)) (h0 : 0 < r) (hi : i + r < l.length) (h : β 1 (l.getD (i + r) 0) - β 1 (l.getD i 0) < β 6 4) : sp_quick β l = true := by
  unfold sp_quick
  have e : (β 6 3).toNat = r := by omega
  rw [e, Bool.and_eq_true]
  refine ⟨by simp only [decide_eq_true_eq]; omega, List.any_eq_true.mpr ⟨i, List.mem_range.mpr (by omega), ?_⟩⟩
  simp only [Bool.and_eq_true, decide_eq_true_eq]
  exact ⟨hi, h⟩
theorem sp_quick_false {β : sp_B} {l : List Nat} {r : Nat} (hr : β 6 3 = (r : Int)) (h : ∀ i, i + r < l.length → ¬ (β 1 (l.getD (i + r) 0) - β 1 (l.getD i 0) < β 6 4)) : sp_quick β l = false := by
  unfold sp_quick
  have e : (β 6 3).toNat = r := by omega
  rw [e, Bool.and_eq_false_iff]
  right
  rw [List.any_eq_false]
  intro i _
  simp only [Bool.and_eq_true, decide_eq_true_eq]
  exact fun q => h i q.1 q.2
end
section
set_option maxRecDepth 20000 in
set_option maxHeartbeats 4000000 in
theorem c_X4_isWho (l : Launch) (D : va_G) (ad : Nat → Nat) (ca : Nat → ClassId) (T : Nat → Nat) (σ : sd_Mem) (x : Int32) : sd_Cz l yX4_isWho cX4_isWho 1 0 D ad ca T σ [.int x] (fun r σ' => σ' = σ ∧ ((r.toInt = 1 ∧ 0 ≤ x.toInt ∧ x.toInt < 24) ∨ (r.toInt = 0 ∧ (x.toInt < 0 ∨ 24 ≤ x.toInt)))) := by
  refine sd_ent_z (own := RX4) (by decide) rfl (Nat.le_of_ble_eq_true rfl) (fun X C hret => ?_)
  show sd_Wd X 1 D ad ca σ [(0, .int x)] 0 []
  refine sd_iload_n C dX4_isWho_0 0 rfl rfl ?_
  refine sd_if_lt C 14 dX4_isWho_1 (by decide) (fun c1 => ?_) (fun c1 => ?_)
  · refine sd_iconst C dX4_isWho_14 (by decide) (fun k14 ek14 => ?_)
    exact hret _ _ _ _ dX4_isWho_15 (by omega) (⟨rfl, by omega⟩)
  · refine sd_iload_n C dX4_isWho_4 0 rfl rfl ?_
    refine sd_bipush C dX4_isWho_5 (by decide) (fun k5 ek5 => ?_)
    refine sd_icmp_ge C 14 dX4_isWho_7 (by decide) (fun c7 => ?_) (fun c7 => ?_)
    · refine sd_iconst C dX4_isWho_14 (by decide) (fun k14 ek14 => ?_)
      exact hret _ _ _ _ dX4_isWho_15 (by omega) (⟨rfl, by omega⟩)
    · refine sd_iconst C dX4_isWho_10 (by decide) (fun k10 ek10 => ?_)
      refine sd_goto C 15 dX4_isWho_11 (by decide) ?_
      exact hret _ _ _ _ dX4_isWho_15 (by omega) (⟨rfl, by omega⟩)

set_option maxRecDepth 20000 in
set_option maxHeartbeats 4000000 in
theorem c_X4_isName (l : Launch) (D : va_G) (ad : Nat → Nat) (ca : Nat → ClassId) (T : Nat → Nat) (σ : sd_Mem) (x : Int32) : sd_Cz l yX4_isName cX4_isName 1 0 D ad ca T σ [.int x] (fun r σ' => σ' = σ ∧ ((r.toInt = 1 ∧ 0 ≤ x.toInt ∧ x.toInt < 12) ∨ (r.toInt = 0 ∧ (x.toInt < 0 ∨ 12 ≤ x.toInt)))) := by
  refine sd_ent_z (own := RX4) (by decide) rfl (Nat.le_of_ble_eq_true rfl) (fun X C hret => ?_)
  show sd_Wd X 1 D ad ca σ [(0, .int x)] 0 []
  refine sd_iload_n C dX4_isName_0 0 rfl rfl ?_
  refine sd_if_lt C 14 dX4_isName_1 (by decide) (fun c1 => ?_) (fun c1 => ?_)
  · refine sd_iconst C dX4_isName_14 (by decide) (fun k14 ek14 => ?_)
    exact hret _ _ _ _ dX4_isName_15 (by omega) (⟨rfl, by omega⟩)
  · refine sd_iload_n C dX4_isName_4 0 rfl rfl ?_
    refine sd_bipush C dX4_isName_5 (by decide) (fun k5 ek5 => ?_)
    refine sd_icmp_ge C 14 dX4_isName_7 (by decide) (fun c7 => ?_) (fun c7 => ?_)
    · refine sd_iconst C dX4_isName_14 (by decide) (fun k14 ek14 => ?_)
      exact hret _ _ _ _ dX4_isName_15 (by omega) (⟨rfl, by omega⟩)
    · refine sd_iconst C dX4_isName_10 (by decide) (fun k10 ek10 => ?_)
      refine sd_goto C 15 dX4_isName_11 (by decide) ?_
      exact hret _ _ _ _ dX4_isName_15 (by omega) (⟨rfl, by omega⟩)

set_option maxRecDepth 20000 in
set_option maxHeartbeats 4000000 in
theorem c_X4_isSort (l : Launch) (D : va_G) (ad : Nat → Nat) (ca : Nat → ClassId) (T : Nat → Nat) (σ : sd_Mem) (x : Int32) : sd_Cz l yX4_isSort cX4_isSort 1 0 D ad ca T σ [.int x] (fun r σ' => σ' = σ ∧ ((r.toInt = 1 ∧ 0 ≤ x.toInt ∧ x.toInt < 8) ∨ (r.toInt = 0 ∧ (x.toInt < 0 ∨ 8 ≤ x.toInt)))) := by
  refine sd_ent_z (own := RX4) (by decide) rfl (Nat.le_of_ble_eq_true rfl) (fun X C hret => ?_)
  show sd_Wd X 1 D ad ca σ [(0, .int x)] 0 []
  refine sd_iload_n C dX4_isSort_0 0 rfl rfl ?_
  refine sd_if_lt C 14 dX4_isSort_1 (by decide) (fun c1 => ?_) (fun c1 => ?_)
  · refine sd_iconst C dX4_isSort_14 (by decide) (fun k14 ek14 => ?_)
    exact hret _ _ _ _ dX4_isSort_15 (by omega) (⟨rfl, by omega⟩)
  · refine sd_iload_n C dX4_isSort_4 0 rfl rfl ?_
    refine sd_bipush C dX4_isSort_5 (by decide) (fun k5 ek5 => ?_)
    refine sd_icmp_ge C 14 dX4_isSort_7 (by decide) (fun c7 => ?_) (fun c7 => ?_)
    · refine sd_iconst C dX4_isSort_14 (by decide) (fun k14 ek14 => ?_)
      exact hret _ _ _ _ dX4_isSort_15 (by omega) (⟨rfl, by omega⟩)
    · refine sd_iconst C dX4_isSort_10 (by decide) (fun k10 ek10 => ?_)
      refine sd_goto C 15 dX4_isSort_11 (by decide) ?_
      exact hret _ _ _ _ dX4_isSort_15 (by omega) (⟨rfl, by omega⟩)

set_option maxRecDepth 20000 in
set_option maxHeartbeats 4000000 in
theorem c_X4_isWeek (l : Launch) (D : va_G) (ad : Nat → Nat) (ca : Nat → ClassId) (T : Nat → Nat) (σ : sd_Mem) (x : Int32) : sd_Cz l yX4_isWeek cX4_isWeek 1 0 D ad ca T σ [.int x] (fun r σ' => σ' = σ ∧ ((r.toInt = 1 ∧ 0 ≤ x.toInt ∧ x.toInt < 20) ∨ (r.toInt = 0 ∧ (x.toInt < 0 ∨ 20 ≤ x.toInt)))) := by
  refine sd_ent_z (own := RX4) (by decide) rfl (Nat.le_of_ble_eq_true rfl) (fun X C hret => ?_)
  show sd_Wd X 1 D ad ca σ [(0, .int x)] 0 []
  refine sd_iload_n C dX4_isWeek_0 0 rfl rfl ?_
  refine sd_if_lt C 14 dX4_isWeek_1 (by decide) (fun c1 => ?_) (fun c1 => ?_)
  · refine sd_iconst C dX4_isWeek_14 (by decide) (fun k14 ek14 => ?_)
    exact hret _ _ _ _ dX4_isWeek_15 (by omega) (⟨rfl, by omega⟩)
  · refine sd_iload_n C dX4_isWeek_4 0 rfl rfl ?_
    refine sd_bipush C dX4_isWeek_5 (by decide) (fun k5 ek5 => ?_)
    refine sd_icmp_ge C 14 dX4_isWeek_7 (by decide) (fun c7 => ?_) (fun c7 => ?_)
    · refine sd_iconst C dX4_isWeek_14 (by decide) (fun k14 ek14 => ?_)
      exact hret _ _ _ _ dX4_isWeek_15 (by omega) (⟨rfl, by omega⟩)
    · refine sd_iconst C dX4_isWeek_10 (by decide) (fun k10 ek10 => ?_)
      refine sd_goto C 15 dX4_isWeek_11 (by decide) ?_
      exact hret _ _ _ _ dX4_isWeek_15 (by omega) (⟨rfl, by omega⟩)

set_option maxRecDepth 20000 in
set_option maxHeartbeats 4000000 in
theorem c_X4_bit (l : Launch) (D : va_G) (ad : Nat → Nat) (ca : Nat → ClassId) (T : Nat → Nat) (σ : sd_Mem) (x : Int32) : sd_Ci l yX4_bit cX4_bit 1 0 D ad ca T σ [.int x] (fun r σ' => σ' = σ ∧ ((r.toInt = 1 ∧ x.toInt ≠ 0) ∨ (r.toInt = 0 ∧ x.toInt = 0))) := by
  refine sd_ent_i (own := RX4) (by decide) rfl (Nat.le_of_ble_eq_true rfl) (fun X C hret => ?_)
  show sd_Wd X 1 D ad ca σ [(0, .int x)] 0 []
  refine sd_iload_n C dX4_bit_0 0 rfl rfl ?_
  refine sd_if_eq C 8 dX4_bit_1 (by decide) (fun c1 => ?_) (fun c1 => ?_)
  · refine sd_iconst C dX4_bit_8 (by decide) (fun k8 ek8 => ?_)
    exact hret _ _ _ _ dX4_bit_9 (⟨rfl, by omega⟩)
  · refine sd_iconst C dX4_bit_4 (by decide) (fun k4 ek4 => ?_)
    refine sd_goto C 9 dX4_bit_5 (by decide) ?_
    exact hret _ _ _ _ dX4_bit_9 (⟨rfl, by omega⟩)

set_option maxRecDepth 20000 in
set_option maxHeartbeats 4000000 in
theorem c_X4_isFunnel (l : Launch) (D : va_G) (ad : Nat → Nat) (ca : Nat → ClassId) (T : Nat → Nat) (σ : sd_Mem) (x : Int32) : sd_Cz l yX4_isFunnel cX4_isFunnel 2 0 D ad ca T σ [.ref (ad 0), .int x] (fun r σ' => σ' = σ ∧ ((r.toInt = 1 ∧ 0 ≤ x.toInt ∧ x.toInt < (σ 0 7).toInt) ∨ (r.toInt = 0 ∧ (x.toInt < 0 ∨ (σ 0 7).toInt ≤ x.toInt)))) := by
  refine sd_ent_z (own := RX4) (by decide) rfl (Nat.le_of_ble_eq_true rfl) (fun X C hret => ?_)
  show sd_Wd X 2 D ad ca σ [(0, .ref (ad 0)), (1, .int x)] 0 []
  refine sd_iload_n C dX4_isFunnel_0 1 rfl rfl ?_
  refine sd_if_lt C 16 dX4_isFunnel_1 (by decide) (fun c1 => ?_) (fun c1 => ?_)
  · refine sd_iconst C dX4_isFunnel_16 (by decide) (fun k16 ek16 => ?_)
    exact hret _ _ _ _ dX4_isFunnel_17 (by omega) (⟨rfl, by omega⟩)
  · refine sd_iload_n C dX4_isFunnel_4 1 rfl rfl ?_
    refine sd_aload_n C dX4_isFunnel_5 0 rfl rfl ?_
    refine sd_get C (by decide) rfl rfl 7 (by decide) rfl wf_X4_45 dX4_isFunnel_6 ?_
    refine sd_icmp_ge C 16 dX4_isFunnel_9 (by decide) (fun c9 => ?_) (fun c9 => ?_)
    · refine sd_iconst C dX4_isFunnel_16 (by decide) (fun k16 ek16 => ?_)
      exact hret _ _ _ _ dX4_isFunnel_17 (by omega) (⟨rfl, by omega⟩)
    · refine sd_iconst C dX4_isFunnel_12 (by decide) (fun k12 ek12 => ?_)
      refine sd_goto C 17 dX4_isFunnel_13 (by decide) ?_
      exact hret _ _ _ _ dX4_isFunnel_17 (by omega) (⟨rfl, by omega⟩)

set_option maxRecDepth 20000 in
set_option maxHeartbeats 4000000 in
theorem c_X4_isJoined (l : Launch) (D : va_G) (ad : Nat → Nat) (ca : Nat → ClassId) (T : Nat → Nat) (σ : sd_Mem) (x : Int32) (h0 : 0 ≤ x.toInt) (h1 : x.toInt < 24) : sd_Cz l yX4_isJoined cX4_isJoined 2 0 D ad ca T σ [.ref (ad 0), .int x] (fun r σ' => σ' = σ ∧ ((r.toInt = 1 ∧ (σ 7 x.toInt.toNat).toInt ≠ x.toInt) ∨ (r.toInt = 0 ∧ (σ 7 x.toInt.toNat).toInt = x.toInt))) := by
  refine sd_ent_z (own := RX4) (by decide) rfl (Nat.le_of_ble_eq_true rfl) (fun X C hret => ?_)
  show sd_Wd X 2 D ad ca σ [(0, .ref (ad 0)), (1, .int x)] 0 []
  refine sd_aload_n C dX4_isJoined_0 0 rfl rfl ?_
  refine sd_get C (by decide) rfl rfl 1 (by decide) rfl wf_X4_16 dX4_isJoined_1 ?_
  refine sd_iload_n C dX4_isJoined_4 1 rfl rfl ?_
  refine sd_iald C (by decide) rfl (x.toInt.toNat) ⟨by omega, by omega⟩ dX4_isJoined_5 ?_
  refine sd_iload_n C dX4_isJoined_6 1 rfl rfl ?_
  refine sd_icmp_eq C 14 dX4_isJoined_7 (by decide) (fun c7 => ?_) (fun c7 => ?_)
  · refine sd_iconst C dX4_isJoined_14 (by decide) (fun k14 ek14 => ?_)
    exact hret _ _ _ _ dX4_isJoined_15 (by omega) (⟨rfl, by omega⟩)
  · refine sd_iconst C dX4_isJoined_10 (by decide) (fun k10 ek10 => ?_)
    refine sd_goto C 15 dX4_isJoined_11 (by decide) ?_
    exact hret _ _ _ _ dX4_isJoined_15 (by omega) (⟨rfl, by omega⟩)

set_option maxRecDepth 20000 in
set_option maxHeartbeats 4000000 in
theorem c_X0_has (l : Launch) (D : va_G) (ad : Nat → Nat) (ca : Nat → ClassId) (T : Nat → Nat) (σ : sd_Mem) (x : Int32) : sd_Cz l yX0_has cX0_has 2 0 D ad ca T σ [.ref (ad 1), .int x] (fun r σ' => σ' = σ ∧ ((r.toInt = 1 ∧ 0 ≤ x.toInt ∧ x.toInt < (σ 1 5).toInt) ∨ (r.toInt = 0 ∧ (x.toInt < 0 ∨ (σ 1 5).toInt ≤ x.toInt)))) := by
  refine sd_ent_z (own := RX0) (by decide) rfl (Nat.le_of_ble_eq_true rfl) (fun X C hret => ?_)
  show sd_Wd X 2 D ad ca σ [(0, .ref (ad 1)), (1, .int x)] 0 []
  refine sd_iload_n C dX0_has_0 1 rfl rfl ?_
  refine sd_if_lt C 16 dX0_has_1 (by decide) (fun c1 => ?_) (fun c1 => ?_)
  · refine sd_iconst C dX0_has_16 (by decide) (fun k16 ek16 => ?_)
    exact hret _ _ _ _ dX0_has_17 (by omega) (⟨rfl, by omega⟩)
  · refine sd_iload_n C dX0_has_4 1 rfl rfl ?_
    refine sd_aload_n C dX0_has_5 0 rfl rfl ?_
    refine sd_get C (by decide) rfl rfl 5 (by decide) rfl wf_X0_28 dX0_has_6 ?_
    refine sd_icmp_ge C 16 dX0_has_9 (by decide) (fun c9 => ?_) (fun c9 => ?_)
    · refine sd_iconst C dX0_has_16 (by decide) (fun k16 ek16 => ?_)
      exact hret _ _ _ _ dX0_has_17 (by omega) (⟨rfl, by omega⟩)
    · refine sd_iconst C dX0_has_12 (by decide) (fun k12 ek12 => ?_)
      refine sd_goto C 17 dX0_has_13 (by decide) ?_
      exact hret _ _ _ _ dX0_has_17 (by omega) (⟨rfl, by omega⟩)

set_option maxRecDepth 20000 in
set_option maxHeartbeats 4000000 in
theorem c_X2_has (l : Launch) (D : va_G) (ad : Nat → Nat) (ca : Nat → ClassId) (T : Nat → Nat) (σ : sd_Mem) (q : Nat) (hq : q < 24) (x : Int32) : sd_Cz l yX2_has cX2_has 2 0 D ad ca T σ [.ref (ad (16 + q)), .int x] (fun r σ' => σ' = σ ∧ ((r.toInt = 1 ∧ 0 ≤ x.toInt ∧ x.toInt < (σ (16 + q) 2).toInt) ∨ (r.toInt = 0 ∧ (x.toInt < 0 ∨ (σ (16 + q) 2).toInt ≤ x.toInt)))) := by
  refine sd_ent_z (own := RX2) (by decide) rfl (Nat.le_of_ble_eq_true rfl) (fun X C hret => ?_)
  show sd_Wd X 2 D ad ca σ [(0, .ref (ad (16 + q))), (1, .int x)] 0 []
  refine sd_iload_n C dX2_has_0 1 rfl rfl ?_
  refine sd_if_lt C 16 dX2_has_1 (by decide) (fun c1 => ?_) (fun c1 => ?_)
  · refine sd_iconst C dX2_has_16 (by decide) (fun k16 ek16 => ?_)
    exact hret _ _ _ _ dX2_has_17 (by omega) (⟨rfl, by omega⟩)
  · refine sd_iload_n C dX2_has_4 1 rfl rfl ?_
    refine sd_aload_n C dX2_has_5 0 rfl rfl ?_
    refine sd_get C (by omega) (sd_cell_row _ (by omega)) rfl 2 (by decide) rfl wf_X2_19 dX2_has_6 ?_
    refine sd_icmp_ge C 16 dX2_has_9 (by decide) (fun c9 => ?_) (fun c9 => ?_)
    · refine sd_iconst C dX2_has_16 (by decide) (fun k16 ek16 => ?_)
      exact hret _ _ _ _ dX2_has_17 (by omega) (⟨rfl, by omega⟩)
    · refine sd_iconst C dX2_has_12 (by decide) (fun k12 ek12 => ?_)
      refine sd_goto C 17 dX2_has_13 (by decide) ?_
      exact hret _ _ _ _ dX2_has_17 (by omega) (⟨rfl, by omega⟩)

set_option maxRecDepth 20000 in
set_option maxHeartbeats 4000000 in
theorem c_X2_timeAt (l : Launch) (D : va_G) (ad : Nat → Nat) (ca : Nat → ClassId) (T : Nat → Nat) (σ : sd_Mem) (β : sp_B) (q j : Nat) (l9 : List Nat) (hW : sd_RW σ β q l9) (hq : q < 24) (x : Int32) (hx : x.toInt = (j : Int)) (hj : j < l9.length) : sd_Ci l yX2_timeAt cX2_timeAt 2 1 D ad ca T σ [.ref (ad (16 + q)), .int x] (fun r σ' => σ' = σ ∧ (r.toInt = β 1 (l9.getD j 0))) := by
  refine sd_ent_i (own := RX2) (by decide) rfl (Nat.le_of_ble_eq_true rfl) (fun X C hret => ?_)
  show sd_Wd X 2 D ad ca σ [(0, .ref (ad (16 + q))), (1, .int x)] 0 []
  have hz := hW.2.2.1.1
  have hl9 := hW.2.2.2.1
  obtain ⟨a1, a2, a3, a4, a5, a6, a7, a8, a9, a10⟩ := hW.at hj
  refine sd_aload_n C dX2_timeAt_0 0 rfl rfl ?_
  refine sd_iload_n C dX2_timeAt_1 1 rfl rfl ?_
  refine sd_pVz C (c_X2_has l D ad ca T σ q hq x) mv_X2_has wm_X2_23 (by omega) (sd_cell_row _ (by omega)) rfl (by decide) rfl rfl (Nat.le_of_ble_eq_true rfl) dX2_timeAt_2 (fun r2 h2 => ?_)
  try dsimp only at h2
  refine sd_if_eq C 25 dX2_timeAt_5 (by decide) (fun c5 => ?_) (fun c5 => ?_)
  · exact absurd c5 (by omega)
  · refine sd_aload_n C dX2_timeAt_8 0 rfl rfl ?_
    refine sd_get C (by omega) (sd_cell_row _ (by omega)) rfl 0 (by decide) rfl wf_X2_15 dX2_timeAt_9 ?_
    refine sd_get C (by decide) rfl rfl 0 (by decide) rfl wf_X2_27 dX2_timeAt_12 ?_
    refine sd_aload_n C dX2_timeAt_15 0 rfl rfl ?_
    refine sd_get C (by omega) (sd_cell_row _ (by omega)) rfl 1 (by decide) rfl wf_X2_9 dX2_timeAt_16 ?_
    refine sd_iload_n C dX2_timeAt_19 1 rfl rfl ?_
    refine sd_iald C (by omega) (sd_cell_rowA _ (by omega)) (j) ⟨by omega, by omega⟩ dX2_timeAt_20 ?_
    refine sd_iald C (by decide) rfl ((σ (40 + q) (j)).toInt.toNat) ⟨by omega, by omega⟩ dX2_timeAt_21 ?_
    refine sd_goto C 26 dX2_timeAt_22 (by decide) ?_
    exact hret _ _ _ _ dX2_timeAt_26 (⟨rfl, by rw [a1]; omega⟩)

set_option maxRecDepth 20000 in
set_option maxHeartbeats 4000000 in
theorem c_X2_sortAt (l : Launch) (D : va_G) (ad : Nat → Nat) (ca : Nat → ClassId) (T : Nat → Nat) (σ : sd_Mem) (β : sp_B) (q j : Nat) (l9 : List Nat) (hW : sd_RW σ β q l9) (hq : q < 24) (x : Int32) (hx : x.toInt = (j : Int)) (hj : j < l9.length) : sd_Ci l yX2_sortAt cX2_sortAt 2 1 D ad ca T σ [.ref (ad (16 + q)), .int x] (fun r σ' => σ' = σ ∧ (r.toInt = β 3 (l9.getD j 0))) := by
  refine sd_ent_i (own := RX2) (by decide) rfl (Nat.le_of_ble_eq_true rfl) (fun X C hret => ?_)
  show sd_Wd X 2 D ad ca σ [(0, .ref (ad (16 + q))), (1, .int x)] 0 []
  have hz := hW.2.2.1.1
  have hl9 := hW.2.2.2.1
  obtain ⟨a1, a2, a3, a4, a5, a6, a7, a8, a9, a10⟩ := hW.at hj
  refine sd_aload_n C dX2_sortAt_0 0 rfl rfl ?_
  refine sd_iload_n C dX2_sortAt_1 1 rfl rfl ?_
  refine sd_pVz C (c_X2_has l D ad ca T σ q hq x) mv_X2_has wm_X2_23 (by omega) (sd_cell_row _ (by omega)) rfl (by decide) rfl rfl (Nat.le_of_ble_eq_true rfl) dX2_sortAt_2 (fun r2 h2 => ?_)
  try dsimp only at h2
  refine sd_if_eq C 25 dX2_sortAt_5 (by decide) (fun c5 => ?_) (fun c5 => ?_)
  · exact absurd c5 (by omega)
  · refine sd_aload_n C dX2_sortAt_8 0 rfl rfl ?_
    refine sd_get C (by omega) (sd_cell_row _ (by omega)) rfl 0 (by decide) rfl wf_X2_15 dX2_sortAt_9 ?_
    refine sd_get C (by decide) rfl rfl 2 (by decide) rfl wf_X2_32 dX2_sortAt_12 ?_
    refine sd_aload_n C dX2_sortAt_15 0 rfl rfl ?_
    refine sd_get C (by omega) (sd_cell_row _ (by omega)) rfl 1 (by decide) rfl wf_X2_9 dX2_sortAt_16 ?_
    refine sd_iload_n C dX2_sortAt_19 1 rfl rfl ?_
    refine sd_iald C (by omega) (sd_cell_rowA _ (by omega)) (j) ⟨by omega, by omega⟩ dX2_sortAt_20 ?_
    refine sd_iald C (by decide) rfl ((σ (40 + q) (j)).toInt.toNat) ⟨by omega, by omega⟩ dX2_sortAt_21 ?_
    refine sd_goto C 26 dX2_sortAt_22 (by decide) ?_
    exact hret _ _ _ _ dX2_sortAt_26 (⟨rfl, by rw [a1]; omega⟩)

set_option maxRecDepth 20000 in
set_option maxHeartbeats 4000000 in
theorem c_X2_isQuick (l : Launch) (D : va_G) (ad : Nat → Nat) (ca : Nat → ClassId) (T : Nat → Nat) (σ : sd_Mem) (β : sp_B) (q : Nat) (l9 : List Nat) (hW : sd_RW σ β q l9) (hq : q < 24) (x y : Int32) (hx : x.toInt = β 6 3) (hy : y.toInt = β 6 4) : sd_Cz l yX2_isQuick cX2_isQuick 4 2 D ad ca T σ [.ref (ad (16 + q)), .int x, .int y] (fun r σ' => σ' = σ ∧ ((r.toInt = 1 ∧ sp_quick β l9 = true) ∨ (r.toInt = 0 ∧ sp_quick β l9 = false))) := by
  refine sd_ent_z (own := RX2) (by decide) rfl (Nat.le_of_ble_eq_true rfl) (fun X C hret => ?_)
  show sd_Wd X 4 D ad ca σ [(0, .ref (ad (16 + q))), (1, .int x), (2, .int y)] 0 []
  have hz := hW.2.2.1.1
  have hl9 := hW.2.2.2.1
  have hru := hW.2.1.2.2.2.1
  obtain ⟨rt, hrt⟩ : ∃ rt : Nat, β 6 3 = (rt : Int) := ⟨(β 6 3).toNat, by omega⟩
  refine sd_iload_n C dX2_isQuick_0 1 rfl rfl ?_
  refine sd_if_gt C 6 dX2_isQuick_1 (by decide) (fun c1 => ?_) (fun c1 => ?_)
  · refine sd_iload_n C dX2_isQuick_6 1 rfl rfl ?_
    refine sd_istore_n (lv' := [(3, .int x), (0, .ref (ad (16 + q))), (1, .int x), (2, .int y)]) C dX2_isQuick_7 rfl (by decide) rfl ?_
    have key8 : ∀ (fu8 : Nat) (x3 : Int32) (j : Nat), (x3.toInt = (j : Int)) → (rt ≤ j ∧ (j ≤ l9.length ∨ j = rt)) → (∀ i, i + rt < j → ¬ (β 1 (l9.getD (i + rt) 0) - β 1 (l9.getD i 0) < β 6 4)) → (l9.length - j < fu8) → sd_Wd X 4 D ad ca σ [(3, .int x3), (0, .ref (ad (16 + q))), (1, .int x), (2, .int y)] 8 [] := by
      intro fu8
      induction fu8 with
      | zero => intro x3 j h3 hj hno hm8; exact absurd hm8 (Nat.not_lt_zero _)
      | succ fu8 ih8 =>
        intro x3 j h3 hj hno hm8
        refine sd_iload_n C dX2_isQuick_8 0 rfl rfl ?_
        refine sd_aload_n C dX2_isQuick_9 1 rfl rfl ?_
        refine sd_get C (by omega) (sd_cell_row _ (by omega)) rfl 2 (by decide) rfl wf_X2_19 dX2_isQuick_10 ?_
        refine sd_icmp_ge C 41 dX2_isQuick_13 (by decide) (fun c13 => ?_) (fun c13 => ?_)
        · refine sd_iconst C dX2_isQuick_41 (by decide) (fun k41 ek41 => ?_)
          exact hret _ _ _ _ dX2_isQuick_42 (by omega) (⟨rfl, Or.inr ⟨by omega, sp_quick_false hrt (fun i h => hno i (by omega))⟩⟩)
        · refine sd_aload_n C dX2_isQuick_16 1 rfl rfl ?_
          refine sd_iload_n C dX2_isQuick_17 0 rfl rfl ?_
          refine sd_pVi C (c_X2_timeAt l D ad ca T σ β q (j) l9 hW hq x3 (by omega) (by omega)) mv_X2_timeAt wm_X2_53 (by omega) (sd_cell_row _ (by omega)) rfl (by decide) rfl rfl (Nat.le_of_ble_eq_true rfl) dX2_isQuick_18 (fun r18 h18 => ?_)
          try dsimp only at h18
          refine sd_aload_n C dX2_isQuick_21 1 rfl rfl ?_
          refine sd_iload_n C dX2_isQuick_22 0 rfl rfl ?_
          refine sd_iload_n C dX2_isQuick_23 2 rfl rfl ?_
          refine sd_isub C dX2_isQuick_24 (by omega) (fun z24 ez24 => ?_)
          refine sd_pVi C (c_X2_timeAt l D ad ca T σ β q (j - rt) l9 hW hq z24 (by omega) (by omega)) mv_X2_timeAt wm_X2_53 (by omega) (sd_cell_row _ (by omega)) rfl (by decide) rfl rfl (Nat.le_of_ble_eq_true rfl) dX2_isQuick_25 (fun r25 h25 => ?_)
          try dsimp only at h25
          have b1 := hW.at (j := j) (by omega)
          have b2 := hW.at (j := j - rt) (by omega)
          refine sd_isub C dX2_isQuick_28 (by omega) (fun z28 ez28 => ?_)
          refine sd_iload_n C dX2_isQuick_29 3 rfl rfl ?_
          refine sd_icmp_ge C 35 dX2_isQuick_30 (by decide) (fun c30 => ?_) (fun c30 => ?_)
          · refine sd_iinc C dX2_isQuick_35 0 rfl (by decide) (by decide) (by omega) (fun zz => [(3, .int zz), (0, .ref (ad (16 + q))), (1, .int x), (2, .int y)]) (fun _ => rfl) (fun u35 eu35 => ?_)
            refine sd_goto C 8 dX2_isQuick_38 (by decide) ?_
            exact ih8 u35 (j + 1) (by omega) (by omega) (fun i h => by
                  by_cases e : i + rt = j
                  · have e2 : i = j - rt := by omega
                    subst e2; rw [e]; omega
                  · exact hno i (by omega)) (by omega)
          · refine sd_iconst C dX2_isQuick_33 (by decide) (fun k33 ek33 => ?_)
            exact hret _ _ _ _ dX2_isQuick_34 (by omega) (⟨rfl, Or.inl ⟨by omega, sp_quick_true (i := j - rt) hrt (by omega) (by omega) (by rw [show j - rt + rt = j by omega]; omega)⟩⟩)
    exact key8 _ x rt (by omega) (by omega) (fun i h => by omega) (Nat.lt_succ_self _)
  · refine sd_iconst C dX2_isQuick_4 (by decide) (fun k4 ek4 => ?_)
    exact hret _ _ _ _ dX2_isQuick_5 (by omega) (⟨rfl, Or.inr ⟨by omega, sp_quick_zero (by omega)⟩⟩)

set_option maxRecDepth 20000 in
set_option maxHeartbeats 4000000 in
theorem c_X2_birth (l : Launch) (D : va_G) (ad : Nat → Nat) (ca : Nat → ClassId) (T : Nat → Nat) (σ : sd_Mem) (β : sp_B) (q : Nat) (l9 : List Nat) (hW : sd_RW σ β q l9) (hq : q < 24) (x : Int32) (hx : x.toInt = β 6 5) : sd_Ci l yX2_birth cX2_birth 3 2 D ad ca T σ [.ref (ad (16 + q)), .int x] (fun r σ' => σ' = σ ∧ (r.toInt = sp_birth β l9)) := by
  refine sd_ent_i (own := RX2) (by decide) rfl (Nat.le_of_ble_eq_true rfl) (fun X C hret => ?_)
  show sd_Wd X 3 D ad ca σ [(0, .ref (ad (16 + q))), (1, .int x)] 0 []
  have hz := hW.2.2.1.1
  have hl9 := hW.2.2.2.1
  refine sd_iconst C dX2_birth_0 (by decide) (fun k0 ek0 => ?_)
  refine sd_istore_n (lv' := [(2, .int k0), (0, .ref (ad (16 + q))), (1, .int x)]) C dX2_birth_1 rfl (by decide) rfl ?_
  have key2 : ∀ (fu2 : Nat) (x2 : Int32) (j : Nat), (x2.toInt = (j : Int)) → (j ≤ l9.length) → (∀ i, i < j → β 3 (l9.getD i 0) ≠ β 6 5) → (l9.length - j < fu2) → sd_Wd X 3 D ad ca σ [(2, .int x2), (0, .ref (ad (16 + q))), (1, .int x)] 2 [] := by
    intro fu2
    induction fu2 with
    | zero => intro x2 j h2 hj hno hm2; exact absurd hm2 (Nat.not_lt_zero _)
    | succ fu2 ih2 =>
      intro x2 j h2 hj hno hm2
      refine sd_iload_n C dX2_birth_2 0 rfl rfl ?_
      refine sd_aload_n C dX2_birth_3 1 rfl rfl ?_
      refine sd_get C (by omega) (sd_cell_row _ (by omega)) rfl 2 (by decide) rfl wf_X2_19 dX2_birth_4 ?_
      refine sd_icmp_ge C 35 dX2_birth_7 (by decide) (fun c7 => ?_) (fun c7 => ?_)
      · refine sd_iconst C dX2_birth_35 (by decide) (fun k35 ek35 => ?_)
        exact hret _ _ _ _ dX2_birth_36 (⟨rfl, by rw [sp_birth_none (fun i h => hno i (by omega))]; omega⟩)
      · refine sd_aload_n C dX2_birth_10 1 rfl rfl ?_
        refine sd_iload_n C dX2_birth_11 0 rfl rfl ?_
        refine sd_pVi C (c_X2_sortAt l D ad ca T σ β q (j) l9 hW hq x2 (by omega) (by omega)) mv_X2_sortAt wm_X2_57 (by omega) (sd_cell_row _ (by omega)) rfl (by decide) rfl rfl (Nat.le_of_ble_eq_true rfl) dX2_birth_12 (fun r12 h12 => ?_)
        try dsimp only at h12
        refine sd_iload_n C dX2_birth_15 2 rfl rfl ?_
        refine sd_icmp_ne C 29 dX2_birth_16 (by decide) (fun c16 => ?_) (fun c16 => ?_)
        · refine sd_iinc C dX2_birth_29 0 rfl (by decide) (by decide) (by omega) (fun zz => [(2, .int zz), (0, .ref (ad (16 + q))), (1, .int x)]) (fun _ => rfl) (fun u29 eu29 => ?_)
          refine sd_goto C 2 dX2_birth_32 (by decide) ?_
          exact ih2 u29 (j + 1) (by omega) (by omega) (fun i h => by
                by_cases e : i = j
                · subst e; omega
                · exact hno i (by omega)) (by omega)
        · refine sd_aload_n C dX2_birth_19 1 rfl rfl ?_
          refine sd_iload_n C dX2_birth_20 0 rfl rfl ?_
          refine sd_pVi C (c_X2_timeAt l D ad ca T σ β q (j) l9 hW hq x2 (by omega) (by omega)) mv_X2_timeAt wm_X2_53 (by omega) (sd_cell_row _ (by omega)) rfl (by decide) rfl rfl (Nat.le_of_ble_eq_true rfl) dX2_birth_21 (fun r21 h21 => ?_)
          try dsimp only at h21
          refine sd_sipush C dX2_birth_24 (by decide) (fun k24 ek24 => ?_)
          have b1 := hW.at (j := j) (by omega)
          refine sd_idiv C 10080 (by decide) dX2_birth_27 ek24 (by omega) (fun z27 ez27 => ?_)
          exact hret _ _ _ _ dX2_birth_28 (⟨rfl, by rw [sp_birth_some (i := j) (by omega) (by omega) hno]; omega⟩)
  exact key2 _ k0 0 (by omega) (by omega) (fun i h => by omega) (Nat.lt_succ_self _)

set_option maxRecDepth 20000 in
set_option maxHeartbeats 4000000 in
theorem c_X2_isIn (l : Launch) (D : va_G) (ad : Nat → Nat) (ca : Nat → ClassId) (T : Nat → Nat) (σ : sd_Mem) (β : sp_B) (q : Nat) (l9 : List Nat) (hW : sd_RW σ β q l9) (hq : q < 24) (x : Int32) : sd_Cz l yX2_isIn cX2_isIn 3 2 D ad ca T σ [.ref (ad (16 + q)), .int x] (fun r σ' => σ' = σ ∧ ((r.toInt = 1 ∧ sp_came β l9 x.toInt = true) ∨ (r.toInt = 0 ∧ sp_came β l9 x.toInt = false))) := by
  refine sd_ent_z (own := RX2) (by decide) rfl (Nat.le_of_ble_eq_true rfl) (fun X C hret => ?_)
  show sd_Wd X 3 D ad ca σ [(0, .ref (ad (16 + q))), (1, .int x)] 0 []
  have hz := hW.2.2.1.1
  have hl9 := hW.2.2.2.1
  refine sd_iconst C dX2_isIn_0 (by decide) (fun k0 ek0 => ?_)
  refine sd_istore_n (lv' := [(2, .int k0), (0, .ref (ad (16 + q))), (1, .int x)]) C dX2_isIn_1 rfl (by decide) rfl ?_
  have key2 : ∀ (fu2 : Nat) (x2 : Int32) (j : Nat), (x2.toInt = (j : Int)) → (j ≤ l9.length) → (∀ i, i < j → β 1 (l9.getD i 0) / 10080 ≠ x.toInt) → (l9.length - j < fu2) → sd_Wd X 3 D ad ca σ [(2, .int x2), (0, .ref (ad (16 + q))), (1, .int x)] 2 [] := by
    intro fu2
    induction fu2 with
    | zero => intro x2 j h2 hj hno hm2; exact absurd hm2 (Nat.not_lt_zero _)
    | succ fu2 ih2 =>
      intro x2 j h2 hj hno hm2
      refine sd_iload_n C dX2_isIn_2 0 rfl rfl ?_
      refine sd_aload_n C dX2_isIn_3 1 rfl rfl ?_
      refine sd_get C (by omega) (sd_cell_row _ (by omega)) rfl 2 (by decide) rfl wf_X2_19 dX2_isIn_4 ?_
      refine sd_icmp_ge C 31 dX2_isIn_7 (by decide) (fun c7 => ?_) (fun c7 => ?_)
      · refine sd_iconst C dX2_isIn_31 (by decide) (fun k31 ek31 => ?_)
        exact hret _ _ _ _ dX2_isIn_32 (by omega) (⟨rfl, Or.inr ⟨by omega, sp_came_false (fun i h => hno i (by omega))⟩⟩)
      · refine sd_aload_n C dX2_isIn_10 1 rfl rfl ?_
        refine sd_iload_n C dX2_isIn_11 0 rfl rfl ?_
        refine sd_pVi C (c_X2_timeAt l D ad ca T σ β q (j) l9 hW hq x2 (by omega) (by omega)) mv_X2_timeAt wm_X2_53 (by omega) (sd_cell_row _ (by omega)) rfl (by decide) rfl rfl (Nat.le_of_ble_eq_true rfl) dX2_isIn_12 (fun r12 h12 => ?_)
        try dsimp only at h12
        refine sd_sipush C dX2_isIn_15 (by decide) (fun k15 ek15 => ?_)
        have b1 := hW.at (j := j) (by omega)
        refine sd_idiv C 10080 (by decide) dX2_isIn_18 ek15 (by omega) (fun z18 ez18 => ?_)
        refine sd_iload_n C dX2_isIn_19 2 rfl rfl ?_
        refine sd_icmp_ne C 25 dX2_isIn_20 (by decide) (fun c20 => ?_) (fun c20 => ?_)
        · refine sd_iinc C dX2_isIn_25 0 rfl (by decide) (by decide) (by omega) (fun zz => [(2, .int zz), (0, .ref (ad (16 + q))), (1, .int x)]) (fun _ => rfl) (fun u25 eu25 => ?_)
          refine sd_goto C 2 dX2_isIn_28 (by decide) ?_
          exact ih2 u25 (j + 1) (by omega) (by omega) (fun i h => by
                by_cases e : i = j
                · subst e; omega
                · exact hno i (by omega)) (by omega)
        · refine sd_iconst C dX2_isIn_23 (by decide) (fun k23 ek23 => ?_)
          exact hret _ _ _ _ dX2_isIn_24 (by omega) (⟨rfl, Or.inl ⟨by omega, sp_came_true (i := j) (by omega) (by omega)⟩⟩)
  exact key2 _ k0 0 (by omega) (by omega) (fun i h => by omega) (Nat.lt_succ_self _)

set_option maxRecDepth 20000 in
set_option maxHeartbeats 4000000 in
theorem c_X2_dropIfQuick (l : Launch) (D : va_G) (ad : Nat → Nat) (ca : Nat → ClassId) (T : Nat → Nat) (σ : sd_Mem) (β : sp_B) (q : Nat) (l9 : List Nat) (hW : sd_RW σ β q l9) (hq : q < 24) (x y : Int32) (hx : x.toInt = β 6 3) (hy : y.toInt = β 6 4) : sd_Cv l yX2_dropIfQuick cX2_dropIfQuick 3 3 D ad ca T σ [.ref (ad (16 + q)), .int x, .int y] (fun σ' => (∀ i k, i ≠ 16 + q → σ' i k = σ i k) ∧ (σ' (16 + q) 2).toInt = ((if sp_quick β l9 then ([] : List Nat) else l9).length : Int) ∧ σ' (16 + q) 3 = σ (16 + q) 3 ∧ (σ' (16 + q) 4).toInt = (if sp_quick β l9 then 1 else 0) ∧ σ' (16 + q) 5 = σ (16 + q) 5) := by
  refine sd_ent_v (own := RX2) (by decide) rfl (Nat.le_of_ble_eq_true rfl) (fun X C hret => ?_)
  show sd_Wd X 3 D ad ca σ [(0, .ref (ad (16 + q))), (1, .int x), (2, .int y)] 0 []
  have hz := hW.2.2.1.1
  refine sd_aload_n C dX2_dropIfQuick_0 0 rfl rfl ?_
  refine sd_aload_n C dX2_dropIfQuick_1 0 rfl rfl ?_
  refine sd_iload_n C dX2_dropIfQuick_2 1 rfl rfl ?_
  refine sd_iload_n C dX2_dropIfQuick_3 2 rfl rfl ?_
  refine sd_pVz C (c_X2_isQuick l D ad ca T σ β q l9 hW hq x y hx hy) mv_X2_isQuick wm_X2_49 (by omega) (sd_cell_row _ (by omega)) rfl (by decide) rfl rfl (Nat.le_of_ble_eq_true rfl) dX2_dropIfQuick_4 (fun r4 h4 => ?_)
  try dsimp only at h4
  refine sd_put C (ty := .boolean) (by omega) (sd_cell_row _ (by omega)) rfl 4 (by decide) rfl (by decide +kernel) (sd_nb (by omega)) (sd_fb (by omega)) (Nat.le_of_ble_eq_true rfl) (fun _ => by rw [sd_cell_row _ (by omega)]; rfl) wf_X2_38 dX2_dropIfQuick_7 (fun s7 es7 => ?_)
  have f1 : s7 (16 + q) 4 = r4 := by rw [es7, sd_st_at]
  refine sd_aload_n C dX2_dropIfQuick_10 0 rfl rfl ?_
  refine sd_get C (by omega) (sd_cell_row _ (by omega)) rfl 4 (by decide) rfl wf_X2_38 dX2_dropIfQuick_11 ?_
  refine sd_if_eq C 22 dX2_dropIfQuick_14 (by decide) (fun c14 => ?_) (fun c14 => ?_)
  · exact hret _ _ _ dX2_dropIfQuick_22 (by
        rw [f1] at c14
        have hqk : sp_quick β l9 = false := by
          rcases h4 with h | h
          · exact absurd h.1 (by omega)
          · exact h.2
        refine ⟨fun i k h => ?_, ?_, ?_, ?_, ?_⟩
        · rw [es7, sd_st_ne h]
        · rw [hqk, es7, sd_st_nk (by decide)]; exact hz
        · rw [es7, sd_st_nk (by decide)]
        · rw [hqk, f1]; exact c14
        · rw [es7, sd_st_nk (by decide)])
  · refine sd_aload_n C dX2_dropIfQuick_17 0 rfl rfl ?_
    refine sd_iconst C dX2_dropIfQuick_18 (by decide) (fun k18 ek18 => ?_)
    refine sd_put C (ty := .int) (by omega) (sd_cell_row _ (by omega)) rfl 2 (by decide) rfl (by decide +kernel) rfl rfl (Nat.le_of_ble_eq_true rfl) (fun _ => by rw [sd_cell_row _ (by omega)]; rfl) wf_X2_19 dX2_dropIfQuick_19 (fun s19 es19 => ?_)
    exact hret _ _ _ dX2_dropIfQuick_22 (by
        rw [f1] at c14
        have hqk : sp_quick β l9 = true := by
          rcases h4 with h | h
          · exact h.2
          · exact absurd h.1 (by omega)
        refine ⟨fun i k h => ?_, ?_, ?_, ?_, ?_⟩
        · rw [es19, sd_st_ne h, es7, sd_st_ne h]
        · rw [hqk, es19, sd_st_at]; exact ek18
        · rw [es19, sd_st_nk (by decide), es7, sd_st_nk (by decide)]
        · rw [hqk, es19, sd_st_nk (by decide), f1]
          rcases h4 with h | h
          · exact h.1
          · exact absurd h.1 (by omega)
        · rw [es19, sd_st_nk (by decide), es7, sd_st_nk (by decide)])
end
section
set_option maxRecDepth 20000 in
set_option maxHeartbeats 4000000 in
theorem c_X0_add (l : Launch) (D : va_G) (ad : Nat → Nat) (ca : Nat → ClassId) (T : Nat → Nat) (σ : sd_Mem) (n : Nat) (x1 x2 x3 : Int32) (hn : (σ 1 5).toInt = (n : Int)) (hn2 : n ≤ 120) (hb : ∀ j, j < n → 0 ≤ (σ 6 j).toInt ∧ (σ 6 j).toInt < (n : Int)) : sd_Ci l yX0_add cX0_add 6 0 D ad ca T σ [.ref (ad 1), .int x1, .int x2, .int x3] (fun r σ' => (n = 120 ∧ r.toInt = -1004 ∧ σ' = σ) ∨ (n < 120 ∧ r.toInt = (n : Int) ∧ (∀ i k, i ≠ 1 → i ≠ 2 → i ≠ 3 → i ≠ 4 → i ≠ 6 → σ' i k = σ i k) ∧ (σ' 1 5).toInt = (n : Int) + 1 ∧ (∀ k, σ' 2 k = if k = n then x1 else σ 2 k) ∧ (∀ k, σ' 3 k = if k = n then x2 else σ 3 k) ∧ (∀ k, σ' 4 k = if k = n then x3 else σ 4 k) ∧ ∃ a, a ≤ n ∧ (∀ j, j < a → σ' 6 j = σ 6 j) ∧ (σ' 6 a).toInt = (n : Int) ∧ (∀ j, a < j → j ≤ n → σ' 6 j = σ 6 (j - 1)) ∧ (∀ j, a ≤ j → j < n → x1.toInt < (σ 2 (σ 6 j).toInt.toNat).toInt) ∧ (a = 0 ∨ (σ 2 (σ 6 (a - 1)).toInt.toNat).toInt ≤ x1.toInt))) := by
  refine sd_ent_i (own := RX0) (by decide) rfl (Nat.le_of_ble_eq_true rfl) (fun X C hret => ?_)
  show sd_Wd X 6 D ad ca σ [(0, .ref (ad 1)), (1, .int x1), (2, .int x2), (3, .int x3)] 0 []
  refine sd_aload_n C dX0_add_0 0 rfl rfl ?_
  refine sd_get C (by decide) rfl rfl 5 (by decide) rfl wf_X0_28 dX0_add_1 ?_
  refine sd_bipush C dX0_add_4 (by decide) (fun k4 ek4 => ?_)
  refine sd_icmp_lt C 13 dX0_add_6 (by decide) (fun c6 => ?_) (fun c6 => ?_)
  · refine sd_aload_n C dX0_add_13 0 rfl rfl ?_
    refine sd_get C (by decide) rfl rfl 5 (by decide) rfl wf_X0_28 dX0_add_14 ?_
    refine sd_istore (lv' := [(4, .int (σ 1 5)), (0, .ref (ad 1)), (1, .int x1), (2, .int x2), (3, .int x3)]) C dX0_add_17 (by decide) rfl ?_
    refine sd_aload_n C dX0_add_19 1 rfl rfl ?_
    refine sd_get C (by decide) rfl rfl 0 (by decide) rfl wf_X0_9 dX0_add_20 ?_
    refine sd_iload C dX0_add_23 0 rfl ?_
    refine sd_iload_n C dX0_add_25 2 rfl rfl ?_
    refine sd_iast C (by decide) (fun _ => rfl) (n) ⟨by omega, by omega⟩ dX0_add_26 (fun s26 es26 => ?_)
    have f1 : s26 1 5 = σ 1 5 := by rw [es26, sd_st_ne (by decide)]
    refine sd_aload_n C dX0_add_27 1 rfl rfl ?_
    refine sd_get C (by decide) rfl rfl 1 (by decide) rfl wf_X0_15 dX0_add_28 ?_
    refine sd_iload C dX0_add_31 0 rfl ?_
    refine sd_iload_n C dX0_add_33 3 rfl rfl ?_
    refine sd_iast C (by decide) (fun _ => rfl) (n) ⟨by omega, by omega⟩ dX0_add_34 (fun s34 es34 => ?_)
    have f2 : s34 1 5 = σ 1 5 := by rw [es34, sd_st_ne (by decide)]; exact f1
    refine sd_aload_n C dX0_add_35 1 rfl rfl ?_
    refine sd_get C (by decide) rfl rfl 2 (by decide) rfl wf_X0_18 dX0_add_36 ?_
    refine sd_iload C dX0_add_39 0 rfl ?_
    refine sd_iload_n C dX0_add_41 4 rfl rfl ?_
    refine sd_iast C (by decide) (fun _ => rfl) (n) ⟨by omega, by omega⟩ dX0_add_42 (fun s42 es42 => ?_)
    have f3 : s42 1 5 = σ 1 5 := by rw [es42, sd_st_ne (by decide)]; exact f2
    refine sd_iload C dX0_add_43 0 rfl ?_
    refine sd_istore (lv' := [(5, .int (σ 1 5)), (4, .int (σ 1 5)), (0, .ref (ad 1)), (1, .int x1), (2, .int x2), (3, .int x3)]) C dX0_add_45 (by decide) rfl ?_
    have key47 : ∀ (fu47 : Nat) (x5 : Int32) (a : Nat) (τ : sd_Mem), (x5.toInt = (a : Int)) → (a ≤ n) → (∀ i k, i ≠ 6 → τ i k = s42 i k) → (∀ j, j < a → τ 6 j = σ 6 j) → (∀ j, a < j → j ≤ n → τ 6 j = σ 6 (j - 1)) → (∀ j, a ≤ j → j < n → x1.toInt < (σ 2 (σ 6 j).toInt.toNat).toInt) → (a < fu47) → sd_Wd X 6 D ad ca τ [(5, .int x5), (4, .int (σ 1 5)), (0, .ref (ad 1)), (1, .int x1), (2, .int x2), (3, .int x3)] 47 [] := by
      intro fu47
      induction fu47 with
      | zero => intro x5 a τ h5 ha hfr hlo hhi hgt hm47; exact absurd hm47 (Nat.not_lt_zero _)
      | succ fu47 ih47 =>
        intro x5 a τ h5 ha hfr hlo hhi hgt hm47
        have key92 : (a = 0 ∨ (σ 2 (σ 6 (a - 1)).toInt.toNat).toInt ≤ x1.toInt) → sd_Wd X 6 D ad ca τ [(5, .int x5), (4, .int (σ 1 5)), (0, .ref (ad 1)), (1, .int x1), (2, .int x2), (3, .int x3)] 92 [] := by
            intro  hstop
            refine sd_aload_n C dX0_add_92 2 rfl rfl ?_
            refine sd_get C (by decide) rfl rfl 4 (by decide) rfl wf_X0_25 dX0_add_93 ?_
            refine sd_iload C dX0_add_96 0 rfl ?_
            refine sd_iload C dX0_add_98 1 rfl ?_
            refine sd_iast C (by decide) (fun _ => rfl) (a) ⟨by omega, by omega⟩ dX0_add_100 (fun s100 es100 => ?_)
            have f4 : s100 1 5 = σ 1 5 := by rw [es100, sd_st_ne (by decide), hfr 1 5 (by decide)]; exact f3
            refine sd_aload_n C dX0_add_101 2 rfl rfl ?_
            refine sd_dup C dX0_add_102 rfl ?_
            refine sd_get C (by decide) rfl rfl 5 (by decide) rfl wf_X0_28 dX0_add_103 ?_
            refine sd_iconst C dX0_add_106 (by decide) (fun k106 ek106 => ?_)
            refine sd_iadd C dX0_add_107 (by rw [f4]; omega) (fun z107 ez107 => ?_)
            refine sd_put C (ty := .int) (by decide) rfl rfl 5 (by decide) rfl (by decide +kernel) rfl rfl (Nat.le_of_ble_eq_true rfl) (fun _ => rfl) wf_X0_28 dX0_add_108 (fun s108 es108 => ?_)
            refine sd_iload C dX0_add_111 1 rfl ?_
            exact hret _ _ _ _ dX0_add_113 (by
                refine Or.inr ⟨by omega, by omega, ?_, ?_, ?_, ?_, ?_, a, ha, ?_, ?_, ?_, hgt, hstop⟩
                · intro i k h1 h2 h3 h4 h6
                  rw [es108, sd_st_ne h1, es100, sd_st_ne h6, hfr i k h6, es42, sd_st_ne h4, es34, sd_st_ne h3, es26, sd_st_ne h2]
                · rw [es108, sd_st_at, ez107, f4]; omega
                · intro k
                  rw [es108, sd_st_ne (by decide), es100, sd_st_ne (by decide), hfr 2 k (by decide), es42, sd_st_ne (by decide), es34, sd_st_ne (by decide), es26, sd_st_eq]; simp
                · intro k
                  rw [es108, sd_st_ne (by decide), es100, sd_st_ne (by decide), hfr 3 k (by decide), es42, sd_st_ne (by decide), es34, sd_st_eq, es26]; simp [sd_st_eq]
                · intro k
                  rw [es108, sd_st_ne (by decide), es100, sd_st_ne (by decide), hfr 4 k (by decide), es42, sd_st_eq, es34, es26]; simp [sd_st_eq]
                · intro j hj
                  rw [es108, sd_st_ne (by decide), es100, sd_st_nk (by omega)]; exact hlo j hj
                · rw [es108, sd_st_ne (by decide), es100, sd_st_at]; exact hn
                · intro j h1 h2
                  rw [es108, sd_st_ne (by decide), es100, sd_st_nk (by omega)]; exact hhi j h1 h2)
        refine sd_iload C dX0_add_47 0 rfl ?_
        refine sd_if_le C 92 dX0_add_49 (by decide) (fun c49 => ?_) (fun c49 => ?_)
        · exact key92  (by first | (left; omega) | (right; rw [← q3]; exact c67))
        · have q1 := hlo (a - 1) (by omega)
          have q2 := hb (a - 1) (by omega)
          rw [← q1] at q2
          have q3 : τ 2 (τ 6 (a - 1)).toInt.toNat = σ 2 (σ 6 (a - 1)).toInt.toNat := by
            rw [hfr 2 _ (by decide), es42, sd_st_ne (by decide), es34, sd_st_ne (by decide), es26, sd_st_nk (by omega), q1]
          refine sd_aload_n C dX0_add_52 2 rfl rfl ?_
          refine sd_get C (by decide) rfl rfl 0 (by decide) rfl wf_X0_9 dX0_add_53 ?_
          refine sd_aload_n C dX0_add_56 2 rfl rfl ?_
          refine sd_get C (by decide) rfl rfl 4 (by decide) rfl wf_X0_25 dX0_add_57 ?_
          refine sd_iload C dX0_add_60 0 rfl ?_
          refine sd_iconst C dX0_add_62 (by decide) (fun k62 ek62 => ?_)
          refine sd_isub C dX0_add_63 (by omega) (fun z63 ez63 => ?_)
          refine sd_iald C (by decide) rfl ((a - 1)) ⟨by omega, by omega⟩ dX0_add_64 ?_
          refine sd_iald C (by decide) rfl ((τ 6 ((a - 1))).toInt.toNat) ⟨by omega, by omega⟩ dX0_add_65 ?_
          refine sd_iload_n C dX0_add_66 3 rfl rfl ?_
          refine sd_icmp_le C 92 dX0_add_67 (by decide) (fun c67 => ?_) (fun c67 => ?_)
          · exact key92  (by first | (left; omega) | (right; rw [← q3]; exact c67))
          · refine sd_aload_n C dX0_add_70 2 rfl rfl ?_
            refine sd_get C (by decide) rfl rfl 4 (by decide) rfl wf_X0_25 dX0_add_71 ?_
            refine sd_iload C dX0_add_74 0 rfl ?_
            refine sd_aload_n C dX0_add_76 2 rfl rfl ?_
            refine sd_get C (by decide) rfl rfl 4 (by decide) rfl wf_X0_25 dX0_add_77 ?_
            refine sd_iload C dX0_add_80 0 rfl ?_
            refine sd_iconst C dX0_add_82 (by decide) (fun k82 ek82 => ?_)
            refine sd_isub C dX0_add_83 (by omega) (fun z83 ez83 => ?_)
            refine sd_iald C (by decide) rfl ((a - 1)) ⟨by omega, by omega⟩ dX0_add_84 ?_
            refine sd_iast C (by decide) (fun _ => rfl) (a) ⟨by omega, by omega⟩ dX0_add_85 (fun s85 es85 => ?_)
            refine sd_iinc C dX0_add_86 0 rfl (by decide) (by decide) (by omega) (fun zz => [(5, .int zz), (4, .int (σ 1 5)), (0, .ref (ad 1)), (1, .int x1), (2, .int x2), (3, .int x3)]) (fun _ => rfl) (fun u86 eu86 => ?_)
            refine sd_goto C 47 dX0_add_89 (by decide) ?_
            exact ih47 u86 (a - 1) s85 (by omega) (by omega) (fun i k h => by rw [es85, sd_st_ne h]; exact hfr i k h) (fun j hj => by rw [es85, sd_st_nk (by omega)]; exact hlo j (by omega)) (fun j h1 h2 => by
                  by_cases hj : j = a
                  · subst hj; rw [es85, sd_st_at, q1]
                  · rw [es85, sd_st_nk hj]; exact hhi j (by omega) h2) (fun j h1 h2 => by
                  by_cases hj : j = a - 1
                  · subst hj; rw [← q3]; exact c67
                  · exact hgt j (by omega) h2) (by omega)
    exact key47 _ (σ 1 5) n s42 hn (Nat.le_refl n) (fun _ _ _ => rfl) (fun j hj => by rw [es42, sd_st_ne (by decide), es34, sd_st_ne (by decide), es26, sd_st_ne (by decide)]) (fun j h1 h2 => by omega) (fun j h1 h2 => by omega) (Nat.lt_succ_self _)
  · refine sd_sipush C dX0_add_9 (by decide) (fun k9 ek9 => ?_)
    exact hret _ _ _ _ dX0_add_12 (Or.inl ⟨by omega, by omega, rfl⟩)

set_option maxRecDepth 20000 in
set_option maxHeartbeats 4000000 in
theorem c_X2_empty (l : Launch) (D : va_G) (ad : Nat → Nat) (ca : Nat → ClassId) (T : Nat → Nat) (σ : sd_Mem) (q : Nat) (hq : q < 24) : sd_Cv l yX2_empty cX2_empty 1 0 D ad ca T σ [.ref (ad (16 + q))] (fun σ' => (∀ i k, i ≠ 16 + q → σ' i k = σ i k) ∧ (σ' (16 + q) 2).toInt = 0 ∧ (σ' (16 + q) 3).toInt = 0 ∧ (σ' (16 + q) 4).toInt = 0 ∧ (σ' (16 + q) 5).toInt = 0) := by
  refine sd_ent_v (own := RX2) (by decide) rfl (Nat.le_of_ble_eq_true rfl) (fun X C hret => ?_)
  show sd_Wd X 1 D ad ca σ [(0, .ref (ad (16 + q)))] 0 []
  refine sd_aload_n C dX2_empty_0 0 rfl rfl ?_
  refine sd_iconst C dX2_empty_1 (by decide) (fun k1 ek1 => ?_)
  refine sd_put C (ty := .int) (by omega) (sd_cell_row _ (by omega)) rfl 2 (by decide) rfl (by decide +kernel) rfl rfl (Nat.le_of_ble_eq_true rfl) (fun _ => by rw [sd_cell_row _ (by omega)]; rfl) wf_X2_19 dX2_empty_2 (fun s2 es2 => ?_)
  refine sd_aload_n C dX2_empty_5 0 rfl rfl ?_
  refine sd_iconst C dX2_empty_6 (by decide) (fun k6 ek6 => ?_)
  refine sd_put C (ty := .int) (by omega) (sd_cell_row _ (by omega)) rfl 3 (by decide) rfl (by decide +kernel) rfl rfl (Nat.le_of_ble_eq_true rfl) (fun _ => by rw [sd_cell_row _ (by omega)]; rfl) wf_X2_35 dX2_empty_7 (fun s7 es7 => ?_)
  refine sd_aload_n C dX2_empty_10 0 rfl rfl ?_
  refine sd_iconst C dX2_empty_11 (by decide) (fun k11 ek11 => ?_)
  refine sd_put C (ty := .boolean) (by omega) (sd_cell_row _ (by omega)) rfl 4 (by decide) rfl (by decide +kernel) (sd_nb (by omega)) (sd_fb (by omega)) (Nat.le_of_ble_eq_true rfl) (fun _ => by rw [sd_cell_row _ (by omega)]; rfl) wf_X2_38 dX2_empty_12 (fun s12 es12 => ?_)
  refine sd_aload_n C dX2_empty_15 0 rfl rfl ?_
  refine sd_iconst C dX2_empty_16 (by decide) (fun k16 ek16 => ?_)
  refine sd_put C (ty := .int) (by omega) (sd_cell_row _ (by omega)) rfl 5 (by decide) rfl (by decide +kernel) rfl rfl (Nat.le_of_ble_eq_true rfl) (fun _ => by rw [sd_cell_row _ (by omega)]; rfl) wf_X2_42 dX2_empty_17 (fun s17 es17 => ?_)
  exact hret _ _ _ dX2_empty_20 (by
      refine ⟨fun i k h => ?_, ?_, ?_, ?_, ?_⟩
      · rw [es17, sd_st_ne h, es12, sd_st_ne h, es7, sd_st_ne h, es2, sd_st_ne h]
      · rw [es17, sd_st_nk (by decide), es12, sd_st_nk (by decide), es7, sd_st_nk (by decide), es2, sd_st_at]; exact ek1
      · rw [es17, sd_st_nk (by decide), es12, sd_st_nk (by decide), es7, sd_st_at]; exact ek6
      · rw [es17, sd_st_nk (by decide), es12, sd_st_at]; exact ek11
      · rw [es17, sd_st_at]; exact ek16)

set_option maxRecDepth 20000 in
set_option maxHeartbeats 4000000 in
theorem c_X2_take (l : Launch) (D : va_G) (ad : Nat → Nat) (ca : Nat → ClassId) (T : Nat → Nat) (σ : sd_Mem) (q c n w : Nat) (hq : q < 24) (x : Int32) (hx : x.toInt = (c : Int)) (hc : c < 120) (hz : (σ (16 + q) 2).toInt = (n : Int)) (hn : n ≤ 120) (ho : (σ (16 + q) 3).toInt = (w : Int)) (hw : w ≤ 1000) : sd_Cv l yX2_take cX2_take 2 0 D ad ca T σ [.ref (ad (16 + q)), .int x] (fun σ' => (∀ i k, i ≠ 16 + q → i ≠ 40 + q → σ' i k = σ i k) ∧ (σ' (16 + q) 3).toInt = (w : Int) + 1 ∧ σ' (16 + q) 4 = σ (16 + q) 4 ∧ σ' (16 + q) 5 = σ (16 + q) 5 ∧ (((σ 5 c).toInt = 0 ∧ n < 120 ∧ (σ' (16 + q) 2).toInt = (n : Int) + 1 ∧ (σ' (40 + q) n).toInt = (c : Int) ∧ ∀ k, k ≠ n → σ' (40 + q) k = σ (40 + q) k) ∨ (((σ 5 c).toInt ≠ 0 ∨ n = 120) ∧ (σ' (16 + q) 2).toInt = (n : Int) ∧ ∀ k, σ' (40 + q) k = σ (40 + q) k))) := by
  refine sd_ent_v (own := RX2) (by decide) rfl (Nat.le_of_ble_eq_true rfl) (fun X C hret => ?_)
  show sd_Wd X 2 D ad ca σ [(0, .ref (ad (16 + q))), (1, .int x)] 0 []
  refine sd_aload_n C dX2_take_0 0 rfl rfl ?_
  refine sd_dup C dX2_take_1 rfl ?_
  refine sd_get C (by omega) (sd_cell_row _ (by omega)) rfl 3 (by decide) rfl wf_X2_35 dX2_take_2 ?_
  refine sd_iconst C dX2_take_5 (by decide) (fun k5 ek5 => ?_)
  refine sd_iadd C dX2_take_6 (by omega) (fun z6 ez6 => ?_)
  refine sd_put C (ty := .int) (by omega) (sd_cell_row _ (by omega)) rfl 3 (by decide) rfl (by decide +kernel) rfl rfl (Nat.le_of_ble_eq_true rfl) (fun _ => by rw [sd_cell_row _ (by omega)]; rfl) wf_X2_35 dX2_take_7 (fun s7 es7 => ?_)
  have f1 : s7 (16 + q) 2 = σ (16 + q) 2 := by rw [es7, sd_st_nk (by decide)]
  have f2 : s7 5 c = σ 5 c := by rw [es7, sd_st_ne (by omega)]
  have f3 : ∀ k, s7 (40 + q) k = σ (40 + q) k := fun k => by rw [es7, sd_st_ne (by omega)]
  refine sd_aload_n C dX2_take_10 0 rfl rfl ?_
  refine sd_get C (by omega) (sd_cell_row _ (by omega)) rfl 0 (by decide) rfl wf_X2_15 dX2_take_11 ?_
  refine sd_get C (by decide) rfl rfl 3 (by decide) rfl wf_X2_45 dX2_take_14 ?_
  refine sd_iload_n C dX2_take_17 1 rfl rfl ?_
  refine sd_zald C (by decide) rfl (c) ⟨by omega, by omega⟩ dX2_take_18 ?_
  refine sd_if_ne C 51 dX2_take_19 (by decide) (fun c19 => ?_) (fun c19 => ?_)
  · exact hret _ _ _ dX2_take_51 (by
        refine ⟨fun i k h1 h2 => ?_, ?_, ?_, ?_, Or.inr ⟨?_, by rw [f1]; exact hz, f3⟩⟩
        · rw [es7, sd_st_ne h1]
        · rw [es7, sd_st_at, ez6]; omega
        · rw [es7, sd_st_nk (by decide)]
        · rw [es7, sd_st_nk (by decide)]
        · first | (left; rw [← f2]; exact c19) | (right; rw [f1] at c28; omega))
  · refine sd_aload_n C dX2_take_22 0 rfl rfl ?_
    refine sd_get C (by omega) (sd_cell_row _ (by omega)) rfl 2 (by decide) rfl wf_X2_19 dX2_take_23 ?_
    refine sd_bipush C dX2_take_26 (by decide) (fun k26 ek26 => ?_)
    refine sd_icmp_ge C 51 dX2_take_28 (by decide) (fun c28 => ?_) (fun c28 => ?_)
    · exact hret _ _ _ dX2_take_51 (by
          refine ⟨fun i k h1 h2 => ?_, ?_, ?_, ?_, Or.inr ⟨?_, by rw [f1]; exact hz, f3⟩⟩
          · rw [es7, sd_st_ne h1]
          · rw [es7, sd_st_at, ez6]; omega
          · rw [es7, sd_st_nk (by decide)]
          · rw [es7, sd_st_nk (by decide)]
          · first | (left; rw [← f2]; exact c19) | (right; rw [f1] at c28; omega))
    · refine sd_aload_n C dX2_take_31 0 rfl rfl ?_
      refine sd_get C (by omega) (sd_cell_row _ (by omega)) rfl 1 (by decide) rfl wf_X2_9 dX2_take_32 ?_
      refine sd_aload_n C dX2_take_35 0 rfl rfl ?_
      refine sd_get C (by omega) (sd_cell_row _ (by omega)) rfl 2 (by decide) rfl wf_X2_19 dX2_take_36 ?_
      refine sd_iload_n C dX2_take_39 1 rfl rfl ?_
      refine sd_iast C (by omega) (fun _ => sd_cell_rowA _ (by omega)) (n) ⟨by rw [f1]; omega, by rw [f1] at c28; omega⟩ dX2_take_40 (fun s40 es40 => ?_)
      have f4 : s40 (16 + q) 2 = σ (16 + q) 2 := by rw [es40, sd_st_ne (by omega)]; exact f1
      refine sd_aload_n C dX2_take_41 0 rfl rfl ?_
      refine sd_dup C dX2_take_42 rfl ?_
      refine sd_get C (by omega) (sd_cell_row _ (by omega)) rfl 2 (by decide) rfl wf_X2_19 dX2_take_43 ?_
      refine sd_iconst C dX2_take_46 (by decide) (fun k46 ek46 => ?_)
      refine sd_iadd C dX2_take_47 (by rw [f4]; omega) (fun z47 ez47 => ?_)
      refine sd_put C (ty := .int) (by omega) (sd_cell_row _ (by omega)) rfl 2 (by decide) rfl (by decide +kernel) rfl rfl (Nat.le_of_ble_eq_true rfl) (fun _ => by rw [sd_cell_row _ (by omega)]; rfl) wf_X2_19 dX2_take_48 (fun s48 es48 => ?_)
      exact hret _ _ _ dX2_take_51 (by
          rw [f2] at c19
          rw [f1] at c28
          refine ⟨fun i k h1 h2 => ?_, ?_, ?_, ?_, Or.inl ⟨c19, by omega, ?_, ?_, fun k h => ?_⟩⟩
          · rw [es48, sd_st_ne h1, es40, sd_st_ne h2, es7, sd_st_ne h1]
          · rw [es48, sd_st_nk (by decide), es40, sd_st_ne (by omega), es7, sd_st_at, ez6]; omega
          · rw [es48, sd_st_nk (by decide), es40, sd_st_ne (by omega), es7, sd_st_nk (by decide)]
          · rw [es48, sd_st_nk (by decide), es40, sd_st_ne (by omega), es7, sd_st_nk (by decide)]
          · rw [es48, sd_st_at, ez47, f4]; omega
          · rw [es48, sd_st_ne (by omega), es40, sd_st_at]; exact hx
          · rw [es48, sd_st_ne (by omega), es40, sd_st_nk h]; exact f3 k)
end
section
theorem sp_cut_t {β : sp_B} {a b : Nat} (h : β 1 b - β 1 a > β 6 0 ∨ (β 6 1 = 1 ∧ β 1 a / 1440 ≠ β 1 b / 1440) ∨ β 3 a = β 6 2) : sp_cut β a b = true := by
  unfold sp_cut
  simp only [Bool.or_eq_true, Bool.and_eq_true, decide_eq_true_eq]
  rcases h with h | h | h
  · exact Or.inl (Or.inl h)
  · exact Or.inl (Or.inr h)
  · exact Or.inr h
theorem sp_cut_f {β : sp_B} {a b : Nat} (h : ¬ (β 1 b - β 1 a > β 6 0 ∨ (β 6 1 = 1 ∧ β 1 a / 1440 ≠ β 1 b / 1440) ∨ β 3 a = β 6 2)) : sp_cut β a b = false := by
  rw [← Bool.not_eq_true]
  intro q
  unfold sp_cut at q
  simp only [Bool.or_eq_true, Bool.and_eq_true, decide_eq_true_eq] at q
  rcases q with (q | q) | q
  · exact h (Or.inl q)
  · exact h (Or.inr (Or.inl q))
  · exact h (Or.inr (Or.inr q))
theorem sp_ns_s {β : sp_B} {l : List Nat} {j : Nat} (h : j = 0 ∨ sp_cut β (l.getD (j - 1) 0) (l.getD j 0) = true) : sp_ns β l (j + 1) = sp_ns β l j + 1 := by
  rw [sp_ns, if_pos]
  rcases h with h | h
  · simp [h]
  · rw [h]; simp
theorem sp_ns_k {β : sp_B} {l : List Nat} {j : Nat} (h0 : j ≠ 0) (h : sp_cut β (l.getD (j - 1) 0) (l.getD j 0) = false) : sp_ns β l (j + 1) = sp_ns β l j := by
  rw [sp_ns, if_neg]
  · rfl
  · rw [h]; simp [h0]
def sd_lay (i : Nat) : Prop := i = 10 ∨ i = 11 ∨ (16 ≤ i ∧ i < 64)
theorem sd_CR_fr {σ τ : sd_Mem} {β : sp_B} (h : ∀ a k, ¬ sd_lay a → τ a k = σ a k) (hC : sd_CR σ β) : sd_CR τ β := by
  obtain ⟨⟨a1, a2⟩, b, c, d, e, f⟩ := hC
  refine ⟨⟨?_, ?_⟩, fun c1 hc => ?_, fun p hp => ?_, fun j hj => ?_, fun f1 hf => ?_, fun f1 j hf hj => ?_⟩
  · rw [h 1 5 (by unfold sd_lay; omega)]; exact a1
  · rw [h 0 7 (by unfold sd_lay; omega)]; exact a2
  · rw [h 2 _ (by unfold sd_lay; omega), h 3 _ (by unfold sd_lay; omega), h 4 _ (by unfold sd_lay; omega), h 5 _ (by unfold sd_lay; omega)]; exact b c1 hc
  · rw [h 7 _ (by unfold sd_lay; omega)]; exact c p hp
  · rw [h 8 _ (by unfold sd_lay; omega)]; exact d j hj
  · rw [h (64 + f1) _ (by unfold sd_lay; omega), h (64 + f1) _ (by unfold sd_lay; omega), h (64 + f1) _ (by unfold sd_lay; omega), h (64 + f1) _ (by unfold sd_lay; omega)]; exact e f1 hf
  · rw [h (70 + f1) _ (by unfold sd_lay; omega)]; exact f f1 j hf hj
theorem sd_RV_cong {σ τ : sd_Mem} {q : Nat} {l : List Nat} (h : sd_RV σ q l) (h1 : τ (16 + q) 2 = σ (16 + q) 2) (h2 : ∀ k, τ (40 + q) k = σ (40 + q) k) : sd_RV τ q l := ⟨by rw [h1]; exact h.1, fun j hj => by rw [h2]; exact h.2 j hj⟩
theorem sd_RV_app {σ τ : sd_Mem} {q c : Nat} {l : List Nat} (h : sd_RV σ q l) (h1 : (τ (16 + q) 2).toInt = (l.length : Int) + 1) (h2 : (τ (40 + q) l.length).toInt = (c : Int)) (h3 : ∀ k, k ≠ l.length → τ (40 + q) k = σ (40 + q) k) : sd_RV τ q (l ++ [c]) := by
  refine ⟨by rw [h1, List.length_append]; simp, fun j hj => ?_⟩
  rw [List.length_append] at hj
  simp at hj
  by_cases e : j = l.length
  · subst e
    rw [h2]
    simp
  · rw [h3 j e, h.2 j (by omega)]
    congr 1
    simp only [List.getD_eq_getElem?_getD]
    rw [List.getElem?_append_left (by omega)]
theorem sp_take_f {S : List Nat} {i : Nat} (h : i < S.length) (p : Nat → Bool) : (S.take (i + 1)).filter p = (S.take i).filter p ++ (if p (S.getD i 0) then [S.getD i 0] else []) := by
  have e : S.getD i 0 = S[i] := by rw [List.getD_eq_getElem?_getD, List.getElem?_eq_getElem h]; rfl
  rw [e, List.take_succ, List.getElem?_eq_getElem h, List.filter_append]
  congr 1
  by_cases hp : p S[i] = true
  · simp [hp]
  · simp [hp]
def sd_l1 (σ τ : sd_Mem) (p : Nat) : Prop := (∀ a k, ¬ sd_lay a → τ a k = σ a k) ∧ ∀ q, q < p → (τ (16 + q) 2).toInt = 0 ∧ (τ (16 + q) 3).toInt = 0
def sd_l2 (σ : sd_Mem) (β : sp_B) (τ : sd_Mem) (i : Nat) : Prop := (∀ a k, ¬ sd_lay a → τ a k = σ a k) ∧ (∀ q, q < 24 → sd_RV τ q (((sp_srt (β 1) (sp_n β)).take i).filter (sp_cnts β q)) ∧ (τ (16 + q) 3).toInt = ((((sp_srt (β 1) (sp_n β)).take i).filter (sp_mine β q)).length : Int)) ∧ ∀ j, j < i → (τ 10 ((sp_srt (β 1) (sp_n β)).getD j 0)).toInt = -1 ∧ (τ 11 ((sp_srt (β 1) (sp_n β)).getD j 0)).toInt = -1
def sd_l3 (σ : sd_Mem) (β : sp_B) (τ : sd_Mem) (p : Nat) : Prop := (∀ a k, ¬ sd_lay a → τ a k = σ a k) ∧ (∀ q, q < p → q < 24 → sd_LR τ β q) ∧ (∀ q, p ≤ q → q < 24 → sd_RV τ q (sp_raw β q) ∧ (τ (16 + q) 3).toInt = (sp_owned β q : Int)) ∧ (∀ c, c < sp_n β → sp_per β c < p → sd_LP τ β c) ∧ (∀ c, c < sp_n β → p ≤ sp_per β c → (τ 10 c).toInt = -1 ∧ (τ 11 c).toInt = -1)
theorem sd_l1_step {σ τ τ' : sd_Mem} {p : Nat} (hp : p < 24) (h : sd_l1 σ τ p) (h1 : ∀ i k, i ≠ 16 + p → τ' i k = τ i k) (h2 : (τ' (16 + p) 2).toInt = 0) (h3 : (τ' (16 + p) 3).toInt = 0) : sd_l1 σ τ' (p + 1) := by
  refine ⟨fun a k ha => ?_, fun q hq => ?_⟩
  · rw [h1 a k (fun e => ha (by unfold sd_lay; omega))]; exact h.1 a k ha
  · by_cases e : q = p
    · subst e; exact ⟨h2, h3⟩
    · rw [h1 _ _ (by omega), h1 _ _ (by omega)]; exact h.2 q (by omega)
theorem sd_l2_0 {σ τ : sd_Mem} {β : sp_B} (h : sd_l1 σ τ 24) : sd_l2 σ β τ 0 := by
  refine ⟨h.1, fun q hq => ⟨⟨?_, fun j hj => ?_⟩, ?_⟩, fun j hj => by omega⟩
  · simpa using (h.2 q hq).1
  · simp at hj
  · simpa using (h.2 q hq).2
theorem sp_mine_per {β : sp_B} (hG : sd_RG β) {c q : Nat} (hc : c < 120) : sp_mine β q c = decide (q = sp_per β c) := by
  have h1 := hG.2.1 c hc
  have h2 := hG.2.2.1 (β 2 c).toNat (by omega)
  unfold sp_mine sp_per
  congr 1
  apply propext
  omega
theorem sp_per_lt {β : sp_B} (hG : sd_RG β) {c : Nat} (hc : c < 120) : sp_per β c < 24 := by
  have h1 := hG.2.1 c hc
  have h2 := hG.2.2.1 (β 2 c).toNat (by omega)
  unfold sp_per
  omega
theorem sd_l2_step {σ τ τ1 τ2 τ' : sd_Mem} {β : sp_B} {i c : Nat} {m1 m2 : Int32} (hG : sd_RG β) (hC : sd_CR σ β) (hi : i < sp_n β) (hc : c = (sp_srt (β 1) (sp_n β)).getD i 0) (hm1 : m1.toInt = -1) (hm2 : m2.toInt = -1) (e1 : τ1 = sd_st τ 10 c m1) (e2 : τ2 = sd_st τ1 11 c m2) (h : sd_l2 σ β τ i) {n w : Nat}
    (hn : (τ2 (16 + sp_per β c) 2).toInt = (n : Int)) (hw : (τ2 (16 + sp_per β c) 3).toInt = (w : Int))
    (t1 : ∀ a k, a ≠ 16 + sp_per β c → a ≠ 40 + sp_per β c → τ' a k = τ2 a k) (t2 : (τ' (16 + sp_per β c) 3).toInt = (w : Int) + 1) (t3 : (((τ2 5 c).toInt = 0 ∧ n < 120 ∧ (τ' (16 + sp_per β c) 2).toInt = (n : Int) + 1 ∧ (τ' (40 + sp_per β c) n).toInt = (c : Int) ∧ ∀ k, k ≠ n → τ' (40 + sp_per β c) k = τ2 (40 + sp_per β c) k) ∨ (((τ2 5 c).toInt ≠ 0 ∨ n = 120) ∧ (τ' (16 + sp_per β c) 2).toInt = (n : Int) ∧ ∀ k, τ' (40 + sp_per β c) k = τ2 (40 + sp_per β c) k))) : sd_l2 σ β τ' (i + 1) := by
  obtain ⟨h1, h2, h3⟩ := h
  have hlen := sp_srt_len (t := β 1) (sp_n β)
  have hN := (sp_n_le hG).1
  have hcn : c < sp_n β := by rw [hc]; exact sp_srt_mem.mp (sp_getD_mem (by omega))
  have hq0 := sp_per_lt hG (c := c) (by omega)
  have hfr : ∀ a k, a ≠ 10 → a ≠ 11 → τ2 a k = τ a k := fun a k q1 q2 => by rw [e2, sd_st_ne q2, e1, sd_st_ne q1]
  have hsk : (τ2 5 c).toInt = β 4 c := by
    rw [hfr 5 c (by decide) (by decide), h1 5 c (by unfold sd_lay; omega)]
    exact (hC.2.1 c (by omega)).2.2.2
  refine ⟨fun a k ha => ?_, fun q hq => ?_, fun j hj => ?_⟩
  · rw [t1 a k (fun e => ha (by unfold sd_lay; omega)) (fun e => ha (by unfold sd_lay; omega)), hfr a k (fun e => ha (by unfold sd_lay; omega)) (fun e => ha (by unfold sd_lay; omega))]
    exact h1 a k ha
  · obtain ⟨g1, g2⟩ := h2 q hq
    rw [sp_take_f (by omega), sp_take_f (by omega), ← hc]
    have hmine := sp_mine_per hG (c := c) (q := q) (by omega)
    by_cases eq : q = sp_per β c
    · rw [eq] at g1 g2 ⊢
      rw [eq] at hmine
      have hmt : sp_mine β (sp_per β c) c = true := by rw [hmine]; simp
      have g1' : sd_RV τ2 (sp_per β c) (((sp_srt (β 1) (sp_n β)).take i).filter (sp_cnts β (sp_per β c))) := sd_RV_cong g1 (hfr _ _ (by omega) (by omega)) (fun k => hfr _ _ (by omega) (by omega))
      have hnl : n = (((sp_srt (β 1) (sp_n β)).take i).filter (sp_cnts β (sp_per β c))).length := by
        have := g1'.1
        omega
      have hnle : n ≤ i := by
        rw [hnl]
        refine Nat.le_trans (List.length_filter_le _ _) ?_
        rw [List.length_take]; omega
      have hw2 : (w : Int) = ((((sp_srt (β 1) (sp_n β)).take i).filter (sp_mine β (sp_per β c))).length : Int) := by
        rw [← hw, hfr _ _ (by omega) (by omega)]; exact g2
      refine ⟨?_, ?_⟩
      · rcases t3 with ⟨a1, a2, a3, a4, a5⟩ | ⟨a1, a2, a3⟩
        · have hct : sp_cnts β (sp_per β c) c = true := by
            unfold sp_cnts
            rw [hmt]
            simp only [Bool.true_and, decide_eq_true_eq]
            omega
          rw [if_pos hct]
          rw [hnl] at a3 a4 a5
          exact sd_RV_app g1' a3 a4 a5
        · have hct : ¬ sp_cnts β (sp_per β c) c = true := by
            unfold sp_cnts
            rw [hmt]
            simp only [Bool.true_and, decide_eq_true_eq]
            omega
          rw [if_neg hct, List.append_nil]
          exact ⟨by rw [a2, hnl], fun j hj => by rw [a3]; exact g1'.2 j hj⟩
      · rw [t2, if_pos hmt, List.length_append]
        simp
        omega
    · have hmf : sp_mine β q c = false := by rw [hmine]; simp [eq]
      have hcf : sp_cnts β q c = false := by unfold sp_cnts; rw [hmf]; rfl
      rw [hmf, hcf]
      simp only [Bool.false_eq_true, if_false, List.append_nil]
      refine ⟨sd_RV_cong g1 ?_ (fun k => ?_), ?_⟩
      · rw [t1 _ _ (by omega) (by omega), hfr _ _ (by omega) (by omega)]
      · rw [t1 _ _ (by omega) (by omega), hfr _ _ (by omega) (by omega)]
      · rw [t1 _ _ (by omega) (by omega), hfr _ _ (by omega) (by omega)]; exact g2
  · rw [t1 10 _ (by omega) (by omega), t1 11 _ (by omega) (by omega)]
    by_cases ej : (sp_srt (β 1) (sp_n β)).getD j 0 = c
    · rw [ej, e2, sd_st_at, sd_st_ne (by decide), e1, sd_st_at]
      exact ⟨hm1, hm2⟩
    · have hji : j < i := by
        by_cases e : j = i
        · subst e; exact absurd hc.symm ej
        · omega
      rw [e2, sd_st_nk ej, sd_st_nk ej, e1, sd_st_nk ej, sd_st_nk ej]
      exact h3 j hji
theorem sd_l3_0 {σ τ : sd_Mem} {β : sp_B} (hG : sd_RG β) (h : sd_l2 σ β τ (sp_n β)) : sd_l3 σ β τ 0 := by
  obtain ⟨h1, h2, h3⟩ := h
  have hlen := sp_srt_len (t := β 1) (sp_n β)
  have ht : (sp_srt (β 1) (sp_n β)).take (sp_n β) = sp_srt (β 1) (sp_n β) := List.take_of_length_le (by omega)
  rw [ht] at h2
  refine ⟨h1, fun q hq => by omega, fun q _ hq => ⟨(h2 q hq).1, ?_⟩, fun c _ hc => by omega, fun c hc _ => ?_⟩
  · rw [(h2 q hq).2, sp_srt_ct]; rfl
  · have hm : c ∈ sp_srt (β 1) (sp_n β) := sp_srt_mem.mpr hc
    obtain ⟨j, hj, e⟩ := List.getElem_of_mem hm
    have e2 : (sp_srt (β 1) (sp_n β)).getD j 0 = c := by rw [List.getD_eq_getElem?_getD, List.getElem?_eq_getElem hj]; exact e
    have := h3 j (by omega)
    rw [e2] at this
    exact this
theorem sd_l3_end {σ τ : sd_Mem} {β : sp_B} (hG : sd_RG β) (h : sd_l3 σ β τ 24) : sd_LD τ β := ⟨fun q hq => h.2.1 q hq hq, fun c hc => h.2.2.2.1 c hc (sp_per_lt hG (by have := (sp_n_le hG).1; omega))⟩
theorem sd_l3_step {σ τ τ1 τ' : sd_Mem} {β : sp_B} {p : Nat} (hG : sd_RG β) (hp : p < 24) (h : sd_l3 σ β τ p)
    (d1 : ∀ i k, i ≠ 16 + p → τ1 i k = τ i k) (d2 : (τ1 (16 + p) 2).toInt = ((if sp_quick β (sp_raw β p) then ([] : List Nat) else sp_raw β p).length : Int)) (d3 : τ1 (16 + p) 3 = τ (16 + p) 3) (d4 : (τ1 (16 + p) 4).toInt = (if sp_quick β (sp_raw β p) then 1 else 0))
    (k1 : ∀ i k, i ≠ 10 → i ≠ 11 → ¬ (i = 16 + p ∧ k = 5) → τ' i k = τ1 i k) (k2 : ∀ c, c ∉ sp_row β p → τ' 10 c = τ1 10 c ∧ τ' 11 c = τ1 11 c) (k3 : ∀ j, j < (sp_row β p).length → (τ' 10 ((sp_row β p).getD j 0)).toInt = (j : Int) ∧ (τ' 11 ((sp_row β p).getD j 0)).toInt = (sp_ns β (sp_row β p) (j + 1) : Int) - 1) (k4 : (τ' (16 + p) 5).toInt = (sp_ns β (sp_row β p) (sp_row β p).length : Int)) : sd_l3 σ β τ' (p + 1) := by
  obtain ⟨h1, h2, h3, h4, h5⟩ := h
  have hN := (sp_n_le hG).1
  have hmem : ∀ c, c ∈ sp_row β p → c < sp_n β ∧ sp_per β c = p := by
    intro c hc
    obtain ⟨a1, a2, -⟩ := sp_raw_mem (sp_row_sub hc)
    rw [sp_mine_per hG (by omega)] at a2
    simp only [decide_eq_true_eq] at a2
    exact ⟨a1, a2.symm⟩
  refine ⟨fun a k ha => ?_, fun q hq hq2 => ?_, fun q hq hq2 => ?_, fun c hc hc2 => ?_, fun c hc hc2 => ?_⟩
  · rw [k1 a k (fun e => ha (by unfold sd_lay; omega)) (fun e => ha (by unfold sd_lay; omega)) (fun e => ha (by unfold sd_lay; omega)), d1 a k (fun e => ha (by unfold sd_lay; omega))]
    exact h1 a k ha
  · by_cases e : q = p
    · subst e
      obtain ⟨g1, g2⟩ := h3 q (Nat.le_refl q) hq2
      refine ⟨⟨?_, fun j hj => ?_⟩, ?_, ?_, k4⟩
      · rw [k1 _ _ (by omega) (by omega) (by omega)]; exact d2
      · rw [k1 _ _ (by omega) (by omega) (by omega), d1 _ _ (by omega)]
        unfold sp_row at hj ⊢
        split at hj
        · simp at hj
        · rename_i hqk
          rw [if_neg hqk]
          exact g1.2 j hj
      · rw [k1 _ _ (by omega) (by omega) (by omega), d3]; exact g2
      · rw [k1 _ _ (by omega) (by omega) (by omega)]; exact d4
    · obtain ⟨g1, g2, g3, g4⟩ := h2 q (by omega) hq2
      refine ⟨sd_RV_cong g1 ?_ (fun k => ?_), ?_, ?_, ?_⟩
      · rw [k1 _ _ (by omega) (by omega) (by omega), d1 _ _ (by omega)]
      · rw [k1 _ _ (by omega) (by omega) (by omega), d1 _ _ (by omega)]
      · rw [k1 _ _ (by omega) (by omega) (by omega), d1 _ _ (by omega)]; exact g2
      · rw [k1 _ _ (by omega) (by omega) (by omega), d1 _ _ (by omega)]; exact g3
      · rw [k1 _ _ (by omega) (by omega) (by omega), d1 _ _ (by omega)]; exact g4
  · obtain ⟨g1, g2⟩ := h3 q (by omega) hq2
    refine ⟨sd_RV_cong g1 ?_ (fun k => ?_), ?_⟩
    · rw [k1 _ _ (by omega) (by omega) (by omega), d1 _ _ (by omega)]
    · rw [k1 _ _ (by omega) (by omega) (by omega), d1 _ _ (by omega)]
    · rw [k1 _ _ (by omega) (by omega) (by omega), d1 _ _ (by omega)]; exact g2
  · by_cases hm : c ∈ sp_row β p
    · obtain ⟨j, hj, e⟩ := List.getElem_of_mem hm
      have e2 : (sp_row β p).getD j 0 = c := by rw [List.getD_eq_getElem?_getD, List.getElem?_eq_getElem hj]; exact e
      have g := k3 j hj
      rw [e2] at g
      have hpc := (hmem c hm).2
      unfold sd_LP
      rw [hpc, ← e2, sp_pl_at (sp_row_nodup β p) hj, sp_si_at (sp_row_nodup β p) hj, e2]
      exact g
    · obtain ⟨g1, g2⟩ := k2 c hm
      by_cases e : sp_per β c = p
      · have g := h5 c hc (by omega)
        unfold sd_LP
        rw [e, sp_pl_no hm, sp_si_no hm, g1, g2, d1 _ _ (by omega), d1 _ _ (by omega)]
        exact g
      · have g := h4 c hc (by omega)
        unfold sd_LP
        rw [g1, g2, d1 _ _ (by omega), d1 _ _ (by omega)]
        exact g
  · have hm : c ∉ sp_row β p := fun q => by have := (hmem c q).2; omega
    obtain ⟨g1, g2⟩ := k2 c hm
    rw [g1, g2, d1 _ _ (by omega), d1 _ _ (by omega)]
    exact h5 c hc (by omega)
end
section
set_option maxRecDepth 20000 in
set_option maxHeartbeats 4000000 in
theorem c_X4_isCut (l : Launch) (D : va_G) (ad : Nat → Nat) (ca : Nat → ClassId) (T : Nat → Nat) (σ : sd_Mem) (β : sp_B) (a b : Nat) (hC : sd_CR σ β) (hG : sd_RG β) (x y : Int32) (hx : x.toInt = (a : Int)) (hy : y.toInt = (b : Int)) (ha : a < 120) (hb : b < 120) : sd_Cz l yX4_isCut cX4_isCut 5 0 D ad ca T σ [.ref (ad 0), .int x, .int y] (fun r σ' => σ' = σ ∧ ((r.toInt = 1 ∧ sp_cut β a b = true) ∨ (r.toInt = 0 ∧ sp_cut β a b = false))) := by
  refine sd_ent_z (own := RX4) (by decide) rfl (Nat.le_of_ble_eq_true rfl) (fun X C hret => ?_)
  show sd_Wd X 5 D ad ca σ [(0, .ref (ad 0)), (1, .int x), (2, .int y)] 0 []
  have a1 := hC.2.1 a ha
  have b1 := hC.2.1 b hb
  have a2 := hG.2.1 a ha
  have b2 := hG.2.1 b hb
  have u0 := hC.2.2.2.1 0 (by decide)
  have u1 := hC.2.2.2.1 1 (by decide)
  have u2 := hC.2.2.2.1 2 (by decide)
  refine sd_aload_n C dX4_isCut_0 0 rfl rfl ?_
  refine sd_get C (by decide) rfl rfl 0 (by decide) rfl wf_X4_10 dX4_isCut_1 ?_
  refine sd_get C (by decide) rfl rfl 0 (by decide) rfl wf_X4_97 dX4_isCut_4 ?_
  refine sd_iload_n C dX4_isCut_7 1 rfl rfl ?_
  refine sd_iald C (by decide) rfl (a) ⟨by omega, by omega⟩ dX4_isCut_8 ?_
  refine sd_istore_n (lv' := [(3, .int (σ 2 (a))), (0, .ref (ad 0)), (1, .int x), (2, .int y)]) C dX4_isCut_9 rfl (by decide) rfl ?_
  refine sd_aload_n C dX4_isCut_10 1 rfl rfl ?_
  refine sd_get C (by decide) rfl rfl 0 (by decide) rfl wf_X4_10 dX4_isCut_11 ?_
  refine sd_get C (by decide) rfl rfl 0 (by decide) rfl wf_X4_97 dX4_isCut_14 ?_
  refine sd_iload_n C dX4_isCut_17 3 rfl rfl ?_
  refine sd_iald C (by decide) rfl (b) ⟨by omega, by omega⟩ dX4_isCut_18 ?_
  refine sd_istore (lv' := [(4, .int (σ 2 (b))), (3, .int (σ 2 (a))), (0, .ref (ad 0)), (1, .int x), (2, .int y)]) C dX4_isCut_19 (by decide) rfl ?_
  refine sd_iload C dX4_isCut_21 0 rfl ?_
  refine sd_iload_n C dX4_isCut_23 1 rfl rfl ?_
  refine sd_isub C dX4_isCut_24 (by omega) (fun z24 ez24 => ?_)
  refine sd_aload_n C dX4_isCut_25 2 rfl rfl ?_
  refine sd_get C (by decide) rfl rfl 2 (by decide) rfl wf_X4_29 dX4_isCut_26 ?_
  refine sd_iconst C dX4_isCut_29 (by decide) (fun k29 ek29 => ?_)
  refine sd_iald C (by decide) rfl (0) ⟨by omega, by omega⟩ dX4_isCut_30 ?_
  refine sd_icmp_gt C 76 dX4_isCut_31 (by decide) (fun c31 => ?_) (fun c31 => ?_)
  · refine sd_iconst C dX4_isCut_76 (by decide) (fun k76 ek76 => ?_)
    refine sd_goto C 81 dX4_isCut_77 (by decide) ?_
    exact hret _ _ _ _ dX4_isCut_81 (by omega) (⟨rfl, Or.inl ⟨by omega, sp_cut_t (by omega)⟩⟩)
  · refine sd_aload_n C dX4_isCut_34 2 rfl rfl ?_
    refine sd_get C (by decide) rfl rfl 2 (by decide) rfl wf_X4_29 dX4_isCut_35 ?_
    refine sd_iconst C dX4_isCut_38 (by decide) (fun k38 ek38 => ?_)
    refine sd_iald C (by decide) rfl (1) ⟨by omega, by omega⟩ dX4_isCut_39 ?_
    refine sd_iconst C dX4_isCut_40 (by decide) (fun k40 ek40 => ?_)
    refine sd_icmp_ne C 58 dX4_isCut_41 (by decide) (fun c41 => ?_) (fun c41 => ?_)
    · refine sd_aload_n C dX4_isCut_58 2 rfl rfl ?_
      refine sd_get C (by decide) rfl rfl 0 (by decide) rfl wf_X4_10 dX4_isCut_59 ?_
      refine sd_get C (by decide) rfl rfl 2 (by decide) rfl wf_X4_103 dX4_isCut_62 ?_
      refine sd_iload_n C dX4_isCut_65 3 rfl rfl ?_
      refine sd_iald C (by decide) rfl (a) ⟨by omega, by omega⟩ dX4_isCut_66 ?_
      refine sd_aload_n C dX4_isCut_67 2 rfl rfl ?_
      refine sd_get C (by decide) rfl rfl 2 (by decide) rfl wf_X4_29 dX4_isCut_68 ?_
      refine sd_iconst C dX4_isCut_71 (by decide) (fun k71 ek71 => ?_)
      refine sd_iald C (by decide) rfl (2) ⟨by omega, by omega⟩ dX4_isCut_72 ?_
      refine sd_icmp_ne C 80 dX4_isCut_73 (by decide) (fun c73 => ?_) (fun c73 => ?_)
      · refine sd_iconst C dX4_isCut_80 (by decide) (fun k80 ek80 => ?_)
        exact hret _ _ _ _ dX4_isCut_81 (by omega) (⟨rfl, Or.inr ⟨by omega, sp_cut_f (by omega)⟩⟩)
      · refine sd_iconst C dX4_isCut_76 (by decide) (fun k76 ek76 => ?_)
        refine sd_goto C 81 dX4_isCut_77 (by decide) ?_
        exact hret _ _ _ _ dX4_isCut_81 (by omega) (⟨rfl, Or.inl ⟨by omega, sp_cut_t (by omega)⟩⟩)
    · refine sd_iload C dX4_isCut_44 0 rfl ?_
      refine sd_sipush C dX4_isCut_46 (by decide) (fun k46 ek46 => ?_)
      refine sd_idiv C 1440 (by decide) dX4_isCut_49 ek46 (by omega) (fun z49 ez49 => ?_)
      refine sd_iload_n C dX4_isCut_50 1 rfl rfl ?_
      refine sd_sipush C dX4_isCut_51 (by decide) (fun k51 ek51 => ?_)
      refine sd_idiv C 1440 (by decide) dX4_isCut_54 ek51 (by omega) (fun z54 ez54 => ?_)
      refine sd_icmp_ne C 76 dX4_isCut_55 (by decide) (fun c55 => ?_) (fun c55 => ?_)
      · refine sd_iconst C dX4_isCut_76 (by decide) (fun k76 ek76 => ?_)
        refine sd_goto C 81 dX4_isCut_77 (by decide) ?_
        exact hret _ _ _ _ dX4_isCut_81 (by omega) (⟨rfl, Or.inl ⟨by omega, sp_cut_t (by omega)⟩⟩)
      · refine sd_aload_n C dX4_isCut_58 2 rfl rfl ?_
        refine sd_get C (by decide) rfl rfl 0 (by decide) rfl wf_X4_10 dX4_isCut_59 ?_
        refine sd_get C (by decide) rfl rfl 2 (by decide) rfl wf_X4_103 dX4_isCut_62 ?_
        refine sd_iload_n C dX4_isCut_65 3 rfl rfl ?_
        refine sd_iald C (by decide) rfl (a) ⟨by omega, by omega⟩ dX4_isCut_66 ?_
        refine sd_aload_n C dX4_isCut_67 2 rfl rfl ?_
        refine sd_get C (by decide) rfl rfl 2 (by decide) rfl wf_X4_29 dX4_isCut_68 ?_
        refine sd_iconst C dX4_isCut_71 (by decide) (fun k71 ek71 => ?_)
        refine sd_iald C (by decide) rfl (2) ⟨by omega, by omega⟩ dX4_isCut_72 ?_
        refine sd_icmp_ne C 80 dX4_isCut_73 (by decide) (fun c73 => ?_) (fun c73 => ?_)
        · refine sd_iconst C dX4_isCut_80 (by decide) (fun k80 ek80 => ?_)
          exact hret _ _ _ _ dX4_isCut_81 (by omega) (⟨rfl, Or.inr ⟨by omega, sp_cut_f (by omega)⟩⟩)
        · refine sd_iconst C dX4_isCut_76 (by decide) (fun k76 ek76 => ?_)
          refine sd_goto C 81 dX4_isCut_77 (by decide) ?_
          exact hret _ _ _ _ dX4_isCut_81 (by omega) (⟨rfl, Or.inl ⟨by omega, sp_cut_t (by omega)⟩⟩)

set_option maxRecDepth 20000 in
set_option maxHeartbeats 4000000 in
theorem c_X4_cutSittings (l : Launch) (D : va_G) (ad : Nat → Nat) (ca : Nat → ClassId) (T : Nat → Nat) (σ : sd_Mem) (β : sp_B) (q : Nat) (l9 : List Nat) (hW : sd_RW σ β q l9) (hN : l9.Nodup) (hq : q < 24) : sd_Cv l yX4_cutSittings cX4_cutSittings 5 1 D ad ca T σ [.ref (ad 0), .ref (ad (16 + q))] (fun σ' => (∀ i k, i ≠ 10 → i ≠ 11 → ¬ (i = 16 + q ∧ k = 5) → σ' i k = σ i k) ∧ (∀ c, c ∉ l9 → σ' 10 c = σ 10 c ∧ σ' 11 c = σ 11 c) ∧ (∀ j, j < l9.length → (σ' 10 (l9.getD j 0)).toInt = (j : Int) ∧ (σ' 11 (l9.getD j 0)).toInt = (sp_ns β l9 (j + 1) : Int) - 1) ∧ (σ' (16 + q) 5).toInt = (sp_ns β l9 l9.length : Int)) := by
  refine sd_ent_v (own := RX4) (by decide) rfl (Nat.le_of_ble_eq_true rfl) (fun X C hret => ?_)
  show sd_Wd X 5 D ad ca σ [(0, .ref (ad 0)), (1, .ref (ad (16 + q)))] 0 []
  have hz := hW.2.2.1.1
  have hl9 := hW.2.2.2.1
  refine sd_iconst C dX4_cutSittings_0 (by decide) (fun k0 ek0 => ?_)
  refine sd_istore_n (lv' := [(2, .int k0), (0, .ref (ad 0)), (1, .ref (ad (16 + q)))]) C dX4_cutSittings_1 rfl (by decide) rfl ?_
  refine sd_iconst C dX4_cutSittings_2 (by decide) (fun k2 ek2 => ?_)
  refine sd_istore_n (lv' := [(3, .int k2), (2, .int k0), (0, .ref (ad 0)), (1, .ref (ad (16 + q)))]) C dX4_cutSittings_3 rfl (by decide) rfl ?_
  have key4 : ∀ (fu4 : Nat) (x2 : Int32) (x3 : Int32) (j : Nat) (τ : sd_Mem), (x3.toInt = (j : Int)) → (x2.toInt = (sp_ns β l9 j : Int)) → (j ≤ l9.length) → (∀ i k, i ≠ 10 → i ≠ 11 → τ i k = σ i k) → (∀ c, c ∉ l9 → τ 10 c = σ 10 c ∧ τ 11 c = σ 11 c) → (∀ i, i < j → (τ 10 (l9.getD i 0)).toInt = (i : Int) ∧ (τ 11 (l9.getD i 0)).toInt = (sp_ns β l9 (i + 1) : Int) - 1) → (l9.length - j < fu4) → sd_Wd X 5 D ad ca τ [(3, .int x3), (2, .int x2), (0, .ref (ad 0)), (1, .ref (ad (16 + q)))] 4 [] := by
    intro fu4
    induction fu4 with
    | zero => intro x2 x3 j τ h3 h2 hj fr no ys hm4; exact absurd hm4 (Nat.not_lt_zero _)
    | succ fu4 ih4 =>
      intro x2 x3 j τ h3 h2 hj fr no ys hm4
      have hzt : (τ (16 + q) 2).toInt = (l9.length : Int) := by rw [fr _ _ (by omega) (by omega)]; exact hz
      have hWt : sd_RW τ β q l9 := ⟨sd_CR_fr (fun a k ha => fr a k (fun e => ha (by unfold sd_lay; omega)) (fun e => ha (by unfold sd_lay; omega))) hW.1, hW.2.1, sd_RV_cong hW.2.2.1 (fr _ _ (by omega) (by omega)) (fun k => fr _ _ (by omega) (by omega)), hW.2.2.2⟩
      have hns := sp_ns_le β l9 j
      have key44 : ∀ (y2 : Int32), (j < l9.length) → (y2.toInt = (sp_ns β l9 (j + 1) : Int)) → sd_Wd X 5 D ad ca τ [(2, .int y2), (4, .int (τ (40 + q) j)), (3, .int x3), (0, .ref (ad 0)), (1, .ref (ad (16 + q)))] 44 [] := by
          intro y2 hjl hy2
          have t1 := hWt.at (j := j) hjl
          have hn1 := sp_ns_le β l9 (j + 1)
          have hn2 := sp_ns_pos β l9 j
          refine sd_aload_n C dX4_cutSittings_44 3 rfl rfl ?_
          refine sd_get C (by decide) rfl rfl 4 (by decide) rfl wf_X4_32 dX4_cutSittings_45 ?_
          refine sd_iload C dX4_cutSittings_48 1 rfl ?_
          refine sd_iload_n C dX4_cutSittings_50 2 rfl rfl ?_
          refine sd_iast C (by decide) (fun _ => rfl) ((τ (40 + q) j).toInt.toNat) ⟨by omega, by omega⟩ dX4_cutSittings_51 (fun s51 es51 => ?_)
          refine sd_aload_n C dX4_cutSittings_52 3 rfl rfl ?_
          refine sd_get C (by decide) rfl rfl 5 (by decide) rfl wf_X4_35 dX4_cutSittings_53 ?_
          refine sd_iload C dX4_cutSittings_56 1 rfl ?_
          refine sd_iload_n C dX4_cutSittings_58 0 rfl rfl ?_
          refine sd_iconst C dX4_cutSittings_59 (by decide) (fun k59 ek59 => ?_)
          refine sd_isub C dX4_cutSittings_60 (by omega) (fun z60 ez60 => ?_)
          refine sd_iast C (by decide) (fun _ => rfl) ((τ (40 + q) j).toInt.toNat) ⟨by omega, by omega⟩ dX4_cutSittings_61 (fun s61 es61 => ?_)
          refine sd_iinc C dX4_cutSittings_62 2 rfl (by decide) (by decide) (by omega) (fun zz => [(3, .int zz), (2, .int y2), (4, .int (τ (40 + q) j)), (0, .ref (ad 0)), (1, .ref (ad (16 + q)))]) (fun _ => rfl) (fun u62 eu62 => ?_)
          refine sd_goto C 4 dX4_cutSittings_65 (by decide) ?_
          exact sd_lv (ih4 y2 u62 (j + 1) s61 (by omega) (by omega) (by omega) (fun i k h1 h2 => by rw [es61, sd_st_ne h2, es51, sd_st_ne h1]; exact fr i k h1 h2) (fun c hc => by
                have e : c ≠ l9.getD j 0 := fun e => hc (by rw [e]; exact sp_getD_mem hjl)
                rw [es61, sd_st_nk (by rw [t1.1]; exact e), sd_st_nk (by rw [t1.1]; exact e), es51, sd_st_nk (by rw [t1.1]; exact e), sd_st_nk (by rw [t1.1]; exact e)]
                exact no c hc) (fun i h => by
                by_cases e : i = j
                · subst e
                  rw [es61, ← t1.1, sd_st_at, sd_st_ne (by decide), es51, sd_st_at]
                  exact ⟨h3, by omega⟩
                · have e2 : l9.getD i 0 ≠ l9.getD j 0 := fun q9 => by
                    have q1 := sp_pl_at hN (j := i) (by omega)
                    have q2 := sp_pl_at hN (j := j) hjl
                    rw [q9] at q1
                    omega
                  rw [es61, sd_st_nk (by rw [t1.1]; exact e2), sd_st_nk (by rw [t1.1]; exact e2), es51, sd_st_nk (by rw [t1.1]; exact e2), sd_st_nk (by rw [t1.1]; exact e2)]
                  exact ys i (by omega)) (by omega)) [0, 1, 3, 4] rfl
      refine sd_iload_n C dX4_cutSittings_4 0 rfl rfl ?_
      refine sd_aload_n C dX4_cutSittings_5 3 rfl rfl ?_
      refine sd_get C (by omega) (sd_cell_row _ (by omega)) rfl 2 (by decide) rfl wf_X4_106 dX4_cutSittings_6 ?_
      refine sd_icmp_ge C 68 dX4_cutSittings_9 (by decide) (fun c9 => ?_) (fun c9 => ?_)
      · refine sd_aload_n C dX4_cutSittings_68 3 rfl rfl ?_
        refine sd_iload_n C dX4_cutSittings_69 1 rfl rfl ?_
        refine sd_put C (ty := .int) (by omega) (sd_cell_row _ (by omega)) rfl 5 (by decide) rfl (by decide +kernel) rfl rfl (Nat.le_of_ble_eq_true rfl) (fun _ => by rw [sd_cell_row _ (by omega)]; rfl) wf_X4_113 dX4_cutSittings_70 (fun s70 es70 => ?_)
        exact hret _ _ _ dX4_cutSittings_73 (by
            have e : l9.length = j := by omega
            refine ⟨fun i k h1 h2 h3 => ?_, fun c hc => ?_, fun i hi => ?_, ?_⟩
            · by_cases e16 : i = 16 + q
              · subst e16
                rw [es70, sd_st_nk (fun e5 => h3 ⟨rfl, e5⟩)]; exact fr _ k h1 h2
              · rw [es70, sd_st_ne e16]; exact fr i k h1 h2
            · rw [es70, sd_st_ne (by omega), sd_st_ne (by omega)]; exact no c hc
            · rw [es70, sd_st_ne (by omega), sd_st_ne (by omega)]; exact ys i (by omega)
            · rw [es70, sd_st_at, e]; exact h2)
      · have t1 := hWt.at (j := j) (by omega)
        refine sd_aload_n C dX4_cutSittings_12 3 rfl rfl ?_
        refine sd_get C (by omega) (sd_cell_row _ (by omega)) rfl 1 (by decide) rfl wf_X4_121 dX4_cutSittings_13 ?_
        refine sd_iload_n C dX4_cutSittings_16 0 rfl rfl ?_
        refine sd_iald C (by omega) (sd_cell_rowA _ (by omega)) (j) ⟨by omega, by omega⟩ dX4_cutSittings_17 ?_
        refine sd_istore (lv' := [(4, .int (τ (40 + q) (j))), (3, .int x3), (2, .int x2), (0, .ref (ad 0)), (1, .ref (ad (16 + q)))]) C dX4_cutSittings_18 (by decide) rfl ?_
        refine sd_iload_n C dX4_cutSittings_20 1 rfl rfl ?_
        refine sd_if_eq C 41 dX4_cutSittings_21 (by decide) (fun c21 => ?_) (fun c21 => ?_)
        · refine sd_iinc C dX4_cutSittings_41 2 rfl (by decide) (by decide) (by omega) (fun zz => [(2, .int zz), (4, .int (τ (40 + q) (j))), (3, .int x3), (0, .ref (ad 0)), (1, .ref (ad (16 + q)))]) (fun _ => rfl) (fun u41 eu41 => ?_)
          exact key44 u41 (by omega) (by rw [sp_ns_s (by first | (left; omega) | (right; rcases h35 with h | h; exact h.2; exact absurd h.1 (by omega)))]; omega)
        · refine sd_aload_n C dX4_cutSittings_24 3 rfl rfl ?_
          have t2 := hWt.at (j := j - 1) (by omega)
          refine sd_aload_n C dX4_cutSittings_25 4 rfl rfl ?_
          refine sd_get C (by omega) (sd_cell_row _ (by omega)) rfl 1 (by decide) rfl wf_X4_121 dX4_cutSittings_26 ?_
          refine sd_iload_n C dX4_cutSittings_29 1 rfl rfl ?_
          refine sd_iconst C dX4_cutSittings_30 (by decide) (fun k30 ek30 => ?_)
          refine sd_isub C dX4_cutSittings_31 (by omega) (fun z31 ez31 => ?_)
          refine sd_iald C (by omega) (sd_cell_rowA _ (by omega)) ((j - 1)) ⟨by omega, by omega⟩ dX4_cutSittings_32 ?_
          refine sd_iload C dX4_cutSittings_33 0 rfl ?_
          refine sd_pVz C (c_X4_isCut l D ad ca T τ β (l9.getD (j - 1) 0) (l9.getD j 0) hWt.1 hWt.2.1 (τ (40 + q) (j - 1)) (τ (40 + q) j) (by omega) (by omega) (by omega) (by omega)) mv_X4_isCut wm_X4_193 (by decide) rfl rfl (by decide) rfl rfl (Nat.le_of_ble_eq_true rfl) dX4_cutSittings_35 (fun r35 h35 => ?_)
          try dsimp only at h35
          refine sd_if_eq C 44 dX4_cutSittings_38 (by decide) (fun c38 => ?_) (fun c38 => ?_)
          · exact sd_lv (key44 x2 (by omega) (by rw [sp_ns_k (by omega) (by rcases h35 with h | h; exact absurd h.1 (by omega); exact h.2)]; omega)) [2, 0, 1, 3, 4] rfl
          · refine sd_iinc C dX4_cutSittings_41 2 rfl (by decide) (by decide) (by omega) (fun zz => [(2, .int zz), (4, .int (τ (40 + q) (j))), (3, .int x3), (0, .ref (ad 0)), (1, .ref (ad (16 + q)))]) (fun _ => rfl) (fun u41 eu41 => ?_)
            exact key44 u41 (by omega) (by rw [sp_ns_s (by first | (left; omega) | (right; rcases h35 with h | h; exact h.2; exact absurd h.1 (by omega)))]; omega)
  exact key4 _ k0 k2 0 σ (by omega) (by rw [sp_ns]; omega) (by omega) (fun _ _ _ _ => rfl) (fun _ _ => ⟨rfl, rfl⟩) (fun i h => by omega) (Nat.lt_succ_self _)

set_option maxRecDepth 20000 in
set_option maxHeartbeats 4000000 in
theorem c_X4_layRows (l : Launch) (D : va_G) (ad : Nat → Nat) (ca : Nat → ClassId) (T : Nat → Nat) (σ : sd_Mem) (β : sp_B) (hC : sd_CR σ β) (hG : sd_RG β) (hB : sd_BT σ β) : sd_Cv l yX4_layRows cX4_layRows 3 4 D ad ca T σ [.ref (ad 0)] (fun σ' => (∀ a k, ¬ sd_lay a → σ' a k = σ a k) ∧ sd_LD σ' β) := by
  refine sd_ent_v (own := RX4) (by decide) rfl (Nat.le_of_ble_eq_true rfl) (fun X C hret => ?_)
  show sd_Wd X 3 D ad ca σ [(0, .ref (ad 0))] 0 []
  have hN := sp_n_le hG
  have hlen := sp_srt_len (t := β 1) (sp_n β)
  refine sd_iconst C dX4_layRows_0 (by decide) (fun k0 ek0 => ?_)
  refine sd_istore_n (lv' := [(1, .int k0), (0, .ref (ad 0))]) C dX4_layRows_1 rfl (by decide) rfl ?_
  have key2 : ∀ (fu2 : Nat) (p1 : Int32) (p : Nat) (τ : sd_Mem), (p1.toInt = (p : Int)) → (p ≤ 24) → (sd_l1 σ τ p) → (24 - p < fu2) → sd_Wd X 3 D ad ca τ [(1, .int p1), (0, .ref (ad 0))] 2 [] := by
    intro fu2
    induction fu2 with
    | zero => intro p1 p τ hp1 hp H hm2; exact absurd hm2 (Nat.not_lt_zero _)
    | succ fu2 ih2 =>
      intro p1 p τ hp1 hp H hm2
      refine sd_iload_n C dX4_layRows_2 0 rfl rfl ?_
      refine sd_bipush C dX4_layRows_3 (by decide) (fun k3 ek3 => ?_)
      refine sd_icmp_ge C 23 dX4_layRows_5 (by decide) (fun c5 => ?_) (fun c5 => ?_)
      · refine sd_iconst C dX4_layRows_23 (by decide) (fun k23 ek23 => ?_)
        refine sd_istore_n (lv' := [(1, .int k23), (0, .ref (ad 0))]) C dX4_layRows_24 rfl (by decide) rfl ?_
        have key25 : ∀ (fu25 : Nat) (p2 : Int32) (i : Nat) (τ : sd_Mem), (p2.toInt = (i : Int)) → (i ≤ sp_n β) → (sd_l2 σ β τ i) → (sp_n β - i < fu25) → sd_Wd X 3 D ad ca τ [(1, .int p2), (0, .ref (ad 0))] 25 [] := by
          intro fu25
          induction fu25 with
          | zero => intro p2 i τ hp2 hi H2 hm25; exact absurd hm25 (Nat.not_lt_zero _)
          | succ fu25 ih25 =>
            intro p2 i τ hp2 hi H2 hm25
            have hCt := sd_CR_fr H2.1 hC
            refine sd_iload_n C dX4_layRows_25 0 rfl rfl ?_
            refine sd_aload_n C dX4_layRows_26 1 rfl rfl ?_
            refine sd_get C (by decide) rfl rfl 0 (by decide) rfl wf_X4_10 dX4_layRows_27 ?_
            refine sd_get C (by decide) rfl rfl 5 (by decide) rfl wf_X4_123 dX4_layRows_30 ?_
            have hsz : (τ 1 5).toInt = β 0 0 := hCt.1.1
            refine sd_icmp_ge C 89 dX4_layRows_33 (by decide) (fun c33 => ?_) (fun c33 => ?_)
            · refine sd_iconst C dX4_layRows_89 (by decide) (fun k89 ek89 => ?_)
              refine sd_istore_n (lv' := [(1, .int k89), (0, .ref (ad 0))]) C dX4_layRows_90 rfl (by decide) rfl ?_
              have key91 : ∀ (fu91 : Nat) (p3 : Int32) (p : Nat) (τ : sd_Mem), (p3.toInt = (p : Int)) → (p ≤ 24) → (sd_l3 σ β τ p) → (24 - p < fu91) → sd_Wd X 3 D ad ca τ [(1, .int p3), (0, .ref (ad 0))] 91 [] := by
                intro fu91
                induction fu91 with
                | zero => intro p3 p τ hp3 hp H3 hm91; exact absurd hm91 (Nat.not_lt_zero _)
                | succ fu91 ih91 =>
                  intro p3 p τ hp3 hp H3 hm91
                  have hCt := sd_CR_fr H3.1 hC
                  have u3 := hCt.2.2.2.1 3 (by decide)
                  have u4 := hCt.2.2.2.1 4 (by decide)
                  refine sd_iload_n C dX4_layRows_91 0 rfl rfl ?_
                  refine sd_bipush C dX4_layRows_92 (by decide) (fun k92 ek92 => ?_)
                  refine sd_icmp_ge C 134 dX4_layRows_94 (by decide) (fun c94 => ?_) (fun c94 => ?_)
                  · exact hret _ _ _ dX4_layRows_134 (⟨H3.1, sd_l3_end hG (by rw [show (24 : Nat) = p by omega]; exact H3)⟩)
                  · refine sd_aload_n C dX4_layRows_97 1 rfl rfl ?_
                    refine sd_get C (by decide) rfl rfl 3 (by decide) rfl wf_X4_22 dX4_layRows_98 ?_
                    refine sd_iload_n C dX4_layRows_101 0 rfl rfl ?_
                    refine sd_aald9 C (p) ⟨by omega, by omega⟩ dX4_layRows_102 ?_
                    refine sd_aload_n C dX4_layRows_103 1 rfl rfl ?_
                    refine sd_get C (by decide) rfl rfl 2 (by decide) rfl wf_X4_29 dX4_layRows_104 ?_
                    refine sd_iconst C dX4_layRows_107 (by decide) (fun k107 ek107 => ?_)
                    refine sd_iald C (by decide) rfl (3) ⟨by omega, by omega⟩ dX4_layRows_108 ?_
                    refine sd_aload_n C dX4_layRows_109 1 rfl rfl ?_
                    refine sd_get C (by decide) rfl rfl 2 (by decide) rfl wf_X4_29 dX4_layRows_110 ?_
                    refine sd_iconst C dX4_layRows_113 (by decide) (fun k113 ek113 => ?_)
                    refine sd_iald C (by decide) rfl (4) ⟨by omega, by omega⟩ dX4_layRows_114 ?_
                    have hWr : sd_RW τ β p (sp_raw β p) := ⟨hCt, hG, (H3.2.2.1 p (Nat.le_refl p) (by omega)).1, sp_raw_ok hG p⟩
                    refine sd_callVv C (c_X2_dropIfQuick l D ad ca T τ β p (sp_raw β p) hWr (by omega) (τ 8 3) (τ 8 4) (by omega) (by omega)) mv_X2_dropIfQuick wm_X4_185 (by omega) (sd_cell_row _ (by omega)) rfl (by decide) rfl rfl (Nat.le_of_ble_eq_true rfl) dX4_layRows_115 (fun s115 h115 => ?_)
                    try dsimp only at h115
                    refine sd_aload_n C dX4_layRows_118 1 rfl rfl ?_
                    refine sd_aload_n C dX4_layRows_119 1 rfl rfl ?_
                    refine sd_get C (by decide) rfl rfl 3 (by decide) rfl wf_X4_22 dX4_layRows_120 ?_
                    refine sd_iload_n C dX4_layRows_123 0 rfl rfl ?_
                    refine sd_aald9 C (p) ⟨by omega, by omega⟩ dX4_layRows_124 ?_
                    have hWq : sd_RW s115 β p (sp_row β p) := by
                      refine ⟨sd_CR_fr (fun a k ha => h115.1 a k (fun e => ha (by unfold sd_lay; omega))) hCt, hG, ⟨h115.2.1, fun j hj => ?_⟩, sp_row_ok hG p⟩
                      rw [h115.1 _ _ (by omega)]
                      unfold sp_row at hj ⊢
                      split at hj
                      · simp at hj
                      · rename_i hqk
                        rw [if_neg hqk]
                        exact hWr.2.2.1.2 j hj
                    refine sd_callVv C (c_X4_cutSittings l D ad ca T s115 β p (sp_row β p) hWq (sp_row_nodup β p) (by omega)) mv_X4_cutSittings wm_X4_189 (by decide) rfl rfl (by decide) rfl rfl (Nat.le_of_ble_eq_true rfl) dX4_layRows_125 (fun s125 h125 => ?_)
                    try dsimp only at h125
                    refine sd_iinc C dX4_layRows_128 0 rfl (by decide) (by decide) (by omega) (fun zz => [(1, .int zz), (0, .ref (ad 0))]) (fun _ => rfl) (fun u128 eu128 => ?_)
                    refine sd_goto C 91 dX4_layRows_131 (by decide) ?_
                    exact ih91 u128 (p + 1) s125 (by omega) (by omega) (sd_l3_step hG (by omega) H3 h115.1 h115.2.1 h115.2.2.1 h115.2.2.2.1 h125.1 h125.2.1 h125.2.2.1 h125.2.2.2) (by omega)
              exact key91 _ k89 0 τ (by omega) (by omega) (sd_l3_0 hG (by rw [show sp_n β = i by omega]; exact H2)) (Nat.lt_succ_self _)
            · refine sd_aload_n C dX4_layRows_36 1 rfl rfl ?_
              refine sd_get C (by decide) rfl rfl 0 (by decide) rfl wf_X4_10 dX4_layRows_37 ?_
              refine sd_get C (by decide) rfl rfl 4 (by decide) rfl wf_X4_178 dX4_layRows_40 ?_
              refine sd_iload_n C dX4_layRows_43 0 rfl rfl ?_
              refine sd_iald C (by decide) rfl (i) ⟨by omega, by omega⟩ dX4_layRows_44 ?_
              refine sd_istore_n (lv' := [(2, .int (τ 6 (i))), (1, .int p2), (0, .ref (ad 0))]) C dX4_layRows_45 rfl (by decide) rfl ?_
              have hbt : (τ 6 i).toInt = (((sp_srt (β 1) (sp_n β)).getD i 0 : Nat) : Int) := by rw [H2.1 6 i (by unfold sd_lay; omega)]; exact hB i (by omega)
              obtain ⟨c, hc0⟩ : ∃ c, c = (sp_srt (β 1) (sp_n β)).getD i 0 := ⟨_, rfl⟩
              rw [← hc0] at hbt
              have hcn : c < sp_n β := by rw [hc0]; exact sp_srt_mem.mp (sp_getD_mem (by omega))
              have hper := sp_per_lt hG (c := c) (by omega)
              have hxc : (τ 6 i).toInt.toNat = c := by omega
              have hwc := hCt.2.1 c (by omega)
              have hgc := hG.2.1 c (by omega)
              have hpc := hCt.2.2.1 (β 2 c).toNat (by omega)
              have hpg := hG.2.2.1 (β 2 c).toNat (by omega)
              refine sd_aload_n C dX4_layRows_46 2 rfl rfl ?_
              refine sd_get C (by decide) rfl rfl 4 (by decide) rfl wf_X4_32 dX4_layRows_47 ?_
              refine sd_iload_n C dX4_layRows_50 0 rfl rfl ?_
              refine sd_iconst C dX4_layRows_51 (by decide) (fun k51 ek51 => ?_)
              refine sd_iast C (by decide) (fun _ => rfl) ((τ 6 (i)).toInt.toNat) ⟨by omega, by omega⟩ dX4_layRows_52 (fun s52 es52 => ?_)
              have g52 : ∀ a k, a ≠ 10 → s52 a k = τ a k := fun a k h => by rw [es52, sd_st_ne h]
              refine sd_aload_n C dX4_layRows_53 2 rfl rfl ?_
              refine sd_get C (by decide) rfl rfl 5 (by decide) rfl wf_X4_35 dX4_layRows_54 ?_
              refine sd_iload_n C dX4_layRows_57 0 rfl rfl ?_
              refine sd_iconst C dX4_layRows_58 (by decide) (fun k58 ek58 => ?_)
              refine sd_iast C (by decide) (fun _ => rfl) ((τ 6 (i)).toInt.toNat) ⟨by omega, by omega⟩ dX4_layRows_59 (fun s59 es59 => ?_)
              have g59 : ∀ a k, a ≠ 10 → a ≠ 11 → s59 a k = τ a k := fun a k h h2 => by rw [es59, sd_st_ne h2]; exact g52 a k h
              refine sd_aload_n C dX4_layRows_60 2 rfl rfl ?_
              refine sd_get C (by decide) rfl rfl 3 (by decide) rfl wf_X4_22 dX4_layRows_61 ?_
              refine sd_aload_n C dX4_layRows_64 2 rfl rfl ?_
              refine sd_get C (by decide) rfl rfl 1 (by decide) rfl wf_X4_16 dX4_layRows_65 ?_
              refine sd_aload_n C dX4_layRows_68 2 rfl rfl ?_
              refine sd_get C (by decide) rfl rfl 0 (by decide) rfl wf_X4_10 dX4_layRows_69 ?_
              refine sd_get C (by decide) rfl rfl 1 (by decide) rfl wf_X4_100 dX4_layRows_72 ?_
              refine sd_iload_n C dX4_layRows_75 0 rfl rfl ?_
              refine sd_iald C (by decide) rfl (c) ⟨by omega, by omega⟩ dX4_layRows_76 ?_
              refine sd_iald C (by decide) rfl ((β 2 c).toNat) ⟨by rw [g59 3 _ (by decide) (by decide)]; omega, by omega⟩ dX4_layRows_77 ?_
              refine sd_aald9 C (sp_per β c) ⟨by rw [g59 7 _ (by decide) (by decide)]; unfold sp_per; omega, by omega⟩ dX4_layRows_78 ?_
              refine sd_iload_n C dX4_layRows_79 0 rfl rfl ?_
              obtain ⟨q1, q2⟩ := H2.2.1 (sp_per β c) hper
              obtain ⟨n, hn7⟩ : ∃ n, n = (((sp_srt (β 1) (sp_n β)).take i).filter (sp_cnts β (sp_per β c))).length := ⟨_, rfl⟩
              obtain ⟨w, hw7⟩ : ∃ w, w = (((sp_srt (β 1) (sp_n β)).take i).filter (sp_mine β (sp_per β c))).length := ⟨_, rfl⟩
              have hn9 : (s59 (16 + sp_per β c) 2).toInt = (n : Int) := by rw [es59, sd_st_ne (by omega), es52, sd_st_ne (by omega), hn7]; exact q1.1
              have hw9 : (s59 (16 + sp_per β c) 3).toInt = (w : Int) := by rw [es59, sd_st_ne (by omega), es52, sd_st_ne (by omega), hw7]; exact q2
              have hn8 : n ≤ 120 := by
                rw [hn7]
                refine Nat.le_trans (List.length_filter_le _ _) ?_
                rw [List.length_take]; omega
              have hw8 : w ≤ 1000 := by
                rw [hw7]
                refine Nat.le_trans (List.length_filter_le _ _) ?_
                rw [List.length_take]; omega
              refine sd_callVv C (c_X2_take l D ad ca T s59 (sp_per β c) c n w hper (τ 6 i) hbt (by omega) hn9 hn8 hw9 hw8) mv_X2_take wm_X4_181 (by omega) (sd_cell_row _ (by omega)) rfl (by decide) rfl rfl (Nat.le_of_ble_eq_true rfl) dX4_layRows_80 (fun s80 h80 => ?_)
              try dsimp only at h80
              refine sd_iinc C dX4_layRows_83 1 rfl (by decide) (by decide) (by omega) (fun zz => [(1, .int zz), (2, .int (τ 6 (i))), (0, .ref (ad 0))]) (fun _ => rfl) (fun u83 eu83 => ?_)
              refine sd_goto C 25 dX4_layRows_86 (by decide) ?_
              exact sd_lv (ih25 u83 (i + 1) s80 (by omega) (by omega) (sd_l2_step hG hC (by omega) hc0 ek51 ek58 (hxc ▸ es52) (hxc ▸ es59) H2 hn9 hw9 h80.1 h80.2.1 h80.2.2.2.2) (by omega)) [0, 2] rfl
        exact key25 _ k23 0 τ (by omega) (by omega) (sd_l2_0 (by rw [show (24 : Nat) = p by omega]; exact H)) (Nat.lt_succ_self _)
      · refine sd_aload_n C dX4_layRows_8 1 rfl rfl ?_
        refine sd_get C (by decide) rfl rfl 3 (by decide) rfl wf_X4_22 dX4_layRows_9 ?_
        refine sd_iload_n C dX4_layRows_12 0 rfl rfl ?_
        refine sd_aald9 C (p) ⟨by omega, by omega⟩ dX4_layRows_13 ?_
        refine sd_callVv C (c_X2_empty l D ad ca T τ p (by omega)) mv_X2_empty wm_X4_175 (by omega) (sd_cell_row _ (by omega)) rfl (by decide) rfl rfl (Nat.le_of_ble_eq_true rfl) dX4_layRows_14 (fun s14 h14 => ?_)
        try dsimp only at h14
        refine sd_iinc C dX4_layRows_17 0 rfl (by decide) (by decide) (by omega) (fun zz => [(1, .int zz), (0, .ref (ad 0))]) (fun _ => rfl) (fun u17 eu17 => ?_)
        refine sd_goto C 2 dX4_layRows_20 (by decide) ?_
        exact ih2 u17 (p + 1) s14 (by omega) (by omega) (sd_l1_step (by omega) H h14.1 h14.2.1 h14.2.2.1) (by omega)
  exact key2 _ k0 0 σ (by omega) (by omega) ⟨fun _ _ _ => rfl, fun q h => by omega⟩ (Nat.lt_succ_self _)
end
section
def b_set (β : sp_B) (a b : Nat) (v : Int) : sp_B := fun x y => if x = a ∧ y = b then v else β x y
theorem b_at (β : sp_B) (a b : Nat) (v : Int) : b_set β a b v a b = v := by simp [b_set]
theorem b_n1 {β : sp_B} {a b x : Nat} {v : Int} (h : x ≠ a) : b_set β a b v x = β x := by funext y; simp [b_set, h]
theorem b_n2 {β : sp_B} {a b x y : Nat} {v : Int} (h : y ≠ b) : b_set β a b v x y = β x y := by simp [b_set, h]
def sd_CS (σ : sd_Mem) (β : sp_B) : Prop := sd_CR σ β ∧ sd_RG β ∧ sd_BT σ β ∧ sd_LD σ β
def sd_hi (σ σ' : sd_Mem) : Prop := ∀ i k, 76 ≤ i → σ' i k = σ i k
def sd_lo (σ σ' : sd_Mem) : Prop := ∀ i k, i < 76 → σ' i k = σ i k
theorem sd_BT_fr {σ τ : sd_Mem} {β : sp_B} (h : ∀ a k, ¬ sd_lay a → τ a k = σ a k) (hB : sd_BT σ β) : sd_BT τ β := fun i hi => by rw [h 6 i (by unfold sd_lay; omega)]; exact hB i hi
theorem sd_CS_lay {σ τ : sd_Mem} {β : sp_B} (hC : sd_CR σ β) (hG : sd_RG β) (hB : sd_BT σ β) (h : (∀ a k, ¬ sd_lay a → τ a k = σ a k) ∧ sd_LD τ β) : sd_CS τ β := ⟨sd_CR_fr h.1 hC, hG, sd_BT_fr h.1 hB, h.2⟩
theorem sd_hi_lay {σ τ τ' : sd_Mem} (h0 : sd_hi σ τ) (h : ∀ a k, ¬ sd_lay a → τ' a k = τ a k) : sd_hi σ τ' := fun i k hi => by rw [h i k (by unfold sd_lay; omega)]; exact h0 i k hi
-- what each call answers and does
def an_click (β : sp_B) (t w s : Int) : Int := if w < 0 ∨ 24 ≤ w then -1001 else if t < 0 ∨ 200000 < t ∨ s < 0 ∨ 8 ≤ s then -1002 else if β 0 0 = 120 then -1004 else β 0 0
def b_click (β : sp_B) (t w s : Int) : sp_B := b_set (b_set (b_set (b_set β 0 0 (β 0 0 + 1)) 1 (sp_n β) t) 2 (sp_n β) w) 3 (sp_n β) s
def up_click (β : sp_B) (t w s : Int) : sp_B := if (w < 0 ∨ 24 ≤ w) ∨ (t < 0 ∨ 200000 < t ∨ s < 0 ∨ 8 ≤ s) ∨ β 0 0 = 120 then β else b_click β t w s
def an_strike (β : sp_B) (c : Int) : Int := if c < 0 ∨ β 0 0 ≤ c then -1001 else β 4 c.toNat
def up_strike (β : sp_B) (c on : Int) : sp_B := if c < 0 ∨ β 0 0 ≤ c then β else b_set β 4 c.toNat on
def an_join (β : sp_B) (m nm : Int) : Int := if m < 12 ∨ 24 ≤ m ∨ nm < 0 ∨ 12 ≤ nm then -1001 else if β 5 m.toNat ≠ m then -1003 else (sp_owned β m.toNat : Int)
def up_join (β : sp_B) (m nm : Int) : sp_B := if (m < 12 ∨ 24 ≤ m ∨ nm < 0 ∨ 12 ≤ nm) ∨ β 5 m.toNat ≠ m then β else b_set β 5 m.toNat nm
def sp_lo (w : Int) : Int := if w = 2 then -1 else if w = 4 then 1 else 0
def sp_hi (w : Int) : Int := if w = 0 ∨ w = 4 then 10000 else if w = 1 then 1 else if w = 3 then 100 else 7
def an_rule (β : sp_B) (w v : Int) : Int := if w < 0 ∨ 6 ≤ w ∨ v < sp_lo w ∨ sp_hi w < v then -1002 else β 6 w.toNat
def up_rule (β : sp_B) (w v : Int) : sp_B := if w < 0 ∨ 6 ≤ w ∨ v < sp_lo w ∨ sp_hi w < v then β else b_set β 6 w.toNat v
def an_told (β : sp_B) (c w : Int) : Int := if c < 0 ∨ β 0 0 ≤ c then -1001 else if w < 0 ∨ 6 < w then -1002 else if w = 0 then β 1 c.toNat else if w = 1 then β 2 c.toNat else if w = 2 then β 3 c.toNat else if w = 3 then (sp_per β c.toNat : Int) else if w = 4 then (if sp_pl (sp_row β (sp_per β c.toNat)) c.toNat < 0 then 0 else 1) else if w = 5 then sp_si β (sp_row β (sp_per β c.toNat)) c.toNat else sp_pl (sp_row β (sp_per β c.toNat)) c.toNat
def sp_q (β : sp_B) (p : Int) : Nat := (β 5 p.toNat).toNat
def an_person (β : sp_B) (p w : Int) : Int := if p < 0 ∨ 24 ≤ p then -1001 else if w = 0 then (sp_q β p : Int) else if w = 1 then (sp_owned β (sp_q β p) : Int) else if w = 2 then ((sp_row β (sp_q β p)).length : Int) else if w = 3 then (if sp_quick β (sp_raw β (sp_q β p)) then 1 else 0) else if w = 4 then (sp_ns β (sp_row β (sp_q β p)) (sp_row β (sp_q β p)).length : Int) else if w = 5 then sp_birth β (sp_row β (sp_q β p)) else -1002
def an_row (β : sp_B) (p i : Int) : Int := if p < 0 ∨ 24 ≤ p then -1001 else if i < 0 ∨ ((sp_row β (sp_q β p)).length : Int) ≤ i then -1 else ((sp_row β (sp_q β p)).getD i.toNat 0 : Int)
def sp_sc (β : sp_B) (l : List Nat) (i : Int) : Nat → Nat
  | 0 => 0
  | j + 1 => sp_sc β l i j + if (sp_ns β l (j + 1) : Int) - 1 = i then 1 else 0
def sp_sl (β : sp_B) (l : List Nat) (i : Int) : Nat → Int
  | 0 => -1
  | j + 1 => if (sp_ns β l (j + 1) : Int) - 1 = i then (l.getD j 0 : Int) else sp_sl β l i j
def sp_sf (β : sp_B) (l : List Nat) (i : Int) : Nat → Int
  | 0 => -1
  | j + 1 => if (sp_ns β l (j + 1) : Int) - 1 = i ∧ sp_sc β l i j = 0 then (l.getD j 0 : Int) else sp_sf β l i j
def an_sit (β : sp_B) (l : List Nat) (i w : Int) : Int := if i < 0 ∨ (sp_ns β l l.length : Int) ≤ i then -1001 else if w < 0 ∨ 3 < w then -1002 else if w = 0 then sp_sf β l i l.length else if w = 1 then sp_sl β l i l.length else if w = 2 then (sp_sc β l i l.length : Int) else β 1 (sp_sl β l i l.length).toNat - β 1 (sp_sf β l i l.length).toNat
def an_sitting (β : sp_B) (p i w : Int) : Int := if p < 0 ∨ 24 ≤ p then -1001 else an_sit β (sp_row β (sp_q β p)) i w
def sp_sum (f : Nat → Int) : Nat → Int
  | 0 => 0
  | n + 1 => sp_sum f n + f n
def sp_b (b : Bool) : Int := if b then 1 else 0
def an_count (β : sp_B) (w : Int) : Int := if w = 0 then β 0 0 else if w = 1 then sp_sum (fun q => ((sp_row β q).length : Int)) 24 else if w = 2 then sp_sum (fun q => (sp_ns β (sp_row β q) (sp_row β q).length : Int)) 24 else if w = 3 then sp_sum (fun q => sp_b (decide (0 < (sp_row β q).length))) 24 else if w = 4 then sp_sum (fun q => sp_b (sp_quick β (sp_raw β q))) 24 else if w = 5 then sp_sum (fun q => sp_b (decide (β 5 q ≠ (q : Int)))) 24 else if w = 6 then β 0 1 else -1002
def an_born (β : sp_B) (w : Int) : Int := if w < 0 ∨ 20 ≤ w then -1002 else sp_sum (fun q => sp_b (decide (sp_birth β (sp_row β q) = w))) 24
def an_came (β : sp_B) (w d : Int) : Int := if w < 0 ∨ 20 ≤ w ∨ d < 0 ∨ 20 ≤ d then -1002 else sp_sum (fun q => sp_b (decide (sp_birth β (sp_row β q) = w) && sp_came β (sp_row β q) (w + d))) 24
def sp_dl (β : sp_B) (l : List Nat) (d : Int32) : Nat → Int32
  | 0 => d
  | j + 1 => 31 * (31 * sp_dl β l d j + Int32.ofInt (l.getD j 0 : Int)) + Int32.ofInt ((sp_ns β l (j + 1) : Int) - 1)
def sp_dg (β : sp_B) : Nat → Int32
  | 0 => 7
  | q + 1 => if β 5 q = (q : Int) then 31 * sp_dl β (sp_row β q) (sp_dg β q) (sp_row β q).length + Int32.ofInt (sp_birth β (sp_row β q)) else sp_dg β q
theorem sd_ofInt {x : Int32} {z : Int} (h : x.toInt = z) : x = Int32.ofInt z := by rw [← h]; simp
theorem sp_sum_cong {f g : Nat → Int} : ∀ {n : Nat}, (∀ q, q < n → f q = g q) → sp_sum f n = sp_sum g n
  | 0, _ => rfl
  | n + 1, h => by rw [sp_sum, sp_sum, sp_sum_cong (n := n) (fun q hq => h q (by omega)), h n (by omega)]
theorem sp_sum_rng {f : Nat → Int} {m : Int} (h : ∀ q, 0 ≤ f q ∧ f q ≤ m) : ∀ n : Nat, 0 ≤ sp_sum f n ∧ sp_sum f n ≤ n * m
  | 0 => by simp [sp_sum]
  | n + 1 => by
    have h1 := sp_sum_rng h n
    have h2 := h n
    have e : ((n + 1 : Nat) : Int) * m = n * m + m := by
      rw [show ((n + 1 : Nat) : Int) = (n : Int) + 1 by omega, Int.add_mul]; omega
    rw [sp_sum, e]
    omega
theorem sp_b_rng (b : Bool) : 0 ≤ sp_b b ∧ sp_b b ≤ 1 := by cases b <;> decide
theorem sp_sum_b (f : Nat → Bool) (n : Nat) (h : n ≤ 24) : 0 ≤ sp_sum (fun q => sp_b (f q)) n ∧ sp_sum (fun q => sp_b (f q)) n ≤ 24 := by
  have := sp_sum_rng (f := fun q => sp_b (f q)) (m := 1) (fun q => sp_b_rng (f q)) n
  omega
theorem sp_sc_le (β : sp_B) (l : List Nat) (i : Int) : ∀ j : Nat, sp_sc β l i j ≤ j
  | 0 => Nat.le_refl 0
  | j + 1 => by
    have := sp_sc_le β l i j
    rw [sp_sc]
    split <;> omega
theorem sp_sc_zero (β : sp_B) (l : List Nat) (i : Int) : ∀ j : Nat, sp_sc β l i j = 0 ↔ (i < 0 ∨ (sp_ns β l j : Int) ≤ i)
  | 0 => by simp [sp_sc, sp_ns]; omega
  | j + 1 => by
    have ih := sp_sc_zero β l i j
    have h2 := sp_ns_pos β l j
    have h3 : sp_ns β l (j + 1) = sp_ns β l j ∨ sp_ns β l (j + 1) = sp_ns β l j + 1 := by
      rw [sp_ns]
      split
      · exact Or.inr rfl
      · exact Or.inl rfl
    rw [sp_sc]
    split <;> omega
theorem sp_sl_mem (β : sp_B) (l : List Nat) (i : Int) : ∀ j : Nat, j ≤ l.length → (sp_sc β l i j = 0 ∧ sp_sl β l i j = -1 ∧ sp_sf β l i j = -1) ∨ (∃ a b, a < j ∧ b < j ∧ sp_sl β l i j = (l.getD a 0 : Int) ∧ sp_sf β l i j = (l.getD b 0 : Int) ∧ sp_sc β l i j ≠ 0)
  | 0, _ => Or.inl ⟨rfl, rfl, rfl⟩
  | j + 1, hj => by
    have ih := sp_sl_mem β l i j (by omega)
    rw [sp_sc, sp_sl, sp_sf]
    by_cases h : (sp_ns β l (j + 1) : Int) - 1 = i
    · rw [if_pos h, if_pos h]
      right
      rcases ih with ⟨h1, h2, h3⟩ | ⟨a, b, h1, h2, h3, h4, h5⟩
      · rw [if_pos ⟨h, h1⟩]
        exact ⟨j, j, by omega, by omega, rfl, rfl, by omega⟩
      · rw [if_neg (fun q => h5 q.2)]
        exact ⟨j, b, by omega, by omega, rfl, h4, by omega⟩
    · rw [if_neg h, if_neg h, if_neg (fun q => h q.1)]
      rcases ih with ⟨h1, h2, h3⟩ | ⟨a, b, h1, h2, h3, h4, h5⟩
      · exact Or.inl ⟨by omega, h2, h3⟩
      · exact Or.inr ⟨a, b, by omega, by omega, h3, h4, by omega⟩
-- the base after a change
theorem sd_CR_set {σ : sd_Mem} {β : sp_B} (h : sd_CR σ β) {a i j : Nat} {x : Int32} {v : Int} (hv : x.toInt = v) (ha : (a = 4 ∧ i = 5 ∧ j < 120) ∨ (a = 5 ∧ i = 7 ∧ j < 24) ∨ (a = 6 ∧ i = 8 ∧ j < 6)) : sd_CR (sd_st σ i j x) (b_set β a j v) := by
  obtain ⟨⟨a1, a2⟩, b, c, d, e, f⟩ := h
  have hi : i = 5 ∨ i = 7 ∨ i = 8 := by omega
  refine ⟨⟨?_, ?_⟩, fun c1 hc => ?_, fun p hp => ?_, fun k hk => ?_, fun f1 hf => ?_, fun f1 k hf hk => ?_⟩
  · rw [sd_st_ne (by omega), b_n1 (by omega)]; exact a1
  · rw [sd_st_ne (by omega), b_n1 (by omega)]; exact a2
  · rw [sd_st_ne (by omega), sd_st_ne (by omega), sd_st_ne (by omega), b_n1 (x := 1) (by omega), b_n1 (x := 2) (by omega), b_n1 (x := 3) (by omega)]
    refine ⟨(b c1 hc).1, (b c1 hc).2.1, (b c1 hc).2.2.1, ?_⟩
    rw [sd_st_eq]
    unfold b_set
    by_cases q : a = 4 ∧ c1 = j
    · rw [if_pos (by omega), if_pos (by omega)]; exact hv
    · rw [if_neg (by omega), if_neg (by omega)]; exact (b c1 hc).2.2.2
  · rw [sd_st_eq]
    unfold b_set
    by_cases q : a = 5 ∧ p = j
    · rw [if_pos (by omega), if_pos (by omega)]; exact hv
    · rw [if_neg (by omega), if_neg (by omega)]; exact c p hp
  · rw [sd_st_eq]
    unfold b_set
    by_cases q : a = 6 ∧ k = j
    · rw [if_pos (by omega), if_pos (by omega)]; exact hv
    · rw [if_neg (by omega), if_neg (by omega)]; exact d k hk
  · rw [sd_st_ne (by omega), b_n1 (by omega), b_n1 (by omega), b_n1 (by omega), b_n1 (by omega)]; exact e f1 hf
  · rw [sd_st_ne (by omega), b_n1 (by omega)]; exact f f1 k hf hk
theorem sd_BT_set {σ : sd_Mem} {β : sp_B} (h : sd_BT σ β) {a i j : Nat} {x : Int32} {v : Int} (ha : 4 ≤ a) (hi : i ≠ 6) : sd_BT (sd_st σ i j x) (b_set β a j v) := by
  unfold sd_BT sp_n
  rw [b_n1 (x := 0) (by omega), b_n1 (x := 1) (by omega), sd_st_ne (Ne.symm hi)]
  exact h
theorem sd_RG_strike {β : sp_B} (h : sd_RG β) {c : Nat} {v : Int} (hv : v = 0 ∨ v = 1) : sd_RG (b_set β 4 c v) := by
  obtain ⟨a, b, d⟩ := h
  unfold sd_RG
  rw [b_n1 (x := 0) (by omega), b_n1 (x := 1) (by omega), b_n1 (x := 2) (by omega), b_n1 (x := 3) (by omega), b_n1 (x := 5) (by omega), b_n1 (x := 6) (by omega), b_n1 (x := 7) (by omega), b_n1 (x := 8) (by omega), b_n1 (x := 9) (by omega), b_n1 (x := 10) (by omega), b_n1 (x := 11) (by omega)]
  refine ⟨a, fun c1 hc => ?_, d⟩
  have := b c1 hc
  refine ⟨this.1, this.2.1, this.2.2.1, this.2.2.2.1, this.2.2.2.2.1, this.2.2.2.2.2.1, ?_⟩
  unfold b_set
  split
  · exact hv
  · exact this.2.2.2.2.2.2
theorem sd_RG_join {β : sp_B} (h : sd_RG β) {m : Nat} {v : Int} (hm : 12 ≤ m) (hv : 0 ≤ v ∧ v < 12) : sd_RG (b_set β 5 m v) := by
  obtain ⟨a, b, c, d⟩ := h
  unfold sd_RG
  rw [b_n1 (x := 0) (by omega), b_n1 (x := 1) (by omega), b_n1 (x := 2) (by omega), b_n1 (x := 3) (by omega), b_n1 (x := 4) (by omega), b_n1 (x := 6) (by omega), b_n1 (x := 7) (by omega), b_n1 (x := 8) (by omega), b_n1 (x := 9) (by omega), b_n1 (x := 10) (by omega), b_n1 (x := 11) (by omega)]
  refine ⟨a, b, fun p hp => ?_, d⟩
  have := c p hp
  unfold b_set
  split
  · omega
  · exact this
theorem sd_RG_rule {β : sp_B} (h : sd_RG β) {w : Nat} {v : Int} (hw : w < 6) (h1 : sp_lo w ≤ v) (h2 : v ≤ sp_hi w) : sd_RG (b_set β 6 w v) := by
  obtain ⟨a, b, c, d, e⟩ := h
  unfold sd_RG
  rw [b_n1 (x := 0) (by omega), b_n1 (x := 1) (by omega), b_n1 (x := 2) (by omega), b_n1 (x := 3) (by omega), b_n1 (x := 4) (by omega), b_n1 (x := 5) (by omega), b_n1 (x := 7) (by omega), b_n1 (x := 8) (by omega), b_n1 (x := 9) (by omega), b_n1 (x := 10) (by omega), b_n1 (x := 11) (by omega)]
  refine ⟨a, b, c, ?_, e⟩
  have hw6 : w = 0 ∨ w = 1 ∨ w = 2 ∨ w = 3 ∨ w = 4 ∨ w = 5 := by omega
  rcases hw6 with rfl | rfl | rfl | rfl | rfl | rfl <;> simp [sp_lo, sp_hi] at h1 h2 <;> simp only [b_set] <;> simp <;> omega
theorem sd_RG_click {β : sp_B} (h : sd_RG β) {t w s : Int} (hn : sp_n β < 120) (ht : 0 ≤ t ∧ t ≤ 200000) (hw : 0 ≤ w ∧ w < 24) (hs : 0 ≤ s ∧ s < 8) : sd_RG (b_click β t w s) := by
  have hN := sp_n_le h
  obtain ⟨a, b, c, d⟩ := h
  unfold sd_RG b_click
  refine ⟨?_, fun c1 hc => ?_, ?_⟩
  · rw [b_n1 (x := 0) (by omega), b_n1 (x := 0) (by omega), b_n1 (x := 0) (by omega), b_at, b_n2 (y := 1) (by omega)]
    omega
  · have := b c1 hc
    simp only [b_set]
    refine ⟨?_, ?_, ?_, ?_, ?_, ?_, ?_⟩ <;> (repeat' split) <;> omega
  · simp only [b_n1 (β := _) (a := 3) (x := 5) (by decide), b_n1 (a := 2) (x := 5) (by decide), b_n1 (a := 1) (x := 5) (by decide), b_n1 (a := 0) (x := 5) (by decide), b_n1 (a := 3) (x := 6) (by decide), b_n1 (a := 2) (x := 6) (by decide), b_n1 (a := 1) (x := 6) (by decide), b_n1 (a := 0) (x := 6) (by decide), b_n1 (a := 3) (x := 7) (by decide), b_n1 (a := 2) (x := 7) (by decide), b_n1 (a := 1) (x := 7) (by decide), b_n1 (a := 0) (x := 7) (by decide), b_n1 (a := 3) (x := 8) (by decide), b_n1 (a := 2) (x := 8) (by decide), b_n1 (a := 1) (x := 8) (by decide), b_n1 (a := 0) (x := 8) (by decide), b_n1 (a := 3) (x := 9) (by decide), b_n1 (a := 2) (x := 9) (by decide), b_n1 (a := 1) (x := 9) (by decide), b_n1 (a := 0) (x := 9) (by decide), b_n1 (a := 3) (x := 10) (by decide), b_n1 (a := 2) (x := 10) (by decide), b_n1 (a := 1) (x := 10) (by decide), b_n1 (a := 0) (x := 10) (by decide), b_n1 (a := 3) (x := 11) (by decide), b_n1 (a := 2) (x := 11) (by decide), b_n1 (a := 1) (x := 11) (by decide), b_n1 (a := 0) (x := 11) (by decide)]
    exact ⟨c, d⟩
theorem b_click_n {β : sp_B} {t w s : Int} (h : sd_RG β) : sp_n (b_click β t w s) = sp_n β + 1 := by
  have := sp_n_le h
  unfold sp_n b_click
  rw [b_n1 (x := 0) (by omega), b_n1 (x := 0) (by omega), b_n1 (x := 0) (by omega), b_at]
  unfold sp_n at this
  omega
theorem b_click_1 {β : sp_B} {t w s : Int} (c : Nat) : b_click β t w s 1 c = if c = sp_n β then t else β 1 c := by
  unfold b_click
  rw [b_n1 (x := 1) (by omega), b_n1 (x := 1) (by omega)]
  simp [b_set]
theorem sd_BT_click {σ σ' : sd_Mem} {β : sp_B} (hC : sd_CR σ β) (hG : sd_RG β) (hB : sd_BT σ β) {t w s : Int} (hn : sp_n β < 120) {a : Nat} (ha : a ≤ sp_n β) (h1 : ∀ j, j < a → σ' 6 j = σ 6 j) (h2 : (σ' 6 a).toInt = (sp_n β : Int)) (h3 : ∀ j, a < j → j ≤ sp_n β → σ' 6 j = σ 6 (j - 1)) (h4 : ∀ j, a ≤ j → j < sp_n β → t < (σ 2 (σ 6 j).toInt.toNat).toInt) (h5 : a = 0 ∨ (σ 2 (σ 6 (a - 1)).toInt.toNat).toInt ≤ t) : sd_BT σ' (b_click β t w s) := by
  have hlen := sp_srt_len (t := β 1) (sp_n β)
  have hN := sp_n_le hG
  have key : ∀ j, j < sp_n β → (σ 2 (σ 6 j).toInt.toNat).toInt = β 1 ((sp_srt (β 1) (sp_n β)).getD j 0) ∧ (sp_srt (β 1) (sp_n β)).getD j 0 < sp_n β := by
    intro j hj
    have q1 := hB j hj
    have q2 : (sp_srt (β 1) (sp_n β)).getD j 0 < sp_n β := sp_srt_mem.mp (sp_getD_mem (by omega))
    have q3 : (σ 6 j).toInt.toNat = (sp_srt (β 1) (sp_n β)).getD j 0 := by omega
    rw [q3]
    exact ⟨(hC.2.1 _ (by omega)).1, q2⟩
  have e1 : sp_srt (b_click β t w s 1) (sp_n β) = sp_srt (β 1) (sp_n β) := sp_srt_cong (fun c hc => by rw [b_click_1, if_neg (by omega)])
  have e2 : sp_srt (b_click β t w s 1) (sp_n β + 1) = (sp_srt (β 1) (sp_n β)).take a ++ sp_n β :: (sp_srt (β 1) (sp_n β)).drop a := by
    rw [sp_srt, e1]
    refine sp_ins_at ?_ (by omega) (fun j q1 q2 => ?_) ?_
    · rw [← e1]; exact sp_srt_sorted _
    · have q3 := key j (by omega)
      rw [b_click_1, if_pos rfl, b_click_1, if_neg (by omega), ← q3.1]
      exact h4 j q1 (by omega)
    · rcases h5 with q | q
      · exact Or.inl q
      · by_cases a0 : a = 0
        · exact Or.inl a0
        · right
          have q3 := key (a - 1) (by omega)
          rw [b_click_1, if_neg (by omega), b_click_1, if_pos rfl, ← q3.1]
          exact q
  intro i hi
  rw [b_click_n hG] at hi ⊢
  rw [e2, sp_insD (by omega)]
  by_cases q1 : i < a
  · rw [if_pos q1, h1 i q1]; exact hB i (by omega)
  · rw [if_neg q1]
    by_cases q2 : i = a
    · rw [if_pos q2, q2]; exact h2
    · rw [if_neg q2, h3 i (by omega) (by omega)]; exact hB (i - 1) (by omega)
theorem sd_CR_click {σ σ' : sd_Mem} {β : sp_B} (hC : sd_CR σ β) (hG : sd_RG β) {x1 x2 x3 : Int32} (h0 : ∀ i k, i ≠ 1 → i ≠ 2 → i ≠ 3 → i ≠ 4 → i ≠ 6 → σ' i k = σ i k) (h1 : (σ' 1 5).toInt = (sp_n β : Int) + 1) (h2 : ∀ k, σ' 2 k = if k = sp_n β then x1 else σ 2 k) (h3 : ∀ k, σ' 3 k = if k = sp_n β then x2 else σ 3 k) (h4 : ∀ k, σ' 4 k = if k = sp_n β then x3 else σ 4 k) : sd_CR σ' (b_click β x1.toInt x2.toInt x3.toInt) := by
  have hN := sp_n_le hG
  obtain ⟨⟨a1, a2⟩, b, c, d, e, f⟩ := hC
  unfold b_click
  refine ⟨⟨?_, ?_⟩, fun c1 hc => ?_, fun p hp => ?_, fun k hk => ?_, fun f1 hf => ?_, fun f1 k hf hk => ?_⟩
  · rw [b_n1 (x := 0) (by omega), b_n1 (x := 0) (by omega), b_n1 (x := 0) (by omega), b_at, h1]; omega
  · rw [b_n1 (x := 0) (by omega), b_n1 (x := 0) (by omega), b_n1 (x := 0) (by omega), b_n2 (y := 1) (by omega), h0 0 7 (by omega) (by omega) (by omega) (by omega) (by omega)]; exact a2
  · have := b c1 hc
    rw [h2, h3, h4, h0 5 c1 (by omega) (by omega) (by omega) (by omega) (by omega)]
    simp only [b_set]
    refine ⟨?_, ?_, ?_, ?_⟩
    · by_cases q : c1 = sp_n β
      · simp [q]
      · simp [q]; exact this.1
    · by_cases q : c1 = sp_n β
      · simp [q]
      · simp [q]; exact this.2.1
    · by_cases q : c1 = sp_n β
      · simp [q]
      · simp [q]; exact this.2.2.1
    · simp; exact this.2.2.2
  · rw [h0 7 p (by omega) (by omega) (by omega) (by omega) (by omega), b_n1 (by omega), b_n1 (by omega), b_n1 (by omega), b_n1 (by omega)]; exact c p hp
  · rw [h0 8 k (by omega) (by omega) (by omega) (by omega) (by omega), b_n1 (by omega), b_n1 (by omega), b_n1 (by omega), b_n1 (by omega)]; exact d k hk
  · rw [h0 (64 + f1) 1 (by omega) (by omega) (by omega) (by omega) (by omega), h0 (64 + f1) 2 (by omega) (by omega) (by omega) (by omega) (by omega), h0 (64 + f1) 3 (by omega) (by omega) (by omega) (by omega) (by omega), h0 (64 + f1) 4 (by omega) (by omega) (by omega) (by omega) (by omega)]
    have := e f1 hf
    simp only [b_set]
    simp
    exact this
  · rw [h0 (70 + f1) k (by omega) (by omega) (by omega) (by omega) (by omega), b_n1 (by omega), b_n1 (by omega), b_n1 (by omega), b_n1 (by omega)]; exact f f1 k hf hk
end
section
theorem sp_b1 {b : Bool} (h : b = true) : sp_b b = 1 := by rw [h]; rfl
theorem sp_b0 {b : Bool} (h : b = false) : sp_b b = 0 := by rw [h]; rfl
theorem sp_sum_s {f : Nat → Int} {n : Nat} {v : Int} (h : f n = v) : sp_sum f (n + 1) = sp_sum f n + v := by rw [sp_sum, h]
theorem sp_pl_rng (l : List Nat) (c : Nat) : -1 ≤ sp_pl l c := by unfold sp_pl; split <;> omega
theorem sd_t0_lo {x : Int} (h0 : 0 ≤ x) (h1 : x < 6) : (sd_t0 x.toNat).toInt = sp_lo x := by
  have hx : x = 0 ∨ x = 1 ∨ x = 2 ∨ x = 3 ∨ x = 4 ∨ x = 5 := by omega
  rcases hx with rfl | rfl | rfl | rfl | rfl | rfl <;> rfl
theorem sd_t1_hi {x : Int} (h0 : 0 ≤ x) (h1 : x < 6) : (sd_t1 x.toNat).toInt = sp_hi x := by
  have hx : x = 0 ∨ x = 1 ∨ x = 2 ∨ x = 3 ∨ x = 4 ∨ x = 5 := by omega
  rcases hx with rfl | rfl | rfl | rfl | rfl | rfl <;> rfl
theorem sd_CS.at {σ : sd_Mem} {β : sp_B} (h : sd_CS σ β) {q : Nat} (hq : q < 24) {j : Nat} (hj : j < (sp_row β q).length) : (σ 11 ((sp_row β q).getD j 0)).toInt = (sp_ns β (sp_row β q) (j + 1) : Int) - 1 ∧ (σ 10 ((sp_row β q).getD j 0)).toInt = (j : Int) := by
  obtain ⟨hC, hG, hB, h1, h2⟩ := h
  have hN := (sp_n_le hG).1
  obtain ⟨a1, a2, -⟩ := sp_raw_mem (sp_row_sub (sp_getD_mem hj))
  rw [sp_mine_per hG (by omega)] at a2
  simp only [decide_eq_true_eq] at a2
  obtain ⟨g1, g2⟩ := h2 _ a1
  rw [← a2, sp_pl_at (sp_row_nodup β q) hj] at g1
  rw [← a2, sp_si_at (sp_row_nodup β q) hj] at g2
  exact ⟨g2, g1⟩

set_option maxRecDepth 20000 in
set_option maxHeartbeats 4000000 in
theorem c_X4_click (l : Launch) (D : va_G) (ad : Nat → Nat) (ca : Nat → ClassId) (T : Nat → Nat) (σ : sd_Mem) (β : sp_B) (hS : sd_CS σ β) (x1 x2 x3 : Int32) : sd_Ci l yX4_click cX4_click 5 5 D ad ca T σ [.ref (ad 0), .int x1, .int x2, .int x3] (fun r σ' => r.toInt = an_click β x1.toInt x2.toInt x3.toInt ∧ sd_CS σ' (up_click β x1.toInt x2.toInt x3.toInt) ∧ sd_hi σ σ') := by
  refine sd_ent_i (own := RX4) (by decide) rfl (Nat.le_of_ble_eq_true rfl) (fun X C hret => ?_)
  show sd_Wd X 5 D ad ca σ [(0, .ref (ad 0)), (1, .int x1), (2, .int x2), (3, .int x3)] 0 []
  obtain ⟨hC, hG, hB, hL⟩ := id hS
  have hN := sp_n_le hG
  have hn := hC.1.1
  refine sd_iload_n C dX4_click_0 2 rfl rfl ?_
  refine sd_pSz C (c_X4_isWho l D ad ca T σ x2) mv_X4_isWho wm_X4_56 (by decide) rfl rfl (Nat.le_of_ble_eq_true rfl) dX4_click_1 (fun r1 h1 => ?_)
  try dsimp only at h1
  refine sd_if_ne C 11 dX4_click_4 (by decide) (fun c4 => ?_) (fun c4 => ?_)
  · refine sd_iload_n C dX4_click_11 1 rfl rfl ?_
    refine sd_if_lt C 28 dX4_click_12 (by decide) (fun c12 => ?_) (fun c12 => ?_)
    · refine sd_sipush C dX4_click_28 (by decide) (fun k28 ek28 => ?_)
      exact hret _ _ _ _ dX4_click_31 (⟨by
          unfold an_click
          repeat' split
          all_goals omega, by
          unfold up_click
          rw [if_pos (by omega)]; exact hS, fun _ _ _ => rfl⟩)
    · refine sd_iload_n C dX4_click_15 1 rfl rfl ?_
      refine sd_ldc C dX4_click_16 wk_X4_60 (n := 200000) (by decide) (fun k16 ek16 => ?_)
      refine sd_icmp_gt C 28 dX4_click_18 (by decide) (fun c18 => ?_) (fun c18 => ?_)
      · refine sd_sipush C dX4_click_28 (by decide) (fun k28 ek28 => ?_)
        exact hret _ _ _ _ dX4_click_31 (⟨by
            unfold an_click
            repeat' split
            all_goals omega, by
            unfold up_click
            rw [if_pos (by omega)]; exact hS, fun _ _ _ => rfl⟩)
      · refine sd_iload_n C dX4_click_21 3 rfl rfl ?_
        refine sd_pSz C (c_X4_isSort l D ad ca T σ x3) mv_X4_isSort wm_X4_61 (by decide) rfl rfl (Nat.le_of_ble_eq_true rfl) dX4_click_22 (fun r22 h22 => ?_)
        try dsimp only at h22
        refine sd_if_ne C 32 dX4_click_25 (by decide) (fun c25 => ?_) (fun c25 => ?_)
        · refine sd_aload_n C dX4_click_32 0 rfl rfl ?_
          refine sd_get C (by decide) rfl rfl 0 (by decide) rfl wf_X4_10 dX4_click_33 ?_
          refine sd_iload_n C dX4_click_36 1 rfl rfl ?_
          refine sd_iload_n C dX4_click_37 2 rfl rfl ?_
          refine sd_iload_n C dX4_click_38 3 rfl rfl ?_
          have hb6 : ∀ j, j < sp_n β → 0 ≤ (σ 6 j).toInt ∧ (σ 6 j).toInt < (sp_n β : Int) := by
            intro j hj
            have q1 := hB j hj
            have q2 : (sp_srt (β 1) (sp_n β)).getD j 0 < sp_n β := sp_srt_mem.mp (sp_getD_mem (by rw [sp_srt_len]; exact hj))
            omega
          refine sd_callVi C (c_X0_add l D ad ca T σ (sp_n β) x1 x2 x3 (by omega) (by omega) hb6) mv_X0_add wm_X4_64 (by decide) rfl rfl (by decide) rfl rfl (Nat.le_of_ble_eq_true rfl) dX4_click_39 (fun r39 s39 h39 => ?_)
          try dsimp only at h39
          refine sd_istore (lv' := [(4, .int r39), (0, .ref (ad 0)), (1, .int x1), (2, .int x2), (3, .int x3)]) C dX4_click_42 (by decide) rfl ?_
          refine sd_iload C dX4_click_44 0 rfl ?_
          refine sd_sipush C dX4_click_46 (by decide) (fun k46 ek46 => ?_)
          refine sd_icmp_eq C 56 dX4_click_49 (by decide) (fun c49 => ?_) (fun c49 => ?_)
          · refine sd_iload C dX4_click_56 0 rfl ?_
            exact hret _ _ _ _ dX4_click_58 (by
                rcases h39 with ⟨g1, g2, g3⟩ | ⟨g1, g2, -⟩
                · rw [g3]
                  refine ⟨?_, ?_, fun _ _ _ => rfl⟩
                  · unfold an_click
                    repeat' split
                    all_goals omega
                  · unfold up_click
                    rw [if_pos (by omega)]; exact hS
                · exfalso; omega)
          · rcases h39 with ⟨g1, g2, g3⟩ | ⟨g1, g2, g3, g4, g5, g6, g7, a, g8, g9, g10, g11, g12, g13⟩
            · exfalso; omega
            have hC9 := sd_CR_click hC hG g3 g4 g5 g6 g7
            have hG9 : sd_RG (b_click β x1.toInt x2.toInt x3.toInt) := sd_RG_click hG g1 (by omega) (by omega) (by omega)
            have hB9 : sd_BT s39 (b_click β x1.toInt x2.toInt x3.toInt) := sd_BT_click hC hG hB g1 g8 g9 g10 g11 g12 g13
            refine sd_aload_n C dX4_click_52 1 rfl rfl ?_
            refine sd_callVv C (c_X4_layRows l D ad ca T s39 (b_click β x1.toInt x2.toInt x3.toInt) hC9 hG9 hB9) mv_X4_layRows wm_X4_68 (by decide) rfl rfl (by decide) rfl rfl (Nat.le_of_ble_eq_true rfl) dX4_click_53 (fun s53 h53 => ?_)
            try dsimp only at h53
            refine sd_iload C dX4_click_56 0 rfl ?_
            exact hret _ _ _ _ dX4_click_58 (by
                refine ⟨?_, ?_, ?_⟩
                · unfold an_click
                  repeat' split
                  all_goals omega
                · unfold up_click
                  rw [if_neg (by omega)]
                  exact sd_CS_lay hC9 hG9 hB9 h53
                · exact sd_hi_lay (fun i k hi => g3 i k (by omega) (by omega) (by omega) (by omega) (by omega)) h53.1)
        · refine sd_sipush C dX4_click_28 (by decide) (fun k28 ek28 => ?_)
          exact hret _ _ _ _ dX4_click_31 (⟨by
              unfold an_click
              repeat' split
              all_goals omega, by
              unfold up_click
              rw [if_pos (by omega)]; exact hS, fun _ _ _ => rfl⟩)
  · refine sd_sipush C dX4_click_7 (by decide) (fun k7 ek7 => ?_)
    exact hret _ _ _ _ dX4_click_10 (⟨by
        unfold an_click
        repeat' split
        all_goals omega, by
        unfold up_click
        rw [if_pos (by omega)]; exact hS, fun _ _ _ => rfl⟩)

set_option maxRecDepth 20000 in
set_option maxHeartbeats 4000000 in
theorem c_X4_strike (l : Launch) (D : va_G) (ad : Nat → Nat) (ca : Nat → ClassId) (T : Nat → Nat) (σ : sd_Mem) (β : sp_B) (hS : sd_CS σ β) (x1 x2 : Int32) (hx2 : x2.toInt = 0 ∨ x2.toInt = 1) : sd_Ci l yX4_strike cX4_strike 4 5 D ad ca T σ [.ref (ad 0), .int x1, .int x2] (fun r σ' => r.toInt = an_strike β x1.toInt ∧ sd_CS σ' (up_strike β x1.toInt x2.toInt) ∧ sd_hi σ σ') := by
  refine sd_ent_i (own := RX4) (by decide) rfl (Nat.le_of_ble_eq_true rfl) (fun X C hret => ?_)
  show sd_Wd X 4 D ad ca σ [(0, .ref (ad 0)), (1, .int x1), (2, .int x2)] 0 []
  obtain ⟨hC, hG, hB, hL⟩ := id hS
  have hN := sp_n_le hG
  have hn := hC.1.1
  refine sd_aload_n C dX4_strike_0 0 rfl rfl ?_
  refine sd_get C (by decide) rfl rfl 0 (by decide) rfl wf_X4_10 dX4_strike_1 ?_
  refine sd_iload_n C dX4_strike_4 1 rfl rfl ?_
  refine sd_pVz C (c_X0_has l D ad ca T σ x1) mv_X0_has wm_X4_71 (by decide) rfl rfl (by decide) rfl rfl (Nat.le_of_ble_eq_true rfl) dX4_strike_5 (fun r5 h5 => ?_)
  try dsimp only at h5
  refine sd_if_ne C 15 dX4_strike_8 (by decide) (fun c8 => ?_) (fun c8 => ?_)
  · have t1 := hC.2.1 x1.toInt.toNat (by omega)
    have t2 := hG.2.1 x1.toInt.toNat (by omega)
    refine sd_aload_n C dX4_strike_15 0 rfl rfl ?_
    refine sd_get C (by decide) rfl rfl 0 (by decide) rfl wf_X4_10 dX4_strike_16 ?_
    refine sd_get C (by decide) rfl rfl 3 (by decide) rfl wf_X4_74 dX4_strike_19 ?_
    refine sd_iload_n C dX4_strike_22 1 rfl rfl ?_
    refine sd_zald C (by decide) rfl (x1.toInt.toNat) ⟨by omega, by omega⟩ dX4_strike_23 ?_
    refine sd_pSi C (c_X4_bit l D ad ca T σ (σ 5 (x1.toInt.toNat))) mv_X4_bit wm_X4_78 (by decide) rfl rfl (Nat.le_of_ble_eq_true rfl) dX4_strike_24 (fun r24 h24 => ?_)
    try dsimp only at h24
    refine sd_istore_n (lv' := [(3, .int r24), (0, .ref (ad 0)), (1, .int x1), (2, .int x2)]) C dX4_strike_27 rfl (by decide) rfl ?_
    refine sd_aload_n C dX4_strike_28 1 rfl rfl ?_
    refine sd_get C (by decide) rfl rfl 0 (by decide) rfl wf_X4_10 dX4_strike_29 ?_
    refine sd_get C (by decide) rfl rfl 3 (by decide) rfl wf_X4_74 dX4_strike_32 ?_
    refine sd_iload_n C dX4_strike_35 2 rfl rfl ?_
    refine sd_iload_n C dX4_strike_36 3 rfl rfl ?_
    refine sd_zast C (by decide) (fun _ => rfl) (x1.toInt.toNat) ⟨by omega, by omega⟩ (by omega) dX4_strike_37 (fun s37 es37 => ?_)
    have hC9 : sd_CR s37 (b_set β 4 x1.toInt.toNat x2.toInt) := by rw [es37]; exact sd_CR_set hC rfl (by omega)
    have hG9 : sd_RG (b_set β 4 x1.toInt.toNat x2.toInt) := sd_RG_strike hG hx2
    have hB9 : sd_BT s37 (b_set β 4 x1.toInt.toNat x2.toInt) := by rw [es37]; exact sd_BT_set hB (by decide) (by decide)
    refine sd_aload_n C dX4_strike_38 1 rfl rfl ?_
    refine sd_callVv C (c_X4_layRows l D ad ca T s37 (b_set β 4 x1.toInt.toNat x2.toInt) hC9 hG9 hB9) mv_X4_layRows wm_X4_68 (by decide) rfl rfl (by decide) rfl rfl (Nat.le_of_ble_eq_true rfl) dX4_strike_39 (fun s39 h39 => ?_)
    try dsimp only at h39
    refine sd_iload_n C dX4_strike_42 0 rfl rfl ?_
    exact hret _ _ _ _ dX4_strike_43 (by
        refine ⟨?_, ?_, ?_⟩
        · unfold an_strike
          repeat' split
          all_goals omega
        · unfold up_strike
          rw [if_neg (by omega)]
          exact sd_CS_lay hC9 hG9 hB9 h39
        · exact sd_hi_lay (fun i k hi => by rw [es37, sd_st_ne (by omega)]) h39.1)
  · refine sd_sipush C dX4_strike_11 (by decide) (fun k11 ek11 => ?_)
    exact hret _ _ _ _ dX4_strike_14 (⟨by
        unfold an_strike
        repeat' split
        all_goals omega, by
        unfold up_strike
        rw [if_pos (by omega)]; exact hS, fun _ _ _ => rfl⟩)

set_option maxRecDepth 20000 in
set_option maxHeartbeats 4000000 in
theorem c_X4_join (l : Launch) (D : va_G) (ad : Nat → Nat) (ca : Nat → ClassId) (T : Nat → Nat) (σ : sd_Mem) (β : sp_B) (hS : sd_CS σ β) (x1 x2 : Int32) : sd_Ci l yX4_join cX4_join 4 5 D ad ca T σ [.ref (ad 0), .int x1, .int x2] (fun r σ' => r.toInt = an_join β x1.toInt x2.toInt ∧ sd_CS σ' (up_join β x1.toInt x2.toInt) ∧ sd_hi σ σ') := by
  refine sd_ent_i (own := RX4) (by decide) rfl (Nat.le_of_ble_eq_true rfl) (fun X C hret => ?_)
  show sd_Wd X 4 D ad ca σ [(0, .ref (ad 0)), (1, .int x1), (2, .int x2)] 0 []
  obtain ⟨hC, hG, hB, hL⟩ := id hS
  have hN := sp_n_le hG
  refine sd_iload_n C dX4_join_0 1 rfl rfl ?_
  refine sd_pSz C (c_X4_isWho l D ad ca T σ x1) mv_X4_isWho wm_X4_56 (by decide) rfl rfl (Nat.le_of_ble_eq_true rfl) dX4_join_1 (fun r1 h1 => ?_)
  try dsimp only at h1
  refine sd_if_eq C 21 dX4_join_4 (by decide) (fun c4 => ?_) (fun c4 => ?_)
  · refine sd_sipush C dX4_join_21 (by decide) (fun k21 ek21 => ?_)
    exact hret _ _ _ _ dX4_join_24 (⟨by
        unfold an_join
        repeat' split
        all_goals omega, by
        unfold up_join
        rw [if_pos (by omega)]; exact hS, fun _ _ _ => rfl⟩)
  · refine sd_iload_n C dX4_join_7 1 rfl rfl ?_
    refine sd_pSz C (c_X4_isName l D ad ca T σ x1) mv_X4_isName wm_X4_82 (by decide) rfl rfl (Nat.le_of_ble_eq_true rfl) dX4_join_8 (fun r8 h8 => ?_)
    try dsimp only at h8
    refine sd_if_ne C 21 dX4_join_11 (by decide) (fun c11 => ?_) (fun c11 => ?_)
    · refine sd_sipush C dX4_join_21 (by decide) (fun k21 ek21 => ?_)
      exact hret _ _ _ _ dX4_join_24 (⟨by
          unfold an_join
          repeat' split
          all_goals omega, by
          unfold up_join
          rw [if_pos (by omega)]; exact hS, fun _ _ _ => rfl⟩)
    · refine sd_iload_n C dX4_join_14 2 rfl rfl ?_
      refine sd_pSz C (c_X4_isName l D ad ca T σ x2) mv_X4_isName wm_X4_82 (by decide) rfl rfl (Nat.le_of_ble_eq_true rfl) dX4_join_15 (fun r15 h15 => ?_)
      try dsimp only at h15
      refine sd_if_ne C 25 dX4_join_18 (by decide) (fun c18 => ?_) (fun c18 => ?_)
      · have t1 := hC.2.2.1 x1.toInt.toNat (by omega)
        have t2 := (hL.1 x1.toInt.toNat (by omega)).2.1
        refine sd_aload_n C dX4_join_25 0 rfl rfl ?_
        refine sd_iload_n C dX4_join_26 1 rfl rfl ?_
        refine sd_pVz C (c_X4_isJoined l D ad ca T σ x1 (by omega) (by omega)) mv_X4_isJoined wm_X4_85 (by decide) rfl rfl (by decide) rfl rfl (Nat.le_of_ble_eq_true rfl) dX4_join_27 (fun r27 h27 => ?_)
        try dsimp only at h27
        refine sd_if_eq C 37 dX4_join_30 (by decide) (fun c30 => ?_) (fun c30 => ?_)
        · refine sd_aload_n C dX4_join_37 0 rfl rfl ?_
          refine sd_get C (by decide) rfl rfl 3 (by decide) rfl wf_X4_22 dX4_join_38 ?_
          refine sd_iload_n C dX4_join_41 1 rfl rfl ?_
          refine sd_aald9 C (x1.toInt.toNat) ⟨by omega, by omega⟩ dX4_join_42 ?_
          refine sd_get C (by omega) (sd_cell_row _ (by omega)) rfl 3 (by decide) rfl wf_X4_88 dX4_join_43 ?_
          refine sd_istore_n (lv' := [(3, .int (σ (16 + x1.toInt.toNat) 3)), (0, .ref (ad 0)), (1, .int x1), (2, .int x2)]) C dX4_join_46 rfl (by decide) rfl ?_
          refine sd_aload_n C dX4_join_47 1 rfl rfl ?_
          refine sd_get C (by decide) rfl rfl 1 (by decide) rfl wf_X4_16 dX4_join_48 ?_
          refine sd_iload_n C dX4_join_51 2 rfl rfl ?_
          refine sd_iload_n C dX4_join_52 3 rfl rfl ?_
          refine sd_iast C (by decide) (fun _ => rfl) (x1.toInt.toNat) ⟨by omega, by omega⟩ dX4_join_53 (fun s53 es53 => ?_)
          have hC9 : sd_CR s53 (b_set β 5 x1.toInt.toNat x2.toInt) := by rw [es53]; exact sd_CR_set hC rfl (by omega)
          have hG9 : sd_RG (b_set β 5 x1.toInt.toNat x2.toInt) := sd_RG_join hG (by omega) (by omega)
          have hB9 : sd_BT s53 (b_set β 5 x1.toInt.toNat x2.toInt) := by rw [es53]; exact sd_BT_set hB (by decide) (by decide)
          refine sd_aload_n C dX4_join_54 1 rfl rfl ?_
          refine sd_callVv C (c_X4_layRows l D ad ca T s53 (b_set β 5 x1.toInt.toNat x2.toInt) hC9 hG9 hB9) mv_X4_layRows wm_X4_68 (by decide) rfl rfl (by decide) rfl rfl (Nat.le_of_ble_eq_true rfl) dX4_join_55 (fun s55 h55 => ?_)
          try dsimp only at h55
          refine sd_iload_n C dX4_join_58 0 rfl rfl ?_
          exact hret _ _ _ _ dX4_join_59 (by
              refine ⟨?_, ?_, ?_⟩
              · unfold an_join
                repeat' split
                all_goals omega
              · unfold up_join
                rw [if_neg (by omega)]
                exact sd_CS_lay hC9 hG9 hB9 h55
              · exact sd_hi_lay (fun i k hi => by rw [es53, sd_st_ne (by omega)]) h55.1)
        · refine sd_sipush C dX4_join_33 (by decide) (fun k33 ek33 => ?_)
          exact hret _ _ _ _ dX4_join_36 (⟨by
              unfold an_join
              repeat' split
              all_goals omega, by
              unfold up_join
              rw [if_pos (by omega)]; exact hS, fun _ _ _ => rfl⟩)
      · refine sd_sipush C dX4_join_21 (by decide) (fun k21 ek21 => ?_)
        exact hret _ _ _ _ dX4_join_24 (⟨by
            unfold an_join
            repeat' split
            all_goals omega, by
            unfold up_join
            rw [if_pos (by omega)]; exact hS, fun _ _ _ => rfl⟩)

set_option maxRecDepth 20000 in
set_option maxHeartbeats 4000000 in
theorem c_X4_rule (l : Launch) (D : va_G) (ad : Nat → Nat) (ca : Nat → ClassId) (T : Nat → Nat) (σ : sd_Mem) (β : sp_B) (hS : sd_CS σ β) (x1 x2 : Int32) : sd_Ci l yX4_rule cX4_rule 4 5 D ad ca T σ [.ref (ad 0), .int x1, .int x2] (fun r σ' => r.toInt = an_rule β x1.toInt x2.toInt ∧ sd_CS σ' (up_rule β x1.toInt x2.toInt) ∧ sd_hi σ σ') := by
  refine sd_ent_i (own := RX4) (by decide) rfl (Nat.le_of_ble_eq_true rfl) (fun X C hret => ?_)
  show sd_Wd X 4 D ad ca σ [(0, .ref (ad 0)), (1, .int x1), (2, .int x2)] 0 []
  obtain ⟨hC, hG, hB, hL⟩ := id hS
  have hN := sp_n_le hG
  refine sd_iload_n C dX4_rule_0 1 rfl rfl ?_
  refine sd_if_lt C 28 dX4_rule_1 (by decide) (fun c1 => ?_) (fun c1 => ?_)
  · refine sd_sipush C dX4_rule_28 (by decide) (fun k28 ek28 => ?_)
    exact hret _ _ _ _ dX4_rule_31 (⟨by
        unfold an_rule
        repeat' split
        all_goals omega, by
        unfold up_rule
        rw [if_pos (by omega)]; exact hS, fun _ _ _ => rfl⟩)
  · refine sd_iload_n C dX4_rule_4 1 rfl rfl ?_
    refine sd_bipush C dX4_rule_5 (by decide) (fun k5 ek5 => ?_)
    refine sd_icmp_ge C 28 dX4_rule_7 (by decide) (fun c7 => ?_) (fun c7 => ?_)
    · refine sd_sipush C dX4_rule_28 (by decide) (fun k28 ek28 => ?_)
      exact hret _ _ _ _ dX4_rule_31 (⟨by
          unfold an_rule
          repeat' split
          all_goals omega, by
          unfold up_rule
          rw [if_pos (by omega)]; exact hS, fun _ _ _ => rfl⟩)
    · have t0 := sd_t0_lo (x := x1.toInt) (by omega) (by omega)
      have t1 := sd_t1_hi (x := x1.toInt) (by omega) (by omega)
      have t2 := hC.2.2.2.1 x1.toInt.toNat (by omega)
      refine sd_iload_n C dX4_rule_10 2 rfl rfl ?_
      refine sd_gs0 C wf_X4_91 dX4_rule_11 ?_
      refine sd_iload_n C dX4_rule_14 1 rfl rfl ?_
      refine sd_tl0 C (x1.toInt.toNat) ⟨by omega, by omega⟩ dX4_rule_15 ?_
      refine sd_icmp_lt C 28 dX4_rule_16 (by decide) (fun c16 => ?_) (fun c16 => ?_)
      · refine sd_sipush C dX4_rule_28 (by decide) (fun k28 ek28 => ?_)
        exact hret _ _ _ _ dX4_rule_31 (⟨by
            unfold an_rule
            repeat' split
            all_goals omega, by
            unfold up_rule
            rw [if_pos (by omega)]; exact hS, fun _ _ _ => rfl⟩)
      · refine sd_iload_n C dX4_rule_19 2 rfl rfl ?_
        refine sd_gs1 C wf_X4_94 dX4_rule_20 ?_
        refine sd_iload_n C dX4_rule_23 1 rfl rfl ?_
        refine sd_tl1 C (x1.toInt.toNat) ⟨by omega, by omega⟩ dX4_rule_24 ?_
        refine sd_icmp_le C 32 dX4_rule_25 (by decide) (fun c25 => ?_) (fun c25 => ?_)
        · refine sd_aload_n C dX4_rule_32 0 rfl rfl ?_
          refine sd_get C (by decide) rfl rfl 2 (by decide) rfl wf_X4_29 dX4_rule_33 ?_
          refine sd_iload_n C dX4_rule_36 1 rfl rfl ?_
          refine sd_iald C (by decide) rfl (x1.toInt.toNat) ⟨by omega, by omega⟩ dX4_rule_37 ?_
          refine sd_istore_n (lv' := [(3, .int (σ 8 (x1.toInt.toNat))), (0, .ref (ad 0)), (1, .int x1), (2, .int x2)]) C dX4_rule_38 rfl (by decide) rfl ?_
          refine sd_aload_n C dX4_rule_39 1 rfl rfl ?_
          refine sd_get C (by decide) rfl rfl 2 (by decide) rfl wf_X4_29 dX4_rule_40 ?_
          refine sd_iload_n C dX4_rule_43 2 rfl rfl ?_
          refine sd_iload_n C dX4_rule_44 3 rfl rfl ?_
          refine sd_iast C (by decide) (fun _ => rfl) (x1.toInt.toNat) ⟨by omega, by omega⟩ dX4_rule_45 (fun s45 es45 => ?_)
          have hC9 : sd_CR s45 (b_set β 6 x1.toInt.toNat x2.toInt) := by rw [es45]; exact sd_CR_set hC rfl (by omega)
          have hG9 : sd_RG (b_set β 6 x1.toInt.toNat x2.toInt) := sd_RG_rule hG (by omega) (by rw [show ((x1.toInt.toNat : Nat) : Int) = x1.toInt by omega]; omega) (by rw [show ((x1.toInt.toNat : Nat) : Int) = x1.toInt by omega]; omega)
          have hB9 : sd_BT s45 (b_set β 6 x1.toInt.toNat x2.toInt) := by rw [es45]; exact sd_BT_set hB (by decide) (by decide)
          refine sd_aload_n C dX4_rule_46 1 rfl rfl ?_
          refine sd_callVv C (c_X4_layRows l D ad ca T s45 (b_set β 6 x1.toInt.toNat x2.toInt) hC9 hG9 hB9) mv_X4_layRows wm_X4_68 (by decide) rfl rfl (by decide) rfl rfl (Nat.le_of_ble_eq_true rfl) dX4_rule_47 (fun s47 h47 => ?_)
          try dsimp only at h47
          refine sd_iload_n C dX4_rule_50 0 rfl rfl ?_
          exact hret _ _ _ _ dX4_rule_51 (by
              refine ⟨?_, ?_, ?_⟩
              · unfold an_rule
                repeat' split
                all_goals omega
              · unfold up_rule
                rw [if_neg (by omega)]
                exact sd_CS_lay hC9 hG9 hB9 h47
              · exact sd_hi_lay (fun i k hi => by rw [es45, sd_st_ne (by omega)]) h47.1)
        · refine sd_sipush C dX4_rule_28 (by decide) (fun k28 ek28 => ?_)
          exact hret _ _ _ _ dX4_rule_31 (⟨by
              unfold an_rule
              repeat' split
              all_goals omega, by
              unfold up_rule
              rw [if_pos (by omega)]; exact hS, fun _ _ _ => rfl⟩)

set_option maxRecDepth 20000 in
set_option maxHeartbeats 4000000 in
theorem c_X4_told (l : Launch) (D : va_G) (ad : Nat → Nat) (ca : Nat → ClassId) (T : Nat → Nat) (σ : sd_Mem) (β : sp_B) (hS : sd_CS σ β) (x1 x2 : Int32) : sd_Ci l yX4_told cX4_told 3 1 D ad ca T σ [.ref (ad 0), .int x1, .int x2] (fun r σ' => σ' = σ ∧ (r.toInt = an_told β x1.toInt x2.toInt)) := by
  refine sd_ent_i (own := RX4) (by decide) rfl (Nat.le_of_ble_eq_true rfl) (fun X C hret => ?_)
  show sd_Wd X 3 D ad ca σ [(0, .ref (ad 0)), (1, .int x1), (2, .int x2)] 0 []
  obtain ⟨hC, hG, hB, hL⟩ := id hS
  have hN := sp_n_le hG
  have hn := hC.1.1
  refine sd_aload_n C dX4_told_0 0 rfl rfl ?_
  refine sd_get C (by decide) rfl rfl 0 (by decide) rfl wf_X4_10 dX4_told_1 ?_
  refine sd_iload_n C dX4_told_4 1 rfl rfl ?_
  refine sd_pVz C (c_X0_has l D ad ca T σ x1) mv_X0_has wm_X4_71 (by decide) rfl rfl (by decide) rfl rfl (Nat.le_of_ble_eq_true rfl) dX4_told_5 (fun r5 h5 => ?_)
  try dsimp only at h5
  refine sd_if_ne C 15 dX4_told_8 (by decide) (fun c8 => ?_) (fun c8 => ?_)
  · have t1 := hC.2.1 x1.toInt.toNat (by omega)
    have t2 := hG.2.1 x1.toInt.toNat (by omega)
    have t3 := hC.2.2.1 (β 2 x1.toInt.toNat).toNat (by omega)
    have t4 := hG.2.2.1 (β 2 x1.toInt.toNat).toNat (by omega)
    have t5 : (sp_per β x1.toInt.toNat : Int) = β 5 (β 2 x1.toInt.toNat).toNat := by unfold sp_per; omega
    obtain ⟨t6, t7⟩ := hL.2 x1.toInt.toNat (by omega)
    have t8 := sp_pl_rng (sp_row β (sp_per β x1.toInt.toNat)) x1.toInt.toNat
    refine sd_iload_n C dX4_told_15 2 rfl rfl ?_
    have hw16 : x2.toInt = 0 ∨ x2.toInt = 1 ∨ x2.toInt = 2 ∨ x2.toInt = 3 ∨ x2.toInt = 4 ∨ x2.toInt = 5 ∨ x2.toInt = 6 ∨ (x2.toInt ≠ 0 ∧ x2.toInt ≠ 1 ∧ x2.toInt ≠ 2 ∧ x2.toInt ≠ 3 ∧ x2.toInt ≠ 4 ∧ x2.toInt ≠ 5 ∧ x2.toInt ≠ 6) := by omega
    rcases hw16 with w16 | w16 | w16 | w16 | w16 | w16 | w16 | w16
    · refine sd_tableIn C 60 (0) dX4_told_16 w16 (by decide) rfl (by decide) ?_
      refine sd_aload_n C dX4_told_60 0 rfl rfl ?_
      refine sd_get C (by decide) rfl rfl 0 (by decide) rfl wf_X4_10 dX4_told_61 ?_
      refine sd_get C (by decide) rfl rfl 0 (by decide) rfl wf_X4_97 dX4_told_64 ?_
      refine sd_iload_n C dX4_told_67 1 rfl rfl ?_
      refine sd_iald C (by decide) rfl (x1.toInt.toNat) ⟨by omega, by omega⟩ dX4_told_68 ?_
      exact hret _ _ _ _ dX4_told_69 (⟨rfl, by
          unfold an_told
          repeat' split
          all_goals omega⟩)
    · refine sd_tableIn C 70 (1) dX4_told_16 w16 (by decide) rfl (by decide) ?_
      refine sd_aload_n C dX4_told_70 0 rfl rfl ?_
      refine sd_get C (by decide) rfl rfl 0 (by decide) rfl wf_X4_10 dX4_told_71 ?_
      refine sd_get C (by decide) rfl rfl 1 (by decide) rfl wf_X4_100 dX4_told_74 ?_
      refine sd_iload_n C dX4_told_77 1 rfl rfl ?_
      refine sd_iald C (by decide) rfl (x1.toInt.toNat) ⟨by omega, by omega⟩ dX4_told_78 ?_
      exact hret _ _ _ _ dX4_told_79 (⟨rfl, by
          unfold an_told
          repeat' split
          all_goals omega⟩)
    · refine sd_tableIn C 80 (2) dX4_told_16 w16 (by decide) rfl (by decide) ?_
      refine sd_aload_n C dX4_told_80 0 rfl rfl ?_
      refine sd_get C (by decide) rfl rfl 0 (by decide) rfl wf_X4_10 dX4_told_81 ?_
      refine sd_get C (by decide) rfl rfl 2 (by decide) rfl wf_X4_103 dX4_told_84 ?_
      refine sd_iload_n C dX4_told_87 1 rfl rfl ?_
      refine sd_iald C (by decide) rfl (x1.toInt.toNat) ⟨by omega, by omega⟩ dX4_told_88 ?_
      exact hret _ _ _ _ dX4_told_89 (⟨rfl, by
          unfold an_told
          repeat' split
          all_goals omega⟩)
    · refine sd_tableIn C 90 (3) dX4_told_16 w16 (by decide) rfl (by decide) ?_
      refine sd_aload_n C dX4_told_90 0 rfl rfl ?_
      refine sd_get C (by decide) rfl rfl 1 (by decide) rfl wf_X4_16 dX4_told_91 ?_
      refine sd_aload_n C dX4_told_94 0 rfl rfl ?_
      refine sd_get C (by decide) rfl rfl 0 (by decide) rfl wf_X4_10 dX4_told_95 ?_
      refine sd_get C (by decide) rfl rfl 1 (by decide) rfl wf_X4_100 dX4_told_98 ?_
      refine sd_iload_n C dX4_told_101 1 rfl rfl ?_
      refine sd_iald C (by decide) rfl (x1.toInt.toNat) ⟨by omega, by omega⟩ dX4_told_102 ?_
      refine sd_iald C (by decide) rfl ((β 2 x1.toInt.toNat).toNat) ⟨by omega, by omega⟩ dX4_told_103 ?_
      exact hret _ _ _ _ dX4_told_104 (⟨rfl, by
          unfold an_told
          repeat' split
          all_goals omega⟩)
    · refine sd_tableIn C 105 (4) dX4_told_16 w16 (by decide) rfl (by decide) ?_
      refine sd_aload_n C dX4_told_105 0 rfl rfl ?_
      refine sd_get C (by decide) rfl rfl 4 (by decide) rfl wf_X4_32 dX4_told_106 ?_
      refine sd_iload_n C dX4_told_109 1 rfl rfl ?_
      refine sd_iald C (by decide) rfl (x1.toInt.toNat) ⟨by omega, by omega⟩ dX4_told_110 ?_
      refine sd_iconst C dX4_told_111 (by decide) (fun k111 ek111 => ?_)
      refine sd_icmp_eq C 119 dX4_told_112 (by decide) (fun c112 => ?_) (fun c112 => ?_)
      · refine sd_iconst C dX4_told_119 (by decide) (fun k119 ek119 => ?_)
        refine sd_pSi C (c_X4_bit l D ad ca T σ k119) mv_X4_bit wm_X4_78 (by decide) rfl rfl (Nat.le_of_ble_eq_true rfl) dX4_told_120 (fun r120 h120 => ?_)
        try dsimp only at h120
        exact hret _ _ _ _ dX4_told_123 (⟨rfl, by
            unfold an_told
            repeat' split
            all_goals omega⟩)
      · refine sd_iconst C dX4_told_115 (by decide) (fun k115 ek115 => ?_)
        refine sd_goto C 120 dX4_told_116 (by decide) ?_
        refine sd_pSi C (c_X4_bit l D ad ca T σ k115) mv_X4_bit wm_X4_78 (by decide) rfl rfl (Nat.le_of_ble_eq_true rfl) dX4_told_120 (fun r120 h120 => ?_)
        try dsimp only at h120
        exact hret _ _ _ _ dX4_told_123 (⟨rfl, by
            unfold an_told
            repeat' split
            all_goals omega⟩)
    · refine sd_tableIn C 124 (5) dX4_told_16 w16 (by decide) rfl (by decide) ?_
      refine sd_aload_n C dX4_told_124 0 rfl rfl ?_
      refine sd_get C (by decide) rfl rfl 5 (by decide) rfl wf_X4_35 dX4_told_125 ?_
      refine sd_iload_n C dX4_told_128 1 rfl rfl ?_
      refine sd_iald C (by decide) rfl (x1.toInt.toNat) ⟨by omega, by omega⟩ dX4_told_129 ?_
      exact hret _ _ _ _ dX4_told_130 (⟨rfl, by
          unfold an_told
          repeat' split
          all_goals omega⟩)
    · refine sd_tableIn C 131 (6) dX4_told_16 w16 (by decide) rfl (by decide) ?_
      refine sd_aload_n C dX4_told_131 0 rfl rfl ?_
      refine sd_get C (by decide) rfl rfl 4 (by decide) rfl wf_X4_32 dX4_told_132 ?_
      refine sd_iload_n C dX4_told_135 1 rfl rfl ?_
      refine sd_iald C (by decide) rfl (x1.toInt.toNat) ⟨by omega, by omega⟩ dX4_told_136 ?_
      exact hret _ _ _ _ dX4_told_137 (⟨rfl, by
          unfold an_told
          repeat' split
          all_goals omega⟩)
    · refine sd_tableOut C 138 dX4_told_16 (by omega) (by decide) ?_
      refine sd_sipush C dX4_told_138 (by decide) (fun k138 ek138 => ?_)
      exact hret _ _ _ _ dX4_told_141 (⟨rfl, by
          unfold an_told
          repeat' split
          all_goals omega⟩)
  · refine sd_sipush C dX4_told_11 (by decide) (fun k11 ek11 => ?_)
    exact hret _ _ _ _ dX4_told_14 (⟨rfl, by
        unfold an_told
        repeat' split
        all_goals omega⟩)

set_option maxRecDepth 20000 in
set_option maxHeartbeats 4000000 in
theorem c_X4_person (l : Launch) (D : va_G) (ad : Nat → Nat) (ca : Nat → ClassId) (T : Nat → Nat) (σ : sd_Mem) (β : sp_B) (hS : sd_CS σ β) (x1 x2 : Int32) : sd_Ci l yX4_person cX4_person 4 3 D ad ca T σ [.ref (ad 0), .int x1, .int x2] (fun r σ' => σ' = σ ∧ (r.toInt = an_person β x1.toInt x2.toInt)) := by
  refine sd_ent_i (own := RX4) (by decide) rfl (Nat.le_of_ble_eq_true rfl) (fun X C hret => ?_)
  show sd_Wd X 4 D ad ca σ [(0, .ref (ad 0)), (1, .int x1), (2, .int x2)] 0 []
  obtain ⟨hC, hG, hB, hL⟩ := id hS
  have hN := sp_n_le hG
  refine sd_iload_n C dX4_person_0 1 rfl rfl ?_
  refine sd_pSz C (c_X4_isWho l D ad ca T σ x1) mv_X4_isWho wm_X4_56 (by decide) rfl rfl (Nat.le_of_ble_eq_true rfl) dX4_person_1 (fun r1 h1 => ?_)
  try dsimp only at h1
  refine sd_if_ne C 11 dX4_person_4 (by decide) (fun c4 => ?_) (fun c4 => ?_)
  · have p1 := hC.2.2.1 x1.toInt.toNat (by omega)
    have p2 := hG.2.2.1 x1.toInt.toNat (by omega)
    have hq : sp_q β x1.toInt < 24 := by unfold sp_q; omega
    have hqe : (σ 7 x1.toInt.toNat).toInt = (sp_q β x1.toInt : Int) := by unfold sp_q; omega
    have hLr := hL.1 _ hq
    have hW := hLr.rw hC hG
    obtain ⟨L1, L2, L3, L4⟩ := hLr
    have L0 := L1.1
    have hok := sp_row_ok hG (sp_q β x1.toInt)
    refine sd_aload_n C dX4_person_11 0 rfl rfl ?_
    refine sd_get C (by decide) rfl rfl 3 (by decide) rfl wf_X4_22 dX4_person_12 ?_
    refine sd_aload_n C dX4_person_15 0 rfl rfl ?_
    refine sd_get C (by decide) rfl rfl 1 (by decide) rfl wf_X4_16 dX4_person_16 ?_
    refine sd_iload_n C dX4_person_19 1 rfl rfl ?_
    refine sd_iald C (by decide) rfl (x1.toInt.toNat) ⟨by omega, by omega⟩ dX4_person_20 ?_
    refine sd_aald9 C (sp_q β x1.toInt) ⟨by omega, by omega⟩ dX4_person_21 ?_
    refine sd_astore_n (lv' := [(3, .ref (ad (16 + sp_q β x1.toInt))), (0, .ref (ad 0)), (1, .int x1), (2, .int x2)]) C dX4_person_22 rfl (by decide) rfl ?_
    refine sd_iload_n C dX4_person_23 3 rfl rfl ?_
    have hw24 : x2.toInt = 0 ∨ x2.toInt = 1 ∨ x2.toInt = 2 ∨ x2.toInt = 3 ∨ x2.toInt = 4 ∨ x2.toInt = 5 ∨ (x2.toInt ≠ 0 ∧ x2.toInt ≠ 1 ∧ x2.toInt ≠ 2 ∧ x2.toInt ≠ 3 ∧ x2.toInt ≠ 4 ∧ x2.toInt ≠ 5) := by omega
    rcases hw24 with w24 | w24 | w24 | w24 | w24 | w24 | w24
    · refine sd_tableIn C 64 (0) dX4_person_24 w24 (by decide) rfl (by decide) ?_
      refine sd_aload_n C dX4_person_64 1 rfl rfl ?_
      refine sd_get C (by decide) rfl rfl 1 (by decide) rfl wf_X4_16 dX4_person_65 ?_
      refine sd_iload_n C dX4_person_68 2 rfl rfl ?_
      refine sd_iald C (by decide) rfl (x1.toInt.toNat) ⟨by omega, by omega⟩ dX4_person_69 ?_
      exact hret _ _ _ _ dX4_person_70 (⟨rfl, by
          unfold an_person
          repeat' split
          all_goals omega⟩)
    · refine sd_tableIn C 71 (1) dX4_person_24 w24 (by decide) rfl (by decide) ?_
      refine sd_aload_n C dX4_person_71 0 rfl rfl ?_
      refine sd_get C (by omega) (sd_cell_row _ (by omega)) rfl 3 (by decide) rfl wf_X4_88 dX4_person_72 ?_
      exact hret _ _ _ _ dX4_person_75 (⟨rfl, by
          unfold an_person
          repeat' split
          all_goals omega⟩)
    · refine sd_tableIn C 76 (2) dX4_person_24 w24 (by decide) rfl (by decide) ?_
      refine sd_aload_n C dX4_person_76 0 rfl rfl ?_
      refine sd_get C (by omega) (sd_cell_row _ (by omega)) rfl 2 (by decide) rfl wf_X4_106 dX4_person_77 ?_
      exact hret _ _ _ _ dX4_person_80 (⟨rfl, by
          unfold an_person
          repeat' split
          all_goals omega⟩)
    · refine sd_tableIn C 81 (3) dX4_person_24 w24 (by decide) rfl (by decide) ?_
      refine sd_aload_n C dX4_person_81 0 rfl rfl ?_
      refine sd_get C (by omega) (sd_cell_row _ (by omega)) rfl 4 (by decide) rfl wf_X4_109 dX4_person_82 ?_
      refine sd_pSi C (c_X4_bit l D ad ca T σ (σ (16 + sp_q β x1.toInt) 4)) mv_X4_bit wm_X4_78 (by decide) rfl rfl (Nat.le_of_ble_eq_true rfl) dX4_person_85 (fun r85 h85 => ?_)
      try dsimp only at h85
      exact hret _ _ _ _ dX4_person_88 (⟨rfl, by
          unfold an_person
          by_cases hk : sp_quick β (sp_raw β (sp_q β x1.toInt)) = true
          · rw [hk] at L3
            simp only [if_true] at L3
            rw [hk]
            repeat' split
            all_goals first | omega | simp_all
          · simp only [hk] at L3 ⊢
            repeat' split
            all_goals first | omega | simp_all⟩)
    · refine sd_tableIn C 89 (4) dX4_person_24 w24 (by decide) rfl (by decide) ?_
      refine sd_aload_n C dX4_person_89 0 rfl rfl ?_
      refine sd_get C (by omega) (sd_cell_row _ (by omega)) rfl 5 (by decide) rfl wf_X4_113 dX4_person_90 ?_
      exact hret _ _ _ _ dX4_person_93 (⟨rfl, by
          unfold an_person
          repeat' split
          all_goals omega⟩)
    · refine sd_tableIn C 94 (5) dX4_person_24 w24 (by decide) rfl (by decide) ?_
      refine sd_aload_n C dX4_person_94 0 rfl rfl ?_
      refine sd_aload_n C dX4_person_95 1 rfl rfl ?_
      refine sd_get C (by decide) rfl rfl 2 (by decide) rfl wf_X4_29 dX4_person_96 ?_
      refine sd_iconst C dX4_person_99 (by decide) (fun k99 ek99 => ?_)
      refine sd_iald C (by decide) rfl (5) ⟨by omega, by omega⟩ dX4_person_100 ?_
      refine sd_pVi C (c_X2_birth l D ad ca T σ β (sp_q β x1.toInt) (sp_row β (sp_q β x1.toInt)) hW hq (σ 8 5) (hC.2.2.2.1 5 (by decide))) mv_X2_birth wm_X4_116 (by omega) (sd_cell_row _ (by omega)) rfl (by decide) rfl rfl (Nat.le_of_ble_eq_true rfl) dX4_person_101 (fun r101 h101 => ?_)
      try dsimp only at h101
      exact hret _ _ _ _ dX4_person_104 (⟨rfl, by
          unfold an_person
          repeat' split
          all_goals omega⟩)
    · refine sd_tableOut C 105 dX4_person_24 (by omega) (by decide) ?_
      refine sd_sipush C dX4_person_105 (by decide) (fun k105 ek105 => ?_)
      exact hret _ _ _ _ dX4_person_108 (⟨rfl, by
          unfold an_person
          repeat' split
          all_goals omega⟩)
  · refine sd_sipush C dX4_person_7 (by decide) (fun k7 ek7 => ?_)
    exact hret _ _ _ _ dX4_person_10 (⟨rfl, by
        unfold an_person
        repeat' split
        all_goals omega⟩)

set_option maxRecDepth 20000 in
set_option maxHeartbeats 4000000 in
theorem c_X4_row (l : Launch) (D : va_G) (ad : Nat → Nat) (ca : Nat → ClassId) (T : Nat → Nat) (σ : sd_Mem) (β : sp_B) (hS : sd_CS σ β) (x1 x2 : Int32) : sd_Ci l yX4_row cX4_row 4 1 D ad ca T σ [.ref (ad 0), .int x1, .int x2] (fun r σ' => σ' = σ ∧ (r.toInt = an_row β x1.toInt x2.toInt)) := by
  refine sd_ent_i (own := RX4) (by decide) rfl (Nat.le_of_ble_eq_true rfl) (fun X C hret => ?_)
  show sd_Wd X 4 D ad ca σ [(0, .ref (ad 0)), (1, .int x1), (2, .int x2)] 0 []
  obtain ⟨hC, hG, hB, hL⟩ := id hS
  have hN := sp_n_le hG
  refine sd_iload_n C dX4_row_0 1 rfl rfl ?_
  refine sd_pSz C (c_X4_isWho l D ad ca T σ x1) mv_X4_isWho wm_X4_56 (by decide) rfl rfl (Nat.le_of_ble_eq_true rfl) dX4_row_1 (fun r1 h1 => ?_)
  try dsimp only at h1
  refine sd_if_ne C 11 dX4_row_4 (by decide) (fun c4 => ?_) (fun c4 => ?_)
  · have p1 := hC.2.2.1 x1.toInt.toNat (by omega)
    have p2 := hG.2.2.1 x1.toInt.toNat (by omega)
    have hq : sp_q β x1.toInt < 24 := by unfold sp_q; omega
    have hqe : (σ 7 x1.toInt.toNat).toInt = (sp_q β x1.toInt : Int) := by unfold sp_q; omega
    have hLr := hL.1 _ hq
    have hW := hLr.rw hC hG
    obtain ⟨L1, L2, L3, L4⟩ := hLr
    have L0 := L1.1
    have hok := sp_row_ok hG (sp_q β x1.toInt)
    refine sd_aload_n C dX4_row_11 0 rfl rfl ?_
    refine sd_get C (by decide) rfl rfl 3 (by decide) rfl wf_X4_22 dX4_row_12 ?_
    refine sd_aload_n C dX4_row_15 0 rfl rfl ?_
    refine sd_get C (by decide) rfl rfl 1 (by decide) rfl wf_X4_16 dX4_row_16 ?_
    refine sd_iload_n C dX4_row_19 1 rfl rfl ?_
    refine sd_iald C (by decide) rfl (x1.toInt.toNat) ⟨by omega, by omega⟩ dX4_row_20 ?_
    refine sd_aald9 C (sp_q β x1.toInt) ⟨by omega, by omega⟩ dX4_row_21 ?_
    refine sd_astore_n (lv' := [(3, .ref (ad (16 + sp_q β x1.toInt))), (0, .ref (ad 0)), (1, .int x1), (2, .int x2)]) C dX4_row_22 rfl (by decide) rfl ?_
    refine sd_aload_n C dX4_row_23 0 rfl rfl ?_
    refine sd_iload_n C dX4_row_24 3 rfl rfl ?_
    refine sd_pVz C (c_X2_has l D ad ca T σ (sp_q β x1.toInt) hq x2) mv_X2_has wm_X4_120 (by omega) (sd_cell_row _ (by omega)) rfl (by decide) rfl rfl (Nat.le_of_ble_eq_true rfl) dX4_row_25 (fun r25 h25 => ?_)
    try dsimp only at h25
    refine sd_if_eq C 40 dX4_row_28 (by decide) (fun c28 => ?_) (fun c28 => ?_)
    · refine sd_iconst C dX4_row_40 (by decide) (fun k40 ek40 => ?_)
      exact hret _ _ _ _ dX4_row_41 (⟨rfl, by
          unfold an_row
          repeat' split
          all_goals omega⟩)
    · have L5 := L1.2 x2.toInt.toNat (by omega)
      refine sd_aload_n C dX4_row_31 0 rfl rfl ?_
      refine sd_get C (by omega) (sd_cell_row _ (by omega)) rfl 1 (by decide) rfl wf_X4_121 dX4_row_32 ?_
      refine sd_iload_n C dX4_row_35 3 rfl rfl ?_
      refine sd_iald C (by omega) (sd_cell_rowA _ (by omega)) (x2.toInt.toNat) ⟨by omega, by omega⟩ dX4_row_36 ?_
      refine sd_goto C 41 dX4_row_37 (by decide) ?_
      exact hret _ _ _ _ dX4_row_41 (⟨rfl, by
          unfold an_row
          repeat' split
          all_goals omega⟩)
  · refine sd_sipush C dX4_row_7 (by decide) (fun k7 ek7 => ?_)
    exact hret _ _ _ _ dX4_row_10 (⟨rfl, by
        unfold an_row
        repeat' split
        all_goals omega⟩)

set_option maxRecDepth 20000 in
set_option maxHeartbeats 4000000 in
theorem c_X4_sitting (l : Launch) (D : va_G) (ad : Nat → Nat) (ca : Nat → ClassId) (T : Nat → Nat) (σ : sd_Mem) (β : sp_B) (hS : sd_CS σ β) (x1 x2 x3 : Int32) : sd_Ci l yX4_sitting cX4_sitting 10 1 D ad ca T σ [.ref (ad 0), .int x1, .int x2, .int x3] (fun r σ' => σ' = σ ∧ (r.toInt = an_sitting β x1.toInt x2.toInt x3.toInt)) := by
  refine sd_ent_i (own := RX4) (by decide) rfl (Nat.le_of_ble_eq_true rfl) (fun X C hret => ?_)
  show sd_Wd X 10 D ad ca σ [(0, .ref (ad 0)), (1, .int x1), (2, .int x2), (3, .int x3)] 0 []
  obtain ⟨hC, hG, hB, hL⟩ := id hS
  have hN := sp_n_le hG
  refine sd_iload_n C dX4_sitting_0 1 rfl rfl ?_
  refine sd_pSz C (c_X4_isWho l D ad ca T σ x1) mv_X4_isWho wm_X4_56 (by decide) rfl rfl (Nat.le_of_ble_eq_true rfl) dX4_sitting_1 (fun r1 h1 => ?_)
  try dsimp only at h1
  refine sd_if_ne C 11 dX4_sitting_4 (by decide) (fun c4 => ?_) (fun c4 => ?_)
  · have p1 := hC.2.2.1 x1.toInt.toNat (by omega)
    have p2 := hG.2.2.1 x1.toInt.toNat (by omega)
    have hq : sp_q β x1.toInt < 24 := by unfold sp_q; omega
    have hqe : (σ 7 x1.toInt.toNat).toInt = (sp_q β x1.toInt : Int) := by unfold sp_q; omega
    have hLr := hL.1 _ hq
    have hW := hLr.rw hC hG
    obtain ⟨L1, L2, L3, L4⟩ := hLr
    have L0 := L1.1
    have hok := sp_row_ok hG (sp_q β x1.toInt)
    refine sd_aload_n C dX4_sitting_11 0 rfl rfl ?_
    refine sd_get C (by decide) rfl rfl 3 (by decide) rfl wf_X4_22 dX4_sitting_12 ?_
    refine sd_aload_n C dX4_sitting_15 0 rfl rfl ?_
    refine sd_get C (by decide) rfl rfl 1 (by decide) rfl wf_X4_16 dX4_sitting_16 ?_
    refine sd_iload_n C dX4_sitting_19 1 rfl rfl ?_
    refine sd_iald C (by decide) rfl (x1.toInt.toNat) ⟨by omega, by omega⟩ dX4_sitting_20 ?_
    refine sd_aald9 C (sp_q β x1.toInt) ⟨by omega, by omega⟩ dX4_sitting_21 ?_
    refine sd_astore (lv' := [(4, .ref (ad (16 + sp_q β x1.toInt))), (0, .ref (ad 0)), (1, .int x1), (2, .int x2), (3, .int x3)]) C dX4_sitting_22 (by decide) rfl ?_
    refine sd_iconst C dX4_sitting_24 (by decide) (fun k24 ek24 => ?_)
    refine sd_istore (lv' := [(5, .int k24), (4, .ref (ad (16 + sp_q β x1.toInt))), (0, .ref (ad 0)), (1, .int x1), (2, .int x2), (3, .int x3)]) C dX4_sitting_25 (by decide) rfl ?_
    refine sd_iconst C dX4_sitting_27 (by decide) (fun k27 ek27 => ?_)
    refine sd_istore (lv' := [(6, .int k27), (5, .int k24), (4, .ref (ad (16 + sp_q β x1.toInt))), (0, .ref (ad 0)), (1, .int x1), (2, .int x2), (3, .int x3)]) C dX4_sitting_28 (by decide) rfl ?_
    refine sd_iconst C dX4_sitting_30 (by decide) (fun k30 ek30 => ?_)
    refine sd_istore (lv' := [(7, .int k30), (6, .int k27), (5, .int k24), (4, .ref (ad (16 + sp_q β x1.toInt))), (0, .ref (ad 0)), (1, .int x1), (2, .int x2), (3, .int x3)]) C dX4_sitting_31 (by decide) rfl ?_
    refine sd_iconst C dX4_sitting_33 (by decide) (fun k33 ek33 => ?_)
    refine sd_istore (lv' := [(8, .int k33), (7, .int k30), (6, .int k27), (5, .int k24), (4, .ref (ad (16 + sp_q β x1.toInt))), (0, .ref (ad 0)), (1, .int x1), (2, .int x2), (3, .int x3)]) C dX4_sitting_34 (by decide) rfl ?_
    have key36 : ∀ (fu36 : Nat) (y5 : Int32) (y6 : Int32) (y7 : Int32) (y8 : Int32) (j : Nat), (y8.toInt = (j : Int)) → (j ≤ (sp_row β (sp_q β x1.toInt)).length) → (y5.toInt = sp_sf β (sp_row β (sp_q β x1.toInt)) x2.toInt j) → (y6.toInt = sp_sl β (sp_row β (sp_q β x1.toInt)) x2.toInt j) → (y7.toInt = (sp_sc β (sp_row β (sp_q β x1.toInt)) x2.toInt j : Int)) → ((sp_row β (sp_q β x1.toInt)).length - j < fu36) → sd_Wd X 10 D ad ca σ [(8, .int y8), (7, .int y7), (6, .int y6), (5, .int y5), (4, .ref (ad (16 + sp_q β x1.toInt))), (0, .ref (ad 0)), (1, .int x1), (2, .int x2), (3, .int x3)] 36 [] := by
      intro fu36
      induction fu36 with
      | zero => intro y5 y6 y7 y8 j h8 hj h5 h6 h7 hm36; exact absurd hm36 (Nat.not_lt_zero _)
      | succ fu36 ih36 =>
        intro y5 y6 y7 y8 j h8 hj h5 h6 h7 hm36
        refine sd_iload C dX4_sitting_36 0 rfl ?_
        refine sd_aload C dX4_sitting_38 4 rfl ?_
        refine sd_get C (by omega) (sd_cell_row _ (by omega)) rfl 2 (by decide) rfl wf_X4_106 dX4_sitting_40 ?_
        refine sd_icmp_ge C 94 dX4_sitting_43 (by decide) (fun c43 => ?_) (fun c43 => ?_)
        · have z1 := sp_sc_zero β (sp_row β (sp_q β x1.toInt)) x2.toInt (sp_row β (sp_q β x1.toInt)).length
          have ej : j = (sp_row β (sp_q β x1.toInt)).length := by omega
          rw [← ej] at z1
          refine sd_iload C dX4_sitting_94 1 rfl ?_
          refine sd_if_ne C 103 dX4_sitting_96 (by decide) (fun c96 => ?_) (fun c96 => ?_)
          · refine sd_iload_n C dX4_sitting_103 8 rfl rfl ?_
            have hw104 : x3.toInt = 0 ∨ x3.toInt = 1 ∨ x3.toInt = 2 ∨ x3.toInt = 3 ∨ (x3.toInt ≠ 0 ∧ x3.toInt ≠ 1 ∧ x3.toInt ≠ 2 ∧ x3.toInt ≠ 3) := by omega
            rcases hw104 with w104 | w104 | w104 | w104 | w104
            · refine sd_tableIn C 136 (0) dX4_sitting_104 w104 (by decide) rfl (by decide) ?_
              refine sd_iload C dX4_sitting_136 3 rfl ?_
              exact hret _ _ _ _ dX4_sitting_138 (⟨rfl, by
                  unfold an_sitting
                  rw [if_neg (by omega)]
                  unfold an_sit
                  rw [← ej]
                  repeat' split
                  all_goals omega⟩)
            · refine sd_tableIn C 139 (1) dX4_sitting_104 w104 (by decide) rfl (by decide) ?_
              refine sd_iload C dX4_sitting_139 2 rfl ?_
              exact hret _ _ _ _ dX4_sitting_141 (⟨rfl, by
                  unfold an_sitting
                  rw [if_neg (by omega)]
                  unfold an_sit
                  rw [← ej]
                  repeat' split
                  all_goals omega⟩)
            · refine sd_tableIn C 142 (2) dX4_sitting_104 w104 (by decide) rfl (by decide) ?_
              refine sd_iload C dX4_sitting_142 1 rfl ?_
              exact hret _ _ _ _ dX4_sitting_144 (⟨rfl, by
                  unfold an_sitting
                  rw [if_neg (by omega)]
                  unfold an_sit
                  rw [← ej]
                  repeat' split
                  all_goals omega⟩)
            · refine sd_tableIn C 145 (3) dX4_sitting_104 w104 (by decide) rfl (by decide) ?_
              rcases sp_sl_mem β (sp_row β (sp_q β x1.toInt)) x2.toInt j (by omega) with ⟨z2, -⟩ | ⟨a, b, z2, z3, z4, z5, z6⟩
              · exfalso; omega
              have z7 := hok.2 a (by omega)
              have z8 := hok.2 b (by omega)
              have z9 := hC.2.1 (y6.toInt.toNat) (by omega)
              have z10 := hC.2.1 (y5.toInt.toNat) (by omega)
              have z11 := hG.2.1 (y6.toInt.toNat) (by omega)
              have z12 := hG.2.1 (y5.toInt.toNat) (by omega)
              refine sd_aload_n C dX4_sitting_145 5 rfl rfl ?_
              refine sd_get C (by decide) rfl rfl 0 (by decide) rfl wf_X4_10 dX4_sitting_146 ?_
              refine sd_get C (by decide) rfl rfl 0 (by decide) rfl wf_X4_97 dX4_sitting_149 ?_
              refine sd_iload C dX4_sitting_152 2 rfl ?_
              refine sd_iald C (by decide) rfl (y6.toInt.toNat) ⟨by omega, by omega⟩ dX4_sitting_154 ?_
              refine sd_aload_n C dX4_sitting_155 5 rfl rfl ?_
              refine sd_get C (by decide) rfl rfl 0 (by decide) rfl wf_X4_10 dX4_sitting_156 ?_
              refine sd_get C (by decide) rfl rfl 0 (by decide) rfl wf_X4_97 dX4_sitting_159 ?_
              refine sd_iload C dX4_sitting_162 3 rfl ?_
              refine sd_iald C (by decide) rfl (y5.toInt.toNat) ⟨by omega, by omega⟩ dX4_sitting_164 ?_
              refine sd_isub C dX4_sitting_165 (by omega) (fun z165 ez165 => ?_)
              exact hret _ _ _ _ dX4_sitting_166 (⟨rfl, by
                  unfold an_sitting
                  rw [if_neg (by omega)]
                  unfold an_sit
                  rw [← ej, ← h5, ← h6]
                  repeat' split
                  all_goals omega⟩)
            · refine sd_tableOut C 167 dX4_sitting_104 (by omega) (by decide) ?_
              refine sd_sipush C dX4_sitting_167 (by decide) (fun k167 ek167 => ?_)
              exact hret _ _ _ _ dX4_sitting_170 (⟨rfl, by
                  unfold an_sitting
                  rw [if_neg (by omega)]
                  unfold an_sit
                  rw [← ej]
                  repeat' split
                  all_goals omega⟩)
          · refine sd_sipush C dX4_sitting_99 (by decide) (fun k99 ek99 => ?_)
            exact hret _ _ _ _ dX4_sitting_102 (⟨rfl, by
                unfold an_sitting
                rw [if_neg (by omega)]
                unfold an_sit
                rw [← ej]
                repeat' split
                all_goals omega⟩)
        · have t1 := hW.at (j := j) (by omega)
          have t2 := (sd_CS.at hS hq (j := j) (by omega)).1
          have t3 := sp_sc_le β (sp_row β (sp_q β x1.toInt)) x2.toInt j
          refine sd_aload C dX4_sitting_46 4 rfl ?_
          refine sd_get C (by omega) (sd_cell_row _ (by omega)) rfl 1 (by decide) rfl wf_X4_121 dX4_sitting_48 ?_
          refine sd_iload C dX4_sitting_51 0 rfl ?_
          refine sd_iald C (by omega) (sd_cell_rowA _ (by omega)) (j) ⟨by omega, by omega⟩ dX4_sitting_53 ?_
          refine sd_istore (lv' := [(9, .int (σ (40 + sp_q β x1.toInt) (j))), (8, .int y8), (7, .int y7), (6, .int y6), (5, .int y5), (4, .ref (ad (16 + sp_q β x1.toInt))), (0, .ref (ad 0)), (1, .int x1), (2, .int x2), (3, .int x3)]) C dX4_sitting_54 (by decide) rfl ?_
          refine sd_aload_n C dX4_sitting_56 6 rfl rfl ?_
          refine sd_get C (by decide) rfl rfl 5 (by decide) rfl wf_X4_35 dX4_sitting_57 ?_
          refine sd_iload C dX4_sitting_60 0 rfl ?_
          refine sd_iald C (by decide) rfl ((sp_row β (sp_q β x1.toInt)).getD j 0) ⟨by omega, by omega⟩ dX4_sitting_62 ?_
          refine sd_iload_n C dX4_sitting_63 8 rfl rfl ?_
          refine sd_icmp_ne C 88 dX4_sitting_64 (by decide) (fun c64 => ?_) (fun c64 => ?_)
          · refine sd_iinc C dX4_sitting_88 1 rfl (by decide) (by decide) (by omega) (fun zz => [(8, .int zz), (9, .int (σ (40 + sp_q β x1.toInt) (j))), (7, .int y7), (6, .int y6), (5, .int y5), (4, .ref (ad (16 + sp_q β x1.toInt))), (0, .ref (ad 0)), (1, .int x1), (2, .int x2), (3, .int x3)]) (fun _ => rfl) (fun u88 eu88 => ?_)
            refine sd_goto C 36 dX4_sitting_91 (by decide) ?_
            exact sd_lv (ih36 y5 y6 y7 u88 (j + 1) (by omega) (by omega) (by rw [sp_sf]; split <;> omega) (by rw [sp_sl]; split <;> omega) (by rw [sp_sc]; split <;> omega) (by omega)) [0, 2, 3, 4, 5, 6, 7, 8, 9] rfl
          · refine sd_iload C dX4_sitting_67 2 rfl ?_
            refine sd_if_ne C 77 dX4_sitting_69 (by decide) (fun c69 => ?_) (fun c69 => ?_)
            · refine sd_iload C dX4_sitting_77 4 rfl ?_
              refine sd_istore (lv' := [(5, .int y5), (9, .int (σ (40 + sp_q β x1.toInt) (j))), (8, .int y8), (7, .int y7), (6, .int y6), (4, .ref (ad (16 + sp_q β x1.toInt))), (0, .ref (ad 0)), (1, .int x1), (2, .int x2), (3, .int x3)]) C dX4_sitting_79 (by decide) rfl ?_
              refine sd_iload C dX4_sitting_81 1 rfl ?_
              refine sd_istore (lv' := [(6, .int (σ (40 + sp_q β x1.toInt) (j))), (5, .int y5), (9, .int (σ (40 + sp_q β x1.toInt) (j))), (8, .int y8), (7, .int y7), (4, .ref (ad (16 + sp_q β x1.toInt))), (0, .ref (ad 0)), (1, .int x1), (2, .int x2), (3, .int x3)]) C dX4_sitting_83 (by decide) rfl ?_
              refine sd_iinc C dX4_sitting_85 4 rfl (by decide) (by decide) (by omega) (fun zz => [(7, .int zz), (6, .int (σ (40 + sp_q β x1.toInt) (j))), (5, .int y5), (9, .int (σ (40 + sp_q β x1.toInt) (j))), (8, .int y8), (4, .ref (ad (16 + sp_q β x1.toInt))), (0, .ref (ad 0)), (1, .int x1), (2, .int x2), (3, .int x3)]) (fun _ => rfl) (fun u85 eu85 => ?_)
              refine sd_iinc C dX4_sitting_88 4 rfl (by decide) (by decide) (by omega) (fun zz => [(8, .int zz), (7, .int u85), (6, .int (σ (40 + sp_q β x1.toInt) (j))), (5, .int y5), (9, .int (σ (40 + sp_q β x1.toInt) (j))), (4, .ref (ad (16 + sp_q β x1.toInt))), (0, .ref (ad 0)), (1, .int x1), (2, .int x2), (3, .int x3)]) (fun _ => rfl) (fun u88 eu88 => ?_)
              refine sd_goto C 36 dX4_sitting_91 (by decide) ?_
              exact sd_lv (ih36 y5 (σ (40 + sp_q β x1.toInt) (j)) u85 u88 (j + 1) (by omega) (by omega) (by rw [sp_sf]; split <;> omega) (by rw [sp_sl]; split <;> omega) (by rw [sp_sc]; split <;> omega) (by omega)) [0, 1, 2, 3, 5, 6, 7, 8, 9] rfl
            · refine sd_iload C dX4_sitting_72 0 rfl ?_
              refine sd_goto C 79 dX4_sitting_74 (by decide) ?_
              refine sd_istore (lv' := [(5, .int (σ (40 + sp_q β x1.toInt) (j))), (9, .int (σ (40 + sp_q β x1.toInt) (j))), (8, .int y8), (7, .int y7), (6, .int y6), (4, .ref (ad (16 + sp_q β x1.toInt))), (0, .ref (ad 0)), (1, .int x1), (2, .int x2), (3, .int x3)]) C dX4_sitting_79 (by decide) rfl ?_
              refine sd_iload C dX4_sitting_81 1 rfl ?_
              refine sd_istore (lv' := [(6, .int (σ (40 + sp_q β x1.toInt) (j))), (5, .int (σ (40 + sp_q β x1.toInt) (j))), (9, .int (σ (40 + sp_q β x1.toInt) (j))), (8, .int y8), (7, .int y7), (4, .ref (ad (16 + sp_q β x1.toInt))), (0, .ref (ad 0)), (1, .int x1), (2, .int x2), (3, .int x3)]) C dX4_sitting_83 (by decide) rfl ?_
              refine sd_iinc C dX4_sitting_85 4 rfl (by decide) (by decide) (by omega) (fun zz => [(7, .int zz), (6, .int (σ (40 + sp_q β x1.toInt) (j))), (5, .int (σ (40 + sp_q β x1.toInt) (j))), (9, .int (σ (40 + sp_q β x1.toInt) (j))), (8, .int y8), (4, .ref (ad (16 + sp_q β x1.toInt))), (0, .ref (ad 0)), (1, .int x1), (2, .int x2), (3, .int x3)]) (fun _ => rfl) (fun u85 eu85 => ?_)
              refine sd_iinc C dX4_sitting_88 4 rfl (by decide) (by decide) (by omega) (fun zz => [(8, .int zz), (7, .int u85), (6, .int (σ (40 + sp_q β x1.toInt) (j))), (5, .int (σ (40 + sp_q β x1.toInt) (j))), (9, .int (σ (40 + sp_q β x1.toInt) (j))), (4, .ref (ad (16 + sp_q β x1.toInt))), (0, .ref (ad 0)), (1, .int x1), (2, .int x2), (3, .int x3)]) (fun _ => rfl) (fun u88 eu88 => ?_)
              refine sd_goto C 36 dX4_sitting_91 (by decide) ?_
              exact sd_lv (ih36 (σ (40 + sp_q β x1.toInt) (j)) (σ (40 + sp_q β x1.toInt) (j)) u85 u88 (j + 1) (by omega) (by omega) (by rw [sp_sf]; split <;> omega) (by rw [sp_sl]; split <;> omega) (by rw [sp_sc]; split <;> omega) (by omega)) [0, 1, 2, 3, 5, 6, 7, 8, 9] rfl
    exact key36 _ k24 k27 k30 k33 0 (by omega) (by omega) (by rw [sp_sf]; exact ek24) (by rw [sp_sl]; exact ek27) (by rw [sp_sc]; exact ek30) (Nat.lt_succ_self _)
  · refine sd_sipush C dX4_sitting_7 (by decide) (fun k7 ek7 => ?_)
    exact hret _ _ _ _ dX4_sitting_10 (⟨rfl, by
        unfold an_sitting
        rw [if_pos (by omega)]
        omega⟩)
end
section
set_option maxRecDepth 20000 in
set_option maxHeartbeats 4000000 in
theorem c_X4_countingClicks (l : Launch) (D : va_G) (ad : Nat → Nat) (ca : Nat → ClassId) (T : Nat → Nat) (σ : sd_Mem) (β : sp_B) (hS : sd_CS σ β) : sd_Ci l yX4_countingClicks cX4_countingClicks 3 0 D ad ca T σ [.ref (ad 0)] (fun r σ' => σ' = σ ∧ (r.toInt = sp_sum (fun q => ((sp_row β q).length : Int)) 24)) := by
  refine sd_ent_i (own := RX4) (by decide) rfl (Nat.le_of_ble_eq_true rfl) (fun X C hret => ?_)
  show sd_Wd X 3 D ad ca σ [(0, .ref (ad 0))] 0 []
  obtain ⟨hC, hG, hB, hL⟩ := id hS
  have hN := sp_n_le hG
  refine sd_iconst C dX4_countingClicks_0 (by decide) (fun k0 ek0 => ?_)
  refine sd_istore_n (lv' := [(1, .int k0), (0, .ref (ad 0))]) C dX4_countingClicks_1 rfl (by decide) rfl ?_
  refine sd_iconst C dX4_countingClicks_2 (by decide) (fun k2 ek2 => ?_)
  refine sd_istore_n (lv' := [(2, .int k2), (1, .int k0), (0, .ref (ad 0))]) C dX4_countingClicks_3 rfl (by decide) rfl ?_
  have key4 : ∀ (fu4 : Nat) (y1 : Int32) (y2 : Int32) (p : Nat), (y2.toInt = (p : Int)) → (p ≤ 24) → (y1.toInt = sp_sum (fun q => ((sp_row β q).length : Int)) p) → (24 - p < fu4) → sd_Wd X 3 D ad ca σ [(2, .int y2), (1, .int y1), (0, .ref (ad 0))] 4 [] := by
    intro fu4
    induction fu4 with
    | zero => intro y1 y2 p h2 hp h1 hm4; exact absurd hm4 (Nat.not_lt_zero _)
    | succ fu4 ih4 =>
      intro y1 y2 p h2 hp h1 hm4
      have hr := sp_sum_rng (f := (fun q => ((sp_row β q).length : Int))) (m := 120) (fun q => by have := (sp_row_ok hG q).1; omega) p
      refine sd_iload_n C dX4_countingClicks_4 0 rfl rfl ?_
      refine sd_bipush C dX4_countingClicks_5 (by decide) (fun k5 ek5 => ?_)
      refine sd_icmp_ge C 28 dX4_countingClicks_7 (by decide) (fun c7 => ?_) (fun c7 => ?_)
      · refine sd_iload_n C dX4_countingClicks_28 1 rfl rfl ?_
        exact hret _ _ _ _ dX4_countingClicks_29 (⟨rfl, by rw [show (24 : Nat) = p by omega]; exact h1⟩)
      · have L1 := (hL.1 p (by omega)).1.1
        have L2 := (sp_row_ok hG p).1
        refine sd_iload_n C dX4_countingClicks_10 1 rfl rfl ?_
        refine sd_aload_n C dX4_countingClicks_11 2 rfl rfl ?_
        refine sd_get C (by decide) rfl rfl 3 (by decide) rfl wf_X4_22 dX4_countingClicks_12 ?_
        refine sd_iload_n C dX4_countingClicks_15 0 rfl rfl ?_
        refine sd_aald9 C (p) ⟨by omega, by omega⟩ dX4_countingClicks_16 ?_
        refine sd_get C (by omega) (sd_cell_row _ (by omega)) rfl 2 (by decide) rfl wf_X4_106 dX4_countingClicks_17 ?_
        refine sd_iadd C dX4_countingClicks_20 (by omega) (fun z20 ez20 => ?_)
        refine sd_istore_n (lv' := [(1, .int z20), (2, .int y2), (0, .ref (ad 0))]) C dX4_countingClicks_21 rfl (by decide) rfl ?_
        refine sd_iinc C dX4_countingClicks_22 1 rfl (by decide) (by decide) (by omega) (fun zz => [(2, .int zz), (1, .int z20), (0, .ref (ad 0))]) (fun _ => rfl) (fun u22 eu22 => ?_)
        refine sd_goto C 4 dX4_countingClicks_25 (by decide) ?_
        exact ih4 z20 u22 (p + 1) (by omega) (by omega) (by rw [sp_sum, ez20]; omega) (by omega)
  exact key4 _ k0 k2 0 (by omega) (by omega) (by rw [sp_sum]; exact ek0) (Nat.lt_succ_self _)

set_option maxRecDepth 20000 in
set_option maxHeartbeats 4000000 in
theorem c_X4_allSittings (l : Launch) (D : va_G) (ad : Nat → Nat) (ca : Nat → ClassId) (T : Nat → Nat) (σ : sd_Mem) (β : sp_B) (hS : sd_CS σ β) : sd_Ci l yX4_allSittings cX4_allSittings 3 0 D ad ca T σ [.ref (ad 0)] (fun r σ' => σ' = σ ∧ (r.toInt = sp_sum (fun q => (sp_ns β (sp_row β q) (sp_row β q).length : Int)) 24)) := by
  refine sd_ent_i (own := RX4) (by decide) rfl (Nat.le_of_ble_eq_true rfl) (fun X C hret => ?_)
  show sd_Wd X 3 D ad ca σ [(0, .ref (ad 0))] 0 []
  obtain ⟨hC, hG, hB, hL⟩ := id hS
  have hN := sp_n_le hG
  refine sd_iconst C dX4_allSittings_0 (by decide) (fun k0 ek0 => ?_)
  refine sd_istore_n (lv' := [(1, .int k0), (0, .ref (ad 0))]) C dX4_allSittings_1 rfl (by decide) rfl ?_
  refine sd_iconst C dX4_allSittings_2 (by decide) (fun k2 ek2 => ?_)
  refine sd_istore_n (lv' := [(2, .int k2), (1, .int k0), (0, .ref (ad 0))]) C dX4_allSittings_3 rfl (by decide) rfl ?_
  have key4 : ∀ (fu4 : Nat) (y1 : Int32) (y2 : Int32) (p : Nat), (y2.toInt = (p : Int)) → (p ≤ 24) → (y1.toInt = sp_sum (fun q => (sp_ns β (sp_row β q) (sp_row β q).length : Int)) p) → (24 - p < fu4) → sd_Wd X 3 D ad ca σ [(2, .int y2), (1, .int y1), (0, .ref (ad 0))] 4 [] := by
    intro fu4
    induction fu4 with
    | zero => intro y1 y2 p h2 hp h1 hm4; exact absurd hm4 (Nat.not_lt_zero _)
    | succ fu4 ih4 =>
      intro y1 y2 p h2 hp h1 hm4
      have hr := sp_sum_rng (f := (fun q => (sp_ns β (sp_row β q) (sp_row β q).length : Int))) (m := 120) (fun q => by have := (sp_row_ok hG q).1; have := sp_ns_le β (sp_row β q) (sp_row β q).length; omega) p
      refine sd_iload_n C dX4_allSittings_4 0 rfl rfl ?_
      refine sd_bipush C dX4_allSittings_5 (by decide) (fun k5 ek5 => ?_)
      refine sd_icmp_ge C 28 dX4_allSittings_7 (by decide) (fun c7 => ?_) (fun c7 => ?_)
      · refine sd_iload_n C dX4_allSittings_28 1 rfl rfl ?_
        exact hret _ _ _ _ dX4_allSittings_29 (⟨rfl, by rw [show (24 : Nat) = p by omega]; exact h1⟩)
      · have L1 := (hL.1 p (by omega)).2.2.2
        have L2 := (sp_row_ok hG p).1
        have L3 := sp_ns_le β (sp_row β p) (sp_row β p).length
        refine sd_iload_n C dX4_allSittings_10 1 rfl rfl ?_
        refine sd_aload_n C dX4_allSittings_11 2 rfl rfl ?_
        refine sd_get C (by decide) rfl rfl 3 (by decide) rfl wf_X4_22 dX4_allSittings_12 ?_
        refine sd_iload_n C dX4_allSittings_15 0 rfl rfl ?_
        refine sd_aald9 C (p) ⟨by omega, by omega⟩ dX4_allSittings_16 ?_
        refine sd_get C (by omega) (sd_cell_row _ (by omega)) rfl 5 (by decide) rfl wf_X4_113 dX4_allSittings_17 ?_
        refine sd_iadd C dX4_allSittings_20 (by omega) (fun z20 ez20 => ?_)
        refine sd_istore_n (lv' := [(1, .int z20), (2, .int y2), (0, .ref (ad 0))]) C dX4_allSittings_21 rfl (by decide) rfl ?_
        refine sd_iinc C dX4_allSittings_22 1 rfl (by decide) (by decide) (by omega) (fun zz => [(2, .int zz), (1, .int z20), (0, .ref (ad 0))]) (fun _ => rfl) (fun u22 eu22 => ?_)
        refine sd_goto C 4 dX4_allSittings_25 (by decide) ?_
        exact ih4 z20 u22 (p + 1) (by omega) (by omega) (by rw [sp_sum, ez20]; omega) (by omega)
  exact key4 _ k0 k2 0 (by omega) (by omega) (by rw [sp_sum]; exact ek0) (Nat.lt_succ_self _)

set_option maxRecDepth 20000 in
set_option maxHeartbeats 4000000 in
theorem c_X4_presentPersons (l : Launch) (D : va_G) (ad : Nat → Nat) (ca : Nat → ClassId) (T : Nat → Nat) (σ : sd_Mem) (β : sp_B) (hS : sd_CS σ β) : sd_Ci l yX4_presentPersons cX4_presentPersons 3 1 D ad ca T σ [.ref (ad 0)] (fun r σ' => σ' = σ ∧ (r.toInt = sp_sum (fun q => sp_b (decide (0 < (sp_row β q).length))) 24)) := by
  refine sd_ent_i (own := RX4) (by decide) rfl (Nat.le_of_ble_eq_true rfl) (fun X C hret => ?_)
  show sd_Wd X 3 D ad ca σ [(0, .ref (ad 0))] 0 []
  obtain ⟨hC, hG, hB, hL⟩ := id hS
  have hN := sp_n_le hG
  refine sd_iconst C dX4_presentPersons_0 (by decide) (fun k0 ek0 => ?_)
  refine sd_istore_n (lv' := [(1, .int k0), (0, .ref (ad 0))]) C dX4_presentPersons_1 rfl (by decide) rfl ?_
  refine sd_iconst C dX4_presentPersons_2 (by decide) (fun k2 ek2 => ?_)
  refine sd_istore_n (lv' := [(2, .int k2), (1, .int k0), (0, .ref (ad 0))]) C dX4_presentPersons_3 rfl (by decide) rfl ?_
  have key4 : ∀ (fu4 : Nat) (y1 : Int32) (y2 : Int32) (p : Nat), (y2.toInt = (p : Int)) → (p ≤ 24) → (y1.toInt = sp_sum (fun q => sp_b (decide (0 < (sp_row β q).length))) p) → (24 - p < fu4) → sd_Wd X 3 D ad ca σ [(2, .int y2), (1, .int y1), (0, .ref (ad 0))] 4 [] := by
    intro fu4
    induction fu4 with
    | zero => intro y1 y2 p h2 hp h1 hm4; exact absurd hm4 (Nat.not_lt_zero _)
    | succ fu4 ih4 =>
      intro y1 y2 p h2 hp h1 hm4
      have hr := sp_sum_b (fun q => decide (0 < (sp_row β q).length)) p hp
      refine sd_iload_n C dX4_presentPersons_4 0 rfl rfl ?_
      refine sd_bipush C dX4_presentPersons_5 (by decide) (fun k5 ek5 => ?_)
      refine sd_icmp_ge C 39 dX4_presentPersons_7 (by decide) (fun c7 => ?_) (fun c7 => ?_)
      · refine sd_iload_n C dX4_presentPersons_39 1 rfl rfl ?_
        exact hret _ _ _ _ dX4_presentPersons_40 (⟨rfl, by rw [show (24 : Nat) = p by omega]; exact h1⟩)
      · have L1 := (hL.1 p (by omega)).1.1
        have L2 := (sp_row_ok hG p).1
        refine sd_iload_n C dX4_presentPersons_10 1 rfl rfl ?_
        refine sd_aload_n C dX4_presentPersons_11 2 rfl rfl ?_
        refine sd_get C (by decide) rfl rfl 3 (by decide) rfl wf_X4_22 dX4_presentPersons_12 ?_
        refine sd_iload_n C dX4_presentPersons_15 0 rfl rfl ?_
        refine sd_aald9 C (p) ⟨by omega, by omega⟩ dX4_presentPersons_16 ?_
        refine sd_get C (by omega) (sd_cell_row _ (by omega)) rfl 2 (by decide) rfl wf_X4_106 dX4_presentPersons_17 ?_
        refine sd_if_le C 27 dX4_presentPersons_20 (by decide) (fun c20 => ?_) (fun c20 => ?_)
        · refine sd_iconst C dX4_presentPersons_27 (by decide) (fun k27 ek27 => ?_)
          refine sd_pSi C (c_X4_bit l D ad ca T σ k27) mv_X4_bit wm_X4_78 (by decide) rfl rfl (Nat.le_of_ble_eq_true rfl) dX4_presentPersons_28 (fun r28 h28 => ?_)
          try dsimp only at h28
          refine sd_iadd C dX4_presentPersons_31 (by omega) (fun z31 ez31 => ?_)
          refine sd_istore_n (lv' := [(1, .int z31), (2, .int y2), (0, .ref (ad 0))]) C dX4_presentPersons_32 rfl (by decide) rfl ?_
          refine sd_iinc C dX4_presentPersons_33 1 rfl (by decide) (by decide) (by omega) (fun zz => [(2, .int zz), (1, .int z31), (0, .ref (ad 0))]) (fun _ => rfl) (fun u33 eu33 => ?_)
          refine sd_goto C 4 dX4_presentPersons_36 (by decide) ?_
          exact ih4 z31 u33 (p + 1) (by omega) (by omega) (by first | (rw [sp_sum_s (v := 1) (sp_b1 (decide_eq_true (by omega)))]; omega) | (rw [sp_sum_s (v := 0) (sp_b0 (decide_eq_false (by omega)))]; omega)) (by omega)
        · refine sd_iconst C dX4_presentPersons_23 (by decide) (fun k23 ek23 => ?_)
          refine sd_goto C 28 dX4_presentPersons_24 (by decide) ?_
          refine sd_pSi C (c_X4_bit l D ad ca T σ k23) mv_X4_bit wm_X4_78 (by decide) rfl rfl (Nat.le_of_ble_eq_true rfl) dX4_presentPersons_28 (fun r28 h28 => ?_)
          try dsimp only at h28
          refine sd_iadd C dX4_presentPersons_31 (by omega) (fun z31 ez31 => ?_)
          refine sd_istore_n (lv' := [(1, .int z31), (2, .int y2), (0, .ref (ad 0))]) C dX4_presentPersons_32 rfl (by decide) rfl ?_
          refine sd_iinc C dX4_presentPersons_33 1 rfl (by decide) (by decide) (by omega) (fun zz => [(2, .int zz), (1, .int z31), (0, .ref (ad 0))]) (fun _ => rfl) (fun u33 eu33 => ?_)
          refine sd_goto C 4 dX4_presentPersons_36 (by decide) ?_
          exact ih4 z31 u33 (p + 1) (by omega) (by omega) (by first | (rw [sp_sum_s (v := 1) (sp_b1 (decide_eq_true (by omega)))]; omega) | (rw [sp_sum_s (v := 0) (sp_b0 (decide_eq_false (by omega)))]; omega)) (by omega)
  exact key4 _ k0 k2 0 (by omega) (by omega) (by rw [sp_sum]; exact ek0) (Nat.lt_succ_self _)

set_option maxRecDepth 20000 in
set_option maxHeartbeats 4000000 in
theorem c_X4_quickPersons (l : Launch) (D : va_G) (ad : Nat → Nat) (ca : Nat → ClassId) (T : Nat → Nat) (σ : sd_Mem) (β : sp_B) (hS : sd_CS σ β) : sd_Ci l yX4_quickPersons cX4_quickPersons 3 1 D ad ca T σ [.ref (ad 0)] (fun r σ' => σ' = σ ∧ (r.toInt = sp_sum (fun q => sp_b (sp_quick β (sp_raw β q))) 24)) := by
  refine sd_ent_i (own := RX4) (by decide) rfl (Nat.le_of_ble_eq_true rfl) (fun X C hret => ?_)
  show sd_Wd X 3 D ad ca σ [(0, .ref (ad 0))] 0 []
  obtain ⟨hC, hG, hB, hL⟩ := id hS
  have hN := sp_n_le hG
  refine sd_iconst C dX4_quickPersons_0 (by decide) (fun k0 ek0 => ?_)
  refine sd_istore_n (lv' := [(1, .int k0), (0, .ref (ad 0))]) C dX4_quickPersons_1 rfl (by decide) rfl ?_
  refine sd_iconst C dX4_quickPersons_2 (by decide) (fun k2 ek2 => ?_)
  refine sd_istore_n (lv' := [(2, .int k2), (1, .int k0), (0, .ref (ad 0))]) C dX4_quickPersons_3 rfl (by decide) rfl ?_
  have key4 : ∀ (fu4 : Nat) (y1 : Int32) (y2 : Int32) (p : Nat), (y2.toInt = (p : Int)) → (p ≤ 24) → (y1.toInt = sp_sum (fun q => sp_b (sp_quick β (sp_raw β q))) p) → (24 - p < fu4) → sd_Wd X 3 D ad ca σ [(2, .int y2), (1, .int y1), (0, .ref (ad 0))] 4 [] := by
    intro fu4
    induction fu4 with
    | zero => intro y1 y2 p h2 hp h1 hm4; exact absurd hm4 (Nat.not_lt_zero _)
    | succ fu4 ih4 =>
      intro y1 y2 p h2 hp h1 hm4
      have hr := sp_sum_b (fun q => sp_quick β (sp_raw β q)) p hp
      refine sd_iload_n C dX4_quickPersons_4 0 rfl rfl ?_
      refine sd_bipush C dX4_quickPersons_5 (by decide) (fun k5 ek5 => ?_)
      refine sd_icmp_ge C 31 dX4_quickPersons_7 (by decide) (fun c7 => ?_) (fun c7 => ?_)
      · refine sd_iload_n C dX4_quickPersons_31 1 rfl rfl ?_
        exact hret _ _ _ _ dX4_quickPersons_32 (⟨rfl, by rw [show (24 : Nat) = p by omega]; exact h1⟩)
      · have L1 := (hL.1 p (by omega)).2.2.1
        refine sd_iload_n C dX4_quickPersons_10 1 rfl rfl ?_
        refine sd_aload_n C dX4_quickPersons_11 2 rfl rfl ?_
        refine sd_get C (by decide) rfl rfl 3 (by decide) rfl wf_X4_22 dX4_quickPersons_12 ?_
        refine sd_iload_n C dX4_quickPersons_15 0 rfl rfl ?_
        refine sd_aald9 C (p) ⟨by omega, by omega⟩ dX4_quickPersons_16 ?_
        refine sd_get C (by omega) (sd_cell_row _ (by omega)) rfl 4 (by decide) rfl wf_X4_109 dX4_quickPersons_17 ?_
        refine sd_pSi C (c_X4_bit l D ad ca T σ (σ (16 + p) 4)) mv_X4_bit wm_X4_78 (by decide) rfl rfl (Nat.le_of_ble_eq_true rfl) dX4_quickPersons_20 (fun r20 h20 => ?_)
        try dsimp only at h20
        refine sd_iadd C dX4_quickPersons_23 (by omega) (fun z23 ez23 => ?_)
        refine sd_istore_n (lv' := [(1, .int z23), (2, .int y2), (0, .ref (ad 0))]) C dX4_quickPersons_24 rfl (by decide) rfl ?_
        refine sd_iinc C dX4_quickPersons_25 1 rfl (by decide) (by decide) (by omega) (fun zz => [(2, .int zz), (1, .int z23), (0, .ref (ad 0))]) (fun _ => rfl) (fun u25 eu25 => ?_)
        refine sd_goto C 4 dX4_quickPersons_28 (by decide) ?_
        exact ih4 z23 u25 (p + 1) (by omega) (by omega) (by
              cases hk : sp_quick β (sp_raw β p)
              · rw [hk] at L1; simp at L1; rw [sp_sum_s (v := 0) (sp_b0 hk)]; omega
              · rw [hk] at L1; simp at L1; rw [sp_sum_s (v := 1) (sp_b1 hk)]; omega) (by omega)
  exact key4 _ k0 k2 0 (by omega) (by omega) (by rw [sp_sum]; exact ek0) (Nat.lt_succ_self _)

set_option maxRecDepth 20000 in
set_option maxHeartbeats 4000000 in
theorem c_X4_joinedMarks (l : Launch) (D : va_G) (ad : Nat → Nat) (ca : Nat → ClassId) (T : Nat → Nat) (σ : sd_Mem) (β : sp_B) (hS : sd_CS σ β) : sd_Ci l yX4_joinedMarks cX4_joinedMarks 3 1 D ad ca T σ [.ref (ad 0)] (fun r σ' => σ' = σ ∧ (r.toInt = sp_sum (fun q => sp_b (decide (β 5 q ≠ (q : Int)))) 24)) := by
  refine sd_ent_i (own := RX4) (by decide) rfl (Nat.le_of_ble_eq_true rfl) (fun X C hret => ?_)
  show sd_Wd X 3 D ad ca σ [(0, .ref (ad 0))] 0 []
  obtain ⟨hC, hG, hB, hL⟩ := id hS
  have hN := sp_n_le hG
  refine sd_iconst C dX4_joinedMarks_0 (by decide) (fun k0 ek0 => ?_)
  refine sd_istore_n (lv' := [(1, .int k0), (0, .ref (ad 0))]) C dX4_joinedMarks_1 rfl (by decide) rfl ?_
  refine sd_iconst C dX4_joinedMarks_2 (by decide) (fun k2 ek2 => ?_)
  refine sd_istore_n (lv' := [(2, .int k2), (1, .int k0), (0, .ref (ad 0))]) C dX4_joinedMarks_3 rfl (by decide) rfl ?_
  have key4 : ∀ (fu4 : Nat) (y1 : Int32) (y2 : Int32) (p : Nat), (y2.toInt = (p : Int)) → (p ≤ 24) → (y1.toInt = sp_sum (fun q => sp_b (decide (β 5 q ≠ (q : Int)))) p) → (24 - p < fu4) → sd_Wd X 3 D ad ca σ [(2, .int y2), (1, .int y1), (0, .ref (ad 0))] 4 [] := by
    intro fu4
    induction fu4 with
    | zero => intro y1 y2 p h2 hp h1 hm4; exact absurd hm4 (Nat.not_lt_zero _)
    | succ fu4 ih4 =>
      intro y1 y2 p h2 hp h1 hm4
      have hr := sp_sum_b (fun q => decide (β 5 q ≠ (q : Int))) p hp
      refine sd_iload_n C dX4_joinedMarks_4 0 rfl rfl ?_
      refine sd_bipush C dX4_joinedMarks_5 (by decide) (fun k5 ek5 => ?_)
      refine sd_icmp_ge C 27 dX4_joinedMarks_7 (by decide) (fun c7 => ?_) (fun c7 => ?_)
      · refine sd_iload_n C dX4_joinedMarks_27 1 rfl rfl ?_
        exact hret _ _ _ _ dX4_joinedMarks_28 (⟨rfl, by rw [show (24 : Nat) = p by omega]; exact h1⟩)
      · have L1 := hC.2.2.1 p (by omega)
        have hyp : y2.toInt.toNat = p := by omega
        refine sd_iload_n C dX4_joinedMarks_10 1 rfl rfl ?_
        refine sd_aload_n C dX4_joinedMarks_11 2 rfl rfl ?_
        refine sd_iload_n C dX4_joinedMarks_12 0 rfl rfl ?_
        refine sd_pVz C (c_X4_isJoined l D ad ca T σ y2 (by omega) (by omega)) mv_X4_isJoined wm_X4_85 (by decide) rfl rfl (by decide) rfl rfl (Nat.le_of_ble_eq_true rfl) dX4_joinedMarks_13 (fun r13 h13 => ?_)
        try dsimp only at h13
        rw [hyp] at h13
        refine sd_pSi C (c_X4_bit l D ad ca T σ r13) mv_X4_bit wm_X4_78 (by decide) rfl rfl (Nat.le_of_ble_eq_true rfl) dX4_joinedMarks_16 (fun r16 h16 => ?_)
        try dsimp only at h16
        refine sd_iadd C dX4_joinedMarks_19 (by omega) (fun z19 ez19 => ?_)
        refine sd_istore_n (lv' := [(1, .int z19), (2, .int y2), (0, .ref (ad 0))]) C dX4_joinedMarks_20 rfl (by decide) rfl ?_
        refine sd_iinc C dX4_joinedMarks_21 1 rfl (by decide) (by decide) (by omega) (fun zz => [(2, .int zz), (1, .int z19), (0, .ref (ad 0))]) (fun _ => rfl) (fun u21 eu21 => ?_)
        refine sd_goto C 4 dX4_joinedMarks_24 (by decide) ?_
        exact ih4 z19 u21 (p + 1) (by omega) (by omega) (by
              by_cases hk : β 5 p = (p : Int)
              · rw [sp_sum_s (v := 0) (sp_b0 (decide_eq_false (fun z => z hk)))]; omega
              · rw [sp_sum_s (v := 1) (sp_b1 (decide_eq_true hk))]; omega) (by omega)
  exact key4 _ k0 k2 0 (by omega) (by omega) (by rw [sp_sum]; exact ek0) (Nat.lt_succ_self _)

set_option maxRecDepth 20000 in
set_option maxHeartbeats 4000000 in
theorem c_X4_count (l : Launch) (D : va_G) (ad : Nat → Nat) (ca : Nat → ClassId) (T : Nat → Nat) (σ : sd_Mem) (β : sp_B) (hS : sd_CS σ β) (x1 : Int32) : sd_Ci l yX4_count cX4_count 2 2 D ad ca T σ [.ref (ad 0), .int x1] (fun r σ' => σ' = σ ∧ (r.toInt = an_count β x1.toInt)) := by
  refine sd_ent_i (own := RX4) (by decide) rfl (Nat.le_of_ble_eq_true rfl) (fun X C hret => ?_)
  show sd_Wd X 2 D ad ca σ [(0, .ref (ad 0)), (1, .int x1)] 0 []
  obtain ⟨hC, hG, hB, hL⟩ := id hS
  have hN := sp_n_le hG
  have n1 := hC.1.1
  have n2 := hC.1.2
  refine sd_iload_n C dX4_count_0 1 rfl rfl ?_
  have hw1 : x1.toInt = 0 ∨ x1.toInt = 1 ∨ x1.toInt = 2 ∨ x1.toInt = 3 ∨ x1.toInt = 4 ∨ x1.toInt = 5 ∨ x1.toInt = 6 ∨ (x1.toInt ≠ 0 ∧ x1.toInt ≠ 1 ∧ x1.toInt ≠ 2 ∧ x1.toInt ≠ 3 ∧ x1.toInt ≠ 4 ∧ x1.toInt ≠ 5 ∧ x1.toInt ≠ 6) := by omega
  rcases hw1 with w1 | w1 | w1 | w1 | w1 | w1 | w1 | w1
  · refine sd_tableIn C 44 (0) dX4_count_1 w1 (by decide) rfl (by decide) ?_
    refine sd_aload_n C dX4_count_44 0 rfl rfl ?_
    refine sd_get C (by decide) rfl rfl 0 (by decide) rfl wf_X4_10 dX4_count_45 ?_
    refine sd_get C (by decide) rfl rfl 5 (by decide) rfl wf_X4_123 dX4_count_48 ?_
    exact hret _ _ _ _ dX4_count_51 (⟨rfl, by
        unfold an_count
        repeat' split
        all_goals omega⟩)
  · refine sd_tableIn C 52 (1) dX4_count_1 w1 (by decide) rfl (by decide) ?_
    refine sd_aload_n C dX4_count_52 0 rfl rfl ?_
    refine sd_pVi C (c_X4_countingClicks l D ad ca T σ β hS) mv_X4_countingClicks wm_X4_124 (by decide) rfl rfl (by decide) rfl rfl (Nat.le_of_ble_eq_true rfl) dX4_count_53 (fun r53 h53 => ?_)
    try dsimp only at h53
    exact hret _ _ _ _ dX4_count_56 (⟨rfl, by
        unfold an_count
        repeat' split
        all_goals omega⟩)
  · refine sd_tableIn C 57 (2) dX4_count_1 w1 (by decide) rfl (by decide) ?_
    refine sd_aload_n C dX4_count_57 0 rfl rfl ?_
    refine sd_pVi C (c_X4_allSittings l D ad ca T σ β hS) mv_X4_allSittings wm_X4_128 (by decide) rfl rfl (by decide) rfl rfl (Nat.le_of_ble_eq_true rfl) dX4_count_58 (fun r58 h58 => ?_)
    try dsimp only at h58
    exact hret _ _ _ _ dX4_count_61 (⟨rfl, by
        unfold an_count
        repeat' split
        all_goals omega⟩)
  · refine sd_tableIn C 62 (3) dX4_count_1 w1 (by decide) rfl (by decide) ?_
    refine sd_aload_n C dX4_count_62 0 rfl rfl ?_
    refine sd_pVi C (c_X4_presentPersons l D ad ca T σ β hS) mv_X4_presentPersons wm_X4_131 (by decide) rfl rfl (by decide) rfl rfl (Nat.le_of_ble_eq_true rfl) dX4_count_63 (fun r63 h63 => ?_)
    try dsimp only at h63
    exact hret _ _ _ _ dX4_count_66 (⟨rfl, by
        unfold an_count
        repeat' split
        all_goals omega⟩)
  · refine sd_tableIn C 67 (4) dX4_count_1 w1 (by decide) rfl (by decide) ?_
    refine sd_aload_n C dX4_count_67 0 rfl rfl ?_
    refine sd_pVi C (c_X4_quickPersons l D ad ca T σ β hS) mv_X4_quickPersons wm_X4_134 (by decide) rfl rfl (by decide) rfl rfl (Nat.le_of_ble_eq_true rfl) dX4_count_68 (fun r68 h68 => ?_)
    try dsimp only at h68
    exact hret _ _ _ _ dX4_count_71 (⟨rfl, by
        unfold an_count
        repeat' split
        all_goals omega⟩)
  · refine sd_tableIn C 72 (5) dX4_count_1 w1 (by decide) rfl (by decide) ?_
    refine sd_aload_n C dX4_count_72 0 rfl rfl ?_
    refine sd_pVi C (c_X4_joinedMarks l D ad ca T σ β hS) mv_X4_joinedMarks wm_X4_137 (by decide) rfl rfl (by decide) rfl rfl (Nat.le_of_ble_eq_true rfl) dX4_count_73 (fun r73 h73 => ?_)
    try dsimp only at h73
    exact hret _ _ _ _ dX4_count_76 (⟨rfl, by
        unfold an_count
        repeat' split
        all_goals omega⟩)
  · refine sd_tableIn C 77 (6) dX4_count_1 w1 (by decide) rfl (by decide) ?_
    refine sd_aload_n C dX4_count_77 0 rfl rfl ?_
    refine sd_get C (by decide) rfl rfl 7 (by decide) rfl wf_X4_45 dX4_count_78 ?_
    exact hret _ _ _ _ dX4_count_81 (⟨rfl, by
        unfold an_count
        repeat' split
        all_goals omega⟩)
  · refine sd_tableOut C 82 dX4_count_1 (by omega) (by decide) ?_
    refine sd_sipush C dX4_count_82 (by decide) (fun k82 ek82 => ?_)
    exact hret _ _ _ _ dX4_count_85 (⟨rfl, by
        unfold an_count
        repeat' split
        all_goals omega⟩)

set_option maxRecDepth 20000 in
set_option maxHeartbeats 4000000 in
theorem c_X4_born (l : Launch) (D : va_G) (ad : Nat → Nat) (ca : Nat → ClassId) (T : Nat → Nat) (σ : sd_Mem) (β : sp_B) (hS : sd_CS σ β) (x1 : Int32) : sd_Ci l yX4_born cX4_born 4 3 D ad ca T σ [.ref (ad 0), .int x1] (fun r σ' => σ' = σ ∧ (r.toInt = an_born β x1.toInt)) := by
  refine sd_ent_i (own := RX4) (by decide) rfl (Nat.le_of_ble_eq_true rfl) (fun X C hret => ?_)
  show sd_Wd X 4 D ad ca σ [(0, .ref (ad 0)), (1, .int x1)] 0 []
  obtain ⟨hC, hG, hB, hL⟩ := id hS
  have hN := sp_n_le hG
  refine sd_iload_n C dX4_born_0 1 rfl rfl ?_
  refine sd_pSz C (c_X4_isWeek l D ad ca T σ x1) mv_X4_isWeek wm_X4_165 (by decide) rfl rfl (Nat.le_of_ble_eq_true rfl) dX4_born_1 (fun r1 h1 => ?_)
  try dsimp only at h1
  refine sd_if_ne C 11 dX4_born_4 (by decide) (fun c4 => ?_) (fun c4 => ?_)
  · refine sd_iconst C dX4_born_11 (by decide) (fun k11 ek11 => ?_)
    refine sd_istore_n (lv' := [(2, .int k11), (0, .ref (ad 0)), (1, .int x1)]) C dX4_born_12 rfl (by decide) rfl ?_
    refine sd_iconst C dX4_born_13 (by decide) (fun k13 ek13 => ?_)
    refine sd_istore_n (lv' := [(3, .int k13), (2, .int k11), (0, .ref (ad 0)), (1, .int x1)]) C dX4_born_14 rfl (by decide) rfl ?_
    have key15 : ∀ (fu15 : Nat) (y2 : Int32) (y3 : Int32) (p : Nat), (y3.toInt = (p : Int)) → (p ≤ 24) → (y2.toInt = sp_sum (fun q => sp_b (decide (sp_birth β (sp_row β q) = x1.toInt))) p) → (24 - p < fu15) → sd_Wd X 4 D ad ca σ [(3, .int y3), (2, .int y2), (0, .ref (ad 0)), (1, .int x1)] 15 [] := by
      intro fu15
      induction fu15 with
      | zero => intro y2 y3 p h3 hp h2 hm15; exact absurd hm15 (Nat.not_lt_zero _)
      | succ fu15 ih15 =>
        intro y2 y3 p h3 hp h2 hm15
        have hr := sp_sum_b (fun q => decide (sp_birth β (sp_row β q) = x1.toInt)) p hp
        refine sd_iload_n C dX4_born_15 0 rfl rfl ?_
        refine sd_bipush C dX4_born_16 (by decide) (fun k16 ek16 => ?_)
        refine sd_icmp_ge C 49 dX4_born_18 (by decide) (fun c18 => ?_) (fun c18 => ?_)
        · refine sd_iload_n C dX4_born_49 1 rfl rfl ?_
          exact hret _ _ _ _ dX4_born_50 (⟨rfl, by
              unfold an_born
              rw [if_neg (by omega), show (24 : Nat) = p by omega]; exact h2⟩)
        · refine sd_aload_n C dX4_born_21 2 rfl rfl ?_
          refine sd_get C (by decide) rfl rfl 3 (by decide) rfl wf_X4_22 dX4_born_22 ?_
          refine sd_iload_n C dX4_born_25 0 rfl rfl ?_
          refine sd_aald9 C (p) ⟨by omega, by omega⟩ dX4_born_26 ?_
          refine sd_aload_n C dX4_born_27 2 rfl rfl ?_
          refine sd_get C (by decide) rfl rfl 2 (by decide) rfl wf_X4_29 dX4_born_28 ?_
          refine sd_iconst C dX4_born_31 (by decide) (fun k31 ek31 => ?_)
          refine sd_iald C (by decide) rfl (5) ⟨by omega, by omega⟩ dX4_born_32 ?_
          refine sd_pVi C (c_X2_birth l D ad ca T σ β p (sp_row β p) ((hL.1 p (by omega)).rw hC hG) (by omega) (σ 8 5) (hC.2.2.2.1 5 (by decide))) mv_X2_birth wm_X4_116 (by omega) (sd_cell_row _ (by omega)) rfl (by decide) rfl rfl (Nat.le_of_ble_eq_true rfl) dX4_born_33 (fun r33 h33 => ?_)
          try dsimp only at h33
          refine sd_iload_n C dX4_born_36 3 rfl rfl ?_
          refine sd_icmp_ne C 43 dX4_born_37 (by decide) (fun c37 => ?_) (fun c37 => ?_)
          · refine sd_iinc C dX4_born_43 0 rfl (by decide) (by decide) (by omega) (fun zz => [(3, .int zz), (2, .int y2), (0, .ref (ad 0)), (1, .int x1)]) (fun _ => rfl) (fun u43 eu43 => ?_)
            refine sd_goto C 15 dX4_born_46 (by decide) ?_
            exact ih15 y2 u43 (p + 1) (by omega) (by omega) (by
                  by_cases hk : sp_birth β (sp_row β p) = x1.toInt
                  · rw [sp_sum_s (v := 1) (sp_b1 (decide_eq_true hk))]; omega
                  · rw [sp_sum_s (v := 0) (sp_b0 (decide_eq_false hk))]; omega) (by omega)
          · refine sd_iinc C dX4_born_40 1 rfl (by decide) (by decide) (by omega) (fun zz => [(2, .int zz), (3, .int y3), (0, .ref (ad 0)), (1, .int x1)]) (fun _ => rfl) (fun u40 eu40 => ?_)
            refine sd_iinc C dX4_born_43 1 rfl (by decide) (by decide) (by omega) (fun zz => [(3, .int zz), (2, .int u40), (0, .ref (ad 0)), (1, .int x1)]) (fun _ => rfl) (fun u43 eu43 => ?_)
            refine sd_goto C 15 dX4_born_46 (by decide) ?_
            exact ih15 u40 u43 (p + 1) (by omega) (by omega) (by
                  by_cases hk : sp_birth β (sp_row β p) = x1.toInt
                  · rw [sp_sum_s (v := 1) (sp_b1 (decide_eq_true hk))]; omega
                  · rw [sp_sum_s (v := 0) (sp_b0 (decide_eq_false hk))]; omega) (by omega)
    exact key15 _ k11 k13 0 (by omega) (by omega) (by rw [sp_sum]; exact ek11) (Nat.lt_succ_self _)
  · refine sd_sipush C dX4_born_7 (by decide) (fun k7 ek7 => ?_)
    exact hret _ _ _ _ dX4_born_10 (⟨rfl, by
        unfold an_born
        rw [if_pos (by omega)]; omega⟩)

set_option maxRecDepth 20000 in
set_option maxHeartbeats 4000000 in
theorem c_X4_came (l : Launch) (D : va_G) (ad : Nat → Nat) (ca : Nat → ClassId) (T : Nat → Nat) (σ : sd_Mem) (β : sp_B) (hS : sd_CS σ β) (x1 x2 : Int32) : sd_Ci l yX4_came cX4_came 5 3 D ad ca T σ [.ref (ad 0), .int x1, .int x2] (fun r σ' => σ' = σ ∧ (r.toInt = an_came β x1.toInt x2.toInt)) := by
  refine sd_ent_i (own := RX4) (by decide) rfl (Nat.le_of_ble_eq_true rfl) (fun X C hret => ?_)
  show sd_Wd X 5 D ad ca σ [(0, .ref (ad 0)), (1, .int x1), (2, .int x2)] 0 []
  obtain ⟨hC, hG, hB, hL⟩ := id hS
  have hN := sp_n_le hG
  refine sd_iload_n C dX4_came_0 1 rfl rfl ?_
  refine sd_pSz C (c_X4_isWeek l D ad ca T σ x1) mv_X4_isWeek wm_X4_165 (by decide) rfl rfl (Nat.le_of_ble_eq_true rfl) dX4_came_1 (fun r1 h1 => ?_)
  try dsimp only at h1
  refine sd_if_eq C 14 dX4_came_4 (by decide) (fun c4 => ?_) (fun c4 => ?_)
  · refine sd_sipush C dX4_came_14 (by decide) (fun k14 ek14 => ?_)
    exact hret _ _ _ _ dX4_came_17 (⟨rfl, by
        unfold an_came
        rw [if_pos (by omega)]; omega⟩)
  · refine sd_iload_n C dX4_came_7 2 rfl rfl ?_
    refine sd_pSz C (c_X4_isWeek l D ad ca T σ x2) mv_X4_isWeek wm_X4_165 (by decide) rfl rfl (Nat.le_of_ble_eq_true rfl) dX4_came_8 (fun r8 h8 => ?_)
    try dsimp only at h8
    refine sd_if_ne C 18 dX4_came_11 (by decide) (fun c11 => ?_) (fun c11 => ?_)
    · refine sd_iconst C dX4_came_18 (by decide) (fun k18 ek18 => ?_)
      refine sd_istore_n (lv' := [(3, .int k18), (0, .ref (ad 0)), (1, .int x1), (2, .int x2)]) C dX4_came_19 rfl (by decide) rfl ?_
      refine sd_iconst C dX4_came_20 (by decide) (fun k20 ek20 => ?_)
      refine sd_istore (lv' := [(4, .int k20), (3, .int k18), (0, .ref (ad 0)), (1, .int x1), (2, .int x2)]) C dX4_came_21 (by decide) rfl ?_
      have key23 : ∀ (fu23 : Nat) (y3 : Int32) (y4 : Int32) (p : Nat), (y4.toInt = (p : Int)) → (p ≤ 24) → (y3.toInt = sp_sum (fun q => sp_b (decide (sp_birth β (sp_row β q) = x1.toInt) && sp_came β (sp_row β q) (x1.toInt + x2.toInt))) p) → (24 - p < fu23) → sd_Wd X 5 D ad ca σ [(4, .int y4), (3, .int y3), (0, .ref (ad 0)), (1, .int x1), (2, .int x2)] 23 [] := by
        intro fu23
        induction fu23 with
        | zero => intro y3 y4 p h4 hp h3 hm23; exact absurd hm23 (Nat.not_lt_zero _)
        | succ fu23 ih23 =>
          intro y3 y4 p h4 hp h3 hm23
          have hr := sp_sum_b (fun q => decide (sp_birth β (sp_row β q) = x1.toInt) && sp_came β (sp_row β q) (x1.toInt + x2.toInt)) p hp
          refine sd_iload C dX4_came_23 0 rfl ?_
          refine sd_bipush C dX4_came_25 (by decide) (fun k25 ek25 => ?_)
          refine sd_icmp_ge C 75 dX4_came_27 (by decide) (fun c27 => ?_) (fun c27 => ?_)
          · refine sd_iload_n C dX4_came_75 1 rfl rfl ?_
            exact hret _ _ _ _ dX4_came_76 (⟨rfl, by
                unfold an_came
                rw [if_neg (by omega), show (24 : Nat) = p by omega]; exact h3⟩)
          · refine sd_aload_n C dX4_came_30 2 rfl rfl ?_
            refine sd_get C (by decide) rfl rfl 3 (by decide) rfl wf_X4_22 dX4_came_31 ?_
            refine sd_iload C dX4_came_34 0 rfl ?_
            refine sd_aald9 C (p) ⟨by omega, by omega⟩ dX4_came_36 ?_
            refine sd_aload_n C dX4_came_37 2 rfl rfl ?_
            refine sd_get C (by decide) rfl rfl 2 (by decide) rfl wf_X4_29 dX4_came_38 ?_
            refine sd_iconst C dX4_came_41 (by decide) (fun k41 ek41 => ?_)
            refine sd_iald C (by decide) rfl (5) ⟨by omega, by omega⟩ dX4_came_42 ?_
            refine sd_pVi C (c_X2_birth l D ad ca T σ β p (sp_row β p) ((hL.1 p (by omega)).rw hC hG) (by omega) (σ 8 5) (hC.2.2.2.1 5 (by decide))) mv_X2_birth wm_X4_116 (by omega) (sd_cell_row _ (by omega)) rfl (by decide) rfl rfl (Nat.le_of_ble_eq_true rfl) dX4_came_43 (fun r43 h43 => ?_)
            try dsimp only at h43
            refine sd_iload_n C dX4_came_46 3 rfl rfl ?_
            refine sd_icmp_ne C 69 dX4_came_47 (by decide) (fun c47 => ?_) (fun c47 => ?_)
            · refine sd_iinc C dX4_came_69 0 rfl (by decide) (by decide) (by omega) (fun zz => [(4, .int zz), (3, .int y3), (0, .ref (ad 0)), (1, .int x1), (2, .int x2)]) (fun _ => rfl) (fun u69 eu69 => ?_)
              refine sd_goto C 23 dX4_came_72 (by decide) ?_
              exact ih23 y3 u69 (p + 1) (by omega) (by omega) (by
                    by_cases hk : sp_birth β (sp_row β p) = x1.toInt
                    · first
                        | (exfalso; omega)
                        | (rcases h60 with ⟨w1, w2⟩ | ⟨w1, w2⟩
                           · rw [sp_sum_s (v := 1) (sp_b1 (by rw [w2, decide_eq_true hk]; rfl))]; omega
                           · rw [sp_sum_s (v := 0) (sp_b0 (by rw [w2]; simp))]; omega)
                    · rw [sp_sum_s (v := 0) (sp_b0 (by rw [decide_eq_false hk]; rfl))]; omega) (by omega)
            · refine sd_aload_n C dX4_came_50 2 rfl rfl ?_
              refine sd_get C (by decide) rfl rfl 3 (by decide) rfl wf_X4_22 dX4_came_51 ?_
              refine sd_iload C dX4_came_54 0 rfl ?_
              refine sd_aald9 C (p) ⟨by omega, by omega⟩ dX4_came_56 ?_
              refine sd_iload_n C dX4_came_57 3 rfl rfl ?_
              refine sd_iload_n C dX4_came_58 4 rfl rfl ?_
              refine sd_iadd C dX4_came_59 (by omega) (fun z59 ez59 => ?_)
              refine sd_pVz C (c_X2_isIn l D ad ca T σ β p (sp_row β p) ((hL.1 p (by omega)).rw hC hG) (by omega) z59) mv_X2_isIn wm_X4_168 (by omega) (sd_cell_row _ (by omega)) rfl (by decide) rfl rfl (Nat.le_of_ble_eq_true rfl) dX4_came_60 (fun r60 h60 => ?_)
              try dsimp only at h60
              rw [ez59] at h60
              refine sd_if_eq C 69 dX4_came_63 (by decide) (fun c63 => ?_) (fun c63 => ?_)
              · refine sd_iinc C dX4_came_69 0 rfl (by decide) (by decide) (by omega) (fun zz => [(4, .int zz), (3, .int y3), (0, .ref (ad 0)), (1, .int x1), (2, .int x2)]) (fun _ => rfl) (fun u69 eu69 => ?_)
                refine sd_goto C 23 dX4_came_72 (by decide) ?_
                exact ih23 y3 u69 (p + 1) (by omega) (by omega) (by
                      by_cases hk : sp_birth β (sp_row β p) = x1.toInt
                      · first
                          | (exfalso; omega)
                          | (rcases h60 with ⟨w1, w2⟩ | ⟨w1, w2⟩
                             · rw [sp_sum_s (v := 1) (sp_b1 (by rw [w2, decide_eq_true hk]; rfl))]; omega
                             · rw [sp_sum_s (v := 0) (sp_b0 (by rw [w2]; simp))]; omega)
                      · rw [sp_sum_s (v := 0) (sp_b0 (by rw [decide_eq_false hk]; rfl))]; omega) (by omega)
              · refine sd_iinc C dX4_came_66 1 rfl (by decide) (by decide) (by omega) (fun zz => [(3, .int zz), (4, .int y4), (0, .ref (ad 0)), (1, .int x1), (2, .int x2)]) (fun _ => rfl) (fun u66 eu66 => ?_)
                refine sd_iinc C dX4_came_69 1 rfl (by decide) (by decide) (by omega) (fun zz => [(4, .int zz), (3, .int u66), (0, .ref (ad 0)), (1, .int x1), (2, .int x2)]) (fun _ => rfl) (fun u69 eu69 => ?_)
                refine sd_goto C 23 dX4_came_72 (by decide) ?_
                exact ih23 u66 u69 (p + 1) (by omega) (by omega) (by
                      by_cases hk : sp_birth β (sp_row β p) = x1.toInt
                      · first
                          | (exfalso; omega)
                          | (rcases h60 with ⟨w1, w2⟩ | ⟨w1, w2⟩
                             · rw [sp_sum_s (v := 1) (sp_b1 (by rw [w2, decide_eq_true hk]; rfl))]; omega
                             · rw [sp_sum_s (v := 0) (sp_b0 (by rw [w2]; simp))]; omega)
                      · rw [sp_sum_s (v := 0) (sp_b0 (by rw [decide_eq_false hk]; rfl))]; omega) (by omega)
      exact key23 _ k18 k20 0 (by omega) (by omega) (by rw [sp_sum]; exact ek18) (Nat.lt_succ_self _)
    · refine sd_sipush C dX4_came_14 (by decide) (fun k14 ek14 => ?_)
      exact hret _ _ _ _ dX4_came_17 (⟨rfl, by
          unfold an_came
          rw [if_pos (by omega)]; omega⟩)

set_option maxRecDepth 20000 in
set_option maxHeartbeats 4000000 in
theorem c_X4_digestWith (l : Launch) (D : va_G) (ad : Nat → Nat) (ca : Nat → ClassId) (T : Nat → Nat) (σ : sd_Mem) (β : sp_B) (hS : sd_CS σ β) (q : Nat) (hq : q < 24) (x1 : Int32) : sd_Ci l yX4_digestWith cX4_digestWith 6 3 D ad ca T σ [.ref (ad 0), .int x1, .ref (ad (16 + q))] (fun r σ' => σ' = σ ∧ (r = 31 * sp_dl β (sp_row β q) x1 (sp_row β q).length + Int32.ofInt (sp_birth β (sp_row β q)))) := by
  refine sd_ent_i (own := RX4) (by decide) rfl (Nat.le_of_ble_eq_true rfl) (fun X C hret => ?_)
  show sd_Wd X 6 D ad ca σ [(0, .ref (ad 0)), (1, .int x1), (2, .ref (ad (16 + q)))] 0 []
  obtain ⟨hC, hG, hB, hL⟩ := id hS
  have hN := sp_n_le hG
  have hLr := hL.1 q hq
  have hW := hLr.rw hC hG
  have L0 := hLr.1.1
  have hok := sp_row_ok hG q
  have kk31 : ∀ k : Int32, k.toInt = 31 → k = 31 := fun k h => Int32.toInt_inj.mp (by rw [h]; rfl)
  refine sd_iload_n C dX4_digestWith_0 1 rfl rfl ?_
  refine sd_istore_n (lv' := [(3, .int x1), (0, .ref (ad 0)), (1, .int x1), (2, .ref (ad (16 + q)))]) C dX4_digestWith_1 rfl (by decide) rfl ?_
  refine sd_iconst C dX4_digestWith_2 (by decide) (fun k2 ek2 => ?_)
  refine sd_istore (lv' := [(4, .int k2), (3, .int x1), (0, .ref (ad 0)), (1, .int x1), (2, .ref (ad (16 + q)))]) C dX4_digestWith_3 (by decide) rfl ?_
  have key5 : ∀ (fu5 : Nat) (y3 : Int32) (y4 : Int32) (j : Nat), (y4.toInt = (j : Int)) → (j ≤ (sp_row β q).length) → (y3 = sp_dl β (sp_row β q) x1 j) → ((sp_row β q).length - j < fu5) → sd_Wd X 6 D ad ca σ [(4, .int y4), (3, .int y3), (0, .ref (ad 0)), (1, .int x1), (2, .ref (ad (16 + q)))] 5 [] := by
    intro fu5
    induction fu5 with
    | zero => intro y3 y4 j h4 hj h3 hm5; exact absurd hm5 (Nat.not_lt_zero _)
    | succ fu5 ih5 =>
      intro y3 y4 j h4 hj h3 hm5
      refine sd_iload C dX4_digestWith_5 0 rfl ?_
      refine sd_aload_n C dX4_digestWith_7 4 rfl rfl ?_
      refine sd_get C (by omega) (sd_cell_row _ (by omega)) rfl 2 (by decide) rfl wf_X4_106 dX4_digestWith_8 ?_
      refine sd_icmp_ge C 50 dX4_digestWith_11 (by decide) (fun c11 => ?_) (fun c11 => ?_)
      · refine sd_bipush C dX4_digestWith_50 (by decide) (fun k50 ek50 => ?_)
        refine sd_iload_n C dX4_digestWith_52 1 rfl rfl ?_
        refine sd_imulW C dX4_digestWith_53 ?_
        refine sd_aload_n C dX4_digestWith_54 4 rfl rfl ?_
        refine sd_aload_n C dX4_digestWith_55 2 rfl rfl ?_
        refine sd_get C (by decide) rfl rfl 2 (by decide) rfl wf_X4_29 dX4_digestWith_56 ?_
        refine sd_iconst C dX4_digestWith_59 (by decide) (fun k59 ek59 => ?_)
        refine sd_iald C (by decide) rfl (5) ⟨by omega, by omega⟩ dX4_digestWith_60 ?_
        refine sd_pVi C (c_X2_birth l D ad ca T σ β q (sp_row β q) hW hq (σ 8 5) (hC.2.2.2.1 5 (by decide))) mv_X2_birth wm_X4_116 (by omega) (sd_cell_row _ (by omega)) rfl (by decide) rfl rfl (Nat.le_of_ble_eq_true rfl) dX4_digestWith_61 (fun r61 h61 => ?_)
        try dsimp only at h61
        refine sd_iaddW C dX4_digestWith_64 ?_
        exact hret _ _ _ _ dX4_digestWith_65 (⟨rfl, by rw [kk31 _ ek50, h3, sd_ofInt h61, show (sp_row β q).length = j by omega]⟩)
      · have t1 := hW.at (j := j) (by omega)
        have t2 := (sd_CS.at hS hq (j := j) (by omega)).1
        have t3 := hLr.1.2 j (by omega)
        refine sd_aload_n C dX4_digestWith_14 4 rfl rfl ?_
        refine sd_get C (by omega) (sd_cell_row _ (by omega)) rfl 1 (by decide) rfl wf_X4_121 dX4_digestWith_15 ?_
        refine sd_iload C dX4_digestWith_18 0 rfl ?_
        refine sd_iald C (by omega) (sd_cell_rowA _ (by omega)) (j) ⟨by omega, by omega⟩ dX4_digestWith_20 ?_
        refine sd_istore (lv' := [(5, .int (σ (40 + q) (j))), (4, .int y4), (3, .int y3), (0, .ref (ad 0)), (1, .int x1), (2, .ref (ad (16 + q)))]) C dX4_digestWith_21 (by decide) rfl ?_
        refine sd_bipush C dX4_digestWith_23 (by decide) (fun k23 ek23 => ?_)
        refine sd_iload_n C dX4_digestWith_25 2 rfl rfl ?_
        refine sd_imulW C dX4_digestWith_26 ?_
        refine sd_iload C dX4_digestWith_27 0 rfl ?_
        refine sd_iaddW C dX4_digestWith_29 ?_
        refine sd_istore_n (lv' := [(3, .int ((k23 * y3) + (σ (40 + q) (j)))), (5, .int (σ (40 + q) (j))), (4, .int y4), (0, .ref (ad 0)), (1, .int x1), (2, .ref (ad (16 + q)))]) C dX4_digestWith_30 rfl (by decide) rfl ?_
        refine sd_bipush C dX4_digestWith_31 (by decide) (fun k31 ek31 => ?_)
        refine sd_iload_n C dX4_digestWith_33 0 rfl rfl ?_
        refine sd_imulW C dX4_digestWith_34 ?_
        refine sd_aload_n C dX4_digestWith_35 3 rfl rfl ?_
        refine sd_get C (by decide) rfl rfl 5 (by decide) rfl wf_X4_35 dX4_digestWith_36 ?_
        refine sd_iload C dX4_digestWith_39 1 rfl ?_
        refine sd_iald C (by decide) rfl ((sp_row β q).getD j 0) ⟨by omega, by omega⟩ dX4_digestWith_41 ?_
        refine sd_iaddW C dX4_digestWith_42 ?_
        refine sd_istore_n (lv' := [(3, .int ((k31 * ((k23 * y3) + (σ (40 + q) (j)))) + (σ 11 ((sp_row β q).getD j 0)))), (5, .int (σ (40 + q) (j))), (4, .int y4), (0, .ref (ad 0)), (1, .int x1), (2, .ref (ad (16 + q)))]) C dX4_digestWith_43 rfl (by decide) rfl ?_
        refine sd_iinc C dX4_digestWith_44 2 rfl (by decide) (by decide) (by omega) (fun zz => [(4, .int zz), (3, .int ((k31 * ((k23 * y3) + (σ (40 + q) (j)))) + (σ 11 ((sp_row β q).getD j 0)))), (5, .int (σ (40 + q) (j))), (0, .ref (ad 0)), (1, .int x1), (2, .ref (ad (16 + q)))]) (fun _ => rfl) (fun u44 eu44 => ?_)
        refine sd_goto C 5 dX4_digestWith_47 (by decide) ?_
        exact sd_lv (ih5 ((k31 * ((k23 * y3) + (σ (40 + q) (j)))) + (σ 11 ((sp_row β q).getD j 0))) u44 (j + 1) (by omega) (by omega) (by rw [sp_dl, kk31 _ ek23, kk31 _ ek31, h3, sd_ofInt t2, sd_ofInt t3]) (by omega)) [0, 1, 3, 4, 5] rfl
  exact key5 _ x1 k2 0 (by omega) (by omega) rfl (Nat.lt_succ_self _)

set_option maxRecDepth 20000 in
set_option maxHeartbeats 4000000 in
theorem c_X4_digest (l : Launch) (D : va_G) (ad : Nat → Nat) (ca : Nat → ClassId) (T : Nat → Nat) (σ : sd_Mem) (β : sp_B) (hS : sd_CS σ β) : sd_Ci l yX4_digest cX4_digest 3 4 D ad ca T σ [.ref (ad 0)] (fun r σ' => σ' = σ ∧ (r = sp_dg β 24)) := by
  refine sd_ent_i (own := RX4) (by decide) rfl (Nat.le_of_ble_eq_true rfl) (fun X C hret => ?_)
  show sd_Wd X 3 D ad ca σ [(0, .ref (ad 0))] 0 []
  obtain ⟨hC, hG, hB, hL⟩ := id hS
  have hN := sp_n_le hG
  refine sd_bipush C dX4_digest_0 (by decide) (fun k0 ek0 => ?_)
  refine sd_istore_n (lv' := [(1, .int k0), (0, .ref (ad 0))]) C dX4_digest_2 rfl (by decide) rfl ?_
  refine sd_iconst C dX4_digest_3 (by decide) (fun k3 ek3 => ?_)
  refine sd_istore_n (lv' := [(2, .int k3), (1, .int k0), (0, .ref (ad 0))]) C dX4_digest_4 rfl (by decide) rfl ?_
  have key5 : ∀ (fu5 : Nat) (y1 : Int32) (y2 : Int32) (p : Nat), (y2.toInt = (p : Int)) → (p ≤ 24) → (y1 = sp_dg β p) → (24 - p < fu5) → sd_Wd X 3 D ad ca σ [(2, .int y2), (1, .int y1), (0, .ref (ad 0))] 5 [] := by
    intro fu5
    induction fu5 with
    | zero => intro y1 y2 p h2 hp h1 hm5; exact absurd hm5 (Nat.not_lt_zero _)
    | succ fu5 ih5 =>
      intro y1 y2 p h2 hp h1 hm5
      refine sd_iload_n C dX4_digest_5 0 rfl rfl ?_
      refine sd_bipush C dX4_digest_6 (by decide) (fun k6 ek6 => ?_)
      refine sd_icmp_ge C 37 dX4_digest_8 (by decide) (fun c8 => ?_) (fun c8 => ?_)
      · refine sd_iload_n C dX4_digest_37 1 rfl rfl ?_
        exact hret _ _ _ _ dX4_digest_38 (⟨rfl, by rw [show (24 : Nat) = p by omega]; exact h1⟩)
      · refine sd_aload_n C dX4_digest_11 2 rfl rfl ?_
        refine sd_iload_n C dX4_digest_12 0 rfl rfl ?_
        refine sd_pVz C (c_X4_isJoined l D ad ca T σ y2 (by omega) (by omega)) mv_X4_isJoined wm_X4_85 (by decide) rfl rfl (by decide) rfl rfl (Nat.le_of_ble_eq_true rfl) dX4_digest_13 (fun r13 h13 => ?_)
        try dsimp only at h13
        rw [show y2.toInt.toNat = p by omega] at h13
        have t1 := hC.2.2.1 p (by omega)
        refine sd_if_ne C 31 dX4_digest_16 (by decide) (fun c16 => ?_) (fun c16 => ?_)
        · refine sd_iinc C dX4_digest_31 0 rfl (by decide) (by decide) (by omega) (fun zz => [(2, .int zz), (1, .int y1), (0, .ref (ad 0))]) (fun _ => rfl) (fun u31 eu31 => ?_)
          refine sd_goto C 5 dX4_digest_34 (by decide) ?_
          exact ih5 y1 u31 (p + 1) (by omega) (by omega) (by rw [sp_dg, if_neg (by omega)]; exact h1) (by omega)
        · refine sd_aload_n C dX4_digest_19 2 rfl rfl ?_
          refine sd_iload_n C dX4_digest_20 1 rfl rfl ?_
          refine sd_aload_n C dX4_digest_21 2 rfl rfl ?_
          refine sd_get C (by decide) rfl rfl 3 (by decide) rfl wf_X4_22 dX4_digest_22 ?_
          refine sd_iload_n C dX4_digest_25 0 rfl rfl ?_
          refine sd_aald9 C (p) ⟨by omega, by omega⟩ dX4_digest_26 ?_
          refine sd_pVi C (c_X4_digestWith l D ad ca T σ β hS p (by omega) y1) mv_X4_digestWith wm_X4_171 (by decide) rfl rfl (by decide) rfl rfl (Nat.le_of_ble_eq_true rfl) dX4_digest_27 (fun r27 h27 => ?_)
          try dsimp only at h27
          refine sd_istore_n (lv' := [(1, .int r27), (2, .int y2), (0, .ref (ad 0))]) C dX4_digest_30 rfl (by decide) rfl ?_
          refine sd_iinc C dX4_digest_31 1 rfl (by decide) (by decide) (by omega) (fun zz => [(2, .int zz), (1, .int r27), (0, .ref (ad 0))]) (fun _ => rfl) (fun u31 eu31 => ?_)
          refine sd_goto C 5 dX4_digest_34 (by decide) ?_
          exact ih5 r27 u31 (p + 1) (by omega) (by omega) (by rw [sp_dg, if_pos (by omega), h27, h1]) (by omega)
  exact key5 _ k0 k3 0 (by omega) (by omega) (Int32.toInt_inj.mp (by rw [ek0]; rfl)) (Nat.lt_succ_self _)
end
section
def sd_MW (σ : sd_Mem) (β : sp_B) (l : List Nat) : Prop := sd_MR σ β ∧ sd_RG β ∧ (σ 76 15).toInt = (l.length : Int) ∧ (∀ j, j < l.length → (σ 88 j).toInt = ((l.getD j 0 : Nat) : Int)) ∧ l.length ≤ 120 ∧ ∀ j, j < l.length → l.getD j 0 < 120
theorem sd_MW.at {σ : sd_Mem} {β : sp_B} {l : List Nat} (h : sd_MW σ β l) {j : Nat} (hj : j < l.length) : (σ 88 j).toInt.toNat = l.getD j 0 ∧ l.getD j 0 < 120 ∧ 0 ≤ (σ 88 j).toInt ∧ (σ 88 j).toInt < 120 ∧ (σ 77 (l.getD j 0)).toInt = β 1 (l.getD j 0) ∧ (σ 79 (l.getD j 0)).toInt = β 3 (l.getD j 0) ∧ 0 ≤ β 1 (l.getD j 0) ∧ β 1 (l.getD j 0) ≤ 200000 ∧ 0 ≤ β 3 (l.getD j 0) ∧ β 3 (l.getD j 0) < 8 := by
  obtain ⟨hC, hG, hZ, hV, hL, hB⟩ := h
  have h1 := hV j hj
  have h2 := hB j hj
  have h3 := hC.2.1 _ h2
  have h4 := hG.2.1 _ h2
  refine ⟨by omega, h2, by omega, by omega, h3.1, h3.2.2.1, h4.1, h4.2.1, h4.2.2.2.2.1, h4.2.2.2.2.2.1⟩
def sd_keep (σ σ' : sd_Mem) : Prop := ∀ i k, i < 88 → (i = 76 → k = 0 ∨ k = 7) → σ' i k = σ i k
theorem sd_MR_fr {σ τ : sd_Mem} {β : sp_B} (h : sd_keep σ τ) (hM : sd_MR σ β) : sd_MR τ β := by
  obtain ⟨⟨a1, a2⟩, b, c, d, e, f⟩ := hM
  refine ⟨⟨?_, ?_⟩, fun c1 hc => ?_, fun p hp => ?_, fun j hj => ?_, fun f1 hf => ?_, fun k hk => ?_⟩
  · rw [h 76 0 (by omega) (by omega)]; exact a1
  · rw [h 76 7 (by omega) (by omega)]; exact a2
  · rw [h 77 _ (by omega) (by omega), h 78 _ (by omega) (by omega), h 79 _ (by omega) (by omega), h 80 _ (by omega) (by omega)]; exact b c1 hc
  · rw [h 81 _ (by omega) (by omega)]; exact c p hp
  · rw [h 82 _ (by omega) (by omega)]; exact d j hj
  · rw [h 83 _ (by omega) (by omega), h 84 _ (by omega) (by omega), h 85 _ (by omega) (by omega), h 86 _ (by omega) (by omega)]; exact e f1 hf
  · rw [h 87 _ (by omega) (by omega)]; exact f k hk
def sd_GA (σ : sd_Mem) (β : sp_B) (p : Nat) : Prop := (σ 76 15).toInt = ((sp_row β p).length : Int) ∧ (∀ j, j < (sp_row β p).length → (σ 88 j).toInt = (((sp_row β p).getD j 0 : Nat) : Int)) ∧ (σ 76 16).toInt = (sp_ns β (sp_row β p) (sp_row β p).length : Int) ∧ (σ 76 17).toInt = (if sp_quick β (sp_raw β p) then 1 else 0) ∧ ∀ j, j < (sp_row β p).length → (σ 89 j).toInt = (sp_ns β (sp_row β p) (j + 1) : Int) - 1
theorem sd_GA.mw {σ : sd_Mem} {β : sp_B} {p : Nat} (h : sd_GA σ β p) (hM : sd_MR σ β) (hG : sd_RG β) : sd_MW σ β (sp_row β p) := ⟨hM, hG, h.1, h.2.1, sp_row_ok hG p⟩
-- gather, its three loops
def sd_g1 (σ : sd_Mem) (β : sp_B) (p : Nat) (τ : sd_Mem) (c : Nat) : Prop := (∀ i k, i ≠ 88 → ¬ (i = 76 ∧ k = 15) → τ i k = σ i k) ∧ (τ 76 15).toInt = ((sp_gr (β 1) (sp_cnts β p) c).length : Int) ∧ ∀ j, j < (sp_gr (β 1) (sp_cnts β p) c).length → (τ 88 j).toInt = (((sp_gr (β 1) (sp_cnts β p) c).getD j 0 : Nat) : Int)
theorem sp_gr_len (t : Nat → Int) (p : Nat → Bool) (c : Nat) : (sp_gr t p c).length ≤ c := by rw [sp_gr_eq, sp_srt_ct]; exact sp_ct_le _
theorem sp_gr_mem {t : Nat → Int} {p : Nat → Bool} {c d : Nat} (h : d ∈ sp_gr t p c) : d < c := by
  rw [sp_gr_eq] at h
  exact sp_srt_mem.mp (List.mem_filter.mp h).1
theorem sp_gr_sorted (t : Nat → Int) (p : Nat → Bool) (c : Nat) : (sp_gr t p c).Pairwise (fun a b => t a ≤ t b) := by rw [sp_gr_eq]; exact (sp_srt_sorted c).filter _
theorem sd_g1_0 {σ τ : sd_Mem} {β : sp_B} {p : Nat} {z : Int32} (e : τ = sd_st σ 76 15 z) (hz : z.toInt = 0) : sd_g1 σ β p τ 0 := by
  refine ⟨fun i k h1 h2 => ?_, ?_, fun j hj => absurd hj (Nat.not_lt_zero j)⟩
  · rw [e]
    by_cases h3 : i = 76
    · subst h3; rw [sd_st_nk (fun h4 => h2 ⟨rfl, h4⟩)]
    · rw [sd_st_ne h3]
  · rw [e, sd_st_at]; exact hz
theorem sd_g1_skip {σ τ : sd_Mem} {β : sp_B} {p c : Nat} (h : sd_g1 σ β p τ c) (hc : sp_cnts β p c = false) : sd_g1 σ β p τ (c + 1) := by
  unfold sd_g1 at h ⊢
  rw [show sp_gr (β 1) (sp_cnts β p) (c + 1) = sp_gr (β 1) (sp_cnts β p) c by rw [sp_gr, hc]; rfl]
  exact h
theorem sd_g1_ins {σ τ υ υ1 υ2 : sd_Mem} {β : sp_B} {p c a m : Nat} {x z : Int32} (h : sd_g1 σ β p τ c) (hc : sp_cnts β p c = true) (hm : m = (sp_gr (β 1) (sp_cnts β p) c).length) (ha : a ≤ m)
    (f1 : ∀ i k, i ≠ 88 → υ i k = τ i k) (f2 : ∀ j, j < a → υ 88 j = τ 88 j) (f3 : ∀ j, a < j → j ≤ m → υ 88 j = τ 88 (j - 1)) (f4 : ∀ j, a ≤ j → j < m → β 1 c < β 1 ((sp_gr (β 1) (sp_cnts β p) c).getD j 0)) (f5 : a = 0 ∨ β 1 ((sp_gr (β 1) (sp_cnts β p) c).getD (a - 1) 0) ≤ β 1 c)
    (e1 : υ1 = sd_st υ 88 a x) (hx : x.toInt = (c : Int)) (e2 : υ2 = sd_st υ1 76 15 z) (hz : z.toInt = (m : Int) + 1) : sd_g1 σ β p υ2 (c + 1) := by
  obtain ⟨h1, h2, h3⟩ := h
  have e : sp_gr (β 1) (sp_cnts β p) (c + 1) = (sp_gr (β 1) (sp_cnts β p) c).take a ++ c :: (sp_gr (β 1) (sp_cnts β p) c).drop a := by
    rw [sp_gr, if_pos hc]
    exact sp_ins_at (sp_gr_sorted _ _ _) (by omega) (fun j q1 q2 => f4 j q1 (by omega)) f5
  have el : (sp_gr (β 1) (sp_cnts β p) (c + 1)).length = m + 1 := by rw [sp_gr, if_pos hc, sp_ins_len, hm]
  refine ⟨fun i k q1 q2 => ?_, ?_, fun j hj => ?_⟩
  · rw [e2]
    by_cases q3 : i = 76
    · subst q3
      rw [sd_st_nk (fun q => q2 ⟨rfl, q⟩), e1, sd_st_ne q1, f1 _ _ q1]; exact h1 _ k q1 q2
    · rw [sd_st_ne q3, e1, sd_st_ne q1, f1 _ _ q1]; exact h1 i k q1 q2
  · rw [e2, sd_st_at, el, hz]; omega
  · rw [el] at hj
    rw [e, sp_insD (by omega), e2, sd_st_ne (by decide), e1]
    by_cases q1 : j < a
    · rw [if_pos q1, sd_st_nk (by omega), f2 j q1]; exact h3 j (by omega)
    · rw [if_neg q1]
      by_cases q2 : j = a
      · rw [if_pos q2, q2, sd_st_at]; exact hx
      · rw [if_neg q2, sd_st_nk q2, f3 j (by omega) (by omega)]; exact h3 (j - 1) (by omega)
theorem sd_g1_keep {σ τ : sd_Mem} {β : sp_B} {p c : Nat} (h : sd_g1 σ β p τ c) : sd_keep σ τ := fun i k h1 h2 => h.1 i k (by omega) (by omega)
def sd_g2 (σ : sd_Mem) (β : sp_B) (p : Nat) (τ : sd_Mem) (i rt : Nat) : Prop := (∀ a k, a ≠ 88 → ¬ (a = 76 ∧ (k = 15 ∨ k = 17)) → τ a k = σ a k) ∧ (τ 76 15).toInt = ((sp_raw β p).length : Int) ∧ (∀ j, j < (sp_raw β p).length → (τ 88 j).toInt = (((sp_raw β p).getD j 0 : Nat) : Int)) ∧ (((τ 76 17).toInt = 1 ∧ sp_quick β (sp_raw β p) = true) ∨ ((τ 76 17).toInt = 0 ∧ ∀ i', i' < i → i' + rt < (sp_raw β p).length → ¬ (β 1 ((sp_raw β p).getD (i' + rt) 0) - β 1 ((sp_raw β p).getD i' 0) < β 6 4)))
theorem sp_gr_raw (β : sp_B) (p : Nat) : sp_gr (β 1) (sp_cnts β p) (sp_n β) = sp_raw β p := sp_gr_eq _ _
theorem sd_g2_0 {σ τ τ' : sd_Mem} {β : sp_B} {p rt : Nat} {z : Int32} (h : sd_g1 σ β p τ (sp_n β)) (e : τ' = sd_st τ 76 17 z) (hz : z.toInt = 0) : sd_g2 σ β p τ' 0 rt := by
  obtain ⟨h1, h2, h3⟩ := h
  rw [sp_gr_raw] at h2 h3
  refine ⟨fun a k q1 q2 => ?_, ?_, fun j hj => ?_, Or.inr ⟨?_, fun i' q => by omega⟩⟩
  · rw [e]
    by_cases q3 : a = 76
    · subst q3; rw [sd_st_nk (by omega)]; exact h1 _ k q1 (by omega)
    · rw [sd_st_ne q3]; exact h1 a k q1 (by omega)
  · rw [e, sd_st_nk (by decide)]; exact h2
  · rw [e, sd_st_ne (by decide)]; exact h3 j hj
  · rw [e, sd_st_at]; exact hz
theorem sd_g2_step {σ τ τ' : sd_Mem} {β : sp_B} {p rt i : Nat} {z : Int32} (h : sd_g2 σ β p τ i rt) (e : τ' = sd_st τ 76 17 z) (hz : (z.toInt = 1 ∧ sp_quick β (sp_raw β p) = true) ∨ (z.toInt = 0 ∧ (τ 76 17).toInt = 0 ∧ ¬ (β 1 ((sp_raw β p).getD (i + rt) 0) - β 1 ((sp_raw β p).getD i 0) < β 6 4))) : sd_g2 σ β p τ' (i + 1) rt := by
  obtain ⟨h1, h2, h3, h4⟩ := h
  refine ⟨fun a k q1 q2 => ?_, ?_, fun j hj => ?_, ?_⟩
  · rw [e]
    by_cases q3 : a = 76
    · subst q3; rw [sd_st_nk (by omega)]; exact h1 _ k q1 (by omega)
    · rw [sd_st_ne q3]; exact h1 a k q1 (by omega)
  · rw [e, sd_st_nk (by decide)]; exact h2
  · rw [e, sd_st_ne (by decide)]; exact h3 j hj
  · rw [e, sd_st_at]
    rcases hz with q | ⟨q1, q2, q3⟩
    · exact Or.inl q
    · right
      refine ⟨q1, fun i' h9 h8 => ?_⟩
      rcases h4 with ⟨q4, -⟩ | ⟨-, q4⟩
      · omega
      · by_cases e9 : i' = i
        · rw [e9]; exact q3
        · exact q4 i' (by omega) h8
def sd_g3 (σ : sd_Mem) (β : sp_B) (p : Nat) (τ : sd_Mem) (j : Nat) : Prop := (∀ a k, a ≠ 88 → a ≠ 89 → ¬ (a = 76 ∧ (k = 15 ∨ k = 16 ∨ k = 17)) → τ a k = σ a k) ∧ (τ 76 15).toInt = ((sp_row β p).length : Int) ∧ (∀ i, i < (sp_row β p).length → (τ 88 i).toInt = (((sp_row β p).getD i 0 : Nat) : Int)) ∧ (τ 76 17).toInt = (if sp_quick β (sp_raw β p) then 1 else 0) ∧ (τ 76 16).toInt = (sp_ns β (sp_row β p) j : Int) ∧ ∀ i, i < j → (τ 89 i).toInt = (sp_ns β (sp_row β p) (i + 1) : Int) - 1
theorem sd_g3_0 {σ τ τ1 τ2 : sd_Mem} {β : sp_B} {p rt i : Nat} {x z : Int32} (hrt : β 6 3 = (rt : Int)) (h : sd_g2 σ β p τ i rt) (hend : rt = 0 ∨ (sp_raw β p).length ≤ i + rt) (e1 : τ1 = sd_st τ 76 15 x) (hx : (x.toInt = 0 ∧ (τ 76 17).toInt ≠ 0) ∨ (x = τ 76 15 ∧ (τ 76 17).toInt = 0)) (e2 : τ2 = sd_st τ1 76 16 z) (hz : z.toInt = 0) : sd_g3 σ β p τ2 0 := by
  obtain ⟨h1, h2, h3, h4⟩ := h
  have hq : ((τ 76 17).toInt = 1 ∧ sp_quick β (sp_raw β p) = true) ∨ ((τ 76 17).toInt = 0 ∧ sp_quick β (sp_raw β p) = false) := by
    rcases h4 with q | ⟨q1, q2⟩
    · exact Or.inl q
    · refine Or.inr ⟨q1, ?_⟩
      rcases hend with q3 | q3
      · exact sp_quick_zero (by omega)
      · exact sp_quick_false hrt (fun i' q4 => q2 i' (by omega) q4)
  refine ⟨fun a k q1 q2 q3 => ?_, ?_, fun j hj => ?_, ?_, ?_, fun j hj => by omega⟩
  · rw [e2]
    by_cases q4 : a = 76
    · subst q4; rw [sd_st_nk (by omega), e1, sd_st_nk (by omega)]; exact h1 _ k q1 (by omega)
    · rw [sd_st_ne q4, e1, sd_st_ne q4]; exact h1 a k q1 (by omega)
  · rw [e2, sd_st_nk (by decide), e1, sd_st_at]
    unfold sp_row
    rcases hq with ⟨q1, q2⟩ | ⟨q1, q2⟩
    · rw [if_pos q2]
      rcases hx with ⟨q3, -⟩ | ⟨-, q3⟩
      · simpa using q3
      · omega
    · rw [q2]
      simp only [Bool.false_eq_true, if_false]
      rcases hx with ⟨-, q3⟩ | ⟨q3, -⟩
      · omega
      · rw [q3]; exact h2
  · rw [e2, sd_st_ne (by decide), e1, sd_st_ne (by decide)]
    unfold sp_row at hj ⊢
    split at hj
    · simp at hj
    · rename_i q
      rw [if_neg q]; exact h3 j hj
  · rw [e2, sd_st_nk (by decide), e1, sd_st_nk (by decide)]
    rcases hq with ⟨q1, q2⟩ | ⟨q1, q2⟩
    · rw [if_pos q2]; exact q1
    · rw [q2]; exact q1
  · rw [e2, sd_st_at, hz]; rfl
theorem sd_g3_step {σ τ τ1 τ2 : sd_Mem} {β : sp_B} {p j : Nat} {x z : Int32} (h : sd_g3 σ β p τ j) (e1 : τ1 = sd_st τ 76 16 x) (hx : x.toInt = (sp_ns β (sp_row β p) (j + 1) : Int)) (e2 : τ2 = sd_st τ1 89 j z) (hz : z.toInt = (sp_ns β (sp_row β p) (j + 1) : Int) - 1) : sd_g3 σ β p τ2 (j + 1) := by
  obtain ⟨h1, h2, h3, h4, h5, h6⟩ := h
  refine ⟨fun a k q1 q2 q3 => ?_, ?_, fun i hi => ?_, ?_, ?_, fun i hi => ?_⟩
  · rw [e2, sd_st_ne q2, e1]
    by_cases q4 : a = 76
    · subst q4; rw [sd_st_nk (by omega)]; exact h1 _ k q1 q2 q3
    · rw [sd_st_ne q4]; exact h1 a k q1 q2 q3
  · rw [e2, sd_st_ne (by decide), e1, sd_st_nk (by decide)]; exact h2
  · rw [e2, sd_st_ne (by decide), e1, sd_st_ne (by decide)]; exact h3 i hi
  · rw [e2, sd_st_ne (by decide), e1, sd_st_nk (by decide)]; exact h4
  · rw [e2, sd_st_ne (by decide), e1, sd_st_at]; exact hx
  · by_cases q : i = j
    · rw [e2, q, sd_st_at]; exact hz
    · rw [e2, sd_st_nk q, e1, sd_st_ne (by decide)]; exact h6 i (by omega)
theorem sd_g3_keep {σ τ : sd_Mem} {β : sp_B} {p c : Nat} (h : sd_g3 σ β p τ c) : sd_keep σ τ := fun i k h1 h2 => h.1 i k (by omega) (by omega) (by omega)
theorem sd_g2_keep {σ τ : sd_Mem} {β : sp_B} {p c rt : Nat} (h : sd_g2 σ β p τ c rt) : sd_keep σ τ := fun i k h1 h2 => h.1 i k (by omega) (by omega)
theorem sd_g3_end {σ τ : sd_Mem} {β : sp_B} {p : Nat} (h : sd_g3 σ β p τ (sp_row β p).length) : sd_GA τ β p ∧ ∀ a k, a ≠ 88 → a ≠ 89 → ¬ (a = 76 ∧ (k = 15 ∨ k = 16 ∨ k = 17)) → τ a k = σ a k := ⟨⟨h.2.1, h.2.2.1, h.2.2.2.2.1, h.2.2.2.1, h.2.2.2.2.2⟩, h.1⟩
end
section
set_option maxRecDepth 20000 in
set_option maxHeartbeats 4000000 in
theorem c_X5_in (l : Launch) (D : va_G) (ad : Nat → Nat) (ca : Nat → ClassId) (T : Nat → Nat) (σ : sd_Mem) (x y z : Int64) : sd_Cz l yX5_in cX5_in 6 0 D ad ca T σ [.long x, .long y, .long z] (fun r σ' => σ' = σ ∧ ((r.toInt = 1 ∧ y.toInt ≤ x.toInt ∧ x.toInt ≤ z.toInt) ∨ (r.toInt = 0 ∧ (x.toInt < y.toInt ∨ z.toInt < x.toInt)))) := by
  refine sd_ent_z (own := RX5) (by decide) rfl (Nat.le_of_ble_eq_true rfl) (fun X C hret => ?_)
  show sd_Wd X 6 D ad ca σ [(0, .long x), (2, .long y), (4, .long z)] 0 []
  refine sd_lload_n C dX5_in_0 0 rfl rfl ?_
  refine sd_lload_n C dX5_in_1 1 rfl rfl ?_
  refine sd_lcmp C dX5_in_2 (fun g2 eg2 => ?_)
  refine sd_if_lt C 17 dX5_in_3 (by decide) (fun c3 => ?_) (fun c3 => ?_)
  · refine sd_iconst C dX5_in_17 (by decide) (fun k17 ek17 => ?_)
    exact hret _ _ _ _ dX5_in_18 (by omega) (⟨rfl, by omega⟩)
  · refine sd_lload_n C dX5_in_6 0 rfl rfl ?_
    refine sd_lload C dX5_in_7 2 rfl ?_
    refine sd_lcmp C dX5_in_9 (fun g9 eg9 => ?_)
    refine sd_if_gt C 17 dX5_in_10 (by decide) (fun c10 => ?_) (fun c10 => ?_)
    · refine sd_iconst C dX5_in_17 (by decide) (fun k17 ek17 => ?_)
      exact hret _ _ _ _ dX5_in_18 (by omega) (⟨rfl, by omega⟩)
    · refine sd_iconst C dX5_in_13 (by decide) (fun k13 ek13 => ?_)
      refine sd_goto C 18 dX5_in_14 (by decide) ?_
      exact hret _ _ _ _ dX5_in_18 (by omega) (⟨rfl, by omega⟩)

set_option maxRecDepth 20000 in
set_option maxHeartbeats 4000000 in
theorem c_X5_isWho (l : Launch) (D : va_G) (ad : Nat → Nat) (ca : Nat → ClassId) (T : Nat → Nat) (σ : sd_Mem) (x : Int32) : sd_Cz l yX5_isWho cX5_isWho 1 1 D ad ca T σ [.int x] (fun r σ' => σ' = σ ∧ ((r.toInt = 1 ∧ 0 ≤ x.toInt ∧ x.toInt < 24) ∨ (r.toInt = 0 ∧ (x.toInt < 0 ∨ 24 ≤ x.toInt)))) := by
  refine sd_ent_z (own := RX5) (by decide) rfl (Nat.le_of_ble_eq_true rfl) (fun X C hret => ?_)
  show sd_Wd X 1 D ad ca σ [(0, .int x)] 0 []
  refine sd_iload_n C dX5_isWho_0 0 rfl rfl ?_
  refine sd_i2l C dX5_isWho_1 (fun g1 eg1 => ?_)
  refine sd_lconst C dX5_isWho_2 (z := 0) (by decide) (fun k2 ek2 => ?_)
  refine sd_ldc2 C dX5_isWho_3 wk_X5_59 (n := 23) (by decide) (fun k3 ek3 => ?_)
  refine sd_pSz C (c_X5_in l D ad ca T σ g1 k2 k3) mv_X5_in wm_X5_61 (by decide) rfl rfl (Nat.le_of_ble_eq_true rfl) dX5_isWho_6 (fun r6 h6 => ?_)
  try dsimp only at h6
  exact hret _ _ _ _ dX5_isWho_9 (by omega) (⟨rfl, by omega⟩)

set_option maxRecDepth 20000 in
set_option maxHeartbeats 4000000 in
theorem c_X5_isClick (l : Launch) (D : va_G) (ad : Nat → Nat) (ca : Nat → ClassId) (T : Nat → Nat) (σ : sd_Mem) (x : Int32) (h0 : 0 ≤ (σ 76 0).toInt) : sd_Cz l yX5_isClick cX5_isClick 2 1 D ad ca T σ [.ref (ad 76), .int x] (fun r σ' => σ' = σ ∧ ((r.toInt = 1 ∧ 0 ≤ x.toInt ∧ x.toInt < (σ 76 0).toInt) ∨ (r.toInt = 0 ∧ (x.toInt < 0 ∨ (σ 76 0).toInt ≤ x.toInt)))) := by
  refine sd_ent_z (own := RX5) (by decide) rfl (Nat.le_of_ble_eq_true rfl) (fun X C hret => ?_)
  show sd_Wd X 2 D ad ca σ [(0, .ref (ad 76)), (1, .int x)] 0 []
  have hg := sd_rng (σ 76 0)
  refine sd_iload_n C dX5_isClick_0 1 rfl rfl ?_
  refine sd_i2l C dX5_isClick_1 (fun g1 eg1 => ?_)
  refine sd_lconst C dX5_isClick_2 (z := 0) (by decide) (fun k2 ek2 => ?_)
  refine sd_aload_n C dX5_isClick_3 0 rfl rfl ?_
  refine sd_get C (by decide) rfl rfl 0 (by decide) rfl wf_X5_65 dX5_isClick_4 ?_
  refine sd_iconst C dX5_isClick_7 (by decide) (fun k7 ek7 => ?_)
  refine sd_isub C dX5_isClick_8 (by omega) (fun z8 ez8 => ?_)
  refine sd_i2l C dX5_isClick_9 (fun g9 eg9 => ?_)
  refine sd_pSz C (c_X5_in l D ad ca T σ g1 k2 g9) mv_X5_in wm_X5_61 (by decide) rfl rfl (Nat.le_of_ble_eq_true rfl) dX5_isClick_10 (fun r10 h10 => ?_)
  try dsimp only at h10
  exact hret _ _ _ _ dX5_isClick_13 (by omega) (⟨rfl, by omega⟩)

set_option maxRecDepth 20000 in
set_option maxHeartbeats 4000000 in
theorem c_X5_isFunnel (l : Launch) (D : va_G) (ad : Nat → Nat) (ca : Nat → ClassId) (T : Nat → Nat) (σ : sd_Mem) (x : Int32) (h0 : 0 ≤ (σ 76 7).toInt) : sd_Cz l yX5_isFunnel cX5_isFunnel 2 1 D ad ca T σ [.ref (ad 76), .int x] (fun r σ' => σ' = σ ∧ ((r.toInt = 1 ∧ 0 ≤ x.toInt ∧ x.toInt < (σ 76 7).toInt) ∨ (r.toInt = 0 ∧ (x.toInt < 0 ∨ (σ 76 7).toInt ≤ x.toInt)))) := by
  refine sd_ent_z (own := RX5) (by decide) rfl (Nat.le_of_ble_eq_true rfl) (fun X C hret => ?_)
  show sd_Wd X 2 D ad ca σ [(0, .ref (ad 76)), (1, .int x)] 0 []
  have hg := sd_rng (σ 76 7)
  refine sd_iload_n C dX5_isFunnel_0 1 rfl rfl ?_
  refine sd_i2l C dX5_isFunnel_1 (fun g1 eg1 => ?_)
  refine sd_lconst C dX5_isFunnel_2 (z := 0) (by decide) (fun k2 ek2 => ?_)
  refine sd_aload_n C dX5_isFunnel_3 0 rfl rfl ?_
  refine sd_get C (by decide) rfl rfl 7 (by decide) rfl wf_X5_130 dX5_isFunnel_4 ?_
  refine sd_iconst C dX5_isFunnel_7 (by decide) (fun k7 ek7 => ?_)
  refine sd_isub C dX5_isFunnel_8 (by omega) (fun z8 ez8 => ?_)
  refine sd_i2l C dX5_isFunnel_9 (fun g9 eg9 => ?_)
  refine sd_pSz C (c_X5_in l D ad ca T σ g1 k2 g9) mv_X5_in wm_X5_61 (by decide) rfl rfl (Nat.le_of_ble_eq_true rfl) dX5_isFunnel_10 (fun r10 h10 => ?_)
  try dsimp only at h10
  exact hret _ _ _ _ dX5_isFunnel_13 (by omega) (⟨rfl, by omega⟩)

set_option maxRecDepth 20000 in
set_option maxHeartbeats 4000000 in
theorem c_X5_personOf (l : Launch) (D : va_G) (ad : Nat → Nat) (ca : Nat → ClassId) (T : Nat → Nat) (σ : sd_Mem) (β : sp_B) (hM : sd_MR σ β) (hG : sd_RG β) (p : Nat) (hp : p < 24) (x : Int32) (hx : x.toInt = (p : Int)) : sd_Ci l yX5_personOf cX5_personOf 2 0 D ad ca T σ [.ref (ad 76), .int x] (fun r σ' => σ' = σ ∧ (r.toInt = β 5 p)) := by
  refine sd_ent_i (own := RX5) (by decide) rfl (Nat.le_of_ble_eq_true rfl) (fun X C hret => ?_)
  show sd_Wd X 2 D ad ca σ [(0, .ref (ad 76)), (1, .int x)] 0 []
  have h1 := hM.2.2.1 p hp
  have h2 := hG.2.2.1 p hp
  refine sd_aload_n C dX5_personOf_0 0 rfl rfl ?_
  refine sd_get C (by decide) rfl rfl 5 (by decide) rfl wf_X5_23 dX5_personOf_1 ?_
  refine sd_iload_n C dX5_personOf_4 1 rfl rfl ?_
  refine sd_iald C (by decide) rfl (p) ⟨by omega, by omega⟩ dX5_personOf_5 ?_
  refine sd_if_lt C 18 dX5_personOf_6 (by decide) (fun c6 => ?_) (fun c6 => ?_)
  · refine sd_iload_n C dX5_personOf_18 1 rfl rfl ?_
    exact hret _ _ _ _ dX5_personOf_19 (⟨rfl, by omega⟩)
  · refine sd_aload_n C dX5_personOf_9 0 rfl rfl ?_
    refine sd_get C (by decide) rfl rfl 5 (by decide) rfl wf_X5_23 dX5_personOf_10 ?_
    refine sd_iload_n C dX5_personOf_13 1 rfl rfl ?_
    refine sd_iald C (by decide) rfl (p) ⟨by omega, by omega⟩ dX5_personOf_14 ?_
    refine sd_goto C 19 dX5_personOf_15 (by decide) ?_
    exact hret _ _ _ _ dX5_personOf_19 (⟨rfl, by omega⟩)

set_option maxRecDepth 20000 in
set_option maxHeartbeats 4000000 in
theorem c_X5_isAhead (l : Launch) (D : va_G) (ad : Nat → Nat) (ca : Nat → ClassId) (T : Nat → Nat) (σ : sd_Mem) (β : sp_B) (hM : sd_MR σ β) (hG : sd_RG β) (a b : Nat) (ha : a < 120) (hb : b < a) (x y : Int32) (hx : x.toInt = (a : Int)) (hy : y.toInt = (b : Int)) : sd_Cz l yX5_isAhead cX5_isAhead 3 0 D ad ca T σ [.ref (ad 76), .int x, .int y] (fun r σ' => σ' = σ ∧ ((r.toInt = 1 ∧ β 1 a < β 1 b) ∨ (r.toInt = 0 ∧ β 1 b ≤ β 1 a))) := by
  refine sd_ent_z (own := RX5) (by decide) rfl (Nat.le_of_ble_eq_true rfl) (fun X C hret => ?_)
  show sd_Wd X 3 D ad ca σ [(0, .ref (ad 76)), (1, .int x), (2, .int y)] 0 []
  have a1 := hM.2.1 a ha
  have b1 := hM.2.1 b (by omega)
  refine sd_aload_n C dX5_isAhead_0 0 rfl rfl ?_
  refine sd_get C (by decide) rfl rfl 1 (by decide) rfl wf_X5_7 dX5_isAhead_1 ?_
  refine sd_iload_n C dX5_isAhead_4 1 rfl rfl ?_
  refine sd_iald C (by decide) rfl (a) ⟨by omega, by omega⟩ dX5_isAhead_5 ?_
  refine sd_aload_n C dX5_isAhead_6 0 rfl rfl ?_
  refine sd_get C (by decide) rfl rfl 1 (by decide) rfl wf_X5_7 dX5_isAhead_7 ?_
  refine sd_iload_n C dX5_isAhead_10 2 rfl rfl ?_
  refine sd_iald C (by decide) rfl (b) ⟨by omega, by omega⟩ dX5_isAhead_11 ?_
  refine sd_icmp_lt C 35 dX5_isAhead_12 (by decide) (fun c12 => ?_) (fun c12 => ?_)
  · refine sd_iconst C dX5_isAhead_35 (by decide) (fun k35 ek35 => ?_)
    refine sd_goto C 40 dX5_isAhead_36 (by decide) ?_
    exact hret _ _ _ _ dX5_isAhead_40 (by omega) (⟨rfl, by omega⟩)
  · refine sd_aload_n C dX5_isAhead_15 0 rfl rfl ?_
    refine sd_get C (by decide) rfl rfl 1 (by decide) rfl wf_X5_7 dX5_isAhead_16 ?_
    refine sd_iload_n C dX5_isAhead_19 1 rfl rfl ?_
    refine sd_iald C (by decide) rfl (a) ⟨by omega, by omega⟩ dX5_isAhead_20 ?_
    refine sd_aload_n C dX5_isAhead_21 0 rfl rfl ?_
    refine sd_get C (by decide) rfl rfl 1 (by decide) rfl wf_X5_7 dX5_isAhead_22 ?_
    refine sd_iload_n C dX5_isAhead_25 2 rfl rfl ?_
    refine sd_iald C (by decide) rfl (b) ⟨by omega, by omega⟩ dX5_isAhead_26 ?_
    refine sd_icmp_ne C 39 dX5_isAhead_27 (by decide) (fun c27 => ?_) (fun c27 => ?_)
    · refine sd_iconst C dX5_isAhead_39 (by decide) (fun k39 ek39 => ?_)
      exact hret _ _ _ _ dX5_isAhead_40 (by omega) (⟨rfl, by omega⟩)
    · refine sd_iload_n C dX5_isAhead_30 1 rfl rfl ?_
      refine sd_iload_n C dX5_isAhead_31 2 rfl rfl ?_
      refine sd_icmp_ge C 39 dX5_isAhead_32 (by decide) (fun c32 => ?_) (fun c32 => ?_)
      · refine sd_iconst C dX5_isAhead_39 (by decide) (fun k39 ek39 => ?_)
        exact hret _ _ _ _ dX5_isAhead_40 (by omega) (⟨rfl, by omega⟩)
      · refine sd_iconst C dX5_isAhead_35 (by decide) (fun k35 ek35 => ?_)
        refine sd_goto C 40 dX5_isAhead_36 (by decide) ?_
        exact hret _ _ _ _ dX5_isAhead_40 (by omega) (⟨rfl, by omega⟩)

set_option maxRecDepth 20000 in
set_option maxHeartbeats 4000000 in
theorem c_X5_isCut (l : Launch) (D : va_G) (ad : Nat → Nat) (ca : Nat → ClassId) (T : Nat → Nat) (σ : sd_Mem) (β : sp_B) (l9 : List Nat) (hW : sd_MW σ β l9) (j : Nat) (h0 : 1 ≤ j) (hj : j < l9.length) (x : Int32) (hx : x.toInt = (j : Int)) : sd_Cz l yX5_isCut cX5_isCut 4 0 D ad ca T σ [.ref (ad 76), .int x] (fun r σ' => σ' = σ ∧ ((r.toInt = 1 ∧ sp_cut β (l9.getD (j - 1) 0) (l9.getD j 0) = true) ∨ (r.toInt = 0 ∧ sp_cut β (l9.getD (j - 1) 0) (l9.getD j 0) = false))) := by
  refine sd_ent_z (own := RX5) (by decide) rfl (Nat.le_of_ble_eq_true rfl) (fun X C hret => ?_)
  show sd_Wd X 4 D ad ca σ [(0, .ref (ad 76)), (1, .int x)] 0 []
  have hl9 := hW.2.2.2.2.1
  obtain ⟨hM, hG, -⟩ := id hW
  have t1 := hW.at hj
  have t2 := hW.at (j := j - 1) (by omega)
  have u0 := hM.2.2.2.1 0 (by decide)
  have u1 := hM.2.2.2.1 1 (by decide)
  have u2 := hM.2.2.2.1 2 (by decide)
  refine sd_aload_n C dX5_isCut_0 0 rfl rfl ?_
  refine sd_get C (by decide) rfl rfl 13 (by decide) rfl wf_X5_44 dX5_isCut_1 ?_
  refine sd_iload_n C dX5_isCut_4 1 rfl rfl ?_
  refine sd_iconst C dX5_isCut_5 (by decide) (fun k5 ek5 => ?_)
  refine sd_isub C dX5_isCut_6 (by omega) (fun z6 ez6 => ?_)
  refine sd_iald C (by decide) rfl ((j - 1)) ⟨by omega, by omega⟩ dX5_isCut_7 ?_
  refine sd_istore_n (lv' := [(2, .int (σ 88 ((j - 1)))), (0, .ref (ad 76)), (1, .int x)]) C dX5_isCut_8 rfl (by decide) rfl ?_
  refine sd_aload_n C dX5_isCut_9 1 rfl rfl ?_
  refine sd_get C (by decide) rfl rfl 13 (by decide) rfl wf_X5_44 dX5_isCut_10 ?_
  refine sd_iload_n C dX5_isCut_13 2 rfl rfl ?_
  refine sd_iald C (by decide) rfl (j) ⟨by omega, by omega⟩ dX5_isCut_14 ?_
  refine sd_istore_n (lv' := [(3, .int (σ 88 (j))), (2, .int (σ 88 ((j - 1)))), (0, .ref (ad 76)), (1, .int x)]) C dX5_isCut_15 rfl (by decide) rfl ?_
  refine sd_aload_n C dX5_isCut_16 2 rfl rfl ?_
  refine sd_get C (by decide) rfl rfl 1 (by decide) rfl wf_X5_7 dX5_isCut_17 ?_
  refine sd_iload_n C dX5_isCut_20 0 rfl rfl ?_
  refine sd_iald C (by decide) rfl (l9.getD j 0) ⟨by omega, by omega⟩ dX5_isCut_21 ?_
  refine sd_aload_n C dX5_isCut_22 2 rfl rfl ?_
  refine sd_get C (by decide) rfl rfl 1 (by decide) rfl wf_X5_7 dX5_isCut_23 ?_
  refine sd_iload_n C dX5_isCut_26 1 rfl rfl ?_
  refine sd_iald C (by decide) rfl (l9.getD (j - 1) 0) ⟨by omega, by omega⟩ dX5_isCut_27 ?_
  refine sd_isub C dX5_isCut_28 (by omega) (fun z28 ez28 => ?_)
  refine sd_aload_n C dX5_isCut_29 2 rfl rfl ?_
  refine sd_get C (by decide) rfl rfl 6 (by decide) rfl wf_X5_26 dX5_isCut_30 ?_
  refine sd_iconst C dX5_isCut_33 (by decide) (fun k33 ek33 => ?_)
  refine sd_iald C (by decide) rfl (0) ⟨by omega, by omega⟩ dX5_isCut_34 ?_
  refine sd_icmp_gt C 86 dX5_isCut_35 (by decide) (fun c35 => ?_) (fun c35 => ?_)
  · refine sd_iconst C dX5_isCut_86 (by decide) (fun k86 ek86 => ?_)
    refine sd_goto C 91 dX5_isCut_87 (by decide) ?_
    exact hret _ _ _ _ dX5_isCut_91 (by omega) (⟨rfl, Or.inl ⟨by omega, sp_cut_t (by omega)⟩⟩)
  · refine sd_aload_n C dX5_isCut_38 2 rfl rfl ?_
    refine sd_get C (by decide) rfl rfl 6 (by decide) rfl wf_X5_26 dX5_isCut_39 ?_
    refine sd_iconst C dX5_isCut_42 (by decide) (fun k42 ek42 => ?_)
    refine sd_iald C (by decide) rfl (1) ⟨by omega, by omega⟩ dX5_isCut_43 ?_
    refine sd_iconst C dX5_isCut_44 (by decide) (fun k44 ek44 => ?_)
    refine sd_icmp_ne C 71 dX5_isCut_45 (by decide) (fun c45 => ?_) (fun c45 => ?_)
    · refine sd_aload_n C dX5_isCut_71 2 rfl rfl ?_
      refine sd_get C (by decide) rfl rfl 3 (by decide) rfl wf_X5_16 dX5_isCut_72 ?_
      refine sd_iload_n C dX5_isCut_75 1 rfl rfl ?_
      refine sd_iald C (by decide) rfl (l9.getD (j - 1) 0) ⟨by omega, by omega⟩ dX5_isCut_76 ?_
      refine sd_aload_n C dX5_isCut_77 2 rfl rfl ?_
      refine sd_get C (by decide) rfl rfl 6 (by decide) rfl wf_X5_26 dX5_isCut_78 ?_
      refine sd_iconst C dX5_isCut_81 (by decide) (fun k81 ek81 => ?_)
      refine sd_iald C (by decide) rfl (2) ⟨by omega, by omega⟩ dX5_isCut_82 ?_
      refine sd_icmp_ne C 90 dX5_isCut_83 (by decide) (fun c83 => ?_) (fun c83 => ?_)
      · refine sd_iconst C dX5_isCut_90 (by decide) (fun k90 ek90 => ?_)
        exact hret _ _ _ _ dX5_isCut_91 (by omega) (⟨rfl, Or.inr ⟨by omega, sp_cut_f (by omega)⟩⟩)
      · refine sd_iconst C dX5_isCut_86 (by decide) (fun k86 ek86 => ?_)
        refine sd_goto C 91 dX5_isCut_87 (by decide) ?_
        exact hret _ _ _ _ dX5_isCut_91 (by omega) (⟨rfl, Or.inl ⟨by omega, sp_cut_t (by omega)⟩⟩)
    · refine sd_aload_n C dX5_isCut_48 2 rfl rfl ?_
      refine sd_get C (by decide) rfl rfl 1 (by decide) rfl wf_X5_7 dX5_isCut_49 ?_
      refine sd_iload_n C dX5_isCut_52 1 rfl rfl ?_
      refine sd_iald C (by decide) rfl (l9.getD (j - 1) 0) ⟨by omega, by omega⟩ dX5_isCut_53 ?_
      refine sd_sipush C dX5_isCut_54 (by decide) (fun k54 ek54 => ?_)
      refine sd_idiv C 1440 (by decide) dX5_isCut_57 ek54 (by omega) (fun z57 ez57 => ?_)
      refine sd_aload_n C dX5_isCut_58 2 rfl rfl ?_
      refine sd_get C (by decide) rfl rfl 1 (by decide) rfl wf_X5_7 dX5_isCut_59 ?_
      refine sd_iload_n C dX5_isCut_62 0 rfl rfl ?_
      refine sd_iald C (by decide) rfl (l9.getD j 0) ⟨by omega, by omega⟩ dX5_isCut_63 ?_
      refine sd_sipush C dX5_isCut_64 (by decide) (fun k64 ek64 => ?_)
      refine sd_idiv C 1440 (by decide) dX5_isCut_67 ek64 (by omega) (fun z67 ez67 => ?_)
      refine sd_icmp_ne C 86 dX5_isCut_68 (by decide) (fun c68 => ?_) (fun c68 => ?_)
      · refine sd_iconst C dX5_isCut_86 (by decide) (fun k86 ek86 => ?_)
        refine sd_goto C 91 dX5_isCut_87 (by decide) ?_
        exact hret _ _ _ _ dX5_isCut_91 (by omega) (⟨rfl, Or.inl ⟨by omega, sp_cut_t (by omega)⟩⟩)
      · refine sd_aload_n C dX5_isCut_71 2 rfl rfl ?_
        refine sd_get C (by decide) rfl rfl 3 (by decide) rfl wf_X5_16 dX5_isCut_72 ?_
        refine sd_iload_n C dX5_isCut_75 1 rfl rfl ?_
        refine sd_iald C (by decide) rfl (l9.getD (j - 1) 0) ⟨by omega, by omega⟩ dX5_isCut_76 ?_
        refine sd_aload_n C dX5_isCut_77 2 rfl rfl ?_
        refine sd_get C (by decide) rfl rfl 6 (by decide) rfl wf_X5_26 dX5_isCut_78 ?_
        refine sd_iconst C dX5_isCut_81 (by decide) (fun k81 ek81 => ?_)
        refine sd_iald C (by decide) rfl (2) ⟨by omega, by omega⟩ dX5_isCut_82 ?_
        refine sd_icmp_ne C 90 dX5_isCut_83 (by decide) (fun c83 => ?_) (fun c83 => ?_)
        · refine sd_iconst C dX5_isCut_90 (by decide) (fun k90 ek90 => ?_)
          exact hret _ _ _ _ dX5_isCut_91 (by omega) (⟨rfl, Or.inr ⟨by omega, sp_cut_f (by omega)⟩⟩)
        · refine sd_iconst C dX5_isCut_86 (by decide) (fun k86 ek86 => ?_)
          refine sd_goto C 91 dX5_isCut_87 (by decide) ?_
          exact hret _ _ _ _ dX5_isCut_91 (by omega) (⟨rfl, Or.inl ⟨by omega, sp_cut_t (by omega)⟩⟩)

set_option maxRecDepth 20000 in
set_option maxHeartbeats 4000000 in
theorem c_X5_gather (l : Launch) (D : va_G) (ad : Nat → Nat) (ca : Nat → ClassId) (T : Nat → Nat) (σ : sd_Mem) (β : sp_B) (hM : sd_MR σ β) (hG : sd_RG β) (p : Nat) (hp : p < 24) (x : Int32) (hx : x.toInt = (p : Int)) : sd_Cv l yX5_gather cX5_gather 4 1 D ad ca T σ [.ref (ad 76), .int x] (fun σ' => sd_GA σ' β p ∧ ∀ a k, a ≠ 88 → a ≠ 89 → ¬ (a = 76 ∧ (k = 15 ∨ k = 16 ∨ k = 17)) → σ' a k = σ a k) := by
  refine sd_ent_v (own := RX5) (by decide) rfl (Nat.le_of_ble_eq_true rfl) (fun X C hret => ?_)
  show sd_Wd X 4 D ad ca σ [(0, .ref (ad 76)), (1, .int x)] 0 []
  have hN := sp_n_le hG
  obtain ⟨rt, hrt⟩ : ∃ rt : Nat, β 6 3 = (rt : Int) := ⟨(β 6 3).toNat, by have := hG.2.2.2.1; omega⟩
  have hru := hG.2.2.2.1
  have hrw := sp_raw_ok hG p
  have hro := sp_row_ok hG p
  refine sd_aload_n C dX5_gather_0 0 rfl rfl ?_
  refine sd_iconst C dX5_gather_1 (by decide) (fun k1 ek1 => ?_)
  refine sd_put C (ty := .int) (by decide) rfl rfl 15 (by decide) rfl (by decide +kernel) rfl rfl (Nat.le_of_ble_eq_true rfl) (fun _ => rfl) wf_X5_86 dX5_gather_2 (fun s2 es2 => ?_)
  refine sd_iconst C dX5_gather_5 (by decide) (fun k5 ek5 => ?_)
  refine sd_istore_n (lv' := [(2, .int k5), (0, .ref (ad 76)), (1, .int x)]) C dX5_gather_6 rfl (by decide) rfl ?_
  have key7 : ∀ (fu7 : Nat) (x2 : Int32) (c : Nat) (τ : sd_Mem), (x2.toInt = (c : Int)) → (c ≤ sp_n β) → (sd_g1 σ β p τ c) → (sp_n β - c < fu7) → sd_Wd X 4 D ad ca τ [(2, .int x2), (0, .ref (ad 76)), (1, .int x)] 7 [] := by
    intro fu7
    induction fu7 with
    | zero => intro x2 c τ h2 hc H hm7; exact absurd hm7 (Nat.not_lt_zero _)
    | succ fu7 ih7 =>
      intro x2 c τ h2 hc H hm7
      have hMt := sd_MR_fr (sd_g1_keep H) hM
      have hn1 := hMt.1.1
      have hgl := sp_gr_len (β 1) (sp_cnts β p) c
      obtain ⟨m, hm⟩ : ∃ m, m = (sp_gr (β 1) (sp_cnts β p) c).length := ⟨_, rfl⟩
      have hrm := H.2.1
      rw [← hm] at hrm hgl
      refine sd_iload_n C dX5_gather_7 0 rfl rfl ?_
      refine sd_aload_n C dX5_gather_8 1 rfl rfl ?_
      refine sd_get C (by decide) rfl rfl 0 (by decide) rfl wf_X5_65 dX5_gather_9 ?_
      refine sd_icmp_ge C 106 dX5_gather_12 (by decide) (fun c12 => ?_) (fun c12 => ?_)
      · refine sd_aload_n C dX5_gather_106 1 rfl rfl ?_
        refine sd_iconst C dX5_gather_107 (by decide) (fun k107 ek107 => ?_)
        refine sd_put C (ty := .boolean) (by decide) rfl rfl 17 (by decide) rfl (by decide +kernel) (sd_nb (by omega)) (sd_fb (by omega)) (Nat.le_of_ble_eq_true rfl) (fun _ => rfl) wf_X5_97 dX5_gather_108 (fun s108 es108 => ?_)
        have u3 : (s108 82 3).toInt = β 6 3 := by rw [es108, sd_st_ne (by decide)]; exact hMt.2.2.2.1 3 (by decide)
        refine sd_aload_n C dX5_gather_111 1 rfl rfl ?_
        refine sd_get C (by decide) rfl rfl 6 (by decide) rfl wf_X5_26 dX5_gather_112 ?_
        refine sd_iconst C dX5_gather_115 (by decide) (fun k115 ek115 => ?_)
        refine sd_iald C (by decide) rfl (3) ⟨by omega, by omega⟩ dX5_gather_116 ?_
        refine sd_istore_n (lv' := [(2, .int (s108 82 (3))), (0, .ref (ad 76)), (1, .int x)]) C dX5_gather_117 rfl (by decide) rfl ?_
        refine sd_iconst C dX5_gather_118 (by decide) (fun k118 ek118 => ?_)
        refine sd_istore_n (lv' := [(3, .int k118), (2, .int (s108 82 (3))), (0, .ref (ad 76)), (1, .int x)]) C dX5_gather_119 rfl (by decide) rfl ?_
        have key120 : ∀ (fu120 : Nat) (y3 : Int32) (i : Nat) (υ : sd_Mem), (y3.toInt = (i : Int)) → (i ≤ 120) → (sd_g2 σ β p υ i rt) → (121 - i < fu120) → sd_Wd X 4 D ad ca υ [(3, .int y3), (2, .int (s108 82 (3))), (0, .ref (ad 76)), (1, .int x)] 120 [] := by
          intro fu120
          induction fu120 with
          | zero => intro y3 i υ h3 hi H2 hm120; exact absurd hm120 (Nat.not_lt_zero _)
          | succ fu120 ih120 =>
            intro y3 i υ h3 hi H2 hm120
            have hMu := sd_MR_fr (sd_g2_keep H2) hM
            have u4 := hMu.2.2.2.1 4 (by decide)
            have hrm2 := H2.2.1
            have hWr : sd_MW υ β (sp_raw β p) := ⟨hMu, hG, hrm2, H2.2.2.1, hrw⟩
            have key190 : (rt = 0 ∨ (sp_raw β p).length ≤ i + rt) → sd_Wd X 4 D ad ca υ [(3, .int y3), (2, .int (s108 82 (3))), (0, .ref (ad 76)), (1, .int x)] 190 [] := by
                intro  hend
                have hq1 := sd_rng (υ 76 17)
                refine sd_aload_n C dX5_gather_190 2 rfl rfl ?_
                refine sd_aload_n C dX5_gather_191 2 rfl rfl ?_
                refine sd_get C (by decide) rfl rfl 17 (by decide) rfl wf_X5_97 dX5_gather_192 ?_
                refine sd_if_eq C 202 dX5_gather_195 (by decide) (fun c195 => ?_) (fun c195 => ?_)
                · refine sd_aload_n C dX5_gather_202 2 rfl rfl ?_
                  refine sd_get C (by decide) rfl rfl 15 (by decide) rfl wf_X5_86 dX5_gather_203 ?_
                  refine sd_put C (ty := .int) (by decide) rfl rfl 15 (by decide) rfl (by decide +kernel) rfl rfl (Nat.le_of_ble_eq_true rfl) (fun _ => rfl) wf_X5_86 dX5_gather_206 (fun s206 es206 => ?_)
                  refine sd_aload_n C dX5_gather_209 2 rfl rfl ?_
                  refine sd_iconst C dX5_gather_210 (by decide) (fun k210 ek210 => ?_)
                  refine sd_put C (ty := .int) (by decide) rfl rfl 16 (by decide) rfl (by decide +kernel) rfl rfl (Nat.le_of_ble_eq_true rfl) (fun _ => rfl) wf_X5_101 dX5_gather_211 (fun s211 es211 => ?_)
                  refine sd_iconst C dX5_gather_214 (by decide) (fun k214 ek214 => ?_)
                  refine sd_istore_n (lv' := [(3, .int k214), (2, .int (s108 82 (3))), (0, .ref (ad 76)), (1, .int x)]) C dX5_gather_215 rfl (by decide) rfl ?_
                  have key216 : ∀ (fu216 : Nat) (w3 : Int32) (j : Nat) (υ : sd_Mem), (w3.toInt = (j : Int)) → (j ≤ (sp_row β p).length) → (sd_g3 σ β p υ j) → ((sp_row β p).length - j < fu216) → sd_Wd X 4 D ad ca υ [(3, .int w3), (0, .ref (ad 76)), (1, .int x)] 216 [] := by
                    intro fu216
                    induction fu216 with
                    | zero => intro w3 j υ h3 hj H3 hm216; exact absurd hm216 (Nat.not_lt_zero _)
                    | succ fu216 ih216 =>
                      intro w3 j υ h3 hj H3 hm216
                      have hMu := sd_MR_fr (sd_g3_keep H3) hM
                      have hrm2 := H3.2.1
                      have hsn := H3.2.2.2.2.1
                      have hWj : sd_MW υ β (sp_row β p) := ⟨hMu, hG, hrm2, H3.2.2.1, hro⟩
                      have hb1 := sp_ns_le β (sp_row β p) j
                      have hb2 := sp_ns_le β (sp_row β p) (j + 1)
                      have hb3 := sp_ns_pos β (sp_row β p) j
                      refine sd_iload_n C dX5_gather_216 0 rfl rfl ?_
                      refine sd_aload_n C dX5_gather_217 1 rfl rfl ?_
                      refine sd_get C (by decide) rfl rfl 15 (by decide) rfl wf_X5_86 dX5_gather_218 ?_
                      refine sd_icmp_ge C 268 dX5_gather_221 (by decide) (fun c221 => ?_) (fun c221 => ?_)
                      · exact hret _ _ _ dX5_gather_268 (sd_g3_end (by rw [show (sp_row β p).length = j by omega]; exact H3))
                      · refine sd_aload_n C dX5_gather_224 1 rfl rfl ?_
                        refine sd_dup C dX5_gather_225 rfl ?_
                        refine sd_get C (by decide) rfl rfl 16 (by decide) rfl wf_X5_101 dX5_gather_226 ?_
                        refine sd_iload_n C dX5_gather_229 0 rfl rfl ?_
                        refine sd_if_eq C 241 dX5_gather_230 (by decide) (fun c230 => ?_) (fun c230 => ?_)
                        · refine sd_iconst C dX5_gather_241 (by decide) (fun k241 ek241 => ?_)
                          refine sd_goto C 246 dX5_gather_242 (by decide) ?_
                          refine sd_iadd C dX5_gather_246 (by omega) (fun z246 ez246 => ?_)
                          have hns : z246.toInt = (sp_ns β (sp_row β p) (j + 1) : Int) := by
                            first
                              | (rw [sp_ns_s (by left; omega)]; omega)
                              | (rw [sp_ns_s (by right; rcases h235 with q | q; exact q.2; exact absurd q.1 (by omega))]; omega)
                              | (rw [sp_ns_k (by omega) (by rcases h235 with q | q; exact absurd q.1 (by omega); exact q.2)]; omega)
                          refine sd_put C (ty := .int) (by decide) rfl rfl 16 (by decide) rfl (by decide +kernel) rfl rfl (Nat.le_of_ble_eq_true rfl) (fun _ => rfl) wf_X5_101 dX5_gather_247 (fun s247 es247 => ?_)
                          have hs8 : (s247 76 16).toInt = (sp_ns β (sp_row β p) (j + 1) : Int) := by rw [es247, sd_st_at]; exact hns
                          refine sd_aload_n C dX5_gather_250 1 rfl rfl ?_
                          refine sd_get C (by decide) rfl rfl 14 (by decide) rfl wf_X5_47 dX5_gather_251 ?_
                          refine sd_iload_n C dX5_gather_254 0 rfl rfl ?_
                          refine sd_aload_n C dX5_gather_255 1 rfl rfl ?_
                          refine sd_get C (by decide) rfl rfl 16 (by decide) rfl wf_X5_101 dX5_gather_256 ?_
                          refine sd_iconst C dX5_gather_259 (by decide) (fun k259 ek259 => ?_)
                          refine sd_isub C dX5_gather_260 (by omega) (fun z260 ez260 => ?_)
                          refine sd_iast C (by decide) (fun _ => rfl) (j) ⟨by omega, by omega⟩ dX5_gather_261 (fun s261 es261 => ?_)
                          refine sd_iinc C dX5_gather_262 0 rfl (by decide) (by decide) (by omega) (fun zz => [(3, .int zz), (0, .ref (ad 76)), (1, .int x)]) (fun _ => rfl) (fun u262 eu262 => ?_)
                          refine sd_goto C 216 dX5_gather_265 (by decide) ?_
                          exact ih216 u262 (j + 1) s261 (by omega) (by omega) (sd_g3_step H3 es247 hns es261 (by omega)) (by omega)
                        · refine sd_aload_n C dX5_gather_233 1 rfl rfl ?_
                          refine sd_iload_n C dX5_gather_234 0 rfl rfl ?_
                          refine sd_pVz C (c_X5_isCut l D ad ca T υ β (sp_row β p) hWj j (by omega) (by omega) w3 h3) mv_X5_isCut wm_X5_104 (by decide) rfl rfl (by decide) rfl rfl (Nat.le_of_ble_eq_true rfl) dX5_gather_235 (fun r235 h235 => ?_)
                          try dsimp only at h235
                          refine sd_if_eq C 245 dX5_gather_238 (by decide) (fun c238 => ?_) (fun c238 => ?_)
                          · refine sd_iconst C dX5_gather_245 (by decide) (fun k245 ek245 => ?_)
                            refine sd_iadd C dX5_gather_246 (by omega) (fun z246 ez246 => ?_)
                            have hns : z246.toInt = (sp_ns β (sp_row β p) (j + 1) : Int) := by
                              first
                                | (rw [sp_ns_s (by left; omega)]; omega)
                                | (rw [sp_ns_s (by right; rcases h235 with q | q; exact q.2; exact absurd q.1 (by omega))]; omega)
                                | (rw [sp_ns_k (by omega) (by rcases h235 with q | q; exact absurd q.1 (by omega); exact q.2)]; omega)
                            refine sd_put C (ty := .int) (by decide) rfl rfl 16 (by decide) rfl (by decide +kernel) rfl rfl (Nat.le_of_ble_eq_true rfl) (fun _ => rfl) wf_X5_101 dX5_gather_247 (fun s247 es247 => ?_)
                            have hs8 : (s247 76 16).toInt = (sp_ns β (sp_row β p) (j + 1) : Int) := by rw [es247, sd_st_at]; exact hns
                            refine sd_aload_n C dX5_gather_250 1 rfl rfl ?_
                            refine sd_get C (by decide) rfl rfl 14 (by decide) rfl wf_X5_47 dX5_gather_251 ?_
                            refine sd_iload_n C dX5_gather_254 0 rfl rfl ?_
                            refine sd_aload_n C dX5_gather_255 1 rfl rfl ?_
                            refine sd_get C (by decide) rfl rfl 16 (by decide) rfl wf_X5_101 dX5_gather_256 ?_
                            refine sd_iconst C dX5_gather_259 (by decide) (fun k259 ek259 => ?_)
                            refine sd_isub C dX5_gather_260 (by omega) (fun z260 ez260 => ?_)
                            refine sd_iast C (by decide) (fun _ => rfl) (j) ⟨by omega, by omega⟩ dX5_gather_261 (fun s261 es261 => ?_)
                            refine sd_iinc C dX5_gather_262 0 rfl (by decide) (by decide) (by omega) (fun zz => [(3, .int zz), (0, .ref (ad 76)), (1, .int x)]) (fun _ => rfl) (fun u262 eu262 => ?_)
                            refine sd_goto C 216 dX5_gather_265 (by decide) ?_
                            exact ih216 u262 (j + 1) s261 (by omega) (by omega) (sd_g3_step H3 es247 hns es261 (by omega)) (by omega)
                          · refine sd_iconst C dX5_gather_241 (by decide) (fun k241 ek241 => ?_)
                            refine sd_goto C 246 dX5_gather_242 (by decide) ?_
                            refine sd_iadd C dX5_gather_246 (by omega) (fun z246 ez246 => ?_)
                            have hns : z246.toInt = (sp_ns β (sp_row β p) (j + 1) : Int) := by
                              first
                                | (rw [sp_ns_s (by left; omega)]; omega)
                                | (rw [sp_ns_s (by right; rcases h235 with q | q; exact q.2; exact absurd q.1 (by omega))]; omega)
                                | (rw [sp_ns_k (by omega) (by rcases h235 with q | q; exact absurd q.1 (by omega); exact q.2)]; omega)
                            refine sd_put C (ty := .int) (by decide) rfl rfl 16 (by decide) rfl (by decide +kernel) rfl rfl (Nat.le_of_ble_eq_true rfl) (fun _ => rfl) wf_X5_101 dX5_gather_247 (fun s247 es247 => ?_)
                            have hs8 : (s247 76 16).toInt = (sp_ns β (sp_row β p) (j + 1) : Int) := by rw [es247, sd_st_at]; exact hns
                            refine sd_aload_n C dX5_gather_250 1 rfl rfl ?_
                            refine sd_get C (by decide) rfl rfl 14 (by decide) rfl wf_X5_47 dX5_gather_251 ?_
                            refine sd_iload_n C dX5_gather_254 0 rfl rfl ?_
                            refine sd_aload_n C dX5_gather_255 1 rfl rfl ?_
                            refine sd_get C (by decide) rfl rfl 16 (by decide) rfl wf_X5_101 dX5_gather_256 ?_
                            refine sd_iconst C dX5_gather_259 (by decide) (fun k259 ek259 => ?_)
                            refine sd_isub C dX5_gather_260 (by omega) (fun z260 ez260 => ?_)
                            refine sd_iast C (by decide) (fun _ => rfl) (j) ⟨by omega, by omega⟩ dX5_gather_261 (fun s261 es261 => ?_)
                            refine sd_iinc C dX5_gather_262 0 rfl (by decide) (by decide) (by omega) (fun zz => [(3, .int zz), (0, .ref (ad 76)), (1, .int x)]) (fun _ => rfl) (fun u262 eu262 => ?_)
                            refine sd_goto C 216 dX5_gather_265 (by decide) ?_
                            exact ih216 u262 (j + 1) s261 (by omega) (by omega) (sd_g3_step H3 es247 hns es261 (by omega)) (by omega)
                  exact sd_lv (key216 _ k214 0 s211 (by omega) (by omega) (sd_g3_0 hrt H2 hend es206 (by first | (left; exact ⟨by omega, by omega⟩) | (right; exact ⟨rfl, by omega⟩)) es211 ek210) (Nat.lt_succ_self _)) [0, 2, 3] rfl
                · refine sd_iconst C dX5_gather_198 (by decide) (fun k198 ek198 => ?_)
                  refine sd_goto C 206 dX5_gather_199 (by decide) ?_
                  refine sd_put C (ty := .int) (by decide) rfl rfl 15 (by decide) rfl (by decide +kernel) rfl rfl (Nat.le_of_ble_eq_true rfl) (fun _ => rfl) wf_X5_86 dX5_gather_206 (fun s206 es206 => ?_)
                  refine sd_aload_n C dX5_gather_209 2 rfl rfl ?_
                  refine sd_iconst C dX5_gather_210 (by decide) (fun k210 ek210 => ?_)
                  refine sd_put C (ty := .int) (by decide) rfl rfl 16 (by decide) rfl (by decide +kernel) rfl rfl (Nat.le_of_ble_eq_true rfl) (fun _ => rfl) wf_X5_101 dX5_gather_211 (fun s211 es211 => ?_)
                  refine sd_iconst C dX5_gather_214 (by decide) (fun k214 ek214 => ?_)
                  refine sd_istore_n (lv' := [(3, .int k214), (2, .int (s108 82 (3))), (0, .ref (ad 76)), (1, .int x)]) C dX5_gather_215 rfl (by decide) rfl ?_
                  have key216 : ∀ (fu216 : Nat) (w3 : Int32) (j : Nat) (υ : sd_Mem), (w3.toInt = (j : Int)) → (j ≤ (sp_row β p).length) → (sd_g3 σ β p υ j) → ((sp_row β p).length - j < fu216) → sd_Wd X 4 D ad ca υ [(3, .int w3), (0, .ref (ad 76)), (1, .int x)] 216 [] := by
                    intro fu216
                    induction fu216 with
                    | zero => intro w3 j υ h3 hj H3 hm216; exact absurd hm216 (Nat.not_lt_zero _)
                    | succ fu216 ih216 =>
                      intro w3 j υ h3 hj H3 hm216
                      have hMu := sd_MR_fr (sd_g3_keep H3) hM
                      have hrm2 := H3.2.1
                      have hsn := H3.2.2.2.2.1
                      have hWj : sd_MW υ β (sp_row β p) := ⟨hMu, hG, hrm2, H3.2.2.1, hro⟩
                      have hb1 := sp_ns_le β (sp_row β p) j
                      have hb2 := sp_ns_le β (sp_row β p) (j + 1)
                      have hb3 := sp_ns_pos β (sp_row β p) j
                      refine sd_iload_n C dX5_gather_216 0 rfl rfl ?_
                      refine sd_aload_n C dX5_gather_217 1 rfl rfl ?_
                      refine sd_get C (by decide) rfl rfl 15 (by decide) rfl wf_X5_86 dX5_gather_218 ?_
                      refine sd_icmp_ge C 268 dX5_gather_221 (by decide) (fun c221 => ?_) (fun c221 => ?_)
                      · exact hret _ _ _ dX5_gather_268 (sd_g3_end (by rw [show (sp_row β p).length = j by omega]; exact H3))
                      · refine sd_aload_n C dX5_gather_224 1 rfl rfl ?_
                        refine sd_dup C dX5_gather_225 rfl ?_
                        refine sd_get C (by decide) rfl rfl 16 (by decide) rfl wf_X5_101 dX5_gather_226 ?_
                        refine sd_iload_n C dX5_gather_229 0 rfl rfl ?_
                        refine sd_if_eq C 241 dX5_gather_230 (by decide) (fun c230 => ?_) (fun c230 => ?_)
                        · refine sd_iconst C dX5_gather_241 (by decide) (fun k241 ek241 => ?_)
                          refine sd_goto C 246 dX5_gather_242 (by decide) ?_
                          refine sd_iadd C dX5_gather_246 (by omega) (fun z246 ez246 => ?_)
                          have hns : z246.toInt = (sp_ns β (sp_row β p) (j + 1) : Int) := by
                            first
                              | (rw [sp_ns_s (by left; omega)]; omega)
                              | (rw [sp_ns_s (by right; rcases h235 with q | q; exact q.2; exact absurd q.1 (by omega))]; omega)
                              | (rw [sp_ns_k (by omega) (by rcases h235 with q | q; exact absurd q.1 (by omega); exact q.2)]; omega)
                          refine sd_put C (ty := .int) (by decide) rfl rfl 16 (by decide) rfl (by decide +kernel) rfl rfl (Nat.le_of_ble_eq_true rfl) (fun _ => rfl) wf_X5_101 dX5_gather_247 (fun s247 es247 => ?_)
                          have hs8 : (s247 76 16).toInt = (sp_ns β (sp_row β p) (j + 1) : Int) := by rw [es247, sd_st_at]; exact hns
                          refine sd_aload_n C dX5_gather_250 1 rfl rfl ?_
                          refine sd_get C (by decide) rfl rfl 14 (by decide) rfl wf_X5_47 dX5_gather_251 ?_
                          refine sd_iload_n C dX5_gather_254 0 rfl rfl ?_
                          refine sd_aload_n C dX5_gather_255 1 rfl rfl ?_
                          refine sd_get C (by decide) rfl rfl 16 (by decide) rfl wf_X5_101 dX5_gather_256 ?_
                          refine sd_iconst C dX5_gather_259 (by decide) (fun k259 ek259 => ?_)
                          refine sd_isub C dX5_gather_260 (by omega) (fun z260 ez260 => ?_)
                          refine sd_iast C (by decide) (fun _ => rfl) (j) ⟨by omega, by omega⟩ dX5_gather_261 (fun s261 es261 => ?_)
                          refine sd_iinc C dX5_gather_262 0 rfl (by decide) (by decide) (by omega) (fun zz => [(3, .int zz), (0, .ref (ad 76)), (1, .int x)]) (fun _ => rfl) (fun u262 eu262 => ?_)
                          refine sd_goto C 216 dX5_gather_265 (by decide) ?_
                          exact ih216 u262 (j + 1) s261 (by omega) (by omega) (sd_g3_step H3 es247 hns es261 (by omega)) (by omega)
                        · refine sd_aload_n C dX5_gather_233 1 rfl rfl ?_
                          refine sd_iload_n C dX5_gather_234 0 rfl rfl ?_
                          refine sd_pVz C (c_X5_isCut l D ad ca T υ β (sp_row β p) hWj j (by omega) (by omega) w3 h3) mv_X5_isCut wm_X5_104 (by decide) rfl rfl (by decide) rfl rfl (Nat.le_of_ble_eq_true rfl) dX5_gather_235 (fun r235 h235 => ?_)
                          try dsimp only at h235
                          refine sd_if_eq C 245 dX5_gather_238 (by decide) (fun c238 => ?_) (fun c238 => ?_)
                          · refine sd_iconst C dX5_gather_245 (by decide) (fun k245 ek245 => ?_)
                            refine sd_iadd C dX5_gather_246 (by omega) (fun z246 ez246 => ?_)
                            have hns : z246.toInt = (sp_ns β (sp_row β p) (j + 1) : Int) := by
                              first
                                | (rw [sp_ns_s (by left; omega)]; omega)
                                | (rw [sp_ns_s (by right; rcases h235 with q | q; exact q.2; exact absurd q.1 (by omega))]; omega)
                                | (rw [sp_ns_k (by omega) (by rcases h235 with q | q; exact absurd q.1 (by omega); exact q.2)]; omega)
                            refine sd_put C (ty := .int) (by decide) rfl rfl 16 (by decide) rfl (by decide +kernel) rfl rfl (Nat.le_of_ble_eq_true rfl) (fun _ => rfl) wf_X5_101 dX5_gather_247 (fun s247 es247 => ?_)
                            have hs8 : (s247 76 16).toInt = (sp_ns β (sp_row β p) (j + 1) : Int) := by rw [es247, sd_st_at]; exact hns
                            refine sd_aload_n C dX5_gather_250 1 rfl rfl ?_
                            refine sd_get C (by decide) rfl rfl 14 (by decide) rfl wf_X5_47 dX5_gather_251 ?_
                            refine sd_iload_n C dX5_gather_254 0 rfl rfl ?_
                            refine sd_aload_n C dX5_gather_255 1 rfl rfl ?_
                            refine sd_get C (by decide) rfl rfl 16 (by decide) rfl wf_X5_101 dX5_gather_256 ?_
                            refine sd_iconst C dX5_gather_259 (by decide) (fun k259 ek259 => ?_)
                            refine sd_isub C dX5_gather_260 (by omega) (fun z260 ez260 => ?_)
                            refine sd_iast C (by decide) (fun _ => rfl) (j) ⟨by omega, by omega⟩ dX5_gather_261 (fun s261 es261 => ?_)
                            refine sd_iinc C dX5_gather_262 0 rfl (by decide) (by decide) (by omega) (fun zz => [(3, .int zz), (0, .ref (ad 76)), (1, .int x)]) (fun _ => rfl) (fun u262 eu262 => ?_)
                            refine sd_goto C 216 dX5_gather_265 (by decide) ?_
                            exact ih216 u262 (j + 1) s261 (by omega) (by omega) (sd_g3_step H3 es247 hns es261 (by omega)) (by omega)
                          · refine sd_iconst C dX5_gather_241 (by decide) (fun k241 ek241 => ?_)
                            refine sd_goto C 246 dX5_gather_242 (by decide) ?_
                            refine sd_iadd C dX5_gather_246 (by omega) (fun z246 ez246 => ?_)
                            have hns : z246.toInt = (sp_ns β (sp_row β p) (j + 1) : Int) := by
                              first
                                | (rw [sp_ns_s (by left; omega)]; omega)
                                | (rw [sp_ns_s (by right; rcases h235 with q | q; exact q.2; exact absurd q.1 (by omega))]; omega)
                                | (rw [sp_ns_k (by omega) (by rcases h235 with q | q; exact absurd q.1 (by omega); exact q.2)]; omega)
                            refine sd_put C (ty := .int) (by decide) rfl rfl 16 (by decide) rfl (by decide +kernel) rfl rfl (Nat.le_of_ble_eq_true rfl) (fun _ => rfl) wf_X5_101 dX5_gather_247 (fun s247 es247 => ?_)
                            have hs8 : (s247 76 16).toInt = (sp_ns β (sp_row β p) (j + 1) : Int) := by rw [es247, sd_st_at]; exact hns
                            refine sd_aload_n C dX5_gather_250 1 rfl rfl ?_
                            refine sd_get C (by decide) rfl rfl 14 (by decide) rfl wf_X5_47 dX5_gather_251 ?_
                            refine sd_iload_n C dX5_gather_254 0 rfl rfl ?_
                            refine sd_aload_n C dX5_gather_255 1 rfl rfl ?_
                            refine sd_get C (by decide) rfl rfl 16 (by decide) rfl wf_X5_101 dX5_gather_256 ?_
                            refine sd_iconst C dX5_gather_259 (by decide) (fun k259 ek259 => ?_)
                            refine sd_isub C dX5_gather_260 (by omega) (fun z260 ez260 => ?_)
                            refine sd_iast C (by decide) (fun _ => rfl) (j) ⟨by omega, by omega⟩ dX5_gather_261 (fun s261 es261 => ?_)
                            refine sd_iinc C dX5_gather_262 0 rfl (by decide) (by decide) (by omega) (fun zz => [(3, .int zz), (0, .ref (ad 76)), (1, .int x)]) (fun _ => rfl) (fun u262 eu262 => ?_)
                            refine sd_goto C 216 dX5_gather_265 (by decide) ?_
                            exact ih216 u262 (j + 1) s261 (by omega) (by omega) (sd_g3_step H3 es247 hns es261 (by omega)) (by omega)
                  exact sd_lv (key216 _ k214 0 s211 (by omega) (by omega) (sd_g3_0 hrt H2 hend es206 (by first | (left; exact ⟨by omega, by omega⟩) | (right; exact ⟨rfl, by omega⟩)) es211 ek210) (Nat.lt_succ_self _)) [0, 2, 3] rfl
            
            refine sd_iload_n C dX5_gather_120 1 rfl rfl ?_
            refine sd_if_le C 190 dX5_gather_121 (by decide) (fun c121 => ?_) (fun c121 => ?_)
            · exact key190  (by omega)
            · refine sd_iload_n C dX5_gather_124 0 rfl rfl ?_
              refine sd_iload_n C dX5_gather_125 1 rfl rfl ?_
              refine sd_iadd C dX5_gather_126 (by omega) (fun z126 ez126 => ?_)
              refine sd_aload_n C dX5_gather_127 2 rfl rfl ?_
              refine sd_get C (by decide) rfl rfl 15 (by decide) rfl wf_X5_86 dX5_gather_128 ?_
              refine sd_icmp_ge C 190 dX5_gather_131 (by decide) (fun c131 => ?_) (fun c131 => ?_)
              · exact key190  (by omega)
              · refine sd_aload_n C dX5_gather_134 2 rfl rfl ?_
                refine sd_aload_n C dX5_gather_135 2 rfl rfl ?_
                refine sd_get C (by decide) rfl rfl 17 (by decide) rfl wf_X5_97 dX5_gather_136 ?_
                refine sd_if_ne C 176 dX5_gather_139 (by decide) (fun c139 => ?_) (fun c139 => ?_)
                · refine sd_iconst C dX5_gather_176 (by decide) (fun k176 ek176 => ?_)
                  refine sd_goto C 181 dX5_gather_177 (by decide) ?_
                  refine sd_put C (ty := .boolean) (by decide) rfl rfl 17 (by decide) rfl (by decide +kernel) (sd_nb (by omega)) (sd_fb (by omega)) (Nat.le_of_ble_eq_true rfl) (fun _ => rfl) wf_X5_97 dX5_gather_181 (fun s181 es181 => ?_)
                  refine sd_iinc C dX5_gather_184 0 rfl (by decide) (by decide) (by omega) (fun zz => [(3, .int zz), (2, .int (s108 82 (3))), (0, .ref (ad 76)), (1, .int x)]) (fun _ => rfl) (fun u184 eu184 => ?_)
                  refine sd_goto C 120 dX5_gather_187 (by decide) ?_
                  exact ih120 u184 (i + 1) s181 (by omega) (by omega) (sd_g2_step H2 es181 (by first | (left; exact ⟨by omega, by rcases H2.2.2.2 with q | q; exact q.2; exact absurd q.1 (by omega)⟩) | (left; exact ⟨by omega, sp_quick_true (i := i) hrt (by omega) (by omega) (by omega)⟩) | (right; exact ⟨by omega, by omega, by omega⟩))) (by omega)
                · have t1 := hWr.at (j := i) (by omega)
                  have t2 := hWr.at (j := i + rt) (by omega)
                  refine sd_aload_n C dX5_gather_142 2 rfl rfl ?_
                  refine sd_get C (by decide) rfl rfl 1 (by decide) rfl wf_X5_7 dX5_gather_143 ?_
                  refine sd_aload_n C dX5_gather_146 2 rfl rfl ?_
                  refine sd_get C (by decide) rfl rfl 13 (by decide) rfl wf_X5_44 dX5_gather_147 ?_
                  refine sd_iload_n C dX5_gather_150 0 rfl rfl ?_
                  refine sd_iload_n C dX5_gather_151 1 rfl rfl ?_
                  refine sd_iadd C dX5_gather_152 (by omega) (fun z152 ez152 => ?_)
                  refine sd_iald C (by decide) rfl ((i + rt)) ⟨by omega, by omega⟩ dX5_gather_153 ?_
                  refine sd_iald C (by decide) rfl ((sp_raw β p).getD (i + rt) 0) ⟨by omega, by omega⟩ dX5_gather_154 ?_
                  refine sd_aload_n C dX5_gather_155 2 rfl rfl ?_
                  refine sd_get C (by decide) rfl rfl 1 (by decide) rfl wf_X5_7 dX5_gather_156 ?_
                  refine sd_aload_n C dX5_gather_159 2 rfl rfl ?_
                  refine sd_get C (by decide) rfl rfl 13 (by decide) rfl wf_X5_44 dX5_gather_160 ?_
                  refine sd_iload_n C dX5_gather_163 0 rfl rfl ?_
                  refine sd_iald C (by decide) rfl (i) ⟨by omega, by omega⟩ dX5_gather_164 ?_
                  refine sd_iald C (by decide) rfl ((sp_raw β p).getD i 0) ⟨by omega, by omega⟩ dX5_gather_165 ?_
                  refine sd_isub C dX5_gather_166 (by omega) (fun z166 ez166 => ?_)
                  refine sd_aload_n C dX5_gather_167 2 rfl rfl ?_
                  refine sd_get C (by decide) rfl rfl 6 (by decide) rfl wf_X5_26 dX5_gather_168 ?_
                  refine sd_iconst C dX5_gather_171 (by decide) (fun k171 ek171 => ?_)
                  refine sd_iald C (by decide) rfl (4) ⟨by omega, by omega⟩ dX5_gather_172 ?_
                  refine sd_icmp_ge C 180 dX5_gather_173 (by decide) (fun c173 => ?_) (fun c173 => ?_)
                  · refine sd_iconst C dX5_gather_180 (by decide) (fun k180 ek180 => ?_)
                    refine sd_put C (ty := .boolean) (by decide) rfl rfl 17 (by decide) rfl (by decide +kernel) (sd_nb (by omega)) (sd_fb (by omega)) (Nat.le_of_ble_eq_true rfl) (fun _ => rfl) wf_X5_97 dX5_gather_181 (fun s181 es181 => ?_)
                    refine sd_iinc C dX5_gather_184 0 rfl (by decide) (by decide) (by omega) (fun zz => [(3, .int zz), (2, .int (s108 82 (3))), (0, .ref (ad 76)), (1, .int x)]) (fun _ => rfl) (fun u184 eu184 => ?_)
                    refine sd_goto C 120 dX5_gather_187 (by decide) ?_
                    exact ih120 u184 (i + 1) s181 (by omega) (by omega) (sd_g2_step H2 es181 (by first | (left; exact ⟨by omega, by rcases H2.2.2.2 with q | q; exact q.2; exact absurd q.1 (by omega)⟩) | (left; exact ⟨by omega, sp_quick_true (i := i) hrt (by omega) (by omega) (by omega)⟩) | (right; exact ⟨by omega, by omega, by omega⟩))) (by omega)
                  · refine sd_iconst C dX5_gather_176 (by decide) (fun k176 ek176 => ?_)
                    refine sd_goto C 181 dX5_gather_177 (by decide) ?_
                    refine sd_put C (ty := .boolean) (by decide) rfl rfl 17 (by decide) rfl (by decide +kernel) (sd_nb (by omega)) (sd_fb (by omega)) (Nat.le_of_ble_eq_true rfl) (fun _ => rfl) wf_X5_97 dX5_gather_181 (fun s181 es181 => ?_)
                    refine sd_iinc C dX5_gather_184 0 rfl (by decide) (by decide) (by omega) (fun zz => [(3, .int zz), (2, .int (s108 82 (3))), (0, .ref (ad 76)), (1, .int x)]) (fun _ => rfl) (fun u184 eu184 => ?_)
                    refine sd_goto C 120 dX5_gather_187 (by decide) ?_
                    exact ih120 u184 (i + 1) s181 (by omega) (by omega) (sd_g2_step H2 es181 (by first | (left; exact ⟨by omega, by rcases H2.2.2.2 with q | q; exact q.2; exact absurd q.1 (by omega)⟩) | (left; exact ⟨by omega, sp_quick_true (i := i) hrt (by omega) (by omega) (by omega)⟩) | (right; exact ⟨by omega, by omega, by omega⟩))) (by omega)
        exact key120 _ k118 0 s108 (by omega) (by omega) (sd_g2_0 (by rw [show sp_n β = c by omega]; exact H) es108 ek107) (Nat.lt_succ_self _)
      · have hwc := hMt.2.1 c (by omega)
        have hgc := hG.2.1 c (by omega)
        refine sd_aload_n C dX5_gather_15 1 rfl rfl ?_
        refine sd_aload_n C dX5_gather_16 1 rfl rfl ?_
        refine sd_get C (by decide) rfl rfl 2 (by decide) rfl wf_X5_13 dX5_gather_17 ?_
        refine sd_iload_n C dX5_gather_20 0 rfl rfl ?_
        refine sd_iald C (by decide) rfl (c) ⟨by omega, by omega⟩ dX5_gather_21 ?_
        refine sd_pVi C (c_X5_personOf l D ad ca T τ β hMt hG (β 2 c).toNat (by omega) (τ 78 c) (by omega)) mv_X5_personOf wm_X5_89 (by decide) rfl rfl (by decide) rfl rfl (Nat.le_of_ble_eq_true rfl) dX5_gather_22 (fun r22 h22 => ?_)
        try dsimp only at h22
        refine sd_iload_n C dX5_gather_25 2 rfl rfl ?_
        refine sd_icmp_ne C 100 dX5_gather_26 (by decide) (fun c26 => ?_) (fun c26 => ?_)
        · refine sd_iinc C dX5_gather_100 0 rfl (by decide) (by decide) (by omega) (fun zz => [(2, .int zz), (0, .ref (ad 76)), (1, .int x)]) (fun _ => rfl) (fun u100 eu100 => ?_)
          refine sd_goto C 7 dX5_gather_103 (by decide) ?_
          exact ih7 u100 (c + 1) τ (by omega) (by omega) (sd_g1_skip H (by unfold sp_cnts sp_mine; first | (rw [decide_eq_false (by omega)]; rfl) | (rw [decide_eq_false (p := β 4 c = 0) (by omega)]; simp))) (by omega)
        · refine sd_aload_n C dX5_gather_29 1 rfl rfl ?_
          refine sd_get C (by decide) rfl rfl 4 (by decide) rfl wf_X5_19 dX5_gather_30 ?_
          refine sd_iload_n C dX5_gather_33 0 rfl rfl ?_
          refine sd_zald C (by decide) rfl (c) ⟨by omega, by omega⟩ dX5_gather_34 ?_
          refine sd_if_ne C 100 dX5_gather_35 (by decide) (fun c35 => ?_) (fun c35 => ?_)
          · refine sd_iinc C dX5_gather_100 0 rfl (by decide) (by decide) (by omega) (fun zz => [(2, .int zz), (0, .ref (ad 76)), (1, .int x)]) (fun _ => rfl) (fun u100 eu100 => ?_)
            refine sd_goto C 7 dX5_gather_103 (by decide) ?_
            exact ih7 u100 (c + 1) τ (by omega) (by omega) (sd_g1_skip H (by unfold sp_cnts sp_mine; first | (rw [decide_eq_false (by omega)]; rfl) | (rw [decide_eq_false (p := β 4 c = 0) (by omega)]; simp))) (by omega)
          · have hct : sp_cnts β p c = true := by
              unfold sp_cnts sp_mine
              rw [decide_eq_true (by omega), decide_eq_true (by omega)]; rfl
            refine sd_aload_n C dX5_gather_38 1 rfl rfl ?_
            refine sd_get C (by decide) rfl rfl 15 (by decide) rfl wf_X5_86 dX5_gather_39 ?_
            refine sd_istore_n (lv' := [(3, .int (τ 76 15)), (2, .int x2), (0, .ref (ad 76)), (1, .int x)]) C dX5_gather_42 rfl (by decide) rfl ?_
            have key43 : ∀ (fu43 : Nat) (x3 : Int32) (a : Nat) (υ : sd_Mem), (x3.toInt = (a : Int)) → (a ≤ m) → (∀ i k, i ≠ 88 → υ i k = τ i k) → (∀ j, j < a → υ 88 j = τ 88 j) → (∀ j, a < j → j ≤ m → υ 88 j = τ 88 (j - 1)) → (∀ j, a ≤ j → j < m → β 1 c < β 1 ((sp_gr (β 1) (sp_cnts β p) c).getD j 0)) → (a < fu43) → sd_Wd X 4 D ad ca υ [(3, .int x3), (2, .int x2), (0, .ref (ad 76)), (1, .int x)] 43 [] := by
              intro fu43
              induction fu43 with
              | zero => intro x3 a υ h3 ha fr hlo hhi hgt hm43; exact absurd hm43 (Nat.not_lt_zero _)
              | succ fu43 ih43 =>
                intro x3 a υ h3 ha fr hlo hhi hgt hm43
                have hMu : sd_MR υ β := sd_MR_fr (fun i k q1 q2 => fr i k (by omega)) hMt
                have hrm2 : (υ 76 15).toInt = (m : Int) := by rw [fr 76 15 (by decide)]; exact hrm
                have key83 : (a = 0 ∨ β 1 ((sp_gr (β 1) (sp_cnts β p) c).getD (a - 1) 0) ≤ β 1 c) → sd_Wd X 4 D ad ca υ [(3, .int x3), (2, .int x2), (0, .ref (ad 76)), (1, .int x)] 83 [] := by
                    intro  hstop
                    refine sd_aload_n C dX5_gather_83 2 rfl rfl ?_
                    refine sd_get C (by decide) rfl rfl 13 (by decide) rfl wf_X5_44 dX5_gather_84 ?_
                    refine sd_iload_n C dX5_gather_87 0 rfl rfl ?_
                    refine sd_iload_n C dX5_gather_88 1 rfl rfl ?_
                    refine sd_iast C (by decide) (fun _ => rfl) (a) ⟨by omega, by omega⟩ dX5_gather_89 (fun s89 es89 => ?_)
                    refine sd_aload_n C dX5_gather_90 2 rfl rfl ?_
                    refine sd_dup C dX5_gather_91 rfl ?_
                    refine sd_get C (by decide) rfl rfl 15 (by decide) rfl wf_X5_86 dX5_gather_92 ?_
                    refine sd_iconst C dX5_gather_95 (by decide) (fun k95 ek95 => ?_)
                    refine sd_iadd C dX5_gather_96 (by rw [show (s89 76 15) = υ 76 15 by rw [es89, sd_st_ne (by decide)]]; omega) (fun z96 ez96 => ?_)
                    refine sd_put C (ty := .int) (by decide) rfl rfl 15 (by decide) rfl (by decide +kernel) rfl rfl (Nat.le_of_ble_eq_true rfl) (fun _ => rfl) wf_X5_86 dX5_gather_97 (fun s97 es97 => ?_)
                    rw [show (s89 76 15) = υ 76 15 by rw [es89, sd_st_ne (by decide)]] at ez96
                    refine sd_iinc C dX5_gather_100 1 rfl (by decide) (by decide) (by omega) (fun zz => [(2, .int zz), (3, .int x3), (0, .ref (ad 76)), (1, .int x)]) (fun _ => rfl) (fun u100 eu100 => ?_)
                    refine sd_goto C 7 dX5_gather_103 (by decide) ?_
                    exact sd_lv (ih7 u100 (c + 1) s97 (by omega) (by omega) (sd_g1_ins H hct hm ha fr hlo hhi hgt hstop es89 h2 es97 (by omega)) (by omega)) [0, 2, 3] rfl
                refine sd_iload_n C dX5_gather_43 0 rfl rfl ?_
                refine sd_if_le C 83 dX5_gather_44 (by decide) (fun c44 => ?_) (fun c44 => ?_)
                · exact key83  (by first | (left; omega) | (right; rcases h57 with w | w; exact absurd w.1 (by omega); exact w.2))
                · have q1 := hlo (a - 1) (by omega)
                  have q2 := H.2.2 (a - 1) (by omega)
                  rw [← q1] at q2
                  have q3 : (sp_gr (β 1) (sp_cnts β p) c).getD (a - 1) 0 < c := sp_gr_mem (sp_getD_mem (by omega))
                  refine sd_aload_n C dX5_gather_47 2 rfl rfl ?_
                  refine sd_iload_n C dX5_gather_48 1 rfl rfl ?_
                  refine sd_aload_n C dX5_gather_49 2 rfl rfl ?_
                  refine sd_get C (by decide) rfl rfl 13 (by decide) rfl wf_X5_44 dX5_gather_50 ?_
                  refine sd_iload_n C dX5_gather_53 0 rfl rfl ?_
                  refine sd_iconst C dX5_gather_54 (by decide) (fun k54 ek54 => ?_)
                  refine sd_isub C dX5_gather_55 (by omega) (fun z55 ez55 => ?_)
                  refine sd_iald C (by decide) rfl ((a - 1)) ⟨by omega, by omega⟩ dX5_gather_56 ?_
                  refine sd_pVz C (c_X5_isAhead l D ad ca T υ β hMu hG c ((sp_gr (β 1) (sp_cnts β p) c).getD (a - 1) 0) (by omega) (by omega) x2 (υ 88 (a - 1)) (by omega) (by omega)) mv_X5_isAhead wm_X5_93 (by decide) rfl rfl (by decide) rfl rfl (Nat.le_of_ble_eq_true rfl) dX5_gather_57 (fun r57 h57 => ?_)
                  try dsimp only at h57
                  refine sd_if_eq C 83 dX5_gather_60 (by decide) (fun c60 => ?_) (fun c60 => ?_)
                  · exact key83  (by first | (left; omega) | (right; rcases h57 with w | w; exact absurd w.1 (by omega); exact w.2))
                  · refine sd_aload_n C dX5_gather_63 2 rfl rfl ?_
                    refine sd_get C (by decide) rfl rfl 13 (by decide) rfl wf_X5_44 dX5_gather_64 ?_
                    refine sd_iload_n C dX5_gather_67 0 rfl rfl ?_
                    refine sd_aload_n C dX5_gather_68 2 rfl rfl ?_
                    refine sd_get C (by decide) rfl rfl 13 (by decide) rfl wf_X5_44 dX5_gather_69 ?_
                    refine sd_iload_n C dX5_gather_72 0 rfl rfl ?_
                    refine sd_iconst C dX5_gather_73 (by decide) (fun k73 ek73 => ?_)
                    refine sd_isub C dX5_gather_74 (by omega) (fun z74 ez74 => ?_)
                    refine sd_iald C (by decide) rfl ((a - 1)) ⟨by omega, by omega⟩ dX5_gather_75 ?_
                    refine sd_iast C (by decide) (fun _ => rfl) (a) ⟨by omega, by omega⟩ dX5_gather_76 (fun s76 es76 => ?_)
                    refine sd_iinc C dX5_gather_77 0 rfl (by decide) (by decide) (by omega) (fun zz => [(3, .int zz), (2, .int x2), (0, .ref (ad 76)), (1, .int x)]) (fun _ => rfl) (fun u77 eu77 => ?_)
                    refine sd_goto C 43 dX5_gather_80 (by decide) ?_
                    exact ih43 u77 (a - 1) s76 (by omega) (by omega) (fun i k q => by rw [es76, sd_st_ne q]; exact fr i k q) (fun j q => by rw [es76, sd_st_nk (by omega)]; exact hlo j (by omega)) (fun j q1 q2 => by
                          by_cases q : j = a
                          · subst q; rw [es76, sd_st_at]; exact hlo (j - 1) (by omega)
                          · rw [es76, sd_st_nk q]; exact hhi j (by omega) q2) (fun j q1 q2 => by
                          by_cases q : j = a - 1
                          · subst q; rcases h57 with w | w
                            · exact w.2
                            · exact absurd w.1 (by omega)
                          · exact hgt j (by omega) q2) (by omega)
            exact key43 _ (τ 76 15) m τ (by omega) (Nat.le_refl m) (fun _ _ _ => rfl) (fun _ _ => rfl) (fun j q1 q2 => by omega) (fun j q1 q2 => by omega) (Nat.lt_succ_self _)
  exact key7 _ k5 0 s2 (by omega) (by omega) (sd_g1_0 es2 ek1) (Nat.lt_succ_self _)
end
section
def sd_RK (β : sp_B) : Prop := ∀ c, sp_n β ≤ c → c < 120 → β 4 c = 0
theorem sp_joined_nil {β : sp_B} (hG : sd_RG β) {q : Nat} (hq : q < 24) (h : β 5 q ≠ (q : Int)) : sp_raw β q = [] := by
  unfold sp_raw
  rw [List.filter_eq_nil_iff]
  intro c hc
  have hcn := sp_srt_mem.mp hc
  have hN := (sp_n_le hG).1
  have h1 := hG.2.1 c (by omega)
  have h2 := hG.2.2.1 (β 2 c).toNat (by omega)
  have h3 := hG.2.2.1 q hq
  unfold sp_cnts sp_mine
  simp only [Bool.and_eq_true, decide_eq_true_eq]
  rintro ⟨h4, -⟩
  have h5 : β 5 (β 2 c).toNat = ((β 2 c).toNat : Int) := by omega
  have h6 : (β 2 c).toNat = q := by omega
  rw [h6] at h4
  exact h h4
theorem sp_joined_row {β : sp_B} (hG : sd_RG β) {q : Nat} (hq : q < 24) (h : β 5 q ≠ (q : Int)) : sp_row β q = [] := by
  unfold sp_row
  rw [sp_joined_nil hG hq h]
  split <;> rfl
theorem sp_quick_nil (β : sp_B) : sp_quick β [] = false := by
  unfold sp_quick
  simp
theorem sp_mine_mark {β : sp_B} (hG : sd_RG β) {m c : Nat} (hm : 12 ≤ m) (hm2 : m < 24) (h5 : β 5 m = (m : Int)) (hc : c < 120) : sp_mine β m c = decide (β 2 c = (m : Int)) := by
  have h1 := hG.2.1 c hc
  have h2 := hG.2.2.1 (β 2 c).toNat (by omega)
  unfold sp_mine
  congr 1
  apply propext
  constructor
  · intro h; omega
  · intro h
    have e : (β 2 c).toNat = m := by omega
    rw [e]; exact h5
theorem sp_ct_s {p : Nat → Bool} {n : Nat} (h : p n = true) : sp_ct p (n + 1) = sp_ct p n + 1 := by rw [sp_ct, if_pos h]
theorem sp_ct_k {p : Nat → Bool} {n : Nat} (h : p n = false) : sp_ct p (n + 1) = sp_ct p n := by rw [sp_ct, h]; rfl
theorem sd_MR_set {σ : sd_Mem} {β : sp_B} (h : sd_MR σ β) {a i j : Nat} {x : Int32} {v : Int} (hv : x.toInt = v) (ha : (a = 4 ∧ i = 80 ∧ j < 120) ∨ (a = 5 ∧ i = 81 ∧ 12 ≤ j ∧ j < 24 ∧ 0 ≤ v ∧ v < 12) ∨ (a = 6 ∧ i = 82 ∧ j < 6)) : sd_MR (sd_st σ i j x) (b_set β a j v) := by
  obtain ⟨⟨a1, a2⟩, b, c, d, e, f⟩ := h
  refine ⟨⟨?_, ?_⟩, fun c1 hc => ?_, fun p hp => ?_, fun k hk => ?_, fun f1 hf => ?_, fun k hk => ?_⟩
  · rw [sd_st_ne (by omega), b_n1 (by omega)]; exact a1
  · rw [sd_st_ne (by omega), b_n1 (by omega)]; exact a2
  · rw [sd_st_ne (by omega), sd_st_ne (by omega), sd_st_ne (by omega), b_n1 (x := 1) (by omega), b_n1 (x := 2) (by omega), b_n1 (x := 3) (by omega)]
    refine ⟨(b c1 hc).1, (b c1 hc).2.1, (b c1 hc).2.2.1, ?_⟩
    rw [sd_st_eq]
    unfold b_set
    by_cases q : a = 4 ∧ c1 = j
    · rw [if_pos (by omega), if_pos (by omega)]; exact hv
    · rw [if_neg (by omega), if_neg (by omega)]; exact (b c1 hc).2.2.2
  · rw [sd_st_eq]
    unfold b_set
    by_cases q : a = 5 ∧ p = j
    · rw [if_pos (by omega), if_pos (by omega)]; right; omega
    · rw [if_neg (by omega), if_neg (by omega)]; exact c p hp
  · rw [sd_st_eq]
    unfold b_set
    by_cases q : a = 6 ∧ k = j
    · rw [if_pos (by omega), if_pos (by omega)]; exact hv
    · rw [if_neg (by omega), if_neg (by omega)]; exact d k hk
  · rw [sd_st_ne (by omega), sd_st_ne (by omega), sd_st_ne (by omega), sd_st_ne (by omega), b_n1 (x := 7) (by omega), b_n1 (x := 8) (by omega), b_n1 (x := 9) (by omega), b_n1 (x := 10) (by omega)]; exact e f1 hf
  · rw [sd_st_ne (by omega), b_n1 (by omega)]; exact f k hk
theorem sd_MR_click {σ s1 s2 s3 s4 s5 : sd_Mem} {β : sp_B} (hM : sd_MR σ β) (hG : sd_RG β) (hK : sd_RK β) (hn : sp_n β < 120) {x1 x2 x3 z w : Int32} (e1 : s1 = sd_st σ 77 (sp_n β) x1) (e2 : s2 = sd_st s1 78 (sp_n β) x2) (e3 : s3 = sd_st s2 79 (sp_n β) x3) (e4 : s4 = sd_st s3 80 (sp_n β) z) (e5 : s5 = sd_st s4 76 0 w) (hz : z.toInt = 0) (hw : w.toInt = (sp_n β : Int) + 1) : sd_MR s5 (b_click β x1.toInt x2.toInt x3.toInt) := by
  have hN := sp_n_le hG
  have hk := hK (sp_n β) (Nat.le_refl _) hn
  obtain ⟨⟨a1, a2⟩, b, c, d, e, f⟩ := hM
  have fr : ∀ i k, i ≠ 77 → i ≠ 78 → i ≠ 79 → i ≠ 80 → ¬ (i = 76 ∧ k = 0) → s5 i k = σ i k := by
    intro i k q1 q2 q3 q4 q5
    rw [e5]
    by_cases q : i = 76
    · subst q
      rw [sd_st_nk (fun h => q5 ⟨rfl, h⟩), e4, sd_st_ne q4, e3, sd_st_ne q3, e2, sd_st_ne q2, e1, sd_st_ne q1]
    · rw [sd_st_ne q, e4, sd_st_ne q4, e3, sd_st_ne q3, e2, sd_st_ne q2, e1, sd_st_ne q1]
  unfold b_click
  refine ⟨⟨?_, ?_⟩, fun c1 hc => ?_, fun p hp => ?_, fun k hk => ?_, fun f1 hf => ?_, fun k hk => ?_⟩
  · rw [b_n1 (x := 0) (by omega), b_n1 (x := 0) (by omega), b_n1 (x := 0) (by omega), b_at, e5, sd_st_at]; omega
  · rw [b_n1 (x := 0) (by omega), b_n1 (x := 0) (by omega), b_n1 (x := 0) (by omega), b_n2 (y := 1) (by omega), fr 76 7 (by omega) (by omega) (by omega) (by omega) (by omega)]; exact a2
  · have := b c1 hc
    rw [e5, e4, e3, e2, e1]
    simp only [sd_st_eq, b_set]
    refine ⟨?_, ?_, ?_, ?_⟩
    · by_cases q : c1 = sp_n β
      · simp [q]
      · simp [q]; exact this.1
    · by_cases q : c1 = sp_n β
      · simp [q]
      · simp [q]; exact this.2.1
    · by_cases q : c1 = sp_n β
      · simp [q]
      · simp [q]; exact this.2.2.1
    · by_cases q : c1 = sp_n β
      · simp [q]; omega
      · simp [q]; exact this.2.2.2
  · rw [fr 81 p (by omega) (by omega) (by omega) (by omega) (by omega), b_n1 (by omega), b_n1 (by omega), b_n1 (by omega), b_n1 (by omega)]; exact c p hp
  · rw [fr 82 k (by omega) (by omega) (by omega) (by omega) (by omega), b_n1 (by omega), b_n1 (by omega), b_n1 (by omega), b_n1 (by omega)]; exact d k hk
  · rw [fr 83 f1 (by omega) (by omega) (by omega) (by omega) (by omega), fr 84 f1 (by omega) (by omega) (by omega) (by omega) (by omega), fr 85 f1 (by omega) (by omega) (by omega) (by omega) (by omega), fr 86 f1 (by omega) (by omega) (by omega) (by omega) (by omega)]
    have := e f1 hf
    simp only [b_set]
    simp
    exact this
  · rw [fr 87 k (by omega) (by omega) (by omega) (by omega) (by omega), b_n1 (by omega), b_n1 (by omega), b_n1 (by omega), b_n1 (by omega)]; exact f k hk
def sp_cf (β : sp_B) (w : Int) (q : Nat) : Int := if w = 1 then ((sp_row β q).length : Int) else if w = 2 then (sp_ns β (sp_row β q) (sp_row β q).length : Int) else if w = 3 then sp_b (decide (0 < (sp_row β q).length)) else if w = 4 then sp_b (sp_quick β (sp_raw β q)) else if w = 5 then sp_b (decide (β 5 q ≠ (q : Int))) else 0
theorem an_count_cf {β : sp_B} {w : Int} (h0 : 0 ≤ w) (h6 : w ≤ 6) : an_count β w = if w = 0 then β 0 0 else if w = 6 then β 0 1 else sp_sum (sp_cf β w) 24 := by
  have hw : w = 0 ∨ w = 1 ∨ w = 2 ∨ w = 3 ∨ w = 4 ∨ w = 5 ∨ w = 6 := by omega
  rcases hw with rfl | rfl | rfl | rfl | rfl | rfl | rfl <;> rfl
theorem sp_cf_rng {β : sp_B} (hG : sd_RG β) (w : Int) (q : Nat) : 0 ≤ sp_cf β w q ∧ sp_cf β w q ≤ 120 := by
  have h1 := (sp_row_ok hG q).1
  have h2 := sp_ns_le β (sp_row β q) (sp_row β q).length
  have h3 := sp_b_rng (decide (0 < (sp_row β q).length))
  have h4 := sp_b_rng (sp_quick β (sp_raw β q))
  have h5 := sp_b_rng (decide (β 5 q ≠ (q : Int)))
  unfold sp_cf
  repeat' split
  all_goals omega
theorem sp_cf_joined {β : sp_B} (hG : sd_RG β) {w : Int} {q : Nat} (hq : q < 24) (h : β 5 q ≠ (q : Int)) : sp_cf β w q = if w = 5 then 1 else 0 := by
  unfold sp_cf
  rw [sp_joined_row hG hq h, sp_joined_nil hG hq h, sp_quick_nil, sp_b1 (decide_eq_true h)]
  repeat' split
  all_goals first | rfl | omega | (simp [sp_b]; done)
theorem sp_cf_own {β : sp_B} {w : Int} {q : Nat} (h : β 5 q = (q : Int)) (hw : w < 1 ∨ 4 < w) : sp_cf β w q = 0 := by
  unfold sp_cf
  rw [if_neg (by omega), if_neg (by omega), if_neg (by omega), if_neg (by omega)]
  split
  · exact sp_b0 (decide_eq_false (fun z => z h))
  · rfl
theorem an_born_came (β : sp_B) (w : Int) : an_came β w 0 = an_born β w := by
  unfold an_came an_born
  by_cases hw : w < 0 ∨ 20 ≤ w
  · rw [if_pos (by omega), if_pos hw]
  · rw [if_neg (by omega), if_neg hw]
    refine sp_sum_cong (fun q _ => ?_)
    congr 1
    by_cases hb : sp_birth β (sp_row β q) = w
    · rw [decide_eq_true hb, Bool.true_and, Int.add_zero]
      unfold sp_birth at hb
      cases hf : (sp_row β q).find? (fun c => decide (β 3 c = β 6 5)) with
      | none => rw [hf] at hb; simp at hb; omega
      | some c =>
        rw [hf] at hb
        have hm := List.mem_of_find?_eq_some hf
        unfold sp_came
        exact List.any_eq_true.mpr ⟨c, hm, by simpa using hb⟩
    · rw [decide_eq_false hb, Bool.false_and]
theorem sp_birth_nil (β : sp_B) : sp_birth β [] = -1 := rfl
theorem sp_pl_cases {l : List Nat} (hn : l.Nodup) {c : Nat} {z : Int} (h : (z = -1 ∧ ∀ i, i < l.length → l.getD i 0 ≠ c) ∨ (∃ i, i < l.length ∧ l.getD i 0 = c ∧ z = (i : Int))) : z = sp_pl l c := by
  rcases h with ⟨h1, h2⟩ | ⟨i, h1, h2, h3⟩
  · rw [sp_pl_no, h1]
    intro hm
    obtain ⟨i, hi, e⟩ := List.getElem_of_mem hm
    exact h2 i hi (by rw [List.getD_eq_getElem?_getD, List.getElem?_eq_getElem hi]; exact e)
  · rw [← h2, sp_pl_at hn h1, h3]
end
section
theorem sd_ga_keep {σ σ' : sd_Mem} (h : ∀ a k, a ≠ 88 → a ≠ 89 → ¬ (a = 76 ∧ (k = 15 ∨ k = 16 ∨ k = 17)) → σ' a k = σ a k) : sd_keep σ σ' := fun i k h1 h2 => h i k (by omega) (by omega) (by omega)
theorem sd_ga_lo {σ σ' : sd_Mem} (h : ∀ a k, a ≠ 88 → a ≠ 89 → ¬ (a = 76 ∧ (k = 15 ∨ k = 16 ∨ k = 17)) → σ' a k = σ a k) : sd_lo σ σ' := fun i k h1 => h i k (by omega) (by omega) (by omega)
theorem sd_lo.tr {σ τ υ : sd_Mem} (h1 : sd_lo σ τ) (h2 : sd_lo τ υ) : sd_lo σ υ := fun i k h => by rw [h2 i k h, h1 i k h]

set_option maxRecDepth 20000 in
set_option maxHeartbeats 4000000 in
theorem c_X5_placeIn (l : Launch) (D : va_G) (ad : Nat → Nat) (ca : Nat → ClassId) (T : Nat → Nat) (σ : sd_Mem) (β : sp_B) (l9 : List Nat) (hW : sd_MW σ β l9) (hN : l9.Nodup) (c : Nat) (x : Int32) (hx : x.toInt = (c : Int)) : sd_Ci l yX5_placeIn cX5_placeIn 4 0 D ad ca T σ [.ref (ad 76), .int x] (fun r σ' => σ' = σ ∧ (r.toInt = sp_pl l9 c)) := by
  refine sd_ent_i (own := RX5) (by decide) rfl (Nat.le_of_ble_eq_true rfl) (fun X C hret => ?_)
  show sd_Wd X 4 D ad ca σ [(0, .ref (ad 76)), (1, .int x)] 0 []
  have hz := hW.2.2.1
  have hl9 := hW.2.2.2.2.1
  refine sd_iconst C dX5_placeIn_0 (by decide) (fun k0 ek0 => ?_)
  refine sd_istore_n (lv' := [(2, .int k0), (0, .ref (ad 76)), (1, .int x)]) C dX5_placeIn_1 rfl (by decide) rfl ?_
  refine sd_iconst C dX5_placeIn_2 (by decide) (fun k2 ek2 => ?_)
  refine sd_istore_n (lv' := [(3, .int k2), (2, .int k0), (0, .ref (ad 76)), (1, .int x)]) C dX5_placeIn_3 rfl (by decide) rfl ?_
  have key4 : ∀ (fu4 : Nat) (y2 : Int32) (y3 : Int32) (j : Nat), (y3.toInt = (j : Int)) → (j ≤ l9.length) → ((y2.toInt = -1 ∧ ∀ i, i < j → l9.getD i 0 ≠ c) ∨ (∃ i, i < j ∧ l9.getD i 0 = c ∧ y2.toInt = (i : Int))) → (l9.length - j < fu4) → sd_Wd X 4 D ad ca σ [(3, .int y3), (2, .int y2), (0, .ref (ad 76)), (1, .int x)] 4 [] := by
    intro fu4
    induction fu4 with
    | zero => intro y2 y3 j h3 hj h2 hm4; exact absurd hm4 (Nat.not_lt_zero _)
    | succ fu4 ih4 =>
      intro y2 y3 j h3 hj h2 hm4
      refine sd_iload_n C dX5_placeIn_4 0 rfl rfl ?_
      refine sd_aload_n C dX5_placeIn_5 2 rfl rfl ?_
      refine sd_get C (by decide) rfl rfl 15 (by decide) rfl wf_X5_86 dX5_placeIn_6 ?_
      refine sd_icmp_ge C 34 dX5_placeIn_9 (by decide) (fun c9 => ?_) (fun c9 => ?_)
      · refine sd_iload_n C dX5_placeIn_34 1 rfl rfl ?_
        exact hret _ _ _ _ dX5_placeIn_35 (⟨rfl, sp_pl_cases hN (by
            rw [show l9.length = j by omega]; exact h2)⟩)
      · have t1 := hW.2.2.2.1 j (by omega)
        refine sd_aload_n C dX5_placeIn_12 2 rfl rfl ?_
        refine sd_get C (by decide) rfl rfl 13 (by decide) rfl wf_X5_44 dX5_placeIn_13 ?_
        refine sd_iload_n C dX5_placeIn_16 0 rfl rfl ?_
        refine sd_iald C (by decide) rfl (j) ⟨by omega, by omega⟩ dX5_placeIn_17 ?_
        refine sd_iload_n C dX5_placeIn_18 3 rfl rfl ?_
        refine sd_icmp_ne C 26 dX5_placeIn_19 (by decide) (fun c19 => ?_) (fun c19 => ?_)
        · refine sd_iload_n C dX5_placeIn_26 1 rfl rfl ?_
          refine sd_istore_n (lv' := [(2, .int y2), (3, .int y3), (0, .ref (ad 76)), (1, .int x)]) C dX5_placeIn_27 rfl (by decide) rfl ?_
          refine sd_iinc C dX5_placeIn_28 1 rfl (by decide) (by decide) (by omega) (fun zz => [(3, .int zz), (2, .int y2), (0, .ref (ad 76)), (1, .int x)]) (fun _ => rfl) (fun u28 eu28 => ?_)
          refine sd_goto C 4 dX5_placeIn_31 (by decide) ?_
          exact ih4 y2 u28 (j + 1) (by omega) (by omega) (by
                rcases h2 with ⟨w1, w2⟩ | ⟨i, w1, w2, w3⟩
                · refine Or.inl ⟨w1, fun i hi => ?_⟩
                  by_cases e : i = j
                  · subst e; omega
                  · exact w2 i (by omega)
                · exact Or.inr ⟨i, by omega, w2, w3⟩) (by omega)
        · refine sd_iload_n C dX5_placeIn_22 0 rfl rfl ?_
          refine sd_goto C 27 dX5_placeIn_23 (by decide) ?_
          refine sd_istore_n (lv' := [(2, .int y3), (3, .int y3), (0, .ref (ad 76)), (1, .int x)]) C dX5_placeIn_27 rfl (by decide) rfl ?_
          refine sd_iinc C dX5_placeIn_28 1 rfl (by decide) (by decide) (by omega) (fun zz => [(3, .int zz), (2, .int y3), (0, .ref (ad 76)), (1, .int x)]) (fun _ => rfl) (fun u28 eu28 => ?_)
          refine sd_goto C 4 dX5_placeIn_31 (by decide) ?_
          exact ih4 y3 u28 (j + 1) (by omega) (by omega) (Or.inr ⟨j, by omega, by omega, h3⟩) (by omega)
  exact key4 _ k0 k2 0 (by omega) (by omega) (Or.inl ⟨ek0, fun i hi => by omega⟩) (Nat.lt_succ_self _)

set_option maxRecDepth 20000 in
set_option maxHeartbeats 4000000 in
theorem c_X5_clicksOf (l : Launch) (D : va_G) (ad : Nat → Nat) (ca : Nat → ClassId) (T : Nat → Nat) (σ : sd_Mem) (β : sp_B) (hM : sd_MR σ β) (hG : sd_RG β) (p : Nat) (hp : p < 24) (x : Int32) (hx : x.toInt = (p : Int)) : sd_Ci l yX5_clicksOf cX5_clicksOf 4 1 D ad ca T σ [.ref (ad 76), .int x] (fun r σ' => σ' = σ ∧ (r.toInt = (sp_owned β p : Int))) := by
  refine sd_ent_i (own := RX5) (by decide) rfl (Nat.le_of_ble_eq_true rfl) (fun X C hret => ?_)
  show sd_Wd X 4 D ad ca σ [(0, .ref (ad 76)), (1, .int x)] 0 []
  have hN := sp_n_le hG
  have hn1 := hM.1.1
  refine sd_iconst C dX5_clicksOf_0 (by decide) (fun k0 ek0 => ?_)
  refine sd_istore_n (lv' := [(2, .int k0), (0, .ref (ad 76)), (1, .int x)]) C dX5_clicksOf_1 rfl (by decide) rfl ?_
  refine sd_iconst C dX5_clicksOf_2 (by decide) (fun k2 ek2 => ?_)
  refine sd_istore_n (lv' := [(3, .int k2), (2, .int k0), (0, .ref (ad 76)), (1, .int x)]) C dX5_clicksOf_3 rfl (by decide) rfl ?_
  have key4 : ∀ (fu4 : Nat) (y2 : Int32) (y3 : Int32) (c : Nat), (y3.toInt = (c : Int)) → (c ≤ sp_n β) → (y2.toInt = (sp_ct (sp_mine β p) c : Int)) → (sp_n β - c < fu4) → sd_Wd X 4 D ad ca σ [(3, .int y3), (2, .int y2), (0, .ref (ad 76)), (1, .int x)] 4 [] := by
    intro fu4
    induction fu4 with
    | zero => intro y2 y3 c h3 hc h2 hm4; exact absurd hm4 (Nat.not_lt_zero _)
    | succ fu4 ih4 =>
      intro y2 y3 c h3 hc h2 hm4
      refine sd_iload_n C dX5_clicksOf_4 0 rfl rfl ?_
      refine sd_aload_n C dX5_clicksOf_5 2 rfl rfl ?_
      refine sd_get C (by decide) rfl rfl 0 (by decide) rfl wf_X5_65 dX5_clicksOf_6 ?_
      refine sd_icmp_ge C 40 dX5_clicksOf_9 (by decide) (fun c9 => ?_) (fun c9 => ?_)
      · refine sd_iload_n C dX5_clicksOf_40 1 rfl rfl ?_
        exact hret _ _ _ _ dX5_clicksOf_41 (⟨rfl, by unfold sp_owned; rw [show sp_n β = c by omega]; exact h2⟩)
      · have hwc := hM.2.1 c (by omega)
        have hgc := hG.2.1 c (by omega)
        have hle := sp_ct_le (p := sp_mine β p) c
        refine sd_iload_n C dX5_clicksOf_12 1 rfl rfl ?_
        refine sd_aload_n C dX5_clicksOf_13 2 rfl rfl ?_
        refine sd_aload_n C dX5_clicksOf_14 2 rfl rfl ?_
        refine sd_get C (by decide) rfl rfl 2 (by decide) rfl wf_X5_13 dX5_clicksOf_15 ?_
        refine sd_iload_n C dX5_clicksOf_18 0 rfl rfl ?_
        refine sd_iald C (by decide) rfl (c) ⟨by omega, by omega⟩ dX5_clicksOf_19 ?_
        refine sd_pVi C (c_X5_personOf l D ad ca T σ β hM hG (β 2 c).toNat (by omega) (σ 78 c) (by omega)) mv_X5_personOf wm_X5_89 (by decide) rfl rfl (by decide) rfl rfl (Nat.le_of_ble_eq_true rfl) dX5_clicksOf_20 (fun r20 h20 => ?_)
        try dsimp only at h20
        refine sd_iload_n C dX5_clicksOf_23 3 rfl rfl ?_
        refine sd_icmp_ne C 31 dX5_clicksOf_24 (by decide) (fun c24 => ?_) (fun c24 => ?_)
        · refine sd_iconst C dX5_clicksOf_31 (by decide) (fun k31 ek31 => ?_)
          refine sd_iadd C dX5_clicksOf_32 (by omega) (fun z32 ez32 => ?_)
          refine sd_istore_n (lv' := [(2, .int z32), (3, .int y3), (0, .ref (ad 76)), (1, .int x)]) C dX5_clicksOf_33 rfl (by decide) rfl ?_
          refine sd_iinc C dX5_clicksOf_34 1 rfl (by decide) (by decide) (by omega) (fun zz => [(3, .int zz), (2, .int z32), (0, .ref (ad 76)), (1, .int x)]) (fun _ => rfl) (fun u34 eu34 => ?_)
          refine sd_goto C 4 dX5_clicksOf_37 (by decide) ?_
          exact ih4 z32 u34 (c + 1) (by omega) (by omega) (by first | (rw [sp_ct_s (by unfold sp_mine; exact decide_eq_true (by omega))]; omega) | (rw [sp_ct_k (by unfold sp_mine; exact decide_eq_false (by omega))]; omega)) (by omega)
        · refine sd_iconst C dX5_clicksOf_27 (by decide) (fun k27 ek27 => ?_)
          refine sd_goto C 32 dX5_clicksOf_28 (by decide) ?_
          refine sd_iadd C dX5_clicksOf_32 (by omega) (fun z32 ez32 => ?_)
          refine sd_istore_n (lv' := [(2, .int z32), (3, .int y3), (0, .ref (ad 76)), (1, .int x)]) C dX5_clicksOf_33 rfl (by decide) rfl ?_
          refine sd_iinc C dX5_clicksOf_34 1 rfl (by decide) (by decide) (by omega) (fun zz => [(3, .int zz), (2, .int z32), (0, .ref (ad 76)), (1, .int x)]) (fun _ => rfl) (fun u34 eu34 => ?_)
          refine sd_goto C 4 dX5_clicksOf_37 (by decide) ?_
          exact ih4 z32 u34 (c + 1) (by omega) (by omega) (by first | (rw [sp_ct_s (by unfold sp_mine; exact decide_eq_true (by omega))]; omega) | (rw [sp_ct_k (by unfold sp_mine; exact decide_eq_false (by omega))]; omega)) (by omega)
  exact key4 _ k0 k2 0 (by omega) (by omega) (by rw [sp_ct]; exact ek0) (Nat.lt_succ_self _)

set_option maxRecDepth 20000 in
set_option maxHeartbeats 4000000 in
theorem c_X5_birth (l : Launch) (D : va_G) (ad : Nat → Nat) (ca : Nat → ClassId) (T : Nat → Nat) (σ : sd_Mem) (β : sp_B) (l9 : List Nat) (hW : sd_MW σ β l9) : sd_Ci l yX5_birth cX5_birth 2 0 D ad ca T σ [.ref (ad 76)] (fun r σ' => σ' = σ ∧ (r.toInt = sp_birth β l9)) := by
  refine sd_ent_i (own := RX5) (by decide) rfl (Nat.le_of_ble_eq_true rfl) (fun X C hret => ?_)
  show sd_Wd X 2 D ad ca σ [(0, .ref (ad 76))] 0 []
  have hz := hW.2.2.1
  have hl9 := hW.2.2.2.2.1
  have u5 := hW.1.2.2.2.1 5 (by decide)
  refine sd_iconst C dX5_birth_0 (by decide) (fun k0 ek0 => ?_)
  refine sd_istore_n (lv' := [(1, .int k0), (0, .ref (ad 76))]) C dX5_birth_1 rfl (by decide) rfl ?_
  have key2 : ∀ (fu2 : Nat) (y1 : Int32) (j : Nat), (y1.toInt = (j : Int)) → (j ≤ l9.length) → (∀ i, i < j → β 3 (l9.getD i 0) ≠ β 6 5) → (l9.length - j < fu2) → sd_Wd X 2 D ad ca σ [(1, .int y1), (0, .ref (ad 76))] 2 [] := by
    intro fu2
    induction fu2 with
    | zero => intro y1 j h1 hj hno hm2; exact absurd hm2 (Nat.not_lt_zero _)
    | succ fu2 ih2 =>
      intro y1 j h1 hj hno hm2
      refine sd_iload_n C dX5_birth_2 0 rfl rfl ?_
      refine sd_aload_n C dX5_birth_3 1 rfl rfl ?_
      refine sd_get C (by decide) rfl rfl 15 (by decide) rfl wf_X5_86 dX5_birth_4 ?_
      refine sd_icmp_ge C 52 dX5_birth_7 (by decide) (fun c7 => ?_) (fun c7 => ?_)
      · refine sd_iconst C dX5_birth_52 (by decide) (fun k52 ek52 => ?_)
        exact hret _ _ _ _ dX5_birth_53 (⟨rfl, by rw [sp_birth_none (fun i h => hno i (by omega))]; omega⟩)
      · have t1 := hW.at (j := j) (by omega)
        refine sd_aload_n C dX5_birth_10 1 rfl rfl ?_
        refine sd_get C (by decide) rfl rfl 3 (by decide) rfl wf_X5_16 dX5_birth_11 ?_
        refine sd_aload_n C dX5_birth_14 1 rfl rfl ?_
        refine sd_get C (by decide) rfl rfl 13 (by decide) rfl wf_X5_44 dX5_birth_15 ?_
        refine sd_iload_n C dX5_birth_18 0 rfl rfl ?_
        refine sd_iald C (by decide) rfl (j) ⟨by omega, by omega⟩ dX5_birth_19 ?_
        refine sd_iald C (by decide) rfl (l9.getD j 0) ⟨by omega, by omega⟩ dX5_birth_20 ?_
        refine sd_aload_n C dX5_birth_21 1 rfl rfl ?_
        refine sd_get C (by decide) rfl rfl 6 (by decide) rfl wf_X5_26 dX5_birth_22 ?_
        refine sd_iconst C dX5_birth_25 (by decide) (fun k25 ek25 => ?_)
        refine sd_iald C (by decide) rfl (5) ⟨by omega, by omega⟩ dX5_birth_26 ?_
        refine sd_icmp_ne C 46 dX5_birth_27 (by decide) (fun c27 => ?_) (fun c27 => ?_)
        · refine sd_iinc C dX5_birth_46 0 rfl (by decide) (by decide) (by omega) (fun zz => [(1, .int zz), (0, .ref (ad 76))]) (fun _ => rfl) (fun u46 eu46 => ?_)
          refine sd_goto C 2 dX5_birth_49 (by decide) ?_
          exact ih2 u46 (j + 1) (by omega) (by omega) (fun i h => by
                by_cases e : i = j
                · subst e; omega
                · exact hno i (by omega)) (by omega)
        · refine sd_aload_n C dX5_birth_30 1 rfl rfl ?_
          refine sd_get C (by decide) rfl rfl 1 (by decide) rfl wf_X5_7 dX5_birth_31 ?_
          refine sd_aload_n C dX5_birth_34 1 rfl rfl ?_
          refine sd_get C (by decide) rfl rfl 13 (by decide) rfl wf_X5_44 dX5_birth_35 ?_
          refine sd_iload_n C dX5_birth_38 0 rfl rfl ?_
          refine sd_iald C (by decide) rfl (j) ⟨by omega, by omega⟩ dX5_birth_39 ?_
          refine sd_iald C (by decide) rfl (l9.getD j 0) ⟨by omega, by omega⟩ dX5_birth_40 ?_
          refine sd_sipush C dX5_birth_41 (by decide) (fun k41 ek41 => ?_)
          refine sd_idiv C 10080 (by decide) dX5_birth_44 ek41 (by omega) (fun z44 ez44 => ?_)
          exact hret _ _ _ _ dX5_birth_45 (⟨rfl, by rw [sp_birth_some (i := j) (by omega) (by omega) hno]; omega⟩)
  exact key2 _ k0 0 (by omega) (by omega) (fun i h => by omega) (Nat.lt_succ_self _)

set_option maxRecDepth 20000 in
set_option maxHeartbeats 4000000 in
theorem c_X5_cameIn (l : Launch) (D : va_G) (ad : Nat → Nat) (ca : Nat → ClassId) (T : Nat → Nat) (σ : sd_Mem) (β : sp_B) (l9 : List Nat) (hW : sd_MW σ β l9) (x : Int32) : sd_Cz l yX5_cameIn cX5_cameIn 4 0 D ad ca T σ [.ref (ad 76), .int x] (fun r σ' => σ' = σ ∧ ((r.toInt = 1 ∧ sp_came β l9 x.toInt = true) ∨ (r.toInt = 0 ∧ sp_came β l9 x.toInt = false))) := by
  refine sd_ent_z (own := RX5) (by decide) rfl (Nat.le_of_ble_eq_true rfl) (fun X C hret => ?_)
  show sd_Wd X 4 D ad ca σ [(0, .ref (ad 76)), (1, .int x)] 0 []
  have hz := hW.2.2.1
  have hl9 := hW.2.2.2.2.1
  refine sd_iconst C dX5_cameIn_0 (by decide) (fun k0 ek0 => ?_)
  refine sd_istore_n (lv' := [(2, .int k0), (0, .ref (ad 76)), (1, .int x)]) C dX5_cameIn_1 rfl (by decide) rfl ?_
  refine sd_iconst C dX5_cameIn_2 (by decide) (fun k2 ek2 => ?_)
  refine sd_istore_n (lv' := [(3, .int k2), (2, .int k0), (0, .ref (ad 76)), (1, .int x)]) C dX5_cameIn_3 rfl (by decide) rfl ?_
  have key4 : ∀ (fu4 : Nat) (y2 : Int32) (y3 : Int32) (j : Nat), (y3.toInt = (j : Int)) → (j ≤ l9.length) → ((y2.toInt = 1 ∧ sp_came β l9 x.toInt = true) ∨ (y2.toInt = 0 ∧ ∀ i, i < j → β 1 (l9.getD i 0) / 10080 ≠ x.toInt)) → (l9.length - j < fu4) → sd_Wd X 4 D ad ca σ [(3, .int y3), (2, .int y2), (0, .ref (ad 76)), (1, .int x)] 4 [] := by
    intro fu4
    induction fu4 with
    | zero => intro y2 y3 j h3 hj h2 hm4; exact absurd hm4 (Nat.not_lt_zero _)
    | succ fu4 ih4 =>
      intro y2 y3 j h3 hj h2 hm4
      refine sd_iload_n C dX5_cameIn_4 0 rfl rfl ?_
      refine sd_aload_n C dX5_cameIn_5 2 rfl rfl ?_
      refine sd_get C (by decide) rfl rfl 15 (by decide) rfl wf_X5_86 dX5_cameIn_6 ?_
      refine sd_icmp_ge C 47 dX5_cameIn_9 (by decide) (fun c9 => ?_) (fun c9 => ?_)
      · refine sd_iload_n C dX5_cameIn_47 1 rfl rfl ?_
        exact hret _ _ _ _ dX5_cameIn_48 (by omega) (⟨rfl, by
            rcases h2 with w | w
            · exact Or.inl w
            · exact Or.inr ⟨w.1, sp_came_false (fun i h => w.2 i (by omega))⟩⟩)
      · refine sd_iload_n C dX5_cameIn_12 1 rfl rfl ?_
        refine sd_if_ne C 35 dX5_cameIn_13 (by decide) (fun c13 => ?_) (fun c13 => ?_)
        · refine sd_iconst C dX5_cameIn_35 (by decide) (fun k35 ek35 => ?_)
          refine sd_goto C 40 dX5_cameIn_36 (by decide) ?_
          refine sd_istore_n (lv' := [(2, .int k35), (3, .int y3), (0, .ref (ad 76)), (1, .int x)]) C dX5_cameIn_40 rfl (by decide) rfl ?_
          refine sd_iinc C dX5_cameIn_41 1 rfl (by decide) (by decide) (by omega) (fun zz => [(3, .int zz), (2, .int k35), (0, .ref (ad 76)), (1, .int x)]) (fun _ => rfl) (fun u41 eu41 => ?_)
          refine sd_goto C 4 dX5_cameIn_44 (by decide) ?_
          exact ih4 k35 u41 (j + 1) (by omega) (by omega) (by
                first
                  | exact Or.inl ⟨by omega, sp_came_true (i := j) (by omega) (by omega)⟩
                  | (rcases h2 with w | w
                     · exact Or.inl ⟨by omega, w.2⟩
                     · exact absurd w.1 (by omega))) (by omega)
        · have t1 := hW.at (j := j) (by omega)
          refine sd_aload_n C dX5_cameIn_16 2 rfl rfl ?_
          refine sd_get C (by decide) rfl rfl 1 (by decide) rfl wf_X5_7 dX5_cameIn_17 ?_
          refine sd_aload_n C dX5_cameIn_20 2 rfl rfl ?_
          refine sd_get C (by decide) rfl rfl 13 (by decide) rfl wf_X5_44 dX5_cameIn_21 ?_
          refine sd_iload_n C dX5_cameIn_24 0 rfl rfl ?_
          refine sd_iald C (by decide) rfl (j) ⟨by omega, by omega⟩ dX5_cameIn_25 ?_
          refine sd_iald C (by decide) rfl (l9.getD j 0) ⟨by omega, by omega⟩ dX5_cameIn_26 ?_
          refine sd_sipush C dX5_cameIn_27 (by decide) (fun k27 ek27 => ?_)
          refine sd_idiv C 10080 (by decide) dX5_cameIn_30 ek27 (by omega) (fun z30 ez30 => ?_)
          refine sd_iload_n C dX5_cameIn_31 3 rfl rfl ?_
          refine sd_icmp_ne C 39 dX5_cameIn_32 (by decide) (fun c32 => ?_) (fun c32 => ?_)
          · refine sd_iconst C dX5_cameIn_39 (by decide) (fun k39 ek39 => ?_)
            refine sd_istore_n (lv' := [(2, .int k39), (3, .int y3), (0, .ref (ad 76)), (1, .int x)]) C dX5_cameIn_40 rfl (by decide) rfl ?_
            refine sd_iinc C dX5_cameIn_41 1 rfl (by decide) (by decide) (by omega) (fun zz => [(3, .int zz), (2, .int k39), (0, .ref (ad 76)), (1, .int x)]) (fun _ => rfl) (fun u41 eu41 => ?_)
            refine sd_goto C 4 dX5_cameIn_44 (by decide) ?_
            exact ih4 k39 u41 (j + 1) (by omega) (by omega) (by
                  rcases h2 with w | w
                  · exact absurd w.1 (by omega)
                  · refine Or.inr ⟨by omega, fun i h => ?_⟩
                    by_cases e : i = j
                    · subst e; omega
                    · exact w.2 i (by omega)) (by omega)
          · refine sd_iconst C dX5_cameIn_35 (by decide) (fun k35 ek35 => ?_)
            refine sd_goto C 40 dX5_cameIn_36 (by decide) ?_
            refine sd_istore_n (lv' := [(2, .int k35), (3, .int y3), (0, .ref (ad 76)), (1, .int x)]) C dX5_cameIn_40 rfl (by decide) rfl ?_
            refine sd_iinc C dX5_cameIn_41 1 rfl (by decide) (by decide) (by omega) (fun zz => [(3, .int zz), (2, .int k35), (0, .ref (ad 76)), (1, .int x)]) (fun _ => rfl) (fun u41 eu41 => ?_)
            refine sd_goto C 4 dX5_cameIn_44 (by decide) ?_
            exact ih4 k35 u41 (j + 1) (by omega) (by omega) (by
                  first
                    | exact Or.inl ⟨by omega, sp_came_true (i := j) (by omega) (by omega)⟩
                    | (rcases h2 with w | w
                       · exact Or.inl ⟨by omega, w.2⟩
                       · exact absurd w.1 (by omega))) (by omega)
  exact key4 _ k0 k2 0 (by omega) (by omega) (Or.inr ⟨ek0, fun i h => by omega⟩) (Nat.lt_succ_self _)

set_option maxRecDepth 20000 in
set_option maxHeartbeats 4000000 in
theorem c_X5_counted (l : Launch) (D : va_G) (ad : Nat → Nat) (ca : Nat → ClassId) (T : Nat → Nat) (σ : sd_Mem) (β : sp_B) (hG : sd_RG β) (p : Nat) (hA : sd_GA σ β p) (x : Int32) (h1 : 1 ≤ x.toInt) (h4 : x.toInt ≤ 4) : sd_Ci l yX5_counted cX5_counted 2 0 D ad ca T σ [.ref (ad 76), .int x] (fun r σ' => σ' = σ ∧ (r.toInt = sp_cf β x.toInt p)) := by
  refine sd_ent_i (own := RX5) (by decide) rfl (Nat.le_of_ble_eq_true rfl) (fun X C hret => ?_)
  show sd_Wd X 2 D ad ca σ [(0, .ref (ad 76)), (1, .int x)] 0 []
  obtain ⟨A1, A2, A3, A4, A5⟩ := hA
  refine sd_iload_n C dX5_counted_0 1 rfl rfl ?_
  refine sd_iconst C dX5_counted_1 (by decide) (fun k1 ek1 => ?_)
  refine sd_icmp_ne C 12 dX5_counted_2 (by decide) (fun c2 => ?_) (fun c2 => ?_)
  · refine sd_iload_n C dX5_counted_12 1 rfl rfl ?_
    refine sd_iconst C dX5_counted_13 (by decide) (fun k13 ek13 => ?_)
    refine sd_icmp_ne C 24 dX5_counted_14 (by decide) (fun c14 => ?_) (fun c14 => ?_)
    · refine sd_iload_n C dX5_counted_24 1 rfl rfl ?_
      refine sd_iconst C dX5_counted_25 (by decide) (fun k25 ek25 => ?_)
      refine sd_icmp_ne C 44 dX5_counted_26 (by decide) (fun c26 => ?_) (fun c26 => ?_)
      · refine sd_aload_n C dX5_counted_44 0 rfl rfl ?_
        refine sd_get C (by decide) rfl rfl 17 (by decide) rfl wf_X5_97 dX5_counted_45 ?_
        refine sd_if_eq C 55 dX5_counted_48 (by decide) (fun c48 => ?_) (fun c48 => ?_)
        · refine sd_iconst C dX5_counted_55 (by decide) (fun k55 ek55 => ?_)
          exact hret _ _ _ _ dX5_counted_56 (⟨rfl, by
              unfold sp_cf
              repeat' split
              all_goals first
                | omega
                | (rw [sp_b1 (decide_eq_true (by omega))]; omega)
                | (rw [sp_b0 (decide_eq_false (by omega))]; omega)
                | (cases hk : sp_quick β (sp_raw β p)
                   · rw [hk] at A4; simp at A4; rw [sp_b0 rfl]; omega
                   · rw [hk] at A4; simp at A4; rw [sp_b1 rfl]; omega)⟩)
        · refine sd_iconst C dX5_counted_51 (by decide) (fun k51 ek51 => ?_)
          refine sd_goto C 56 dX5_counted_52 (by decide) ?_
          exact hret _ _ _ _ dX5_counted_56 (⟨rfl, by
              unfold sp_cf
              repeat' split
              all_goals first
                | omega
                | (rw [sp_b1 (decide_eq_true (by omega))]; omega)
                | (rw [sp_b0 (decide_eq_false (by omega))]; omega)
                | (cases hk : sp_quick β (sp_raw β p)
                   · rw [hk] at A4; simp at A4; rw [sp_b0 rfl]; omega
                   · rw [hk] at A4; simp at A4; rw [sp_b1 rfl]; omega)⟩)
      · refine sd_aload_n C dX5_counted_29 0 rfl rfl ?_
        refine sd_get C (by decide) rfl rfl 15 (by decide) rfl wf_X5_86 dX5_counted_30 ?_
        refine sd_if_le C 40 dX5_counted_33 (by decide) (fun c33 => ?_) (fun c33 => ?_)
        · refine sd_iconst C dX5_counted_40 (by decide) (fun k40 ek40 => ?_)
          refine sd_goto C 56 dX5_counted_41 (by decide) ?_
          exact hret _ _ _ _ dX5_counted_56 (⟨rfl, by
              unfold sp_cf
              repeat' split
              all_goals first
                | omega
                | (rw [sp_b1 (decide_eq_true (by omega))]; omega)
                | (rw [sp_b0 (decide_eq_false (by omega))]; omega)
                | (cases hk : sp_quick β (sp_raw β p)
                   · rw [hk] at A4; simp at A4; rw [sp_b0 rfl]; omega
                   · rw [hk] at A4; simp at A4; rw [sp_b1 rfl]; omega)⟩)
        · refine sd_iconst C dX5_counted_36 (by decide) (fun k36 ek36 => ?_)
          refine sd_goto C 56 dX5_counted_37 (by decide) ?_
          exact hret _ _ _ _ dX5_counted_56 (⟨rfl, by
              unfold sp_cf
              repeat' split
              all_goals first
                | omega
                | (rw [sp_b1 (decide_eq_true (by omega))]; omega)
                | (rw [sp_b0 (decide_eq_false (by omega))]; omega)
                | (cases hk : sp_quick β (sp_raw β p)
                   · rw [hk] at A4; simp at A4; rw [sp_b0 rfl]; omega
                   · rw [hk] at A4; simp at A4; rw [sp_b1 rfl]; omega)⟩)
    · refine sd_aload_n C dX5_counted_17 0 rfl rfl ?_
      refine sd_get C (by decide) rfl rfl 16 (by decide) rfl wf_X5_101 dX5_counted_18 ?_
      refine sd_goto C 56 dX5_counted_21 (by decide) ?_
      exact hret _ _ _ _ dX5_counted_56 (⟨rfl, by
          unfold sp_cf
          repeat' split
          all_goals first
            | omega
            | (rw [sp_b1 (decide_eq_true (by omega))]; omega)
            | (rw [sp_b0 (decide_eq_false (by omega))]; omega)
            | (cases hk : sp_quick β (sp_raw β p)
               · rw [hk] at A4; simp at A4; rw [sp_b0 rfl]; omega
               · rw [hk] at A4; simp at A4; rw [sp_b1 rfl]; omega)⟩)
  · refine sd_aload_n C dX5_counted_5 0 rfl rfl ?_
    refine sd_get C (by decide) rfl rfl 15 (by decide) rfl wf_X5_86 dX5_counted_6 ?_
    refine sd_goto C 56 dX5_counted_9 (by decide) ?_
    exact hret _ _ _ _ dX5_counted_56 (⟨rfl, by
        unfold sp_cf
        repeat' split
        all_goals first
          | omega
          | (rw [sp_b1 (decide_eq_true (by omega))]; omega)
          | (rw [sp_b0 (decide_eq_false (by omega))]; omega)
          | (cases hk : sp_quick β (sp_raw β p)
             · rw [hk] at A4; simp at A4; rw [sp_b0 rfl]; omega
             · rw [hk] at A4; simp at A4; rw [sp_b1 rfl]; omega)⟩)

set_option maxRecDepth 20000 in
set_option maxHeartbeats 4000000 in
theorem c_X5_click (l : Launch) (D : va_G) (ad : Nat → Nat) (ca : Nat → ClassId) (T : Nat → Nat) (σ : sd_Mem) (β : sp_B) (hM : sd_MR σ β) (hG : sd_RG β) (hK : sd_RK β) (x1 x2 x3 : Int32) : sd_Ci l yX5_click cX5_click 4 2 D ad ca T σ [.ref (ad 76), .int x1, .int x2, .int x3] (fun r σ' => r.toInt = an_click β x1.toInt x2.toInt x3.toInt ∧ sd_MR σ' (up_click β x1.toInt x2.toInt x3.toInt) ∧ sd_lo σ σ') := by
  refine sd_ent_i (own := RX5) (by decide) rfl (Nat.le_of_ble_eq_true rfl) (fun X C hret => ?_)
  show sd_Wd X 4 D ad ca σ [(0, .ref (ad 76)), (1, .int x1), (2, .int x2), (3, .int x3)] 0 []
  have hN := sp_n_le hG
  have hn1 := hM.1.1
  refine sd_iload_n C dX5_click_0 2 rfl rfl ?_
  refine sd_pSz C (c_X5_isWho l D ad ca T σ x2) mv_X5_isWho wm_X5_69 (by decide) rfl rfl (Nat.le_of_ble_eq_true rfl) dX5_click_1 (fun r1 h1 => ?_)
  try dsimp only at h1
  refine sd_if_ne C 11 dX5_click_4 (by decide) (fun c4 => ?_) (fun c4 => ?_)
  · refine sd_iload_n C dX5_click_11 1 rfl rfl ?_
    refine sd_i2l C dX5_click_12 (fun g12 eg12 => ?_)
    refine sd_lconst C dX5_click_13 (z := 0) (by decide) (fun k13 ek13 => ?_)
    refine sd_ldc2 C dX5_click_14 wk_X5_73 (n := 200000) (by decide) (fun k14 ek14 => ?_)
    refine sd_pSz C (c_X5_in l D ad ca T σ g12 k13 k14) mv_X5_in wm_X5_61 (by decide) rfl rfl (Nat.le_of_ble_eq_true rfl) dX5_click_17 (fun r17 h17 => ?_)
    try dsimp only at h17
    refine sd_if_eq C 35 dX5_click_20 (by decide) (fun c20 => ?_) (fun c20 => ?_)
    · refine sd_sipush C dX5_click_35 (by decide) (fun k35 ek35 => ?_)
      exact hret _ _ _ _ dX5_click_38 (⟨by
          unfold an_click
          repeat' split
          all_goals omega, by
          unfold up_click
          rw [if_pos (by omega)]; exact hM, fun _ _ _ => rfl⟩)
    · refine sd_iload_n C dX5_click_23 3 rfl rfl ?_
      refine sd_i2l C dX5_click_24 (fun g24 eg24 => ?_)
      refine sd_lconst C dX5_click_25 (z := 0) (by decide) (fun k25 ek25 => ?_)
      refine sd_ldc2 C dX5_click_26 wk_X5_75 (n := 7) (by decide) (fun k26 ek26 => ?_)
      refine sd_pSz C (c_X5_in l D ad ca T σ g24 k25 k26) mv_X5_in wm_X5_61 (by decide) rfl rfl (Nat.le_of_ble_eq_true rfl) dX5_click_29 (fun r29 h29 => ?_)
      try dsimp only at h29
      refine sd_if_ne C 39 dX5_click_32 (by decide) (fun c32 => ?_) (fun c32 => ?_)
      · refine sd_aload_n C dX5_click_39 0 rfl rfl ?_
        refine sd_get C (by decide) rfl rfl 0 (by decide) rfl wf_X5_65 dX5_click_40 ?_
        refine sd_bipush C dX5_click_43 (by decide) (fun k43 ek43 => ?_)
        refine sd_icmp_ne C 52 dX5_click_45 (by decide) (fun c45 => ?_) (fun c45 => ?_)
        · refine sd_aload_n C dX5_click_52 0 rfl rfl ?_
          refine sd_get C (by decide) rfl rfl 1 (by decide) rfl wf_X5_7 dX5_click_53 ?_
          refine sd_aload_n C dX5_click_56 0 rfl rfl ?_
          refine sd_get C (by decide) rfl rfl 0 (by decide) rfl wf_X5_65 dX5_click_57 ?_
          refine sd_iload_n C dX5_click_60 1 rfl rfl ?_
          refine sd_iast C (by decide) (fun _ => rfl) (sp_n β) ⟨by omega, by omega⟩ dX5_click_61 (fun s61 es61 => ?_)
          have f1 : s61 76 0 = σ 76 0 := by rw [es61, sd_st_ne (by decide)]
          refine sd_aload_n C dX5_click_62 0 rfl rfl ?_
          refine sd_get C (by decide) rfl rfl 2 (by decide) rfl wf_X5_13 dX5_click_63 ?_
          refine sd_aload_n C dX5_click_66 0 rfl rfl ?_
          refine sd_get C (by decide) rfl rfl 0 (by decide) rfl wf_X5_65 dX5_click_67 ?_
          refine sd_iload_n C dX5_click_70 2 rfl rfl ?_
          refine sd_iast C (by decide) (fun _ => rfl) (sp_n β) ⟨by rw [f1]; omega, by omega⟩ dX5_click_71 (fun s71 es71 => ?_)
          have f2 : s71 76 0 = σ 76 0 := by rw [es71, sd_st_ne (by decide)]; exact f1
          refine sd_aload_n C dX5_click_72 0 rfl rfl ?_
          refine sd_get C (by decide) rfl rfl 3 (by decide) rfl wf_X5_16 dX5_click_73 ?_
          refine sd_aload_n C dX5_click_76 0 rfl rfl ?_
          refine sd_get C (by decide) rfl rfl 0 (by decide) rfl wf_X5_65 dX5_click_77 ?_
          refine sd_iload_n C dX5_click_80 3 rfl rfl ?_
          refine sd_iast C (by decide) (fun _ => rfl) (sp_n β) ⟨by rw [f2]; omega, by omega⟩ dX5_click_81 (fun s81 es81 => ?_)
          have f3 : s81 76 0 = σ 76 0 := by rw [es81, sd_st_ne (by decide)]; exact f2
          refine sd_aload_n C dX5_click_82 0 rfl rfl ?_
          refine sd_get C (by decide) rfl rfl 4 (by decide) rfl wf_X5_19 dX5_click_83 ?_
          refine sd_aload_n C dX5_click_86 0 rfl rfl ?_
          refine sd_get C (by decide) rfl rfl 0 (by decide) rfl wf_X5_65 dX5_click_87 ?_
          refine sd_iconst C dX5_click_90 (by decide) (fun k90 ek90 => ?_)
          refine sd_zast C (by decide) (fun _ => rfl) (sp_n β) ⟨by rw [f3]; omega, by omega⟩ (by omega) dX5_click_91 (fun s91 es91 => ?_)
          have f4 : s91 76 0 = σ 76 0 := by rw [es91, sd_st_ne (by decide)]; exact f3
          refine sd_aload_n C dX5_click_92 0 rfl rfl ?_
          refine sd_dup C dX5_click_93 rfl ?_
          refine sd_get C (by decide) rfl rfl 0 (by decide) rfl wf_X5_65 dX5_click_94 ?_
          refine sd_iconst C dX5_click_97 (by decide) (fun k97 ek97 => ?_)
          refine sd_iadd C dX5_click_98 (by rw [f4]; omega) (fun z98 ez98 => ?_)
          refine sd_put C (ty := .int) (by decide) rfl rfl 0 (by decide) rfl (by decide +kernel) rfl rfl (Nat.le_of_ble_eq_true rfl) (fun _ => rfl) wf_X5_65 dX5_click_99 (fun s99 es99 => ?_)
          have f5 : s99 76 0 = z98 := by rw [es99, sd_st_at]
          refine sd_aload_n C dX5_click_102 0 rfl rfl ?_
          refine sd_get C (by decide) rfl rfl 0 (by decide) rfl wf_X5_65 dX5_click_103 ?_
          refine sd_iconst C dX5_click_106 (by decide) (fun k106 ek106 => ?_)
          refine sd_isub C dX5_click_107 (by rw [f5, ez98, f4]; omega) (fun z107 ez107 => ?_)
          exact hret _ _ _ _ dX5_click_108 (by
              rw [f4] at ez98
              rw [f5] at ez107
              refine ⟨by
                unfold an_click
                repeat' split
                all_goals omega, ?_, fun i k hi => ?_⟩
              · unfold up_click
                rw [if_neg (by omega)]
                exact sd_MR_click hM hG hK (by omega) es61 es71 es81 es91 es99 ek90 (by omega)
              · rw [es99, sd_st_ne (by omega), es91, sd_st_ne (by omega), es81, sd_st_ne (by omega), es71, sd_st_ne (by omega), es61, sd_st_ne (by omega)])
        · refine sd_sipush C dX5_click_48 (by decide) (fun k48 ek48 => ?_)
          exact hret _ _ _ _ dX5_click_51 (⟨by
              unfold an_click
              repeat' split
              all_goals omega, by
              unfold up_click
              rw [if_pos (by omega)]; exact hM, fun _ _ _ => rfl⟩)
      · refine sd_sipush C dX5_click_35 (by decide) (fun k35 ek35 => ?_)
        exact hret _ _ _ _ dX5_click_38 (⟨by
            unfold an_click
            repeat' split
            all_goals omega, by
            unfold up_click
            rw [if_pos (by omega)]; exact hM, fun _ _ _ => rfl⟩)
  · refine sd_sipush C dX5_click_7 (by decide) (fun k7 ek7 => ?_)
    exact hret _ _ _ _ dX5_click_10 (⟨by
        unfold an_click
        repeat' split
        all_goals omega, by
        unfold up_click
        rw [if_pos (by omega)]; exact hM, fun _ _ _ => rfl⟩)

set_option maxRecDepth 20000 in
set_option maxHeartbeats 4000000 in
theorem c_X5_strike (l : Launch) (D : va_G) (ad : Nat → Nat) (ca : Nat → ClassId) (T : Nat → Nat) (σ : sd_Mem) (β : sp_B) (hM : sd_MR σ β) (hG : sd_RG β) (x1 x2 : Int32) (hx2 : x2.toInt = 0 ∨ x2.toInt = 1) : sd_Ci l yX5_strike cX5_strike 4 2 D ad ca T σ [.ref (ad 76), .int x1, .int x2] (fun r σ' => r.toInt = an_strike β x1.toInt ∧ sd_MR σ' (up_strike β x1.toInt x2.toInt) ∧ sd_lo σ σ') := by
  refine sd_ent_i (own := RX5) (by decide) rfl (Nat.le_of_ble_eq_true rfl) (fun X C hret => ?_)
  show sd_Wd X 4 D ad ca σ [(0, .ref (ad 76)), (1, .int x1), (2, .int x2)] 0 []
  have hN := sp_n_le hG
  have hn1 := hM.1.1
  refine sd_aload_n C dX5_strike_0 0 rfl rfl ?_
  refine sd_iload_n C dX5_strike_1 1 rfl rfl ?_
  refine sd_pVz C (c_X5_isClick l D ad ca T σ x1 (by omega)) mv_X5_isClick wm_X5_77 (by decide) rfl rfl (by decide) rfl rfl (Nat.le_of_ble_eq_true rfl) dX5_strike_2 (fun r2 h2 => ?_)
  try dsimp only at h2
  refine sd_if_ne C 12 dX5_strike_5 (by decide) (fun c5 => ?_) (fun c5 => ?_)
  · have t1 := hM.2.1 x1.toInt.toNat (by omega)
    have t2 := hG.2.1 x1.toInt.toNat (by omega)
    refine sd_aload_n C dX5_strike_12 0 rfl rfl ?_
    refine sd_get C (by decide) rfl rfl 4 (by decide) rfl wf_X5_19 dX5_strike_13 ?_
    refine sd_iload_n C dX5_strike_16 1 rfl rfl ?_
    refine sd_zald C (by decide) rfl (x1.toInt.toNat) ⟨by omega, by omega⟩ dX5_strike_17 ?_
    refine sd_if_eq C 25 dX5_strike_18 (by decide) (fun c18 => ?_) (fun c18 => ?_)
    · refine sd_iconst C dX5_strike_25 (by decide) (fun k25 ek25 => ?_)
      refine sd_istore_n (lv' := [(3, .int k25), (0, .ref (ad 76)), (1, .int x1), (2, .int x2)]) C dX5_strike_26 rfl (by decide) rfl ?_
      refine sd_aload_n C dX5_strike_27 1 rfl rfl ?_
      refine sd_get C (by decide) rfl rfl 4 (by decide) rfl wf_X5_19 dX5_strike_28 ?_
      refine sd_iload_n C dX5_strike_31 2 rfl rfl ?_
      refine sd_iload_n C dX5_strike_32 3 rfl rfl ?_
      refine sd_zast C (by decide) (fun _ => rfl) (x1.toInt.toNat) ⟨by omega, by omega⟩ (by omega) dX5_strike_33 (fun s33 es33 => ?_)
      refine sd_iload_n C dX5_strike_34 0 rfl rfl ?_
      exact hret _ _ _ _ dX5_strike_35 (⟨by
          unfold an_strike
          repeat' split
          all_goals omega, by
          unfold up_strike
          rw [if_neg (by omega), es33]
          exact sd_MR_set hM rfl (by omega), fun i k hi => by rw [es33, sd_st_ne (by omega)]⟩)
    · refine sd_iconst C dX5_strike_21 (by decide) (fun k21 ek21 => ?_)
      refine sd_goto C 26 dX5_strike_22 (by decide) ?_
      refine sd_istore_n (lv' := [(3, .int k21), (0, .ref (ad 76)), (1, .int x1), (2, .int x2)]) C dX5_strike_26 rfl (by decide) rfl ?_
      refine sd_aload_n C dX5_strike_27 1 rfl rfl ?_
      refine sd_get C (by decide) rfl rfl 4 (by decide) rfl wf_X5_19 dX5_strike_28 ?_
      refine sd_iload_n C dX5_strike_31 2 rfl rfl ?_
      refine sd_iload_n C dX5_strike_32 3 rfl rfl ?_
      refine sd_zast C (by decide) (fun _ => rfl) (x1.toInt.toNat) ⟨by omega, by omega⟩ (by omega) dX5_strike_33 (fun s33 es33 => ?_)
      refine sd_iload_n C dX5_strike_34 0 rfl rfl ?_
      exact hret _ _ _ _ dX5_strike_35 (⟨by
          unfold an_strike
          repeat' split
          all_goals omega, by
          unfold up_strike
          rw [if_neg (by omega), es33]
          exact sd_MR_set hM rfl (by omega), fun i k hi => by rw [es33, sd_st_ne (by omega)]⟩)
  · refine sd_sipush C dX5_strike_8 (by decide) (fun k8 ek8 => ?_)
    exact hret _ _ _ _ dX5_strike_11 (⟨by
        unfold an_strike
        repeat' split
        all_goals omega, by
        unfold up_strike
        rw [if_pos (by omega)]; exact hM, fun _ _ _ => rfl⟩)

set_option maxRecDepth 20000 in
set_option maxHeartbeats 4000000 in
theorem c_X5_join (l : Launch) (D : va_G) (ad : Nat → Nat) (ca : Nat → ClassId) (T : Nat → Nat) (σ : sd_Mem) (β : sp_B) (hM : sd_MR σ β) (hG : sd_RG β) (x1 x2 : Int32) : sd_Ci l yX5_join cX5_join 5 2 D ad ca T σ [.ref (ad 76), .int x1, .int x2] (fun r σ' => r.toInt = an_join β x1.toInt x2.toInt ∧ sd_MR σ' (up_join β x1.toInt x2.toInt) ∧ sd_lo σ σ') := by
  refine sd_ent_i (own := RX5) (by decide) rfl (Nat.le_of_ble_eq_true rfl) (fun X C hret => ?_)
  show sd_Wd X 5 D ad ca σ [(0, .ref (ad 76)), (1, .int x1), (2, .int x2)] 0 []
  have hN := sp_n_le hG
  have hn1 := hM.1.1
  refine sd_iload_n C dX5_join_0 1 rfl rfl ?_
  refine sd_i2l C dX5_join_1 (fun g1 eg1 => ?_)
  refine sd_ldc2 C dX5_join_2 wk_X5_80 (n := 12) (by decide) (fun k2 ek2 => ?_)
  refine sd_ldc2 C dX5_join_5 wk_X5_59 (n := 23) (by decide) (fun k5 ek5 => ?_)
  refine sd_pSz C (c_X5_in l D ad ca T σ g1 k2 k5) mv_X5_in wm_X5_61 (by decide) rfl rfl (Nat.le_of_ble_eq_true rfl) dX5_join_8 (fun r8 h8 => ?_)
  try dsimp only at h8
  refine sd_if_eq C 26 dX5_join_11 (by decide) (fun c11 => ?_) (fun c11 => ?_)
  · refine sd_sipush C dX5_join_26 (by decide) (fun k26 ek26 => ?_)
    exact hret _ _ _ _ dX5_join_29 (⟨by
        unfold an_join
        repeat' split
        all_goals omega, by
        unfold up_join
        rw [if_pos (by omega)]; exact hM, fun _ _ _ => rfl⟩)
  · refine sd_iload_n C dX5_join_14 2 rfl rfl ?_
    refine sd_i2l C dX5_join_15 (fun g15 eg15 => ?_)
    refine sd_lconst C dX5_join_16 (z := 0) (by decide) (fun k16 ek16 => ?_)
    refine sd_ldc2 C dX5_join_17 wk_X5_82 (n := 11) (by decide) (fun k17 ek17 => ?_)
    refine sd_pSz C (c_X5_in l D ad ca T σ g15 k16 k17) mv_X5_in wm_X5_61 (by decide) rfl rfl (Nat.le_of_ble_eq_true rfl) dX5_join_20 (fun r20 h20 => ?_)
    try dsimp only at h20
    refine sd_if_ne C 30 dX5_join_23 (by decide) (fun c23 => ?_) (fun c23 => ?_)
    · have t1 := hM.2.2.1 x1.toInt.toNat (by omega)
      refine sd_aload_n C dX5_join_30 0 rfl rfl ?_
      refine sd_get C (by decide) rfl rfl 5 (by decide) rfl wf_X5_23 dX5_join_31 ?_
      refine sd_iload_n C dX5_join_34 1 rfl rfl ?_
      refine sd_iald C (by decide) rfl (x1.toInt.toNat) ⟨by omega, by omega⟩ dX5_join_35 ?_
      refine sd_if_lt C 43 dX5_join_36 (by decide) (fun c36 => ?_) (fun c36 => ?_)
      · refine sd_aload_n C dX5_join_43 0 rfl rfl ?_
        refine sd_get C (by decide) rfl rfl 5 (by decide) rfl wf_X5_23 dX5_join_44 ?_
        refine sd_iload_n C dX5_join_47 1 rfl rfl ?_
        refine sd_iload_n C dX5_join_48 2 rfl rfl ?_
        refine sd_iast C (by decide) (fun _ => rfl) (x1.toInt.toNat) ⟨by omega, by omega⟩ dX5_join_49 (fun s49 es49 => ?_)
        have g0 : s49 76 0 = σ 76 0 := by rw [es49, sd_st_ne (by decide)]
        have g9 : (s49 76 0).toInt = β 0 0 := by rw [g0]; exact hn1
        refine sd_iconst C dX5_join_50 (by decide) (fun k50 ek50 => ?_)
        refine sd_istore_n (lv' := [(3, .int k50), (0, .ref (ad 76)), (1, .int x1), (2, .int x2)]) C dX5_join_51 rfl (by decide) rfl ?_
        refine sd_iconst C dX5_join_52 (by decide) (fun k52 ek52 => ?_)
        refine sd_istore (lv' := [(4, .int k52), (3, .int k50), (0, .ref (ad 76)), (1, .int x1), (2, .int x2)]) C dX5_join_53 (by decide) rfl ?_
        have key55 : ∀ (fu55 : Nat) (y3 : Int32) (y4 : Int32) (c : Nat), (y4.toInt = (c : Int)) → (c ≤ sp_n β) → (y3.toInt = (sp_ct (sp_mine β x1.toInt.toNat) c : Int)) → (sp_n β - c < fu55) → sd_Wd X 5 D ad ca s49 [(4, .int y4), (3, .int y3), (0, .ref (ad 76)), (1, .int x1), (2, .int x2)] 55 [] := by
          intro fu55
          induction fu55 with
          | zero => intro y3 y4 c h4 hc h3 hm55; exact absurd hm55 (Nat.not_lt_zero _)
          | succ fu55 ih55 =>
            intro y3 y4 c h4 hc h3 hm55
            refine sd_iload C dX5_join_55 0 rfl ?_
            refine sd_aload_n C dX5_join_57 2 rfl rfl ?_
            refine sd_get C (by decide) rfl rfl 0 (by decide) rfl wf_X5_65 dX5_join_58 ?_
            refine sd_icmp_ge C 89 dX5_join_61 (by decide) (fun c61 => ?_) (fun c61 => ?_)
            · refine sd_iload_n C dX5_join_89 1 rfl rfl ?_
              exact hret _ _ _ _ dX5_join_90 (by
                  have ec : sp_n β = c := by omega
                  have eo : (sp_owned β x1.toInt.toNat : Int) = y3.toInt := by unfold sp_owned; rw [ec]; exact h3.symm
                  exact ⟨by
                    unfold an_join
                    repeat' split
                    all_goals omega, by
                    unfold up_join
                    rw [if_neg (by omega), es49]
                    exact sd_MR_set hM rfl (by omega), fun i k hi => by rw [es49, sd_st_ne (by omega)]⟩)
            · have g1 := hM.2.1 c (by omega)
              have g2 : s49 78 c = σ 78 c := by rw [es49, sd_st_ne (by decide)]
              rw [← g2] at g1
              have hle := sp_ct_le (p := sp_mine β x1.toInt.toNat) c
              have hmm := sp_mine_mark hG (m := x1.toInt.toNat) (c := c) (by omega) (by omega) (by omega) (by omega)
              refine sd_iload_n C dX5_join_64 1 rfl rfl ?_
              refine sd_aload_n C dX5_join_65 2 rfl rfl ?_
              refine sd_get C (by decide) rfl rfl 2 (by decide) rfl wf_X5_13 dX5_join_66 ?_
              refine sd_iload C dX5_join_69 0 rfl ?_
              refine sd_iald C (by decide) rfl (c) ⟨by omega, by omega⟩ dX5_join_71 ?_
              refine sd_iload_n C dX5_join_72 3 rfl rfl ?_
              refine sd_icmp_ne C 80 dX5_join_73 (by decide) (fun c73 => ?_) (fun c73 => ?_)
              · refine sd_iconst C dX5_join_80 (by decide) (fun k80 ek80 => ?_)
                refine sd_iadd C dX5_join_81 (by omega) (fun z81 ez81 => ?_)
                refine sd_istore_n (lv' := [(3, .int z81), (4, .int y4), (0, .ref (ad 76)), (1, .int x1), (2, .int x2)]) C dX5_join_82 rfl (by decide) rfl ?_
                refine sd_iinc C dX5_join_83 1 rfl (by decide) (by decide) (by omega) (fun zz => [(4, .int zz), (3, .int z81), (0, .ref (ad 76)), (1, .int x1), (2, .int x2)]) (fun _ => rfl) (fun u83 eu83 => ?_)
                refine sd_goto C 55 dX5_join_86 (by decide) ?_
                exact ih55 z81 u83 (c + 1) (by omega) (by omega) (by first | (rw [sp_ct_s (by rw [hmm]; exact decide_eq_true (by omega))]; omega) | (rw [sp_ct_k (by rw [hmm]; exact decide_eq_false (by omega))]; omega)) (by omega)
              · refine sd_iconst C dX5_join_76 (by decide) (fun k76 ek76 => ?_)
                refine sd_goto C 81 dX5_join_77 (by decide) ?_
                refine sd_iadd C dX5_join_81 (by omega) (fun z81 ez81 => ?_)
                refine sd_istore_n (lv' := [(3, .int z81), (4, .int y4), (0, .ref (ad 76)), (1, .int x1), (2, .int x2)]) C dX5_join_82 rfl (by decide) rfl ?_
                refine sd_iinc C dX5_join_83 1 rfl (by decide) (by decide) (by omega) (fun zz => [(4, .int zz), (3, .int z81), (0, .ref (ad 76)), (1, .int x1), (2, .int x2)]) (fun _ => rfl) (fun u83 eu83 => ?_)
                refine sd_goto C 55 dX5_join_86 (by decide) ?_
                exact ih55 z81 u83 (c + 1) (by omega) (by omega) (by first | (rw [sp_ct_s (by rw [hmm]; exact decide_eq_true (by omega))]; omega) | (rw [sp_ct_k (by rw [hmm]; exact decide_eq_false (by omega))]; omega)) (by omega)
        exact key55 _ k50 k52 0 (by omega) (by omega) (by rw [sp_ct]; exact ek50) (Nat.lt_succ_self _)
      · refine sd_sipush C dX5_join_39 (by decide) (fun k39 ek39 => ?_)
        exact hret _ _ _ _ dX5_join_42 (⟨by
            unfold an_join
            repeat' split
            all_goals omega, by
            unfold up_join
            rw [if_pos (by omega)]; exact hM, fun _ _ _ => rfl⟩)
    · refine sd_sipush C dX5_join_26 (by decide) (fun k26 ek26 => ?_)
      exact hret _ _ _ _ dX5_join_29 (⟨by
          unfold an_join
          repeat' split
          all_goals omega, by
          unfold up_join
          rw [if_pos (by omega)]; exact hM, fun _ _ _ => rfl⟩)

set_option maxRecDepth 20000 in
set_option maxHeartbeats 4000000 in
theorem c_X5_rule (l : Launch) (D : va_G) (ad : Nat → Nat) (ca : Nat → ClassId) (T : Nat → Nat) (σ : sd_Mem) (β : sp_B) (hM : sd_MR σ β) (hG : sd_RG β) (x1 x2 : Int32) : sd_Ci l yX5_rule cX5_rule 6 2 D ad ca T σ [.ref (ad 76), .int x1, .int x2] (fun r σ' => r.toInt = an_rule β x1.toInt x2.toInt ∧ sd_MR σ' (up_rule β x1.toInt x2.toInt) ∧ sd_lo σ σ') := by
  refine sd_ent_i (own := RX5) (by decide) rfl (Nat.le_of_ble_eq_true rfl) (fun X C hret => ?_)
  show sd_Wd X 6 D ad ca σ [(0, .ref (ad 76)), (1, .int x1), (2, .int x2)] 0 []
  have hN := sp_n_le hG
  have hn1 := hM.1.1
  have key36 : ∀ (y3 : Int32), (0 ≤ x1.toInt ∧ x1.toInt < 6) → (y3.toInt = sp_lo x1.toInt) → sd_Wd X 6 D ad ca σ [(3, .int y3), (0, .ref (ad 76)), (1, .int x1), (2, .int x2)] 36 [] := by
      intro y3 hx0 h3
      have key74 : ∀ (y4 : Int32), (y4.toInt = sp_hi x1.toInt) → sd_Wd X 6 D ad ca σ [(4, .int y4), (3, .int y3), (0, .ref (ad 76)), (1, .int x1), (2, .int x2)] 74 [] := by
          intro y4 h4
          refine sd_iload_n C dX5_rule_74 4 rfl rfl ?_
          refine sd_i2l C dX5_rule_75 (fun g75 eg75 => ?_)
          refine sd_iload_n C dX5_rule_76 1 rfl rfl ?_
          refine sd_i2l C dX5_rule_77 (fun g77 eg77 => ?_)
          refine sd_iload C dX5_rule_78 0 rfl ?_
          refine sd_i2l C dX5_rule_80 (fun g80 eg80 => ?_)
          refine sd_pSz C (c_X5_in l D ad ca T σ g75 g77 g80) mv_X5_in wm_X5_61 (by decide) rfl rfl (Nat.le_of_ble_eq_true rfl) dX5_rule_81 (fun r81 h81 => ?_)
          try dsimp only at h81
          refine sd_if_ne C 91 dX5_rule_84 (by decide) (fun c84 => ?_) (fun c84 => ?_)
          · have t2 := hM.2.2.2.1 x1.toInt.toNat (by omega)
            refine sd_aload_n C dX5_rule_91 2 rfl rfl ?_
            refine sd_get C (by decide) rfl rfl 6 (by decide) rfl wf_X5_26 dX5_rule_92 ?_
            refine sd_iload_n C dX5_rule_95 3 rfl rfl ?_
            refine sd_iald C (by decide) rfl (x1.toInt.toNat) ⟨by omega, by omega⟩ dX5_rule_96 ?_
            refine sd_istore (lv' := [(5, .int (σ 82 (x1.toInt.toNat))), (4, .int y4), (3, .int y3), (0, .ref (ad 76)), (1, .int x1), (2, .int x2)]) C dX5_rule_97 (by decide) rfl ?_
            refine sd_aload_n C dX5_rule_99 3 rfl rfl ?_
            refine sd_get C (by decide) rfl rfl 6 (by decide) rfl wf_X5_26 dX5_rule_100 ?_
            refine sd_iload_n C dX5_rule_103 4 rfl rfl ?_
            refine sd_iload_n C dX5_rule_104 5 rfl rfl ?_
            refine sd_iast C (by decide) (fun _ => rfl) (x1.toInt.toNat) ⟨by omega, by omega⟩ dX5_rule_105 (fun s105 es105 => ?_)
            refine sd_iload C dX5_rule_106 0 rfl ?_
            exact hret _ _ _ _ dX5_rule_108 (⟨by
                unfold an_rule
                repeat' split
                all_goals omega, by
                unfold up_rule
                rw [if_neg (by omega), es105]
                exact sd_MR_set hM rfl (by omega), fun i k hi => by rw [es105, sd_st_ne (by omega)]⟩)
          · refine sd_sipush C dX5_rule_87 (by decide) (fun k87 ek87 => ?_)
            exact hret _ _ _ _ dX5_rule_90 (⟨by
                unfold an_rule
                repeat' split
                all_goals omega, by
                unfold up_rule
                rw [if_pos (by omega)]; exact hM, fun _ _ _ => rfl⟩)
      refine sd_iload_n C dX5_rule_36 2 rfl rfl ?_
      refine sd_if_eq C 45 dX5_rule_37 (by decide) (fun c37 => ?_) (fun c37 => ?_)
      · refine sd_sipush C dX5_rule_45 (by decide) (fun k45 ek45 => ?_)
        refine sd_goto C 72 dX5_rule_48 (by decide) ?_
        refine sd_istore (lv' := [(4, .int k45), (3, .int y3), (0, .ref (ad 76)), (1, .int x1), (2, .int x2)]) C dX5_rule_72 (by decide) rfl ?_
        exact key74 k45 (by unfold sp_hi; (repeat' split) <;> omega)
      · refine sd_iload_n C dX5_rule_40 2 rfl rfl ?_
        refine sd_iconst C dX5_rule_41 (by decide) (fun k41 ek41 => ?_)
        refine sd_icmp_ne C 51 dX5_rule_42 (by decide) (fun c42 => ?_) (fun c42 => ?_)
        · refine sd_iload_n C dX5_rule_51 2 rfl rfl ?_
          refine sd_iconst C dX5_rule_52 (by decide) (fun k52 ek52 => ?_)
          refine sd_icmp_ne C 60 dX5_rule_53 (by decide) (fun c53 => ?_) (fun c53 => ?_)
          · refine sd_iload_n C dX5_rule_60 2 rfl rfl ?_
            refine sd_iconst C dX5_rule_61 (by decide) (fun k61 ek61 => ?_)
            refine sd_icmp_ne C 70 dX5_rule_62 (by decide) (fun c62 => ?_) (fun c62 => ?_)
            · refine sd_bipush C dX5_rule_70 (by decide) (fun k70 ek70 => ?_)
              refine sd_istore (lv' := [(4, .int k70), (3, .int y3), (0, .ref (ad 76)), (1, .int x1), (2, .int x2)]) C dX5_rule_72 (by decide) rfl ?_
              exact key74 k70 (by unfold sp_hi; (repeat' split) <;> omega)
            · refine sd_bipush C dX5_rule_65 (by decide) (fun k65 ek65 => ?_)
              refine sd_goto C 72 dX5_rule_67 (by decide) ?_
              refine sd_istore (lv' := [(4, .int k65), (3, .int y3), (0, .ref (ad 76)), (1, .int x1), (2, .int x2)]) C dX5_rule_72 (by decide) rfl ?_
              exact key74 k65 (by unfold sp_hi; (repeat' split) <;> omega)
          · refine sd_iconst C dX5_rule_56 (by decide) (fun k56 ek56 => ?_)
            refine sd_goto C 72 dX5_rule_57 (by decide) ?_
            refine sd_istore (lv' := [(4, .int k56), (3, .int y3), (0, .ref (ad 76)), (1, .int x1), (2, .int x2)]) C dX5_rule_72 (by decide) rfl ?_
            exact key74 k56 (by unfold sp_hi; (repeat' split) <;> omega)
        · refine sd_sipush C dX5_rule_45 (by decide) (fun k45 ek45 => ?_)
          refine sd_goto C 72 dX5_rule_48 (by decide) ?_
          refine sd_istore (lv' := [(4, .int k45), (3, .int y3), (0, .ref (ad 76)), (1, .int x1), (2, .int x2)]) C dX5_rule_72 (by decide) rfl ?_
          exact key74 k45 (by unfold sp_hi; (repeat' split) <;> omega)
  refine sd_iload_n C dX5_rule_0 1 rfl rfl ?_
  refine sd_i2l C dX5_rule_1 (fun g1 eg1 => ?_)
  refine sd_lconst C dX5_rule_2 (z := 0) (by decide) (fun k2 ek2 => ?_)
  refine sd_ldc2 C dX5_rule_3 wk_X5_84 (n := 5) (by decide) (fun k3 ek3 => ?_)
  refine sd_pSz C (c_X5_in l D ad ca T σ g1 k2 k3) mv_X5_in wm_X5_61 (by decide) rfl rfl (Nat.le_of_ble_eq_true rfl) dX5_rule_6 (fun r6 h6 => ?_)
  try dsimp only at h6
  refine sd_if_ne C 16 dX5_rule_9 (by decide) (fun c9 => ?_) (fun c9 => ?_)
  · refine sd_iload_n C dX5_rule_16 1 rfl rfl ?_
    refine sd_iconst C dX5_rule_17 (by decide) (fun k17 ek17 => ?_)
    refine sd_icmp_ne C 25 dX5_rule_18 (by decide) (fun c18 => ?_) (fun c18 => ?_)
    · refine sd_iload_n C dX5_rule_25 1 rfl rfl ?_
      refine sd_iconst C dX5_rule_26 (by decide) (fun k26 ek26 => ?_)
      refine sd_icmp_ne C 34 dX5_rule_27 (by decide) (fun c27 => ?_) (fun c27 => ?_)
      · refine sd_iconst C dX5_rule_34 (by decide) (fun k34 ek34 => ?_)
        refine sd_istore_n (lv' := [(3, .int k34), (0, .ref (ad 76)), (1, .int x1), (2, .int x2)]) C dX5_rule_35 rfl (by decide) rfl ?_
        exact key36 k34 (by omega) (by unfold sp_lo; (repeat' split) <;> omega)
      · refine sd_iconst C dX5_rule_30 (by decide) (fun k30 ek30 => ?_)
        refine sd_goto C 35 dX5_rule_31 (by decide) ?_
        refine sd_istore_n (lv' := [(3, .int k30), (0, .ref (ad 76)), (1, .int x1), (2, .int x2)]) C dX5_rule_35 rfl (by decide) rfl ?_
        exact key36 k30 (by omega) (by unfold sp_lo; (repeat' split) <;> omega)
    · refine sd_iconst C dX5_rule_21 (by decide) (fun k21 ek21 => ?_)
      refine sd_goto C 35 dX5_rule_22 (by decide) ?_
      refine sd_istore_n (lv' := [(3, .int k21), (0, .ref (ad 76)), (1, .int x1), (2, .int x2)]) C dX5_rule_35 rfl (by decide) rfl ?_
      exact key36 k21 (by omega) (by unfold sp_lo; (repeat' split) <;> omega)
  · refine sd_sipush C dX5_rule_12 (by decide) (fun k12 ek12 => ?_)
    exact hret _ _ _ _ dX5_rule_15 (⟨by
        unfold an_rule
        repeat' split
        all_goals omega, by
        unfold up_rule
        rw [if_pos (by omega)]; exact hM, fun _ _ _ => rfl⟩)
end
section
theorem sp_pl_si (β : sp_B) (l : List Nat) (hn : l.Nodup) (c : Nat) : (sp_pl l c = -1 ∧ sp_si β l c = -1) ∨ ∃ j, j < l.length ∧ sp_pl l c = (j : Int) ∧ sp_si β l c = (sp_ns β l (j + 1) : Int) - 1 := by
  by_cases h : c ∈ l
  · obtain ⟨i, hi, e⟩ := List.getElem_of_mem h
    have e2 : l.getD i 0 = c := by rw [List.getD_eq_getElem?_getD, List.getElem?_eq_getElem hi]; exact e
    exact Or.inr ⟨i, hi, by rw [← e2]; exact sp_pl_at hn hi, by rw [← e2]; exact sp_si_at hn hi⟩
  · exact Or.inl ⟨sp_pl_no h, sp_si_no h⟩
set_option maxRecDepth 20000 in
set_option maxHeartbeats 4000000 in
theorem c_X5_told (l : Launch) (D : va_G) (ad : Nat → Nat) (ca : Nat → ClassId) (T : Nat → Nat) (σ : sd_Mem) (β : sp_B) (hM : sd_MR σ β) (hG : sd_RG β) (x1 x2 : Int32) : sd_Ci l yX5_told cX5_told 5 2 D ad ca T σ [.ref (ad 76), .int x1, .int x2] (fun r σ' => r.toInt = an_told β x1.toInt x2.toInt ∧ sd_MR σ' β ∧ sd_lo σ σ') := by
  refine sd_ent_i (own := RX5) (by decide) rfl (Nat.le_of_ble_eq_true rfl) (fun X C hret => ?_)
  show sd_Wd X 5 D ad ca σ [(0, .ref (ad 76)), (1, .int x1), (2, .int x2)] 0 []
  have hN := sp_n_le hG
  have hn1 := hM.1.1
  refine sd_aload_n C dX5_told_0 0 rfl rfl ?_
  refine sd_iload_n C dX5_told_1 1 rfl rfl ?_
  refine sd_pVz C (c_X5_isClick l D ad ca T σ x1 (by omega)) mv_X5_isClick wm_X5_77 (by decide) rfl rfl (by decide) rfl rfl (Nat.le_of_ble_eq_true rfl) dX5_told_2 (fun r2 h2 => ?_)
  try dsimp only at h2
  refine sd_if_ne C 12 dX5_told_5 (by decide) (fun c5 => ?_) (fun c5 => ?_)
  · refine sd_iload_n C dX5_told_12 2 rfl rfl ?_
    refine sd_i2l C dX5_told_13 (fun g13 eg13 => ?_)
    refine sd_lconst C dX5_told_14 (z := 0) (by decide) (fun k14 ek14 => ?_)
    refine sd_ldc2 C dX5_told_15 wk_X5_107 (n := 6) (by decide) (fun k15 ek15 => ?_)
    refine sd_pSz C (c_X5_in l D ad ca T σ g13 k14 k15) mv_X5_in wm_X5_61 (by decide) rfl rfl (Nat.le_of_ble_eq_true rfl) dX5_told_18 (fun r18 h18 => ?_)
    try dsimp only at h18
    refine sd_if_ne C 28 dX5_told_21 (by decide) (fun c21 => ?_) (fun c21 => ?_)
    · have t1 := hM.2.1 x1.toInt.toNat (by omega)
      have t2 := hG.2.1 x1.toInt.toNat (by omega)
      have t4 := hG.2.2.1 (β 2 x1.toInt.toNat).toNat (by omega)
      have t5 : (sp_per β x1.toInt.toNat : Int) = β 5 (β 2 x1.toInt.toNat).toNat := by unfold sp_per; omega
      have hper : sp_per β x1.toInt.toNat < 24 := by omega
      refine sd_aload_n C dX5_told_28 0 rfl rfl ?_
      refine sd_aload_n C dX5_told_29 0 rfl rfl ?_
      refine sd_get C (by decide) rfl rfl 2 (by decide) rfl wf_X5_13 dX5_told_30 ?_
      refine sd_iload_n C dX5_told_33 1 rfl rfl ?_
      refine sd_iald C (by decide) rfl (x1.toInt.toNat) ⟨by omega, by omega⟩ dX5_told_34 ?_
      refine sd_pVi C (c_X5_personOf l D ad ca T σ β hM hG (β 2 x1.toInt.toNat).toNat (by omega) (σ 78 x1.toInt.toNat) (by omega)) mv_X5_personOf wm_X5_89 (by decide) rfl rfl (by decide) rfl rfl (Nat.le_of_ble_eq_true rfl) dX5_told_35 (fun r35 h35 => ?_)
      try dsimp only at h35
      refine sd_istore_n (lv' := [(3, .int r35), (0, .ref (ad 76)), (1, .int x1), (2, .int x2)]) C dX5_told_38 rfl (by decide) rfl ?_
      refine sd_aload_n C dX5_told_39 1 rfl rfl ?_
      refine sd_iload_n C dX5_told_40 0 rfl rfl ?_
      refine sd_callVv C (c_X5_gather l D ad ca T σ β hM hG (sp_per β x1.toInt.toNat) hper r35 (by omega)) mv_X5_gather wm_X5_109 (by decide) rfl rfl (by decide) rfl rfl (Nat.le_of_ble_eq_true rfl) dX5_told_41 (fun s41 h41 => ?_)
      try dsimp only at h41
      obtain ⟨hA, hfr⟩ := h41
      have hMg := sd_MR_fr (sd_ga_keep hfr) hM
      have hlo := sd_ga_lo hfr
      obtain ⟨A1, A2, A3, A4, A5⟩ := id hA
      have hW := hA.mw hMg hG
      refine sd_aload_n C dX5_told_44 1 rfl rfl ?_
      refine sd_iload_n C dX5_told_45 2 rfl rfl ?_
      refine sd_pVi C (c_X5_placeIn l D ad ca T s41 β (sp_row β (sp_per β x1.toInt.toNat)) hW (sp_row_nodup β _) x1.toInt.toNat x1 (by omega)) mv_X5_placeIn wm_X5_113 (by decide) rfl rfl (by decide) rfl rfl (Nat.le_of_ble_eq_true rfl) dX5_told_46 (fun r46 h46 => ?_)
      try dsimp only at h46
      refine sd_istore (lv' := [(4, .int r46), (3, .int r35), (0, .ref (ad 76)), (1, .int x1), (2, .int x2)]) C dX5_told_49 (by decide) rfl ?_
      have t9 := hMg.2.1 x1.toInt.toNat (by omega)
      have t8 := sp_pl_rng (sp_row β (sp_per β x1.toInt.toNat)) x1.toInt.toNat
      have hok := sp_row_ok hG (sp_per β x1.toInt.toNat)
      refine sd_iload_n C dX5_told_51 4 rfl rfl ?_
      have hw52 : x2.toInt = 0 ∨ x2.toInt = 1 ∨ x2.toInt = 2 ∨ x2.toInt = 3 ∨ x2.toInt = 4 ∨ x2.toInt = 5 ∨ (x2.toInt ≠ 0 ∧ x2.toInt ≠ 1 ∧ x2.toInt ≠ 2 ∧ x2.toInt ≠ 3 ∧ x2.toInt ≠ 4 ∧ x2.toInt ≠ 5) := by omega
      rcases hw52 with w52 | w52 | w52 | w52 | w52 | w52 | w52
      · refine sd_tableIn C 92 (0) dX5_told_52 w52 (by decide) rfl (by decide) ?_
        refine sd_aload_n C dX5_told_92 2 rfl rfl ?_
        refine sd_get C (by decide) rfl rfl 1 (by decide) rfl wf_X5_7 dX5_told_93 ?_
        refine sd_iload_n C dX5_told_96 3 rfl rfl ?_
        refine sd_iald C (by decide) rfl (x1.toInt.toNat) ⟨by omega, by omega⟩ dX5_told_97 ?_
        exact hret _ _ _ _ dX5_told_98 (⟨by
            unfold an_told
            repeat' split
            all_goals omega, hMg, hlo⟩)
      · refine sd_tableIn C 99 (1) dX5_told_52 w52 (by decide) rfl (by decide) ?_
        refine sd_aload_n C dX5_told_99 2 rfl rfl ?_
        refine sd_get C (by decide) rfl rfl 2 (by decide) rfl wf_X5_13 dX5_told_100 ?_
        refine sd_iload_n C dX5_told_103 3 rfl rfl ?_
        refine sd_iald C (by decide) rfl (x1.toInt.toNat) ⟨by omega, by omega⟩ dX5_told_104 ?_
        exact hret _ _ _ _ dX5_told_105 (⟨by
            unfold an_told
            repeat' split
            all_goals omega, hMg, hlo⟩)
      · refine sd_tableIn C 106 (2) dX5_told_52 w52 (by decide) rfl (by decide) ?_
        refine sd_aload_n C dX5_told_106 2 rfl rfl ?_
        refine sd_get C (by decide) rfl rfl 3 (by decide) rfl wf_X5_16 dX5_told_107 ?_
        refine sd_iload_n C dX5_told_110 3 rfl rfl ?_
        refine sd_iald C (by decide) rfl (x1.toInt.toNat) ⟨by omega, by omega⟩ dX5_told_111 ?_
        exact hret _ _ _ _ dX5_told_112 (⟨by
            unfold an_told
            repeat' split
            all_goals omega, hMg, hlo⟩)
      · refine sd_tableIn C 113 (3) dX5_told_52 w52 (by decide) rfl (by decide) ?_
        refine sd_iload_n C dX5_told_113 1 rfl rfl ?_
        exact hret _ _ _ _ dX5_told_114 (⟨by
            unfold an_told
            repeat' split
            all_goals omega, hMg, hlo⟩)
      · refine sd_tableIn C 115 (4) dX5_told_52 w52 (by decide) rfl (by decide) ?_
        refine sd_iload C dX5_told_115 0 rfl ?_
        refine sd_if_ge C 124 dX5_told_117 (by decide) (fun c117 => ?_) (fun c117 => ?_)
        · refine sd_iconst C dX5_told_124 (by decide) (fun k124 ek124 => ?_)
          exact hret _ _ _ _ dX5_told_125 (⟨by
              unfold an_told
              repeat' split
              all_goals omega, hMg, hlo⟩)
        · refine sd_iconst C dX5_told_120 (by decide) (fun k120 ek120 => ?_)
          refine sd_goto C 125 dX5_told_121 (by decide) ?_
          exact hret _ _ _ _ dX5_told_125 (⟨by
              unfold an_told
              repeat' split
              all_goals omega, hMg, hlo⟩)
      · refine sd_tableIn C 126 (5) dX5_told_52 w52 (by decide) rfl (by decide) ?_
        refine sd_iload C dX5_told_126 0 rfl ?_
        refine sd_if_ge C 135 dX5_told_128 (by decide) (fun c128 => ?_) (fun c128 => ?_)
        · rcases sp_pl_si β (sp_row β (sp_per β x1.toInt.toNat)) (sp_row_nodup β _) x1.toInt.toNat with ⟨w1, w2⟩ | ⟨jj, w0, w1, w2⟩
          · exfalso; omega
          have w3 := A5 jj w0
          refine sd_aload_n C dX5_told_135 2 rfl rfl ?_
          refine sd_get C (by decide) rfl rfl 14 (by decide) rfl wf_X5_47 dX5_told_136 ?_
          refine sd_iload C dX5_told_139 0 rfl ?_
          refine sd_iald C (by decide) rfl (jj) ⟨by omega, by omega⟩ dX5_told_141 ?_
          exact hret _ _ _ _ dX5_told_142 (⟨by
              unfold an_told
              repeat' split
              all_goals omega, hMg, hlo⟩)
        · refine sd_iconst C dX5_told_131 (by decide) (fun k131 ek131 => ?_)
          refine sd_goto C 142 dX5_told_132 (by decide) ?_
          exact hret _ _ _ _ dX5_told_142 (⟨by
              have t7 : sp_si β (sp_row β (sp_per β x1.toInt.toNat)) x1.toInt.toNat = -1 := by
                rcases sp_pl_si β (sp_row β (sp_per β x1.toInt.toNat)) (sp_row_nodup β _) x1.toInt.toNat with w | ⟨jj, w0, w1, w2⟩
                · exact w.2
                · exfalso; omega
              unfold an_told
              repeat' split
              all_goals omega, hMg, hlo⟩)
      · refine sd_tableOut C 143 dX5_told_52 (by omega) (by decide) ?_
        refine sd_iload C dX5_told_143 0 rfl ?_
        exact hret _ _ _ _ dX5_told_145 (⟨by
            unfold an_told
            repeat' split
            all_goals omega, hMg, hlo⟩)
    · refine sd_sipush C dX5_told_24 (by decide) (fun k24 ek24 => ?_)
      exact hret _ _ _ _ dX5_told_27 (⟨by
          unfold an_told
          repeat' split
          all_goals omega, hM, fun _ _ _ => rfl⟩)
  · refine sd_sipush C dX5_told_8 (by decide) (fun k8 ek8 => ?_)
    exact hret _ _ _ _ dX5_told_11 (⟨by
        unfold an_told
        repeat' split
        all_goals omega, hM, fun _ _ _ => rfl⟩)

set_option maxRecDepth 20000 in
set_option maxHeartbeats 4000000 in
theorem c_X5_person (l : Launch) (D : va_G) (ad : Nat → Nat) (ca : Nat → ClassId) (T : Nat → Nat) (σ : sd_Mem) (β : sp_B) (hM : sd_MR σ β) (hG : sd_RG β) (x1 x2 : Int32) : sd_Ci l yX5_person cX5_person 4 2 D ad ca T σ [.ref (ad 76), .int x1, .int x2] (fun r σ' => r.toInt = an_person β x1.toInt x2.toInt ∧ sd_MR σ' β ∧ sd_lo σ σ') := by
  refine sd_ent_i (own := RX5) (by decide) rfl (Nat.le_of_ble_eq_true rfl) (fun X C hret => ?_)
  show sd_Wd X 4 D ad ca σ [(0, .ref (ad 76)), (1, .int x1), (2, .int x2)] 0 []
  have hN := sp_n_le hG
  have hn1 := hM.1.1
  refine sd_iload_n C dX5_person_0 1 rfl rfl ?_
  refine sd_pSz C (c_X5_isWho l D ad ca T σ x1) mv_X5_isWho wm_X5_69 (by decide) rfl rfl (Nat.le_of_ble_eq_true rfl) dX5_person_1 (fun r1 h1 => ?_)
  try dsimp only at h1
  refine sd_if_ne C 11 dX5_person_4 (by decide) (fun c4 => ?_) (fun c4 => ?_)
  · have p2 := hG.2.2.1 x1.toInt.toNat (by omega)
    have hq : sp_q β x1.toInt < 24 := by unfold sp_q; omega
    have hqe : β 5 x1.toInt.toNat = (sp_q β x1.toInt : Int) := by unfold sp_q; omega
    have hok := sp_row_ok hG (sp_q β x1.toInt)
    refine sd_aload_n C dX5_person_11 0 rfl rfl ?_
    refine sd_iload_n C dX5_person_12 1 rfl rfl ?_
    refine sd_pVi C (c_X5_personOf l D ad ca T σ β hM hG x1.toInt.toNat (by omega) x1 (by omega)) mv_X5_personOf wm_X5_89 (by decide) rfl rfl (by decide) rfl rfl (Nat.le_of_ble_eq_true rfl) dX5_person_13 (fun r13 h13 => ?_)
    try dsimp only at h13
    refine sd_istore_n (lv' := [(3, .int r13), (0, .ref (ad 76)), (1, .int x1), (2, .int x2)]) C dX5_person_16 rfl (by decide) rfl ?_
    refine sd_aload_n C dX5_person_17 1 rfl rfl ?_
    refine sd_iload_n C dX5_person_18 0 rfl rfl ?_
    refine sd_callVv C (c_X5_gather l D ad ca T σ β hM hG (sp_q β x1.toInt) hq r13 (by omega)) mv_X5_gather wm_X5_109 (by decide) rfl rfl (by decide) rfl rfl (Nat.le_of_ble_eq_true rfl) dX5_person_19 (fun s19 h19 => ?_)
    try dsimp only at h19
    obtain ⟨hA, hfr⟩ := h19
    have hMg := sd_MR_fr (sd_ga_keep hfr) hM
    have hlo := sd_ga_lo hfr
    obtain ⟨A1, A2, A3, A4, A5⟩ := id hA
    have hW := hA.mw hMg hG
    refine sd_iload_n C dX5_person_22 3 rfl rfl ?_
    have hw23 : x2.toInt = 0 ∨ x2.toInt = 1 ∨ x2.toInt = 2 ∨ x2.toInt = 3 ∨ x2.toInt = 4 ∨ x2.toInt = 5 ∨ (x2.toInt ≠ 0 ∧ x2.toInt ≠ 1 ∧ x2.toInt ≠ 2 ∧ x2.toInt ≠ 3 ∧ x2.toInt ≠ 4 ∧ x2.toInt ≠ 5) := by omega
    rcases hw23 with w23 | w23 | w23 | w23 | w23 | w23 | w23
    · refine sd_tableIn C 60 (0) dX5_person_23 w23 (by decide) rfl (by decide) ?_
      refine sd_iload_n C dX5_person_60 0 rfl rfl ?_
      exact hret _ _ _ _ dX5_person_61 (⟨by
          unfold an_person
          repeat' split
          all_goals omega, hMg, hlo⟩)
    · refine sd_tableIn C 62 (1) dX5_person_23 w23 (by decide) rfl (by decide) ?_
      refine sd_aload_n C dX5_person_62 1 rfl rfl ?_
      refine sd_iload_n C dX5_person_63 0 rfl rfl ?_
      refine sd_pVi C (c_X5_clicksOf l D ad ca T s19 β hMg hG (sp_q β x1.toInt) hq r13 (by omega)) mv_X5_clicksOf wm_X5_116 (by decide) rfl rfl (by decide) rfl rfl (Nat.le_of_ble_eq_true rfl) dX5_person_64 (fun r64 h64 => ?_)
      try dsimp only at h64
      exact hret _ _ _ _ dX5_person_67 (⟨by
          unfold an_person
          repeat' split
          all_goals omega, hMg, hlo⟩)
    · refine sd_tableIn C 68 (2) dX5_person_23 w23 (by decide) rfl (by decide) ?_
      refine sd_aload_n C dX5_person_68 1 rfl rfl ?_
      refine sd_get C (by decide) rfl rfl 15 (by decide) rfl wf_X5_86 dX5_person_69 ?_
      exact hret _ _ _ _ dX5_person_72 (⟨by
          unfold an_person
          repeat' split
          all_goals omega, hMg, hlo⟩)
    · refine sd_tableIn C 73 (3) dX5_person_23 w23 (by decide) rfl (by decide) ?_
      refine sd_aload_n C dX5_person_73 1 rfl rfl ?_
      refine sd_get C (by decide) rfl rfl 17 (by decide) rfl wf_X5_97 dX5_person_74 ?_
      refine sd_if_eq C 84 dX5_person_77 (by decide) (fun c77 => ?_) (fun c77 => ?_)
      · refine sd_iconst C dX5_person_84 (by decide) (fun k84 ek84 => ?_)
        exact hret _ _ _ _ dX5_person_85 (⟨by
            unfold an_person
            cases hk : sp_quick β (sp_raw β (sp_q β x1.toInt))
            · rw [hk] at A4; simp at A4
              repeat' split
              all_goals first | omega | simp_all
            · rw [hk] at A4; simp at A4
              repeat' split
              all_goals first | omega | simp_all, hMg, hlo⟩)
      · refine sd_iconst C dX5_person_80 (by decide) (fun k80 ek80 => ?_)
        refine sd_goto C 85 dX5_person_81 (by decide) ?_
        exact hret _ _ _ _ dX5_person_85 (⟨by
            unfold an_person
            cases hk : sp_quick β (sp_raw β (sp_q β x1.toInt))
            · rw [hk] at A4; simp at A4
              repeat' split
              all_goals first | omega | simp_all
            · rw [hk] at A4; simp at A4
              repeat' split
              all_goals first | omega | simp_all, hMg, hlo⟩)
    · refine sd_tableIn C 86 (4) dX5_person_23 w23 (by decide) rfl (by decide) ?_
      refine sd_aload_n C dX5_person_86 1 rfl rfl ?_
      refine sd_get C (by decide) rfl rfl 16 (by decide) rfl wf_X5_101 dX5_person_87 ?_
      exact hret _ _ _ _ dX5_person_90 (⟨by
          unfold an_person
          repeat' split
          all_goals omega, hMg, hlo⟩)
    · refine sd_tableIn C 91 (5) dX5_person_23 w23 (by decide) rfl (by decide) ?_
      refine sd_aload_n C dX5_person_91 1 rfl rfl ?_
      refine sd_pVi C (c_X5_birth l D ad ca T s19 β (sp_row β (sp_q β x1.toInt)) hW) mv_X5_birth wm_X5_119 (by decide) rfl rfl (by decide) rfl rfl (Nat.le_of_ble_eq_true rfl) dX5_person_92 (fun r92 h92 => ?_)
      try dsimp only at h92
      exact hret _ _ _ _ dX5_person_95 (⟨by
          unfold an_person
          repeat' split
          all_goals omega, hMg, hlo⟩)
    · refine sd_tableOut C 96 dX5_person_23 (by omega) (by decide) ?_
      refine sd_sipush C dX5_person_96 (by decide) (fun k96 ek96 => ?_)
      exact hret _ _ _ _ dX5_person_99 (⟨by
          unfold an_person
          repeat' split
          all_goals omega, hMg, hlo⟩)
  · refine sd_sipush C dX5_person_7 (by decide) (fun k7 ek7 => ?_)
    exact hret _ _ _ _ dX5_person_10 (⟨by
        unfold an_person
        repeat' split
        all_goals omega, hM, fun _ _ _ => rfl⟩)

set_option maxRecDepth 20000 in
set_option maxHeartbeats 4000000 in
theorem c_X5_row (l : Launch) (D : va_G) (ad : Nat → Nat) (ca : Nat → ClassId) (T : Nat → Nat) (σ : sd_Mem) (β : sp_B) (hM : sd_MR σ β) (hG : sd_RG β) (x1 x2 : Int32) : sd_Ci l yX5_row cX5_row 3 2 D ad ca T σ [.ref (ad 76), .int x1, .int x2] (fun r σ' => r.toInt = an_row β x1.toInt x2.toInt ∧ sd_MR σ' β ∧ sd_lo σ σ') := by
  refine sd_ent_i (own := RX5) (by decide) rfl (Nat.le_of_ble_eq_true rfl) (fun X C hret => ?_)
  show sd_Wd X 3 D ad ca σ [(0, .ref (ad 76)), (1, .int x1), (2, .int x2)] 0 []
  have hN := sp_n_le hG
  have hn1 := hM.1.1
  refine sd_iload_n C dX5_row_0 1 rfl rfl ?_
  refine sd_pSz C (c_X5_isWho l D ad ca T σ x1) mv_X5_isWho wm_X5_69 (by decide) rfl rfl (Nat.le_of_ble_eq_true rfl) dX5_row_1 (fun r1 h1 => ?_)
  try dsimp only at h1
  refine sd_if_ne C 11 dX5_row_4 (by decide) (fun c4 => ?_) (fun c4 => ?_)
  · have p2 := hG.2.2.1 x1.toInt.toNat (by omega)
    have hq : sp_q β x1.toInt < 24 := by unfold sp_q; omega
    have hqe : β 5 x1.toInt.toNat = (sp_q β x1.toInt : Int) := by unfold sp_q; omega
    have hok := sp_row_ok hG (sp_q β x1.toInt)
    refine sd_aload_n C dX5_row_11 0 rfl rfl ?_
    refine sd_aload_n C dX5_row_12 0 rfl rfl ?_
    refine sd_iload_n C dX5_row_13 1 rfl rfl ?_
    refine sd_pVi C (c_X5_personOf l D ad ca T σ β hM hG x1.toInt.toNat (by omega) x1 (by omega)) mv_X5_personOf wm_X5_89 (by decide) rfl rfl (by decide) rfl rfl (Nat.le_of_ble_eq_true rfl) dX5_row_14 (fun r14 h14 => ?_)
    try dsimp only at h14
    refine sd_callVv C (c_X5_gather l D ad ca T σ β hM hG (sp_q β x1.toInt) hq r14 (by omega)) mv_X5_gather wm_X5_109 (by decide) rfl rfl (by decide) rfl rfl (Nat.le_of_ble_eq_true rfl) dX5_row_17 (fun s17 h17 => ?_)
    try dsimp only at h17
    obtain ⟨hA, hfr⟩ := h17
    have hMg := sd_MR_fr (sd_ga_keep hfr) hM
    have hlo := sd_ga_lo hfr
    obtain ⟨A1, A2, A3, A4, A5⟩ := id hA
    have hW := hA.mw hMg hG
    refine sd_iload_n C dX5_row_20 2 rfl rfl ?_
    refine sd_i2l C dX5_row_21 (fun g21 eg21 => ?_)
    refine sd_lconst C dX5_row_22 (z := 0) (by decide) (fun k22 ek22 => ?_)
    refine sd_aload_n C dX5_row_23 0 rfl rfl ?_
    refine sd_get C (by decide) rfl rfl 15 (by decide) rfl wf_X5_86 dX5_row_24 ?_
    refine sd_iconst C dX5_row_27 (by decide) (fun k27 ek27 => ?_)
    refine sd_isub C dX5_row_28 (by omega) (fun z28 ez28 => ?_)
    refine sd_i2l C dX5_row_29 (fun g29 eg29 => ?_)
    refine sd_pSz C (c_X5_in l D ad ca T s17 g21 k22 g29) mv_X5_in wm_X5_61 (by decide) rfl rfl (Nat.le_of_ble_eq_true rfl) dX5_row_30 (fun r30 h30 => ?_)
    try dsimp only at h30
    refine sd_if_eq C 45 dX5_row_33 (by decide) (fun c33 => ?_) (fun c33 => ?_)
    · refine sd_iconst C dX5_row_45 (by decide) (fun k45 ek45 => ?_)
      exact hret _ _ _ _ dX5_row_46 (⟨by
          unfold an_row
          repeat' split
          all_goals omega, hMg, hlo⟩)
    · have A6 := A2 x2.toInt.toNat (by omega)
      refine sd_aload_n C dX5_row_36 0 rfl rfl ?_
      refine sd_get C (by decide) rfl rfl 13 (by decide) rfl wf_X5_44 dX5_row_37 ?_
      refine sd_iload_n C dX5_row_40 2 rfl rfl ?_
      refine sd_iald C (by decide) rfl (x2.toInt.toNat) ⟨by omega, by omega⟩ dX5_row_41 ?_
      refine sd_goto C 46 dX5_row_42 (by decide) ?_
      exact hret _ _ _ _ dX5_row_46 (⟨by
          unfold an_row
          repeat' split
          all_goals omega, hMg, hlo⟩)
  · refine sd_sipush C dX5_row_7 (by decide) (fun k7 ek7 => ?_)
    exact hret _ _ _ _ dX5_row_10 (⟨by
        unfold an_row
        repeat' split
        all_goals omega, hM, fun _ _ _ => rfl⟩)

set_option maxRecDepth 20000 in
set_option maxHeartbeats 4000000 in
theorem c_X5_sitting (l : Launch) (D : va_G) (ad : Nat → Nat) (ca : Nat → ClassId) (T : Nat → Nat) (σ : sd_Mem) (β : sp_B) (hM : sd_MR σ β) (hG : sd_RG β) (x1 x2 x3 : Int32) : sd_Ci l yX5_sitting cX5_sitting 8 2 D ad ca T σ [.ref (ad 76), .int x1, .int x2, .int x3] (fun r σ' => r.toInt = an_sitting β x1.toInt x2.toInt x3.toInt ∧ sd_MR σ' β ∧ sd_lo σ σ') := by
  refine sd_ent_i (own := RX5) (by decide) rfl (Nat.le_of_ble_eq_true rfl) (fun X C hret => ?_)
  show sd_Wd X 8 D ad ca σ [(0, .ref (ad 76)), (1, .int x1), (2, .int x2), (3, .int x3)] 0 []
  have hN := sp_n_le hG
  have hn1 := hM.1.1
  refine sd_iload_n C dX5_sitting_0 1 rfl rfl ?_
  refine sd_pSz C (c_X5_isWho l D ad ca T σ x1) mv_X5_isWho wm_X5_69 (by decide) rfl rfl (Nat.le_of_ble_eq_true rfl) dX5_sitting_1 (fun r1 h1 => ?_)
  try dsimp only at h1
  refine sd_if_ne C 11 dX5_sitting_4 (by decide) (fun c4 => ?_) (fun c4 => ?_)
  · have p2 := hG.2.2.1 x1.toInt.toNat (by omega)
    have hq : sp_q β x1.toInt < 24 := by unfold sp_q; omega
    have hqe : β 5 x1.toInt.toNat = (sp_q β x1.toInt : Int) := by unfold sp_q; omega
    have hok := sp_row_ok hG (sp_q β x1.toInt)
    refine sd_aload_n C dX5_sitting_11 0 rfl rfl ?_
    refine sd_aload_n C dX5_sitting_12 0 rfl rfl ?_
    refine sd_iload_n C dX5_sitting_13 1 rfl rfl ?_
    refine sd_pVi C (c_X5_personOf l D ad ca T σ β hM hG x1.toInt.toNat (by omega) x1 (by omega)) mv_X5_personOf wm_X5_89 (by decide) rfl rfl (by decide) rfl rfl (Nat.le_of_ble_eq_true rfl) dX5_sitting_14 (fun r14 h14 => ?_)
    try dsimp only at h14
    refine sd_callVv C (c_X5_gather l D ad ca T σ β hM hG (sp_q β x1.toInt) hq r14 (by omega)) mv_X5_gather wm_X5_109 (by decide) rfl rfl (by decide) rfl rfl (Nat.le_of_ble_eq_true rfl) dX5_sitting_17 (fun s17 h17 => ?_)
    try dsimp only at h17
    obtain ⟨hA, hfr⟩ := h17
    have hMg := sd_MR_fr (sd_ga_keep hfr) hM
    have hlo := sd_ga_lo hfr
    obtain ⟨A1, A2, A3, A4, A5⟩ := id hA
    have hW := hA.mw hMg hG
    have hsl := sp_ns_le β (sp_row β (sp_q β x1.toInt)) (sp_row β (sp_q β x1.toInt)).length
    refine sd_iload_n C dX5_sitting_20 2 rfl rfl ?_
    refine sd_i2l C dX5_sitting_21 (fun g21 eg21 => ?_)
    refine sd_lconst C dX5_sitting_22 (z := 0) (by decide) (fun k22 ek22 => ?_)
    refine sd_aload_n C dX5_sitting_23 0 rfl rfl ?_
    refine sd_get C (by decide) rfl rfl 16 (by decide) rfl wf_X5_101 dX5_sitting_24 ?_
    refine sd_iconst C dX5_sitting_27 (by decide) (fun k27 ek27 => ?_)
    refine sd_isub C dX5_sitting_28 (by omega) (fun z28 ez28 => ?_)
    refine sd_i2l C dX5_sitting_29 (fun g29 eg29 => ?_)
    refine sd_pSz C (c_X5_in l D ad ca T s17 g21 k22 g29) mv_X5_in wm_X5_61 (by decide) rfl rfl (Nat.le_of_ble_eq_true rfl) dX5_sitting_30 (fun r30 h30 => ?_)
    try dsimp only at h30
    refine sd_if_ne C 40 dX5_sitting_33 (by decide) (fun c33 => ?_) (fun c33 => ?_)
    · refine sd_iload_n C dX5_sitting_40 3 rfl rfl ?_
      refine sd_i2l C dX5_sitting_41 (fun g41 eg41 => ?_)
      refine sd_lconst C dX5_sitting_42 (z := 0) (by decide) (fun k42 ek42 => ?_)
      refine sd_ldc2 C dX5_sitting_43 wk_X5_123 (n := 3) (by decide) (fun k43 ek43 => ?_)
      refine sd_pSz C (c_X5_in l D ad ca T s17 g41 k42 k43) mv_X5_in wm_X5_61 (by decide) rfl rfl (Nat.le_of_ble_eq_true rfl) dX5_sitting_46 (fun r46 h46 => ?_)
      try dsimp only at h46
      refine sd_if_ne C 56 dX5_sitting_49 (by decide) (fun c49 => ?_) (fun c49 => ?_)
      · refine sd_iconst C dX5_sitting_56 (by decide) (fun k56 ek56 => ?_)
        refine sd_istore (lv' := [(4, .int k56), (0, .ref (ad 76)), (1, .int x1), (2, .int x2), (3, .int x3)]) C dX5_sitting_57 (by decide) rfl ?_
        refine sd_iconst C dX5_sitting_59 (by decide) (fun k59 ek59 => ?_)
        refine sd_istore (lv' := [(5, .int k59), (4, .int k56), (0, .ref (ad 76)), (1, .int x1), (2, .int x2), (3, .int x3)]) C dX5_sitting_60 (by decide) rfl ?_
        refine sd_iconst C dX5_sitting_62 (by decide) (fun k62 ek62 => ?_)
        refine sd_istore (lv' := [(6, .int k62), (5, .int k59), (4, .int k56), (0, .ref (ad 76)), (1, .int x1), (2, .int x2), (3, .int x3)]) C dX5_sitting_63 (by decide) rfl ?_
        refine sd_iconst C dX5_sitting_65 (by decide) (fun k65 ek65 => ?_)
        refine sd_istore (lv' := [(7, .int k65), (6, .int k62), (5, .int k59), (4, .int k56), (0, .ref (ad 76)), (1, .int x1), (2, .int x2), (3, .int x3)]) C dX5_sitting_66 (by decide) rfl ?_
        have key68 : ∀ (fu68 : Nat) (y4 : Int32) (y5 : Int32) (y6 : Int32) (y7 : Int32) (j : Nat), (y7.toInt = (j : Int)) → (j ≤ (sp_row β (sp_q β x1.toInt)).length) → (y4.toInt = sp_sf β (sp_row β (sp_q β x1.toInt)) x2.toInt j) → (y5.toInt = sp_sl β (sp_row β (sp_q β x1.toInt)) x2.toInt j) → (y6.toInt = (sp_sc β (sp_row β (sp_q β x1.toInt)) x2.toInt j : Int)) → ((sp_row β (sp_q β x1.toInt)).length - j < fu68) → sd_Wd X 8 D ad ca s17 [(7, .int y7), (6, .int y6), (5, .int y5), (4, .int y4), (0, .ref (ad 76)), (1, .int x1), (2, .int x2), (3, .int x3)] 68 [] := by
          intro fu68
          induction fu68 with
          | zero => intro y4 y5 y6 y7 j h7 hj h4 h5 h6 hm68; exact absurd hm68 (Nat.not_lt_zero _)
          | succ fu68 ih68 =>
            intro y4 y5 y6 y7 j h7 hj h4 h5 h6 hm68
            refine sd_iload C dX5_sitting_68 0 rfl ?_
            refine sd_aload_n C dX5_sitting_70 4 rfl rfl ?_
            refine sd_get C (by decide) rfl rfl 15 (by decide) rfl wf_X5_86 dX5_sitting_71 ?_
            refine sd_icmp_ge C 125 dX5_sitting_74 (by decide) (fun c74 => ?_) (fun c74 => ?_)
            · have ej : j = (sp_row β (sp_q β x1.toInt)).length := by omega
              have A7 := A3
              rw [← ej] at A7
              have z1 := sp_sc_zero β (sp_row β (sp_q β x1.toInt)) x2.toInt j
              refine sd_iload_n C dX5_sitting_125 7 rfl rfl ?_
              refine sd_if_ne C 134 dX5_sitting_126 (by decide) (fun c126 => ?_) (fun c126 => ?_)
              · refine sd_iload_n C dX5_sitting_134 7 rfl rfl ?_
                refine sd_iconst C dX5_sitting_135 (by decide) (fun k135 ek135 => ?_)
                refine sd_icmp_ne C 144 dX5_sitting_136 (by decide) (fun c136 => ?_) (fun c136 => ?_)
                · refine sd_iload_n C dX5_sitting_144 7 rfl rfl ?_
                  refine sd_iconst C dX5_sitting_145 (by decide) (fun k145 ek145 => ?_)
                  refine sd_icmp_ne C 154 dX5_sitting_146 (by decide) (fun c146 => ?_) (fun c146 => ?_)
                  · rcases sp_sl_mem β (sp_row β (sp_q β x1.toInt)) x2.toInt j (by omega) with ⟨z2, -⟩ | ⟨a, b, z2, z3, z4, z5, z6⟩
                    · exfalso; omega
                    have z7 := hok.2 a (by omega)
                    have z8 := hok.2 b (by omega)
                    have z9 := hMg.2.1 (y5.toInt.toNat) (by omega)
                    have z10 := hMg.2.1 (y4.toInt.toNat) (by omega)
                    have z11 := hG.2.1 (y5.toInt.toNat) (by omega)
                    have z12 := hG.2.1 (y4.toInt.toNat) (by omega)
                    refine sd_aload_n C dX5_sitting_154 4 rfl rfl ?_
                    refine sd_get C (by decide) rfl rfl 1 (by decide) rfl wf_X5_7 dX5_sitting_155 ?_
                    refine sd_iload C dX5_sitting_158 2 rfl ?_
                    refine sd_iald C (by decide) rfl (y5.toInt.toNat) ⟨by omega, by omega⟩ dX5_sitting_160 ?_
                    refine sd_aload_n C dX5_sitting_161 4 rfl rfl ?_
                    refine sd_get C (by decide) rfl rfl 1 (by decide) rfl wf_X5_7 dX5_sitting_162 ?_
                    refine sd_iload C dX5_sitting_165 3 rfl ?_
                    refine sd_iald C (by decide) rfl (y4.toInt.toNat) ⟨by omega, by omega⟩ dX5_sitting_167 ?_
                    refine sd_isub C dX5_sitting_168 (by omega) (fun z168 ez168 => ?_)
                    exact hret _ _ _ _ dX5_sitting_169 (⟨by
                        unfold an_sitting
                        rw [if_neg (by omega)]
                        unfold an_sit
                        rw [if_neg (by omega), if_neg (by omega), ← ej, ← h4, ← h5]
                        repeat' split
                        all_goals omega, hMg, hlo⟩)
                  · refine sd_iload C dX5_sitting_149 1 rfl ?_
                    refine sd_goto C 169 dX5_sitting_151 (by decide) ?_
                    exact hret _ _ _ _ dX5_sitting_169 (⟨by
                        unfold an_sitting
                        rw [if_neg (by omega)]
                        unfold an_sit
                        rw [if_neg (by omega), if_neg (by omega), ← ej, ← h4, ← h5]
                        repeat' split
                        all_goals omega, hMg, hlo⟩)
                · refine sd_iload C dX5_sitting_139 2 rfl ?_
                  refine sd_goto C 169 dX5_sitting_141 (by decide) ?_
                  exact hret _ _ _ _ dX5_sitting_169 (⟨by
                      unfold an_sitting
                      rw [if_neg (by omega)]
                      unfold an_sit
                      rw [if_neg (by omega), if_neg (by omega), ← ej, ← h4, ← h5]
                      repeat' split
                      all_goals omega, hMg, hlo⟩)
              · refine sd_iload C dX5_sitting_129 3 rfl ?_
                refine sd_goto C 169 dX5_sitting_131 (by decide) ?_
                exact hret _ _ _ _ dX5_sitting_169 (⟨by
                    unfold an_sitting
                    rw [if_neg (by omega)]
                    unfold an_sit
                    rw [if_neg (by omega), if_neg (by omega), ← ej, ← h4, ← h5]
                    repeat' split
                    all_goals omega, hMg, hlo⟩)
            · have t1 := A2 j (by omega)
              have t2 := A5 j (by omega)
              have t3 := sp_sc_le β (sp_row β (sp_q β x1.toInt)) x2.toInt j
              have t5 : (y4.toInt < 0 ↔ sp_sc β (sp_row β (sp_q β x1.toInt)) x2.toInt j = 0)   := by
                rcases sp_sl_mem β (sp_row β (sp_q β x1.toInt)) x2.toInt j (by omega) with ⟨w1, w2, w3⟩ | ⟨a, b, w1, w2, w3, w4, w5⟩
                · omega
                · omega
              refine sd_aload_n C dX5_sitting_77 4 rfl rfl ?_
              refine sd_get C (by decide) rfl rfl 14 (by decide) rfl wf_X5_47 dX5_sitting_78 ?_
              refine sd_iload C dX5_sitting_81 0 rfl ?_
              refine sd_iald C (by decide) rfl (j) ⟨by omega, by omega⟩ dX5_sitting_83 ?_
              refine sd_iload_n C dX5_sitting_84 6 rfl rfl ?_
              refine sd_icmp_ne C 119 dX5_sitting_85 (by decide) (fun c85 => ?_) (fun c85 => ?_)
              · refine sd_iinc C dX5_sitting_119 0 rfl (by decide) (by decide) (by omega) (fun zz => [(7, .int zz), (6, .int y6), (5, .int y5), (4, .int y4), (0, .ref (ad 76)), (1, .int x1), (2, .int x2), (3, .int x3)]) (fun _ => rfl) (fun u119 eu119 => ?_)
                refine sd_goto C 68 dX5_sitting_122 (by decide) ?_
                exact ih68 y4 y5 y6 u119 (j + 1) (by omega) (by omega) (by rw [sp_sf]; split <;> omega) (by rw [sp_sl]; split <;> omega) (by rw [sp_sc]; split <;> omega) (by omega)
              · refine sd_iload C dX5_sitting_88 3 rfl ?_
                refine sd_if_ge C 103 dX5_sitting_90 (by decide) (fun c90 => ?_) (fun c90 => ?_)
                · refine sd_iload C dX5_sitting_103 3 rfl ?_
                  refine sd_istore (lv' := [(4, .int y4), (7, .int y7), (6, .int y6), (5, .int y5), (0, .ref (ad 76)), (1, .int x1), (2, .int x2), (3, .int x3)]) C dX5_sitting_105 (by decide) rfl ?_
                  refine sd_aload_n C dX5_sitting_107 4 rfl rfl ?_
                  refine sd_get C (by decide) rfl rfl 13 (by decide) rfl wf_X5_44 dX5_sitting_108 ?_
                  refine sd_iload C dX5_sitting_111 1 rfl ?_
                  refine sd_iald C (by decide) rfl (j) ⟨by omega, by omega⟩ dX5_sitting_113 ?_
                  refine sd_istore (lv' := [(5, .int (s17 88 (j))), (4, .int y4), (7, .int y7), (6, .int y6), (0, .ref (ad 76)), (1, .int x1), (2, .int x2), (3, .int x3)]) C dX5_sitting_114 (by decide) rfl ?_
                  refine sd_iinc C dX5_sitting_116 3 rfl (by decide) (by decide) (by omega) (fun zz => [(6, .int zz), (5, .int (s17 88 (j))), (4, .int y4), (7, .int y7), (0, .ref (ad 76)), (1, .int x1), (2, .int x2), (3, .int x3)]) (fun _ => rfl) (fun u116 eu116 => ?_)
                  refine sd_iinc C dX5_sitting_119 3 rfl (by decide) (by decide) (by omega) (fun zz => [(7, .int zz), (6, .int u116), (5, .int (s17 88 (j))), (4, .int y4), (0, .ref (ad 76)), (1, .int x1), (2, .int x2), (3, .int x3)]) (fun _ => rfl) (fun u119 eu119 => ?_)
                  refine sd_goto C 68 dX5_sitting_122 (by decide) ?_
                  exact ih68 y4 (s17 88 (j)) u116 u119 (j + 1) (by omega) (by omega) (by rw [sp_sf]; split <;> omega) (by rw [sp_sl]; split <;> omega) (by rw [sp_sc]; split <;> omega) (by omega)
                · refine sd_aload_n C dX5_sitting_93 4 rfl rfl ?_
                  refine sd_get C (by decide) rfl rfl 13 (by decide) rfl wf_X5_44 dX5_sitting_94 ?_
                  refine sd_iload C dX5_sitting_97 0 rfl ?_
                  refine sd_iald C (by decide) rfl (j) ⟨by omega, by omega⟩ dX5_sitting_99 ?_
                  refine sd_goto C 105 dX5_sitting_100 (by decide) ?_
                  refine sd_istore (lv' := [(4, .int (s17 88 (j))), (7, .int y7), (6, .int y6), (5, .int y5), (0, .ref (ad 76)), (1, .int x1), (2, .int x2), (3, .int x3)]) C dX5_sitting_105 (by decide) rfl ?_
                  refine sd_aload_n C dX5_sitting_107 4 rfl rfl ?_
                  refine sd_get C (by decide) rfl rfl 13 (by decide) rfl wf_X5_44 dX5_sitting_108 ?_
                  refine sd_iload C dX5_sitting_111 1 rfl ?_
                  refine sd_iald C (by decide) rfl (j) ⟨by omega, by omega⟩ dX5_sitting_113 ?_
                  refine sd_istore (lv' := [(5, .int (s17 88 (j))), (4, .int (s17 88 (j))), (7, .int y7), (6, .int y6), (0, .ref (ad 76)), (1, .int x1), (2, .int x2), (3, .int x3)]) C dX5_sitting_114 (by decide) rfl ?_
                  refine sd_iinc C dX5_sitting_116 3 rfl (by decide) (by decide) (by omega) (fun zz => [(6, .int zz), (5, .int (s17 88 (j))), (4, .int (s17 88 (j))), (7, .int y7), (0, .ref (ad 76)), (1, .int x1), (2, .int x2), (3, .int x3)]) (fun _ => rfl) (fun u116 eu116 => ?_)
                  refine sd_iinc C dX5_sitting_119 3 rfl (by decide) (by decide) (by omega) (fun zz => [(7, .int zz), (6, .int u116), (5, .int (s17 88 (j))), (4, .int (s17 88 (j))), (0, .ref (ad 76)), (1, .int x1), (2, .int x2), (3, .int x3)]) (fun _ => rfl) (fun u119 eu119 => ?_)
                  refine sd_goto C 68 dX5_sitting_122 (by decide) ?_
                  exact ih68 (s17 88 (j)) (s17 88 (j)) u116 u119 (j + 1) (by omega) (by omega) (by rw [sp_sf]; split <;> omega) (by rw [sp_sl]; split <;> omega) (by rw [sp_sc]; split <;> omega) (by omega)
        exact key68 _ k56 k59 k62 k65 0 (by omega) (by omega) (by rw [sp_sf]; exact ek56) (by rw [sp_sl]; exact ek59) (by rw [sp_sc]; exact ek62) (Nat.lt_succ_self _)
      · refine sd_sipush C dX5_sitting_52 (by decide) (fun k52 ek52 => ?_)
        exact hret _ _ _ _ dX5_sitting_55 (⟨by
            unfold an_sitting
            rw [if_neg (by omega)]
            unfold an_sit
            rw [if_neg (by omega), if_pos (by omega)]; omega, hMg, hlo⟩)
    · refine sd_sipush C dX5_sitting_36 (by decide) (fun k36 ek36 => ?_)
      exact hret _ _ _ _ dX5_sitting_39 (⟨by
          unfold an_sitting
          rw [if_neg (by omega)]
          unfold an_sit
          rw [if_pos (by omega)]; omega, hMg, hlo⟩)
  · refine sd_sipush C dX5_sitting_7 (by decide) (fun k7 ek7 => ?_)
    exact hret _ _ _ _ dX5_sitting_10 (⟨by
        unfold an_sitting
        rw [if_pos (by omega)]; omega, hM, fun _ _ _ => rfl⟩)

set_option maxRecDepth 20000 in
set_option maxHeartbeats 4000000 in
theorem c_X5_count (l : Launch) (D : va_G) (ad : Nat → Nat) (ca : Nat → ClassId) (T : Nat → Nat) (σ : sd_Mem) (β : sp_B) (hM : sd_MR σ β) (hG : sd_RG β) (x1 : Int32) : sd_Ci l yX5_count cX5_count 4 2 D ad ca T σ [.ref (ad 76), .int x1] (fun r σ' => r.toInt = an_count β x1.toInt ∧ sd_MR σ' β ∧ sd_lo σ σ') := by
  refine sd_ent_i (own := RX5) (by decide) rfl (Nat.le_of_ble_eq_true rfl) (fun X C hret => ?_)
  show sd_Wd X 4 D ad ca σ [(0, .ref (ad 76)), (1, .int x1)] 0 []
  have hN := sp_n_le hG
  have hn1 := hM.1.1
  have hn2 := hM.1.2
  refine sd_iload_n C dX5_count_0 1 rfl rfl ?_
  refine sd_i2l C dX5_count_1 (fun g1 eg1 => ?_)
  refine sd_lconst C dX5_count_2 (z := 0) (by decide) (fun k2 ek2 => ?_)
  refine sd_ldc2 C dX5_count_3 wk_X5_107 (n := 6) (by decide) (fun k3 ek3 => ?_)
  refine sd_pSz C (c_X5_in l D ad ca T σ g1 k2 k3) mv_X5_in wm_X5_61 (by decide) rfl rfl (Nat.le_of_ble_eq_true rfl) dX5_count_6 (fun r6 h6 => ?_)
  try dsimp only at h6
  refine sd_if_ne C 16 dX5_count_9 (by decide) (fun c9 => ?_) (fun c9 => ?_)
  · refine sd_iconst C dX5_count_16 (by decide) (fun k16 ek16 => ?_)
    refine sd_istore_n (lv' := [(2, .int k16), (0, .ref (ad 76)), (1, .int x1)]) C dX5_count_17 rfl (by decide) rfl ?_
    refine sd_iconst C dX5_count_18 (by decide) (fun k18 ek18 => ?_)
    refine sd_istore_n (lv' := [(3, .int k18), (2, .int k16), (0, .ref (ad 76)), (1, .int x1)]) C dX5_count_19 rfl (by decide) rfl ?_
    have key20 : ∀ (fu20 : Nat) (y2 : Int32) (y3 : Int32) (p : Nat) (τ : sd_Mem), (y3.toInt = (p : Int)) → (p ≤ 24) → (y2.toInt = sp_sum (sp_cf β x1.toInt) p) → (sd_MR τ β) → (sd_lo σ τ) → (24 - p < fu20) → sd_Wd X 4 D ad ca τ [(3, .int y3), (2, .int y2), (0, .ref (ad 76)), (1, .int x1)] 20 [] := by
      intro fu20
      induction fu20 with
      | zero => intro y2 y3 p τ h3 hp h2 hMt hlt hm20; exact absurd hm20 (Nat.not_lt_zero _)
      | succ fu20 ih20 =>
        intro y2 y3 p τ h3 hp h2 hMt hlt hm20
        have hr := sp_sum_rng (f := (sp_cf β x1.toInt)) (m := 120) (fun q => sp_cf_rng hG x1.toInt q) p
        have hm1 := hMt.1.1
        have hm2 := hMt.1.2
        refine sd_iload_n C dX5_count_20 0 rfl rfl ?_
        refine sd_bipush C dX5_count_21 (by decide) (fun k21 ek21 => ?_)
        refine sd_icmp_ge C 82 dX5_count_23 (by decide) (fun c23 => ?_) (fun c23 => ?_)
        · refine sd_iload_n C dX5_count_82 3 rfl rfl ?_
          refine sd_if_ne C 93 dX5_count_83 (by decide) (fun c83 => ?_) (fun c83 => ?_)
          · refine sd_iload_n C dX5_count_93 3 rfl rfl ?_
            refine sd_bipush C dX5_count_94 (by decide) (fun k94 ek94 => ?_)
            refine sd_icmp_ne C 106 dX5_count_96 (by decide) (fun c96 => ?_) (fun c96 => ?_)
            · refine sd_iload_n C dX5_count_106 1 rfl rfl ?_
              exact hret _ _ _ _ dX5_count_107 (⟨by
                  have ep : p = 24 := by omega
                  rw [ep] at h2
                  rw [an_count_cf (by omega) (by omega)]
                  repeat' split
                  all_goals omega, hMt, hlt⟩)
            · refine sd_aload_n C dX5_count_99 2 rfl rfl ?_
              refine sd_get C (by decide) rfl rfl 7 (by decide) rfl wf_X5_130 dX5_count_100 ?_
              refine sd_goto C 107 dX5_count_103 (by decide) ?_
              exact hret _ _ _ _ dX5_count_107 (⟨by
                  have ep : p = 24 := by omega
                  rw [ep] at h2
                  rw [an_count_cf (by omega) (by omega)]
                  repeat' split
                  all_goals omega, hMt, hlt⟩)
          · refine sd_aload_n C dX5_count_86 2 rfl rfl ?_
            refine sd_get C (by decide) rfl rfl 0 (by decide) rfl wf_X5_65 dX5_count_87 ?_
            refine sd_goto C 107 dX5_count_90 (by decide) ?_
            exact hret _ _ _ _ dX5_count_107 (⟨by
                have ep : p = 24 := by omega
                rw [ep] at h2
                rw [an_count_cf (by omega) (by omega)]
                repeat' split
                all_goals omega, hMt, hlt⟩)
        · have j1 := hMt.2.2.1 p (by omega)
          have j2 := sp_cf_rng hG x1.toInt p
          refine sd_aload_n C dX5_count_26 2 rfl rfl ?_
          refine sd_get C (by decide) rfl rfl 5 (by decide) rfl wf_X5_23 dX5_count_27 ?_
          refine sd_iload_n C dX5_count_30 0 rfl rfl ?_
          refine sd_iald C (by decide) rfl (p) ⟨by omega, by omega⟩ dX5_count_31 ?_
          refine sd_if_lt C 51 dX5_count_32 (by decide) (fun c32 => ?_) (fun c32 => ?_)
          · refine sd_iload_n C dX5_count_51 3 rfl rfl ?_
            refine sd_i2l C dX5_count_52 (fun g52 eg52 => ?_)
            refine sd_lconst C dX5_count_53 (z := 1) (by decide) (fun k53 ek53 => ?_)
            refine sd_ldc2 C dX5_count_54 wk_X5_125 (n := 4) (by decide) (fun k54 ek54 => ?_)
            refine sd_pSz C (c_X5_in l D ad ca T τ g52 k53 k54) mv_X5_in wm_X5_61 (by decide) rfl rfl (Nat.le_of_ble_eq_true rfl) dX5_count_57 (fun r57 h57 => ?_)
            try dsimp only at h57
            refine sd_if_eq C 76 dX5_count_60 (by decide) (fun c60 => ?_) (fun c60 => ?_)
            · refine sd_iinc C dX5_count_76 0 rfl (by decide) (by decide) (by omega) (fun zz => [(3, .int zz), (2, .int y2), (0, .ref (ad 76)), (1, .int x1)]) (fun _ => rfl) (fun u76 eu76 => ?_)
              refine sd_goto C 20 dX5_count_79 (by decide) ?_
              exact ih20 y2 u76 (p + 1) τ (by omega) (by omega) (by first | (rw [sp_sum_s (sp_cf_joined hG (by omega) (by omega))]; split <;> omega) | (rw [sp_sum_s (sp_cf_own (by omega) (by omega))]; omega) | (rw [sp_sum]; omega)) hMt hlt (by omega)
            · refine sd_aload_n C dX5_count_63 2 rfl rfl ?_
              refine sd_iload_n C dX5_count_64 0 rfl rfl ?_
              refine sd_callVv C (c_X5_gather l D ad ca T τ β hMt hG p (by omega) y3 (by omega)) mv_X5_gather wm_X5_109 (by decide) rfl rfl (by decide) rfl rfl (Nat.le_of_ble_eq_true rfl) dX5_count_65 (fun s65 h65 => ?_)
              try dsimp only at h65
              obtain ⟨hA, hfr⟩ := h65
              have hMg := sd_MR_fr (sd_ga_keep hfr) hMt
              have hlo := hlt.tr (sd_ga_lo hfr)
              refine sd_iload_n C dX5_count_68 1 rfl rfl ?_
              refine sd_aload_n C dX5_count_69 2 rfl rfl ?_
              refine sd_iload_n C dX5_count_70 3 rfl rfl ?_
              refine sd_pVi C (c_X5_counted l D ad ca T s65 β hG p hA x1 (by omega) (by omega)) mv_X5_counted wm_X5_127 (by decide) rfl rfl (by decide) rfl rfl (Nat.le_of_ble_eq_true rfl) dX5_count_71 (fun r71 h71 => ?_)
              try dsimp only at h71
              refine sd_iadd C dX5_count_74 (by omega) (fun z74 ez74 => ?_)
              refine sd_istore_n (lv' := [(2, .int z74), (3, .int y3), (0, .ref (ad 76)), (1, .int x1)]) C dX5_count_75 rfl (by decide) rfl ?_
              refine sd_iinc C dX5_count_76 1 rfl (by decide) (by decide) (by omega) (fun zz => [(3, .int zz), (2, .int z74), (0, .ref (ad 76)), (1, .int x1)]) (fun _ => rfl) (fun u76 eu76 => ?_)
              refine sd_goto C 20 dX5_count_79 (by decide) ?_
              exact ih20 z74 u76 (p + 1) s65 (by omega) (by omega) (by first | (rw [sp_sum_s (sp_cf_joined hG (by omega) (by omega))]; split <;> omega) | (rw [sp_sum_s (sp_cf_own (by omega) (by omega))]; omega) | (rw [sp_sum]; omega)) hMg hlo (by omega)
          · refine sd_iload_n C dX5_count_35 1 rfl rfl ?_
            refine sd_iload_n C dX5_count_36 3 rfl rfl ?_
            refine sd_iconst C dX5_count_37 (by decide) (fun k37 ek37 => ?_)
            refine sd_icmp_ne C 45 dX5_count_38 (by decide) (fun c38 => ?_) (fun c38 => ?_)
            · refine sd_iconst C dX5_count_45 (by decide) (fun k45 ek45 => ?_)
              refine sd_iadd C dX5_count_46 (by omega) (fun z46 ez46 => ?_)
              refine sd_istore_n (lv' := [(2, .int z46), (3, .int y3), (0, .ref (ad 76)), (1, .int x1)]) C dX5_count_47 rfl (by decide) rfl ?_
              refine sd_goto C 76 dX5_count_48 (by decide) ?_
              refine sd_iinc C dX5_count_76 1 rfl (by decide) (by decide) (by omega) (fun zz => [(3, .int zz), (2, .int z46), (0, .ref (ad 76)), (1, .int x1)]) (fun _ => rfl) (fun u76 eu76 => ?_)
              refine sd_goto C 20 dX5_count_79 (by decide) ?_
              exact ih20 z46 u76 (p + 1) τ (by omega) (by omega) (by first | (rw [sp_sum_s (sp_cf_joined hG (by omega) (by omega))]; split <;> omega) | (rw [sp_sum_s (sp_cf_own (by omega) (by omega))]; omega) | (rw [sp_sum]; omega)) hMt hlt (by omega)
            · refine sd_iconst C dX5_count_41 (by decide) (fun k41 ek41 => ?_)
              refine sd_goto C 46 dX5_count_42 (by decide) ?_
              refine sd_iadd C dX5_count_46 (by omega) (fun z46 ez46 => ?_)
              refine sd_istore_n (lv' := [(2, .int z46), (3, .int y3), (0, .ref (ad 76)), (1, .int x1)]) C dX5_count_47 rfl (by decide) rfl ?_
              refine sd_goto C 76 dX5_count_48 (by decide) ?_
              refine sd_iinc C dX5_count_76 1 rfl (by decide) (by decide) (by omega) (fun zz => [(3, .int zz), (2, .int z46), (0, .ref (ad 76)), (1, .int x1)]) (fun _ => rfl) (fun u76 eu76 => ?_)
              refine sd_goto C 20 dX5_count_79 (by decide) ?_
              exact ih20 z46 u76 (p + 1) τ (by omega) (by omega) (by first | (rw [sp_sum_s (sp_cf_joined hG (by omega) (by omega))]; split <;> omega) | (rw [sp_sum_s (sp_cf_own (by omega) (by omega))]; omega) | (rw [sp_sum]; omega)) hMt hlt (by omega)
    exact key20 _ k16 k18 0 σ (by omega) (by omega) (by rw [sp_sum]; exact ek16) hM (fun _ _ _ => rfl) (Nat.lt_succ_self _)
  · refine sd_sipush C dX5_count_12 (by decide) (fun k12 ek12 => ?_)
    exact hret _ _ _ _ dX5_count_15 (⟨by
        unfold an_count
        repeat' split
        all_goals omega, hM, fun _ _ _ => rfl⟩)

set_option maxRecDepth 20000 in
set_option maxHeartbeats 4000000 in
theorem c_X5_came (l : Launch) (D : va_G) (ad : Nat → Nat) (ca : Nat → ClassId) (T : Nat → Nat) (σ : sd_Mem) (β : sp_B) (hM : sd_MR σ β) (hG : sd_RG β) (x1 x2 : Int32) : sd_Ci l yX5_came cX5_came 5 2 D ad ca T σ [.ref (ad 76), .int x1, .int x2] (fun r σ' => r.toInt = an_came β x1.toInt x2.toInt ∧ sd_MR σ' β ∧ sd_lo σ σ') := by
  refine sd_ent_i (own := RX5) (by decide) rfl (Nat.le_of_ble_eq_true rfl) (fun X C hret => ?_)
  show sd_Wd X 5 D ad ca σ [(0, .ref (ad 76)), (1, .int x1), (2, .int x2)] 0 []
  have hN := sp_n_le hG
  have hn1 := hM.1.1
  refine sd_iload_n C dX5_came_0 1 rfl rfl ?_
  refine sd_i2l C dX5_came_1 (fun g1 eg1 => ?_)
  refine sd_lconst C dX5_came_2 (z := 0) (by decide) (fun k2 ek2 => ?_)
  refine sd_ldc2 C dX5_came_3 wk_X5_167 (n := 19) (by decide) (fun k3 ek3 => ?_)
  refine sd_pSz C (c_X5_in l D ad ca T σ g1 k2 k3) mv_X5_in wm_X5_61 (by decide) rfl rfl (Nat.le_of_ble_eq_true rfl) dX5_came_6 (fun r6 h6 => ?_)
  try dsimp only at h6
  refine sd_if_eq C 24 dX5_came_9 (by decide) (fun c9 => ?_) (fun c9 => ?_)
  · refine sd_sipush C dX5_came_24 (by decide) (fun k24 ek24 => ?_)
    exact hret _ _ _ _ dX5_came_27 (⟨by
        unfold an_came
        rw [if_pos (by omega)]; omega, hM, fun _ _ _ => rfl⟩)
  · refine sd_iload_n C dX5_came_12 2 rfl rfl ?_
    refine sd_i2l C dX5_came_13 (fun g13 eg13 => ?_)
    refine sd_lconst C dX5_came_14 (z := 0) (by decide) (fun k14 ek14 => ?_)
    refine sd_ldc2 C dX5_came_15 wk_X5_167 (n := 19) (by decide) (fun k15 ek15 => ?_)
    refine sd_pSz C (c_X5_in l D ad ca T σ g13 k14 k15) mv_X5_in wm_X5_61 (by decide) rfl rfl (Nat.le_of_ble_eq_true rfl) dX5_came_18 (fun r18 h18 => ?_)
    try dsimp only at h18
    refine sd_if_ne C 28 dX5_came_21 (by decide) (fun c21 => ?_) (fun c21 => ?_)
    · refine sd_iconst C dX5_came_28 (by decide) (fun k28 ek28 => ?_)
      refine sd_istore_n (lv' := [(3, .int k28), (0, .ref (ad 76)), (1, .int x1), (2, .int x2)]) C dX5_came_29 rfl (by decide) rfl ?_
      refine sd_iconst C dX5_came_30 (by decide) (fun k30 ek30 => ?_)
      refine sd_istore (lv' := [(4, .int k30), (3, .int k28), (0, .ref (ad 76)), (1, .int x1), (2, .int x2)]) C dX5_came_31 (by decide) rfl ?_
      have key33 : ∀ (fu33 : Nat) (y3 : Int32) (y4 : Int32) (p : Nat) (τ : sd_Mem), (y4.toInt = (p : Int)) → (p ≤ 24) → (y3.toInt = sp_sum (fun q => sp_b (decide (sp_birth β (sp_row β q) = x1.toInt) && sp_came β (sp_row β q) (x1.toInt + x2.toInt))) p) → (sd_MR τ β) → (sd_lo σ τ) → (24 - p < fu33) → sd_Wd X 5 D ad ca τ [(4, .int y4), (3, .int y3), (0, .ref (ad 76)), (1, .int x1), (2, .int x2)] 33 [] := by
        intro fu33
        induction fu33 with
        | zero => intro y3 y4 p τ h4 hp h3 hMt hlt hm33; exact absurd hm33 (Nat.not_lt_zero _)
        | succ fu33 ih33 =>
          intro y3 y4 p τ h4 hp h3 hMt hlt hm33
          have hr := sp_sum_b (fun q => decide (sp_birth β (sp_row β q) = x1.toInt) && sp_came β (sp_row β q) (x1.toInt + x2.toInt)) p hp
          refine sd_iload C dX5_came_33 0 rfl ?_
          refine sd_bipush C dX5_came_35 (by decide) (fun k35 ek35 => ?_)
          refine sd_icmp_ge C 88 dX5_came_37 (by decide) (fun c37 => ?_) (fun c37 => ?_)
          · refine sd_iload_n C dX5_came_88 1 rfl rfl ?_
            exact hret _ _ _ _ dX5_came_89 (⟨by
                unfold an_came
                rw [if_neg (by omega), show (24 : Nat) = p by omega]; exact h3, hMt, hlt⟩)
          · have j1 := hMt.2.2.1 p (by omega)
            refine sd_aload_n C dX5_came_40 2 rfl rfl ?_
            refine sd_get C (by decide) rfl rfl 5 (by decide) rfl wf_X5_23 dX5_came_41 ?_
            refine sd_iload C dX5_came_44 0 rfl ?_
            refine sd_iald C (by decide) rfl (p) ⟨by omega, by omega⟩ dX5_came_46 ?_
            refine sd_if_ge C 82 dX5_came_47 (by decide) (fun c47 => ?_) (fun c47 => ?_)
            · refine sd_iinc C dX5_came_82 0 rfl (by decide) (by decide) (by omega) (fun zz => [(4, .int zz), (3, .int y3), (0, .ref (ad 76)), (1, .int x1), (2, .int x2)]) (fun _ => rfl) (fun u82 eu82 => ?_)
              refine sd_goto C 33 dX5_came_85 (by decide) ?_
              exact ih33 y3 u82 (p + 1) τ (by omega) (by omega) (by rw [sp_sum_s (v := 0) (sp_b0 (by rw [sp_joined_row hG (by omega) (by omega), sp_birth_nil, decide_eq_false (by omega)]; rfl))]; omega) hMt hlt (by omega)
            · refine sd_aload_n C dX5_came_50 2 rfl rfl ?_
              refine sd_iload C dX5_came_51 0 rfl ?_
              refine sd_callVv C (c_X5_gather l D ad ca T τ β hMt hG p (by omega) y4 (by omega)) mv_X5_gather wm_X5_109 (by decide) rfl rfl (by decide) rfl rfl (Nat.le_of_ble_eq_true rfl) dX5_came_53 (fun s53 h53 => ?_)
              try dsimp only at h53
              obtain ⟨hA, hfr⟩ := h53
              have hMg := sd_MR_fr (sd_ga_keep hfr) hMt
              have hlo := hlt.tr (sd_ga_lo hfr)
              have hW := hA.mw hMg hG
              refine sd_iload_n C dX5_came_56 1 rfl rfl ?_
              refine sd_aload_n C dX5_came_57 2 rfl rfl ?_
              refine sd_pVi C (c_X5_birth l D ad ca T s53 β (sp_row β p) hW) mv_X5_birth wm_X5_119 (by decide) rfl rfl (by decide) rfl rfl (Nat.le_of_ble_eq_true rfl) dX5_came_58 (fun r58 h58 => ?_)
              try dsimp only at h58
              refine sd_iload_n C dX5_came_61 3 rfl rfl ?_
              refine sd_icmp_ne C 79 dX5_came_62 (by decide) (fun c62 => ?_) (fun c62 => ?_)
              · refine sd_iconst C dX5_came_79 (by decide) (fun k79 ek79 => ?_)
                refine sd_iadd C dX5_came_80 (by omega) (fun z80 ez80 => ?_)
                refine sd_istore_n (lv' := [(3, .int z80), (4, .int y4), (0, .ref (ad 76)), (1, .int x1), (2, .int x2)]) C dX5_came_81 rfl (by decide) rfl ?_
                refine sd_iinc C dX5_came_82 1 rfl (by decide) (by decide) (by omega) (fun zz => [(4, .int zz), (3, .int z80), (0, .ref (ad 76)), (1, .int x1), (2, .int x2)]) (fun _ => rfl) (fun u82 eu82 => ?_)
                refine sd_goto C 33 dX5_came_85 (by decide) ?_
                exact ih33 z80 u82 (p + 1) s53 (by omega) (by omega) (by
                      by_cases hk : sp_birth β (sp_row β p) = x1.toInt
                      · first
                          | (exfalso; omega)
                          | (rcases h69 with ⟨w1, w2⟩ | ⟨w1, w2⟩
                             · rw [sp_sum_s (v := 1) (sp_b1 (by rw [w2, decide_eq_true hk]; rfl))]; omega
                             · rw [sp_sum_s (v := 0) (sp_b0 (by rw [w2]; simp))]; omega)
                      · rw [sp_sum_s (v := 0) (sp_b0 (by rw [decide_eq_false hk]; rfl))]; omega) hMg hlo (by omega)
              · refine sd_aload_n C dX5_came_65 2 rfl rfl ?_
                refine sd_iload_n C dX5_came_66 3 rfl rfl ?_
                refine sd_iload_n C dX5_came_67 4 rfl rfl ?_
                refine sd_iadd C dX5_came_68 (by omega) (fun z68 ez68 => ?_)
                refine sd_pVz C (c_X5_cameIn l D ad ca T s53 β (sp_row β p) hW z68) mv_X5_cameIn wm_X5_169 (by decide) rfl rfl (by decide) rfl rfl (Nat.le_of_ble_eq_true rfl) dX5_came_69 (fun r69 h69 => ?_)
                try dsimp only at h69
                rw [ez68] at h69
                refine sd_if_eq C 79 dX5_came_72 (by decide) (fun c72 => ?_) (fun c72 => ?_)
                · refine sd_iconst C dX5_came_79 (by decide) (fun k79 ek79 => ?_)
                  refine sd_iadd C dX5_came_80 (by omega) (fun z80 ez80 => ?_)
                  refine sd_istore_n (lv' := [(3, .int z80), (4, .int y4), (0, .ref (ad 76)), (1, .int x1), (2, .int x2)]) C dX5_came_81 rfl (by decide) rfl ?_
                  refine sd_iinc C dX5_came_82 1 rfl (by decide) (by decide) (by omega) (fun zz => [(4, .int zz), (3, .int z80), (0, .ref (ad 76)), (1, .int x1), (2, .int x2)]) (fun _ => rfl) (fun u82 eu82 => ?_)
                  refine sd_goto C 33 dX5_came_85 (by decide) ?_
                  exact ih33 z80 u82 (p + 1) s53 (by omega) (by omega) (by
                        by_cases hk : sp_birth β (sp_row β p) = x1.toInt
                        · first
                            | (exfalso; omega)
                            | (rcases h69 with ⟨w1, w2⟩ | ⟨w1, w2⟩
                               · rw [sp_sum_s (v := 1) (sp_b1 (by rw [w2, decide_eq_true hk]; rfl))]; omega
                               · rw [sp_sum_s (v := 0) (sp_b0 (by rw [w2]; simp))]; omega)
                        · rw [sp_sum_s (v := 0) (sp_b0 (by rw [decide_eq_false hk]; rfl))]; omega) hMg hlo (by omega)
                · refine sd_iconst C dX5_came_75 (by decide) (fun k75 ek75 => ?_)
                  refine sd_goto C 80 dX5_came_76 (by decide) ?_
                  refine sd_iadd C dX5_came_80 (by omega) (fun z80 ez80 => ?_)
                  refine sd_istore_n (lv' := [(3, .int z80), (4, .int y4), (0, .ref (ad 76)), (1, .int x1), (2, .int x2)]) C dX5_came_81 rfl (by decide) rfl ?_
                  refine sd_iinc C dX5_came_82 1 rfl (by decide) (by decide) (by omega) (fun zz => [(4, .int zz), (3, .int z80), (0, .ref (ad 76)), (1, .int x1), (2, .int x2)]) (fun _ => rfl) (fun u82 eu82 => ?_)
                  refine sd_goto C 33 dX5_came_85 (by decide) ?_
                  exact ih33 z80 u82 (p + 1) s53 (by omega) (by omega) (by
                        by_cases hk : sp_birth β (sp_row β p) = x1.toInt
                        · first
                            | (exfalso; omega)
                            | (rcases h69 with ⟨w1, w2⟩ | ⟨w1, w2⟩
                               · rw [sp_sum_s (v := 1) (sp_b1 (by rw [w2, decide_eq_true hk]; rfl))]; omega
                               · rw [sp_sum_s (v := 0) (sp_b0 (by rw [w2]; simp))]; omega)
                        · rw [sp_sum_s (v := 0) (sp_b0 (by rw [decide_eq_false hk]; rfl))]; omega) hMg hlo (by omega)
      exact key33 _ k28 k30 0 σ (by omega) (by omega) (by rw [sp_sum]; exact ek28) hM (fun _ _ _ => rfl) (Nat.lt_succ_self _)
    · refine sd_sipush C dX5_came_24 (by decide) (fun k24 ek24 => ?_)
      exact hret _ _ _ _ dX5_came_27 (⟨by
          unfold an_came
          rw [if_pos (by omega)]; omega, hM, fun _ _ _ => rfl⟩)

set_option maxRecDepth 20000 in
set_option maxHeartbeats 4000000 in
theorem c_X5_born (l : Launch) (D : va_G) (ad : Nat → Nat) (ca : Nat → ClassId) (T : Nat → Nat) (σ : sd_Mem) (β : sp_B) (hM : sd_MR σ β) (hG : sd_RG β) (x1 : Int32) : sd_Ci l yX5_born cX5_born 2 3 D ad ca T σ [.ref (ad 76), .int x1] (fun r σ' => r.toInt = an_born β x1.toInt ∧ sd_MR σ' β ∧ sd_lo σ σ') := by
  refine sd_ent_i (own := RX5) (by decide) rfl (Nat.le_of_ble_eq_true rfl) (fun X C hret => ?_)
  show sd_Wd X 2 D ad ca σ [(0, .ref (ad 76)), (1, .int x1)] 0 []
  refine sd_aload_n C dX5_born_0 0 rfl rfl ?_
  refine sd_iload_n C dX5_born_1 1 rfl rfl ?_
  refine sd_iconst C dX5_born_2 (by decide) (fun k2 ek2 => ?_)
  refine sd_callVi C (c_X5_came l D ad ca T σ β hM hG x1 k2) mv_X5_came wm_X5_163 (by decide) rfl rfl (by decide) rfl rfl (Nat.le_of_ble_eq_true rfl) dX5_born_3 (fun r3 s3 h3 => ?_)
  try dsimp only at h3
  exact hret _ _ _ _ dX5_born_6 (⟨by rw [← an_born_came, ← ek2]; exact h3.1, h3.2⟩)

set_option maxRecDepth 20000 in
set_option maxHeartbeats 4000000 in
theorem c_X5_digest (l : Launch) (D : va_G) (ad : Nat → Nat) (ca : Nat → ClassId) (T : Nat → Nat) (σ : sd_Mem) (β : sp_B) (hM : sd_MR σ β) (hG : sd_RG β) : sd_Ci l yX5_digest cX5_digest 4 2 D ad ca T σ [.ref (ad 76)] (fun r σ' => r = sp_dg β 24 ∧ sd_MR σ' β ∧ sd_lo σ σ') := by
  refine sd_ent_i (own := RX5) (by decide) rfl (Nat.le_of_ble_eq_true rfl) (fun X C hret => ?_)
  show sd_Wd X 4 D ad ca σ [(0, .ref (ad 76))] 0 []
  have hN := sp_n_le hG
  have hn1 := hM.1.1
  have kk31 : ∀ k : Int32, k.toInt = 31 → k = 31 := fun k h => Int32.toInt_inj.mp (by rw [h]; rfl)
  refine sd_bipush C dX5_digest_0 (by decide) (fun k0 ek0 => ?_)
  refine sd_istore_n (lv' := [(1, .int k0), (0, .ref (ad 76))]) C dX5_digest_2 rfl (by decide) rfl ?_
  refine sd_iconst C dX5_digest_3 (by decide) (fun k3 ek3 => ?_)
  refine sd_istore_n (lv' := [(2, .int k3), (1, .int k0), (0, .ref (ad 76))]) C dX5_digest_4 rfl (by decide) rfl ?_
  have key5 : ∀ (fu5 : Nat) (y1 : Int32) (y2 : Int32) (p : Nat) (τ : sd_Mem), (y2.toInt = (p : Int)) → (p ≤ 24) → (y1 = sp_dg β p) → (sd_MR τ β) → (sd_lo σ τ) → (24 - p < fu5) → sd_Wd X 4 D ad ca τ [(2, .int y2), (1, .int y1), (0, .ref (ad 76))] 5 [] := by
    intro fu5
    induction fu5 with
    | zero => intro y1 y2 p τ h2 hp h1 hMt hlt hm5; exact absurd hm5 (Nat.not_lt_zero _)
    | succ fu5 ih5 =>
      intro y1 y2 p τ h2 hp h1 hMt hlt hm5
      refine sd_iload_n C dX5_digest_5 0 rfl rfl ?_
      refine sd_bipush C dX5_digest_6 (by decide) (fun k6 ek6 => ?_)
      refine sd_icmp_ge C 81 dX5_digest_8 (by decide) (fun c8 => ?_) (fun c8 => ?_)
      · refine sd_iload_n C dX5_digest_81 1 rfl rfl ?_
        exact hret _ _ _ _ dX5_digest_82 (⟨by rw [show (24 : Nat) = p by omega]; exact h1, hMt, hlt⟩)
      · have j1 := hMt.2.2.1 p (by omega)
        refine sd_aload_n C dX5_digest_11 2 rfl rfl ?_
        refine sd_get C (by decide) rfl rfl 5 (by decide) rfl wf_X5_23 dX5_digest_12 ?_
        refine sd_iload_n C dX5_digest_15 0 rfl rfl ?_
        refine sd_iald C (by decide) rfl (p) ⟨by omega, by omega⟩ dX5_digest_16 ?_
        refine sd_if_ge C 75 dX5_digest_17 (by decide) (fun c17 => ?_) (fun c17 => ?_)
        · refine sd_iinc C dX5_digest_75 0 rfl (by decide) (by decide) (by omega) (fun zz => [(2, .int zz), (1, .int y1), (0, .ref (ad 76))]) (fun _ => rfl) (fun u75 eu75 => ?_)
          refine sd_goto C 5 dX5_digest_78 (by decide) ?_
          exact ih5 y1 u75 (p + 1) τ (by omega) (by omega) (by rw [sp_dg, if_neg (by omega)]; exact h1) hMt hlt (by omega)
        · refine sd_aload_n C dX5_digest_20 2 rfl rfl ?_
          refine sd_iload_n C dX5_digest_21 0 rfl rfl ?_
          refine sd_callVv C (c_X5_gather l D ad ca T τ β hMt hG p (by omega) y2 (by omega)) mv_X5_gather wm_X5_109 (by decide) rfl rfl (by decide) rfl rfl (Nat.le_of_ble_eq_true rfl) dX5_digest_22 (fun s22 h22 => ?_)
          try dsimp only at h22
          obtain ⟨hA, hfr⟩ := h22
          have hMg := sd_MR_fr (sd_ga_keep hfr) hMt
          have hlo := hlt.tr (sd_ga_lo hfr)
          have hW := hA.mw hMg hG
          obtain ⟨A1, A2, A3, A4, A5⟩ := id hA
          have hok := sp_row_ok hG p
          refine sd_iconst C dX5_digest_25 (by decide) (fun k25 ek25 => ?_)
          refine sd_istore_n (lv' := [(3, .int k25), (2, .int y2), (1, .int y1), (0, .ref (ad 76))]) C dX5_digest_26 rfl (by decide) rfl ?_
          have key27 : ∀ (fu27 : Nat) (v1 : Int32) (w3 : Int32) (j : Nat), (w3.toInt = (j : Int)) → (j ≤ (sp_row β p).length) → (v1 = sp_dl β (sp_row β p) y1 j) → ((sp_row β p).length - j < fu27) → sd_Wd X 4 D ad ca s22 [(3, .int w3), (1, .int v1), (2, .int y2), (0, .ref (ad 76))] 27 [] := by
            intro fu27
            induction fu27 with
            | zero => intro v1 w3 j h3 hj w1 hm27; exact absurd hm27 (Nat.not_lt_zero _)
            | succ fu27 ih27 =>
              intro v1 w3 j h3 hj w1 hm27
              refine sd_iload_n C dX5_digest_27 0 rfl rfl ?_
              refine sd_aload_n C dX5_digest_28 3 rfl rfl ?_
              refine sd_get C (by decide) rfl rfl 15 (by decide) rfl wf_X5_86 dX5_digest_29 ?_
              refine sd_icmp_ge C 65 dX5_digest_32 (by decide) (fun c32 => ?_) (fun c32 => ?_)
              · refine sd_bipush C dX5_digest_65 (by decide) (fun k65 ek65 => ?_)
                refine sd_iload_n C dX5_digest_67 1 rfl rfl ?_
                refine sd_imulW C dX5_digest_68 ?_
                refine sd_aload_n C dX5_digest_69 3 rfl rfl ?_
                refine sd_pVi C (c_X5_birth l D ad ca T s22 β (sp_row β p) hW) mv_X5_birth wm_X5_119 (by decide) rfl rfl (by decide) rfl rfl (Nat.le_of_ble_eq_true rfl) dX5_digest_70 (fun r70 h70 => ?_)
                try dsimp only at h70
                refine sd_iaddW C dX5_digest_73 ?_
                refine sd_istore_n (lv' := [(1, .int ((k65 * v1) + r70)), (3, .int w3), (2, .int y2), (0, .ref (ad 76))]) C dX5_digest_74 rfl (by decide) rfl ?_
                refine sd_iinc C dX5_digest_75 2 rfl (by decide) (by decide) (by omega) (fun zz => [(2, .int zz), (1, .int ((k65 * v1) + r70)), (3, .int w3), (0, .ref (ad 76))]) (fun _ => rfl) (fun u75 eu75 => ?_)
                refine sd_goto C 5 dX5_digest_78 (by decide) ?_
                exact sd_lv (ih5 ((k65 * v1) + r70) u75 (p + 1) s22 (by omega) (by omega) (by rw [sp_dg, if_pos (by omega), kk31 _ ek65, sd_ofInt h70, w1, h1, show (sp_row β p).length = j by omega]) hMg hlo (by omega)) [0, 1, 3] rfl
              · have t2 := A2 j (by omega)
                have t3 := A5 j (by omega)
                refine sd_bipush C dX5_digest_35 (by decide) (fun k35 ek35 => ?_)
                refine sd_iload_n C dX5_digest_37 1 rfl rfl ?_
                refine sd_imulW C dX5_digest_38 ?_
                refine sd_aload_n C dX5_digest_39 3 rfl rfl ?_
                refine sd_get C (by decide) rfl rfl 13 (by decide) rfl wf_X5_44 dX5_digest_40 ?_
                refine sd_iload_n C dX5_digest_43 0 rfl rfl ?_
                refine sd_iald C (by decide) rfl (j) ⟨by omega, by omega⟩ dX5_digest_44 ?_
                refine sd_iaddW C dX5_digest_45 ?_
                refine sd_istore_n (lv' := [(1, .int ((k35 * v1) + (s22 88 (j)))), (3, .int w3), (2, .int y2), (0, .ref (ad 76))]) C dX5_digest_46 rfl (by decide) rfl ?_
                refine sd_bipush C dX5_digest_47 (by decide) (fun k47 ek47 => ?_)
                refine sd_iload_n C dX5_digest_49 0 rfl rfl ?_
                refine sd_imulW C dX5_digest_50 ?_
                refine sd_aload_n C dX5_digest_51 3 rfl rfl ?_
                refine sd_get C (by decide) rfl rfl 14 (by decide) rfl wf_X5_47 dX5_digest_52 ?_
                refine sd_iload_n C dX5_digest_55 1 rfl rfl ?_
                refine sd_iald C (by decide) rfl (j) ⟨by omega, by omega⟩ dX5_digest_56 ?_
                refine sd_iaddW C dX5_digest_57 ?_
                refine sd_istore_n (lv' := [(1, .int ((k47 * ((k35 * v1) + (s22 88 (j)))) + (s22 89 (j)))), (3, .int w3), (2, .int y2), (0, .ref (ad 76))]) C dX5_digest_58 rfl (by decide) rfl ?_
                refine sd_iinc C dX5_digest_59 1 rfl (by decide) (by decide) (by omega) (fun zz => [(3, .int zz), (1, .int ((k47 * ((k35 * v1) + (s22 88 (j)))) + (s22 89 (j)))), (2, .int y2), (0, .ref (ad 76))]) (fun _ => rfl) (fun u59 eu59 => ?_)
                refine sd_goto C 27 dX5_digest_62 (by decide) ?_
                exact ih27 ((k47 * ((k35 * v1) + (s22 88 (j)))) + (s22 89 (j))) u59 (j + 1) (by omega) (by omega) (by rw [sp_dl, kk31 _ ek35, kk31 _ ek47, w1, sd_ofInt t2, sd_ofInt t3]) (by omega)
          exact sd_lv (key27 _ y1 k25 0 (by omega) (by omega) rfl (Nat.lt_succ_self _)) [0, 2, 1, 3] rfl
  exact key5 _ k0 k3 0 σ (by omega) (by omega) (Int32.toInt_inj.mp (by rw [ek0]; rfl)) hM (fun _ _ _ => rfl) (Nat.lt_succ_self _)
end
section
/-! ways through a funnel: the sets of steps that are done, and how they can be told by counts -/
def fz_need (st : Nat → Int) (m : Nat) (s : Int) : Nat := sp_ct (fun j => m.testBit j && decide (st j = s)) 4
def fz_cnt (xs : Nat → Int) (s : Int) : Nat → Nat
  | 0 => 0
  | n + 1 => fz_cnt xs s n + if xs (n + 1) = s then 1 else 0
def fz_tk (od : Bool) (sz : Nat) (st : Nat → Int) (x : Int) (S : Nat → Bool) (m : Nat) : Bool := (List.range sz).any (fun s => decide (st s = x) && m.testBit s && S (m - 2 ^ s) && (!od || decide (m = 2 ^ (s + 1) - 1)))
def fz_S (od : Bool) (sz : Nat) (st : Nat → Int) (bar : Int) (xs : Nat → Int) : Nat → Nat → Bool
  | 0, m => decide (m = 0)
  | i + 1, m => if i = 0 ∨ xs i = bar then fz_tk od sz st (xs i) (fz_S od sz st bar xs i) m else fz_S od sz st bar xs i m || fz_tk od sz st (xs i) (fz_S od sz st bar xs i) m
def fz_T (od : Bool) (sz : Nat) (st : Nat → Int) (bar : Int) (xs : Nat → Int) (i m : Nat) : Bool := fz_tk od sz st (xs i) (fz_S od sz st bar xs i) m
theorem fz_tk_iff {od : Bool} {sz : Nat} {st : Nat → Int} {x : Int} {S : Nat → Bool} {m : Nat} : fz_tk od sz st x S m = true ↔ ∃ s, s < sz ∧ st s = x ∧ m.testBit s = true ∧ S (m - 2 ^ s) = true ∧ (od = false ∨ m = 2 ^ (s + 1) - 1) := by
  unfold fz_tk
  rw [List.any_eq_true]
  constructor
  · rintro ⟨s, h1, h2⟩
    simp only [Bool.and_eq_true, decide_eq_true_eq, Bool.or_eq_true, Bool.not_eq_true'] at h2
    exact ⟨s, List.mem_range.mp h1, h2.1.1.1, h2.1.1.2, h2.1.2, h2.2⟩
  · rintro ⟨s, h1, h2, h3, h4, h5⟩
    refine ⟨s, List.mem_range.mpr h1, ?_⟩
    simp only [Bool.and_eq_true, decide_eq_true_eq, Bool.or_eq_true, Bool.not_eq_true']
    exact ⟨⟨⟨h2, h3⟩, h4⟩, h5⟩
theorem fz_bit_sub : ∀ m, m < 16 → ∀ a, a < 4 → ∀ j, j < 4 → m.testBit a = true → (m - 2 ^ a).testBit j = (m.testBit j && !decide (j = a)) := by decide
theorem fz_sub_lt {m a : Nat} (hm : m < 16) (_ : a < 4) (_ : m.testBit a = true) : m - 2 ^ a < 16 := Nat.lt_of_le_of_lt (Nat.sub_le _ _) hm
theorem fz_sub_bit {m a j : Nat} (hm : m < 16) (ha : a < 4) (h : m.testBit a = true) (hj : j < 4) : (m - 2 ^ a).testBit j = (m.testBit j && !decide (j = a)) := fz_bit_sub m hm a ha j hj h
theorem fz_ct_upd {p q : Nat → Bool} {a : Nat} (hp : p a = true) (hq : q a = false) (h : ∀ j, j ≠ a → q j = p j) : ∀ n, a < n → sp_ct p n = sp_ct q n + 1
  | 0, h0 => absurd h0 (Nat.not_lt_zero a)
  | n + 1, h0 => by
    rw [sp_ct, sp_ct]
    by_cases e : n = a
    · subst e
      rw [hp, hq]
      have : sp_ct p n = sp_ct q n := sp_ct_cong (fun c hc => (h c (by omega)).symm)
      simp [this]
    · have ih := fz_ct_upd hp hq h n (by omega)
      rw [h n e, ih]
      omega
theorem fz_need_sub {st : Nat → Int} {m a : Nat} (hm : m < 16) (ha : a < 4) (h : m.testBit a = true) (s : Int) : fz_need st m s = fz_need st (m - 2 ^ a) s + if st a = s then 1 else 0 := by
  unfold fz_need
  by_cases e : st a = s
  · rw [if_pos e]
    have h1 : sp_ct (fun j => (m - 2 ^ a).testBit j && decide (st j = s)) 4 = sp_ct (fun j => if j = a then false else (m.testBit j && decide (st j = s))) 4 := by
      apply sp_ct_cong
      intro c hc
      rw [fz_sub_bit hm ha h hc]
      by_cases q : c = a
      · simp [q]
      · simp [q]
    rw [h1]
    exact fz_ct_upd (a := a) (by simp [h, e]) (by simp) (fun j hj => by simp [hj]) 4 ha
  · rw [if_neg e]
    apply sp_ct_cong
    intro c hc
    rw [fz_sub_bit hm ha h hc]
    by_cases q : c = a
    · subst q; simp [e]
    · simp [q]
theorem fz_ct_pos {p : Nat → Bool} : ∀ {n : Nat}, 0 < sp_ct p n → ∃ j, j < n ∧ p j = true
  | 0, h => absurd h (Nat.not_lt_zero 0)
  | n + 1, h => by
    rw [sp_ct] at h
    by_cases hp : p n = true
    · exact ⟨n, by omega, hp⟩
    · rw [if_neg hp] at h
      obtain ⟨j, h1, h2⟩ := fz_ct_pos (n := n) (by omega)
      exact ⟨j, by omega, h2⟩
theorem fz_need_pos {st : Nat → Int} {m : Nat} {s : Int} (h : 0 < fz_need st m s) : ∃ b, b < 4 ∧ m.testBit b = true ∧ st b = s := by
  obtain ⟨j, h1, h2⟩ := fz_ct_pos h
  simp only [Bool.and_eq_true, decide_eq_true_eq] at h2
  exact ⟨j, h1, h2.1, h2.2⟩
theorem fz_zero_iff : ∀ m, m < 16 → (∀ j, j < 4 → m.testBit j = false) → m = 0 := by decide
theorem fz_pow_bit : ∀ a, a < 4 → (2 ^ a).testBit a = true ∧ 2 ^ a < 16 ∧ 2 ^ a - 2 ^ a = 0 := by decide
theorem fz_bit_lt : ∀ sz, sz < 5 → ∀ m, m < 2 ^ sz → ∀ j, j < 4 → m.testBit j = true → j < sz := by decide
theorem fz_comm (m : Nat) (hm : m < 16) (a : Nat) (ha : a < 4) (b : Nat) (hb : b < 4) (h1 : m.testBit a = true) (h2 : m.testBit b = true) (h3 : a ≠ b) : m - 2 ^ a - 2 ^ b = m - 2 ^ b - 2 ^ a ∧ (m - 2 ^ a).testBit b = true ∧ (m - 2 ^ b).testBit a = true := by
  refine ⟨Nat.sub_right_comm _ _ _, ?_, ?_⟩
  · rw [fz_sub_bit hm ha h1 hb, h2]; simp [Ne.symm h3]
  · rw [fz_sub_bit hm hb h2 ha, h1]; simp [h3]
/-- the way without an order, by counts -/
def fz_ok (sz : Nat) (st : Nat → Int) (bar : Int) (xs : Nat → Int) (n m : Nat) : Prop := ∃ a, a < sz ∧ m.testBit a = true ∧ st a = xs 0 ∧ ∀ s, fz_need st (m - 2 ^ a) s ≤ fz_cnt xs s n ∧ (s = bar → fz_need st (m - 2 ^ a) s = fz_cnt xs s n)
theorem fz_U {sz : Nat} {st : Nat → Int} {bar : Int} {xs : Nat → Int} (hsz : sz ≤ 4) : ∀ n m, m < 2 ^ sz → (fz_S false sz st bar xs (n + 1) m = true ↔ fz_ok sz st bar xs n m)
  | 0, m, hm => by
    have h16 : m < 16 := Nat.lt_of_lt_of_le hm (Nat.pow_le_pow_right (by decide) hsz)
    rw [fz_S, if_pos (Or.inl rfl), fz_tk_iff]
    constructor
    · rintro ⟨s, h1, h2, h3, h4, -⟩
      simp only [fz_S, decide_eq_true_eq] at h4
      refine ⟨s, h1, h3, h2, fun s' => ?_⟩
      rw [h4]
      have e : fz_need st 0 s' = 0 := by simp [fz_need, sp_ct]
      rw [e]
      simp [fz_cnt]
    · rintro ⟨a, h1, h2, h3, h4⟩
      refine ⟨a, h1, h3, h2, ?_, Or.inl rfl⟩
      simp only [fz_S, decide_eq_true_eq]
      apply fz_zero_iff _ (fz_sub_lt h16 (by omega) h2)
      intro j hj
      cases hb : (m - 2 ^ a).testBit j with
      | false => rfl
      | true =>
        have h5 := (h4 (st j)).1
        simp only [fz_cnt] at h5
        have h6 := fz_need_sub (st := st) (fz_sub_lt h16 (by omega) h2) hj hb (st j)
        simp at h6
        omega
  | n + 1, m, hm => by
    have h16 : m < 16 := Nat.lt_of_lt_of_le hm (Nat.pow_le_pow_right (by decide) hsz)
    have ih := fz_U (sz := sz) (st := st) (bar := bar) (xs := xs) hsz n
    have hT : fz_tk false sz st (xs (n + 1)) (fz_S false sz st bar xs (n + 1)) m = true ↔ ∃ b, b < sz ∧ st b = xs (n + 1) ∧ m.testBit b = true ∧ fz_ok sz st bar xs n (m - 2 ^ b) := by
      rw [fz_tk_iff]
      constructor
      · rintro ⟨b, h1, h2, h3, h4, -⟩
        exact ⟨b, h1, h2, h3, (ih _ (Nat.lt_of_le_of_lt (Nat.sub_le _ _) hm)).mp h4⟩
      · rintro ⟨b, h1, h2, h3, h4⟩
        exact ⟨b, h1, h2, h3, (ih _ (Nat.lt_of_le_of_lt (Nat.sub_le _ _) hm)).mpr h4, Or.inl rfl⟩
    -- what a step more gives
    have up : ∀ b, b < sz → st b = xs (n + 1) → m.testBit b = true → fz_ok sz st bar xs n (m - 2 ^ b) → fz_ok sz st bar xs (n + 1) m := by
      rintro b h1 h2 h3 ⟨a, g1, g2, g3, g4⟩
      have hab : a ≠ b := by
        rintro rfl
        rw [fz_sub_bit h16 (by omega) h3 (by omega)] at g2
        simp at g2
      have ha : m.testBit a = true := by
        rw [fz_sub_bit h16 (by omega) h3 (by omega)] at g2
        simp at g2
        exact g2.1
      obtain ⟨e1, e2, e3⟩ := fz_comm m h16 a (by omega) b (by omega) ha h3 hab
      refine ⟨a, g1, ha, g3, fun s => ?_⟩
      have h5 := g4 s
      have h6 := fz_need_sub (st := st) (fz_sub_lt h16 (by omega) ha) (by omega : b < 4) e2 s
      rw [e1, h2] at h6
      rw [fz_cnt]
      constructor
      · omega
      · intro q
        have := h5.2 q
        omega
    have down : ∀ a, a < sz → m.testBit a = true → st a = xs 0 → (∀ s, fz_need st (m - 2 ^ a) s ≤ fz_cnt xs s (n + 1) ∧ (s = bar → fz_need st (m - 2 ^ a) s = fz_cnt xs s (n + 1))) → fz_need st (m - 2 ^ a) (xs (n + 1)) = fz_cnt xs (xs (n + 1)) n + 1 → ∃ b, b < sz ∧ st b = xs (n + 1) ∧ m.testBit b = true ∧ fz_ok sz st bar xs n (m - 2 ^ b) := by
      intro a g1 g2 g3 g4 g5
      obtain ⟨b, h1, h2, h3⟩ := fz_need_pos (st := st) (m := m - 2 ^ a) (s := xs (n + 1)) (by omega)
      have hb : m.testBit b = true ∧ b ≠ a := by
        rw [fz_sub_bit h16 (by omega) g2 h1] at h2
        simp at h2
        exact h2
      obtain ⟨e1, e2, e3⟩ := fz_comm m h16 a (by omega) b h1 g2 hb.1 (fun q => hb.2 q.symm)
      have hbs : b < sz := fz_bit_lt sz (by omega) m hm b h1 hb.1
      refine ⟨b, hbs, h3, hb.1, a, g1, e3, g3, fun s => ?_⟩
      have h5 := g4 s
      have h6 := fz_need_sub (st := st) (fz_sub_lt h16 (by omega) g2) h1 e2 s
      rw [e1, h3] at h6
      rw [fz_cnt] at h5
      constructor
      · by_cases q : xs (n + 1) = s
        · rw [q] at g5
          rw [if_pos q] at h5 h6
          omega
        · rw [if_neg q] at h5 h6
          omega
      · intro q
        have := h5.2 q
        omega
    rw [fz_S]
    by_cases hbar : n + 1 = 0 ∨ xs (n + 1) = bar
    · rw [if_pos hbar, hT]
      have hb : xs (n + 1) = bar := by omega
      constructor
      · rintro ⟨b, h1, h2, h3, h4⟩
        exact up b h1 h2 h3 h4
      · rintro ⟨a, g1, g2, g3, g4⟩
        refine down a g1 g2 g3 g4 ?_
        have := (g4 (xs (n + 1))).2 hb
        rw [this, fz_cnt, if_pos rfl]
    · rw [if_neg hbar, Bool.or_eq_true, hT, ih m hm]
      constructor
      · rintro (⟨a, g1, g2, g3, g4⟩ | ⟨b, h1, h2, h3, h4⟩)
        · refine ⟨a, g1, g2, g3, fun s => ?_⟩
          have h5 := g4 s
          rw [fz_cnt]
          constructor
          · omega
          · intro q
            have h6 := h5.2 q
            rw [if_neg (fun z => hbar (Or.inr (by rw [z, q])))]
            omega
        · exact up b h1 h2 h3 h4
      · rintro ⟨a, g1, g2, g3, g4⟩
        by_cases q : fz_need st (m - 2 ^ a) (xs (n + 1)) ≤ fz_cnt xs (xs (n + 1)) n
        · left
          refine ⟨a, g1, g2, g3, fun s => ?_⟩
          have h5 := g4 s
          rw [fz_cnt] at h5
          by_cases q2 : xs (n + 1) = s
          · rw [← q2] at h5 ⊢
            refine ⟨q, fun q3 => absurd (Or.inr q3) hbar⟩
          · rw [if_neg q2] at h5
            exact ⟨by omega, fun q3 => by have := h5.2 q3; omega⟩
        · right
          refine down a g1 g2 g3 g4 ?_
          have h5 := (g4 (xs (n + 1))).1
          rw [fz_cnt, if_pos rfl] at h5
          omega
/-- the way in order: prefixes -/
def fz_sb (st xs : Nat → Int) : Nat → Nat → Bool
  | 0, _ => true
  | _ + 1, 0 => false
  | p + 1, n + 1 => fz_sb st xs (p + 1) n || (decide (st (p + 1) = xs (n + 1)) && fz_sb st xs p n)
def fz_nst (st : Nat → Int) (s : Int) : Nat → Nat
  | 0 => 0
  | p + 1 => fz_nst st s p + if st (p + 1) = s then 1 else 0
def fz_g (st xs : Nat → Int) (M : Nat) : Nat → Nat
  | 0 => 0
  | n + 1 => if fz_g st xs M n < M ∧ xs (n + 1) = st (fz_g st xs M n + 1) then fz_g st xs M n + 1 else fz_g st xs M n
theorem fz_g_le (st xs : Nat → Int) (M : Nat) : ∀ n, fz_g st xs M n ≤ M
  | 0 => Nat.zero_le M
  | n + 1 => by
    have := fz_g_le st xs M n
    rw [fz_g]
    split <;> omega
theorem fz_sb_g {st xs : Nat → Int} {M : Nat} : ∀ n p, p ≤ M → (fz_sb st xs p n = true ↔ p ≤ fz_g st xs M n)
  | 0, 0, _ => by simp [fz_sb]
  | 0, p + 1, _ => by simp [fz_sb, fz_g]
  | n + 1, 0, _ => by simp [fz_sb]
  | n + 1, p + 1, hp => by
    have i1 := fz_sb_g (st := st) (xs := xs) (M := M) n (p + 1) hp
    have i2 := fz_sb_g (st := st) (xs := xs) (M := M) n p (by omega)
    rw [fz_sb, Bool.or_eq_true, Bool.and_eq_true, decide_eq_true_eq, i1, i2, fz_g]
    constructor
    · rintro (h | ⟨h1, h2⟩)
      · split <;> omega
      · by_cases e : p + 1 ≤ fz_g st xs M n
        · split <;> omega
        · have e2 : fz_g st xs M n = p := by omega
          rw [e2, if_pos ⟨by omega, h1.symm⟩]
          omega
    · intro h
      split at h
      · rename_i hc
        by_cases e : p + 1 ≤ fz_g st xs M n
        · exact Or.inl e
        · have e2 : fz_g st xs M n = p := by omega
          rw [e2] at hc
          exact Or.inr ⟨hc.2.symm, by omega⟩
      · exact Or.inl h
theorem fz_sb_less {st xs : Nat → Int} : ∀ n p, fz_sb st xs (p + 1) n = true → fz_sb st xs p n = true
  | _, 0, _ => by simp [fz_sb]
  | 0, p + 1, h => by simp [fz_sb] at h
  | n + 1, p + 1, h => by
    rw [fz_sb, Bool.or_eq_true, Bool.and_eq_true] at h ⊢
    rcases h with h | ⟨_, h⟩
    · exact Or.inl (fz_sb_less n (p + 1) h)
    · exact Or.inl h
theorem fz_sb_cnt {st xs : Nat → Int} : ∀ n p, fz_sb st xs p n = true → ∀ s, fz_nst st s p ≤ fz_cnt xs s n
  | _, 0, _, s => by simp [fz_nst]
  | 0, p + 1, h, s => by simp [fz_sb] at h
  | n + 1, p + 1, h, s => by
    rw [fz_sb, Bool.or_eq_true, Bool.and_eq_true, decide_eq_true_eq] at h
    rw [fz_cnt]
    rcases h with h | ⟨h1, h⟩
    · have := fz_sb_cnt n (p + 1) h s
      omega
    · have := fz_sb_cnt n p h s
      rw [fz_nst, h1]
      omega
theorem fz_pre1 : ∀ j, j < 5 → 1 ≤ j → (2 ^ j - 1).testBit (j - 1) = true := by decide
theorem fz_pre2 : ∀ j, j < 5 → 1 ≤ j → 2 ^ j - 1 - 2 ^ (j - 1) = 2 ^ (j - 1) - 1 := by decide
theorem fz_pre3 : ∀ j, j < 5 → ∀ s, s < 4 → 1 ≤ j → 2 ^ j - 1 = 2 ^ (s + 1) - 1 → s = j - 1 := by decide
theorem fz_pre4 : ∀ j, j < 5 → 1 ≤ j → 2 ^ j - 1 = 2 ^ (j - 1 + 1) - 1 := by decide
theorem fz_pre (j : Nat) (h1 : 1 ≤ j) (h5 : j < 5) : (2 ^ j - 1).testBit (j - 1) = true ∧ 2 ^ j - 1 - 2 ^ (j - 1) = 2 ^ (j - 1) - 1 ∧ (∀ s, s < 4 → 2 ^ j - 1 = 2 ^ (s + 1) - 1 → s = j - 1) ∧ 2 ^ j - 1 = 2 ^ (j - 1 + 1) - 1 := ⟨fz_pre1 j h5 h1, fz_pre2 j h5 h1, fun s hs => fz_pre3 j h5 s hs h1, fz_pre4 j h5 h1⟩
theorem fz_tk_pre {sz : Nat} {st : Nat → Int} {x : Int} {S : Nat → Bool} (hsz : sz ≤ 4) {j : Nat} (h1 : 1 ≤ j) (hj : j ≤ sz) : fz_tk true sz st x S (2 ^ j - 1) = true ↔ st (j - 1) = x ∧ S (2 ^ (j - 1) - 1) = true := by
  obtain ⟨a1, a2, a3, a4⟩ := fz_pre j h1 (by omega)
  rw [fz_tk_iff]
  constructor
  · rintro ⟨s, g1, g2, g3, g4, g5⟩
    have e : s = j - 1 := by
      rcases g5 with q | q
      · cases q
      · exact a3 s (by omega) q
    rw [e] at g2 g4
    rw [a2] at g4
    exact ⟨g2, g4⟩
  · rintro ⟨g1, g2⟩
    exact ⟨j - 1, by omega, g1, a1, by rw [a2]; exact g2, Or.inr a4⟩
theorem fz_tk_zero {od : Bool} {sz : Nat} {st : Nat → Int} {x : Int} {S : Nat → Bool} : fz_tk od sz st x S 0 = false := by
  rw [← Bool.not_eq_true, fz_tk_iff]
  rintro ⟨s, -, -, h, -⟩
  simp at h
theorem fz_S_zero {od : Bool} {sz : Nat} {st : Nat → Int} {bar : Int} {xs : Nat → Int} : ∀ n, fz_S od sz st bar xs (n + 1) 0 = false
  | 0 => by rw [fz_S, if_pos (Or.inl rfl), fz_tk_zero]
  | n + 1 => by
    rw [fz_S, fz_tk_zero, fz_S_zero n]
    split <;> rfl
theorem fz_O {sz : Nat} {st : Nat → Int} {bar : Int} {xs : Nat → Int} (hsz : sz ≤ 4) : ∀ n j, 1 ≤ j → j ≤ sz → (fz_S true sz st bar xs (n + 1) (2 ^ j - 1) = true ↔ (st 0 = xs 0 ∧ fz_sb st xs (j - 1) n = true ∧ fz_nst st bar (j - 1) = fz_cnt xs bar n))
  | 0, j, h1, hj => by
    rw [fz_S, if_pos (Or.inl rfl), fz_tk_pre hsz h1 hj]
    by_cases e : j = 1
    · subst e
      simp [fz_S, fz_sb, fz_nst, fz_cnt]
    · have e1 : (2 : Nat) ^ (j - 1) - 1 ≠ 0 := by
        have : 2 ≤ 2 ^ (j - 1) := Nat.le_trans (show 2 ≤ 2 ^ 1 by decide) (Nat.pow_le_pow_right (by decide) (by omega))
        omega
      have e2 : j - 1 = (j - 2) + 1 := by omega
      simp only [fz_S, decide_eq_true_eq]
      constructor
      · intro q; exact absurd q.2 e1
      · rintro ⟨-, q, -⟩
        rw [e2] at q
        simp [fz_sb] at q
  | n + 1, j, h1, hj => by
    have ih := fz_O (sz := sz) (st := st) (bar := bar) (xs := xs) hsz n
    have hT : fz_tk true sz st (xs (n + 1)) (fz_S true sz st bar xs (n + 1)) (2 ^ j - 1) = true ↔ 2 ≤ j ∧ st (j - 1) = xs (n + 1) ∧ st 0 = xs 0 ∧ fz_sb st xs (j - 2) n = true ∧ fz_nst st bar (j - 2) = fz_cnt xs bar n := by
      rw [fz_tk_pre hsz h1 hj]
      by_cases e : j = 1
      · subst e
        simp [fz_S_zero]
      · rw [ih (j - 1) (by omega) (by omega)]
        rw [show j - 1 - 1 = j - 2 by omega]
        constructor
        · rintro ⟨a, b⟩
          exact ⟨by omega, a, b⟩
        · rintro ⟨-, a, b⟩
          exact ⟨a, b⟩
    rw [fz_S]
    have hsb : 2 ≤ j → (fz_sb st xs (j - 1) (n + 1) = true ↔ fz_sb st xs (j - 1) n = true ∨ (st (j - 1) = xs (n + 1) ∧ fz_sb st xs (j - 2) n = true)) := by
      intro h2
      rw [show j - 1 = (j - 2) + 1 by omega, fz_sb, Bool.or_eq_true, Bool.and_eq_true, decide_eq_true_eq]
    have hnst : 2 ≤ j → fz_nst st bar (j - 1) = fz_nst st bar (j - 2) + if st (j - 1) = bar then 1 else 0 := by
      intro h2
      rw [show j - 1 = (j - 2) + 1 by omega, fz_nst]
    by_cases hbar : n + 1 = 0 ∨ xs (n + 1) = bar
    · rw [if_pos hbar, hT]
      have hb : xs (n + 1) = bar := by omega
      rw [fz_cnt, if_pos hb]
      constructor
      · rintro ⟨h2, g1, g2, g3, g4⟩
        refine ⟨g2, (hsb h2).mpr (Or.inr ⟨g1, g3⟩), ?_⟩
        rw [hnst h2, if_pos (by rw [g1]; exact hb), g4]
      · rintro ⟨g2, g3, g4⟩
        have h2 : 2 ≤ j := by
          by_cases e : j = 1
          · subst e; simp [fz_nst] at g4
          · omega
        by_cases e : st (j - 1) = bar
        · rw [hnst h2, if_pos e] at g4
          refine ⟨h2, by rw [e, hb], g2, ?_, by omega⟩
          rcases (hsb h2).mp g3 with q | q
          · have : fz_sb st xs ((j - 2) + 1) n = true := by rw [show j - 2 + 1 = j - 1 by omega]; exact q
            exact fz_sb_less n (j - 2) this
          · exact q.2
        · exfalso
          rcases (hsb h2).mp g3 with q | q
          · have := fz_sb_cnt n (j - 1) q bar
            omega
          · exact e (by rw [q.1, hb])
    · rw [if_neg hbar, Bool.or_eq_true, hT, ih j h1 hj]
      have hb : ¬ xs (n + 1) = bar := fun q => hbar (Or.inr q)
      rw [fz_cnt, if_neg hb]
      constructor
      · rintro (⟨g1, g2, g3⟩ | ⟨h2, g1, g2, g3, g4⟩)
        · refine ⟨g1, ?_, by omega⟩
          by_cases e : j = 1
          · subst e; simp [fz_sb]
          · exact (hsb (by omega)).mpr (Or.inl g2)
        · refine ⟨g2, (hsb h2).mpr (Or.inr ⟨g1, g3⟩), ?_⟩
          rw [hnst h2, if_neg (by rw [g1]; exact hb), g4]
      · rintro ⟨g1, g2, g3⟩
        by_cases e : j = 1
        · left
          subst e
          exact ⟨g1, by simp [fz_sb], by simpa using g3⟩
        · have h2 : 2 ≤ j := by omega
          rcases (hsb h2).mp g2 with q | q
          · exact Or.inl ⟨g1, q, by omega⟩
          · right
            refine ⟨h2, q.1, g1, q.2, ?_⟩
            rw [hnst h2, if_neg (by rw [q.1]; exact hb)] at g3
            omega
end
