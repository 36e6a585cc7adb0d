-- ===== PART A: goes FIRST, ahead of the names: the tables' words, and 'selects' of the private methods out of them =====
/-- a private method of a class that the tables say can be made, by its rows of tables_1 -/
def lw_okq (q : MethodName × Nat) : Prop := (q.1.cls ≠ "java/lang/invoke/MethodHandle" ∧ q.1.cls ≠ "java/lang/invoke/VarHandle") ∧ Cond.instantiable q.1.cls q.2 ∈ tables_1 ∧ Cond.privateMethod q.1 ∈ tables_1 ∧ Cond.instanceMethod q.1 ∈ tables_1
theorem lw_p0 : lw_okq (⟨"SprinklerHouse", "isEnd", "(I)Z"⟩, 6) := ⟨⟨by decide +kernel, by decide +kernel⟩, List.mem_of_getElem? (i := 14) (by decide +kernel), List.mem_of_getElem? (i := 239) (by decide +kernel), List.mem_of_getElem? (i := 240) (by decide +kernel)⟩
theorem lw_p1 : lw_okq (⟨"SprinklerHouse", "isPipe", "(I)Z"⟩, 6) := ⟨⟨by decide +kernel, by decide +kernel⟩, List.mem_of_getElem? (i := 14) (by decide +kernel), List.mem_of_getElem? (i := 243) (by decide +kernel), List.mem_of_getElem? (i := 244) (by decide +kernel)⟩
theorem lw_p2 : lw_okq (⟨"SprinklerHouse", "isSize", "(I)Z"⟩, 6) := ⟨⟨by decide +kernel, by decide +kernel⟩, List.mem_of_getElem? (i := 14) (by decide +kernel), List.mem_of_getElem? (i := 247) (by decide +kernel), List.mem_of_getElem? (i := 248) (by decide +kernel)⟩
theorem lw_p3 : lw_okq (⟨"SprinklerHouse", "isHead", "(I)Z"⟩, 6) := ⟨⟨by decide +kernel, by decide +kernel⟩, List.mem_of_getElem? (i := 14) (by decide +kernel), List.mem_of_getElem? (i := 278) (by decide +kernel), List.mem_of_getElem? (i := 279) (by decide +kernel)⟩
theorem lw_p4 : lw_okq (⟨"SprinklerHouse$Widths", "isClosed", "(I)Z"⟩, 3) := ⟨⟨by decide +kernel, by decide +kernel⟩, List.mem_of_getElem? (i := 104) (by decide +kernel), List.mem_of_getElem? (i := 325) (by decide +kernel), List.mem_of_getElem? (i := 326) (by decide +kernel)⟩
theorem lw_p5 : lw_okq (⟨"SprinklerHouse$Widths", "fallen", "(JII[I)J"⟩, 3) := ⟨⟨by decide +kernel, by decide +kernel⟩, List.mem_of_getElem? (i := 104) (by decide +kernel), List.mem_of_getElem? (i := 358) (by decide +kernel), List.mem_of_getElem? (i := 359) (by decide +kernel)⟩
theorem lw_p6 : lw_okq (⟨"SprinklerHouse", "isHeap", "(I)Z"⟩, 6) := ⟨⟨by decide +kernel, by decide +kernel⟩, List.mem_of_getElem? (i := 14) (by decide +kernel), List.mem_of_getElem? (i := 402) (by decide +kernel), List.mem_of_getElem? (i := 403) (by decide +kernel)⟩
theorem lw_p7 : lw_okq (⟨"SprinklerHouse", "leastOfHeap", "(I)J"⟩, 6) := ⟨⟨by decide +kernel, by decide +kernel⟩, List.mem_of_getElem? (i := 14) (by decide +kernel), List.mem_of_getElem? (i := 417) (by decide +kernel), List.mem_of_getElem? (i := 418) (by decide +kernel)⟩
theorem lw_p8 : lw_okq (⟨"SprinklerHouse$Chooser", "listFreePipes", "()V"⟩, 13) := ⟨⟨by decide +kernel, by decide +kernel⟩, List.mem_of_getElem? (i := 122) (by decide +kernel), List.mem_of_getElem? (i := 447) (by decide +kernel), List.mem_of_getElem? (i := 448) (by decide +kernel)⟩
theorem lw_p9 : lw_okq (⟨"SprinklerHouse$Chooser", "widen", "(I)V"⟩, 13) := ⟨⟨by decide +kernel, by decide +kernel⟩, List.mem_of_getElem? (i := 122) (by decide +kernel), List.mem_of_getElem? (i := 455) (by decide +kernel), List.mem_of_getElem? (i := 456) (by decide +kernel)⟩
theorem lw_p10 : lw_okq (⟨"SprinklerHouse$Chooser", "leastPrice", "(I)I"⟩, 13) := ⟨⟨by decide +kernel, by decide +kernel⟩, List.mem_of_getElem? (i := 122) (by decide +kernel), List.mem_of_getElem? (i := 466) (by decide +kernel), List.mem_of_getElem? (i := 467) (by decide +kernel)⟩
theorem lw_p11 : lw_okq (⟨"SprinklerHouse$Chooser", "areAllMet", "(I)Z"⟩, 13) := ⟨⟨by decide +kernel, by decide +kernel⟩, List.mem_of_getElem? (i := 122) (by decide +kernel), List.mem_of_getElem? (i := 477) (by decide +kernel), List.mem_of_getElem? (i := 478) (by decide +kernel)⟩
theorem lw_p12 : lw_okq (⟨"SprinklerHouse$Chooser", "fix", "(II)V"⟩, 13) := ⟨⟨by decide +kernel, by decide +kernel⟩, List.mem_of_getElem? (i := 122) (by decide +kernel), List.mem_of_getElem? (i := 484) (by decide +kernel), List.mem_of_getElem? (i := 485) (by decide +kernel)⟩
theorem lw_p13 : lw_okq (⟨"SprinklerHouse", "isMetWithLess", "(II)Z"⟩, 6) := ⟨⟨by decide +kernel, by decide +kernel⟩, List.mem_of_getElem? (i := 14) (by decide +kernel), List.mem_of_getElem? (i := 508) (by decide +kernel), List.mem_of_getElem? (i := 509) (by decide +kernel)⟩
theorem lw_p14 : lw_okq (⟨"SprinklerHouse", "leastTooMuch", "(I)I"⟩, 6) := ⟨⟨by decide +kernel, by decide +kernel⟩, List.mem_of_getElem? (i := 14) (by decide +kernel), List.mem_of_getElem? (i := 514) (by decide +kernel), List.mem_of_getElem? (i := 515) (by decide +kernel)⟩
theorem lw_p15 : lw_okq (⟨"SprinklerHouse$Plan", "squareTo", "(III)I"⟩, 7) := ⟨⟨by decide +kernel, by decide +kernel⟩, List.mem_of_getElem? (i := 168) (by decide +kernel), List.mem_of_getElem? (i := 568) (by decide +kernel), List.mem_of_getElem? (i := 569) (by decide +kernel)⟩
def lw_privs_1 : List (MethodName × Nat) := [(⟨"SprinklerHouse", "isEnd", "(I)Z"⟩, 6), (⟨"SprinklerHouse", "isPipe", "(I)Z"⟩, 6), (⟨"SprinklerHouse", "isSize", "(I)Z"⟩, 6), (⟨"SprinklerHouse", "isHead", "(I)Z"⟩, 6), (⟨"SprinklerHouse$Widths", "isClosed", "(I)Z"⟩, 3), (⟨"SprinklerHouse$Widths", "fallen", "(JII[I)J"⟩, 3), (⟨"SprinklerHouse", "isHeap", "(I)Z"⟩, 6), (⟨"SprinklerHouse", "leastOfHeap", "(I)J"⟩, 6), (⟨"SprinklerHouse$Chooser", "listFreePipes", "()V"⟩, 13), (⟨"SprinklerHouse$Chooser", "widen", "(I)V"⟩, 13), (⟨"SprinklerHouse$Chooser", "leastPrice", "(I)I"⟩, 13), (⟨"SprinklerHouse$Chooser", "areAllMet", "(I)Z"⟩, 13), (⟨"SprinklerHouse$Chooser", "fix", "(II)V"⟩, 13), (⟨"SprinklerHouse", "isMetWithLess", "(II)Z"⟩, 6), (⟨"SprinklerHouse", "leastTooMuch", "(I)I"⟩, 6), (⟨"SprinklerHouse$Plan", "squareTo", "(III)I"⟩, 7)]
theorem lw_r1 : ∀ q ∈ lw_privs_1, lw_okq q := List.forall_mem_cons.mpr ⟨lw_p0, List.forall_mem_cons.mpr ⟨lw_p1, List.forall_mem_cons.mpr ⟨lw_p2, List.forall_mem_cons.mpr ⟨lw_p3, List.forall_mem_cons.mpr ⟨lw_p4, List.forall_mem_cons.mpr ⟨lw_p5, List.forall_mem_cons.mpr ⟨lw_p6, List.forall_mem_cons.mpr ⟨lw_p7, List.forall_mem_cons.mpr ⟨lw_p8, List.forall_mem_cons.mpr ⟨lw_p9, List.forall_mem_cons.mpr ⟨lw_p10, List.forall_mem_cons.mpr ⟨lw_p11, List.forall_mem_cons.mpr ⟨lw_p12, List.forall_mem_cons.mpr ⟨lw_p13, List.forall_mem_cons.mpr ⟨lw_p14, List.forall_mem_cons.mpr ⟨lw_p15, fun _ h => absurd h List.not_mem_nil⟩⟩⟩⟩⟩⟩⟩⟩⟩⟩⟩⟩⟩⟩⟩⟩
theorem lw_p16 : lw_okq (⟨"SprinklerHouse$Plan", "isBehindWall", "(III)Z"⟩, 7) := ⟨⟨by decide +kernel, by decide +kernel⟩, List.mem_of_getElem? (i := 168) (by decide +kernel), List.mem_of_getElem? (i := 572) (by decide +kernel), List.mem_of_getElem? (i := 573) (by decide +kernel)⟩
theorem lw_p17 : lw_okq (⟨"SprinklerHouseModel", "isPipe", "(I)Z"⟩, 36) := ⟨⟨by decide +kernel, by decide +kernel⟩, List.mem_of_getElem? (i := 609) (by decide +kernel), List.mem_of_getElem? (i := 744) (by decide +kernel), List.mem_of_getElem? (i := 745) (by decide +kernel)⟩
theorem lw_p18 : lw_okq (⟨"SprinklerHouseModel", "isHead", "(I)Z"⟩, 36) := ⟨⟨by decide +kernel, by decide +kernel⟩, List.mem_of_getElem? (i := 609) (by decide +kernel), List.mem_of_getElem? (i := 759) (by decide +kernel), List.mem_of_getElem? (i := 760) (by decide +kernel)⟩
theorem lw_p19 : lw_okq (⟨"SprinklerHouseModel", "workNow", "()V"⟩, 36) := ⟨⟨by decide +kernel, by decide +kernel⟩, List.mem_of_getElem? (i := 609) (by decide +kernel), List.mem_of_getElem? (i := 782) (by decide +kernel), List.mem_of_getElem? (i := 783) (by decide +kernel)⟩
theorem lw_p20 : lw_okq (⟨"SprinklerHouseModel", "openAsTold", "()V"⟩, 36) := ⟨⟨by decide +kernel, by decide +kernel⟩, List.mem_of_getElem? (i := 609) (by decide +kernel), List.mem_of_getElem? (i := 786) (by decide +kernel), List.mem_of_getElem? (i := 787) (by decide +kernel)⟩
theorem lw_p21 : lw_okq (⟨"SprinklerHouseModel", "work", "(I)V"⟩, 36) := ⟨⟨by decide +kernel, by decide +kernel⟩, List.mem_of_getElem? (i := 609) (by decide +kernel), List.mem_of_getElem? (i := 790) (by decide +kernel), List.mem_of_getElem? (i := 791) (by decide +kernel)⟩
theorem lw_p22 : lw_okq (⟨"SprinklerHouseModel", "factorNow", "(I)I"⟩, 36) := ⟨⟨by decide +kernel, by decide +kernel⟩, List.mem_of_getElem? (i := 609) (by decide +kernel), List.mem_of_getElem? (i := 795) (by decide +kernel), List.mem_of_getElem? (i := 796) (by decide +kernel)⟩
theorem lw_p23 : lw_okq (⟨"SprinklerHouseModel", "conductOf", "(I)V"⟩, 36) := ⟨⟨by decide +kernel, by decide +kernel⟩, List.mem_of_getElem? (i := 609) (by decide +kernel), List.mem_of_getElem? (i := 799) (by decide +kernel), List.mem_of_getElem? (i := 800) (by decide +kernel)⟩
theorem lw_p24 : lw_okq (⟨"SprinklerHouseModel", "drag", "(I)I"⟩, 36) := ⟨⟨by decide +kernel, by decide +kernel⟩, List.mem_of_getElem? (i := 609) (by decide +kernel), List.mem_of_getElem? (i := 803) (by decide +kernel), List.mem_of_getElem? (i := 804) (by decide +kernel)⟩
theorem lw_p25 : lw_okq (⟨"SprinklerHouseModel", "pressureOf", "(IJJ)V"⟩, 36) := ⟨⟨by decide +kernel, by decide +kernel⟩, List.mem_of_getElem? (i := 609) (by decide +kernel), List.mem_of_getElem? (i := 819) (by decide +kernel), List.mem_of_getElem? (i := 820) (by decide +kernel)⟩
theorem lw_p26 : lw_okq (⟨"SprinklerHouseModel", "flowOf", "(II)J"⟩, 36) := ⟨⟨by decide +kernel, by decide +kernel⟩, List.mem_of_getElem? (i := 609) (by decide +kernel), List.mem_of_getElem? (i := 833) (by decide +kernel), List.mem_of_getElem? (i := 834) (by decide +kernel)⟩
theorem lw_p27 : lw_okq (⟨"SprinklerHouseModel", "spare", "(I)J"⟩, 36) := ⟨⟨by decide +kernel, by decide +kernel⟩, List.mem_of_getElem? (i := 609) (by decide +kernel), List.mem_of_getElem? (i := 852) (by decide +kernel), List.mem_of_getElem? (i := 853) (by decide +kernel)⟩
theorem lw_p28 : lw_okq (⟨"SprinklerHouseModel", "isHeap", "(I)Z"⟩, 36) := ⟨⟨by decide +kernel, by decide +kernel⟩, List.mem_of_getElem? (i := 609) (by decide +kernel), List.mem_of_getElem? (i := 864) (by decide +kernel), List.mem_of_getElem? (i := 865) (by decide +kernel)⟩
theorem lw_p29 : lw_okq (⟨"SprinklerHouseModel", "leastOf", "(II)J"⟩, 36) := ⟨⟨by decide +kernel, by decide +kernel⟩, List.mem_of_getElem? (i := 609) (by decide +kernel), List.mem_of_getElem? (i := 872) (by decide +kernel), List.mem_of_getElem? (i := 873) (by decide +kernel)⟩
theorem lw_p30 : lw_okq (⟨"SprinklerHouseModel", "freeMany", "()I"⟩, 36) := ⟨⟨by decide +kernel, by decide +kernel⟩, List.mem_of_getElem? (i := 609) (by decide +kernel), List.mem_of_getElem? (i := 885) (by decide +kernel), List.mem_of_getElem? (i := 886) (by decide +kernel)⟩
theorem lw_p31 : lw_okq (⟨"SprinklerHouseModel", "price", "()J"⟩, 36) := ⟨⟨by decide +kernel, by decide +kernel⟩, List.mem_of_getElem? (i := 609) (by decide +kernel), List.mem_of_getElem? (i := 893) (by decide +kernel), List.mem_of_getElem? (i := 894) (by decide +kernel)⟩
def lw_privs_2 : List (MethodName × Nat) := [(⟨"SprinklerHouse$Plan", "isBehindWall", "(III)Z"⟩, 7), (⟨"SprinklerHouseModel", "isPipe", "(I)Z"⟩, 36), (⟨"SprinklerHouseModel", "isHead", "(I)Z"⟩, 36), (⟨"SprinklerHouseModel", "workNow", "()V"⟩, 36), (⟨"SprinklerHouseModel", "openAsTold", "()V"⟩, 36), (⟨"SprinklerHouseModel", "work", "(I)V"⟩, 36), (⟨"SprinklerHouseModel", "factorNow", "(I)I"⟩, 36), (⟨"SprinklerHouseModel", "conductOf", "(I)V"⟩, 36), (⟨"SprinklerHouseModel", "drag", "(I)I"⟩, 36), (⟨"SprinklerHouseModel", "pressureOf", "(IJJ)V"⟩, 36), (⟨"SprinklerHouseModel", "flowOf", "(II)J"⟩, 36), (⟨"SprinklerHouseModel", "spare", "(I)J"⟩, 36), (⟨"SprinklerHouseModel", "isHeap", "(I)Z"⟩, 36), (⟨"SprinklerHouseModel", "leastOf", "(II)J"⟩, 36), (⟨"SprinklerHouseModel", "freeMany", "()I"⟩, 36), (⟨"SprinklerHouseModel", "price", "()J"⟩, 36)]
theorem lw_r2 : ∀ q ∈ lw_privs_2, lw_okq q := List.forall_mem_cons.mpr ⟨lw_p16, List.forall_mem_cons.mpr ⟨lw_p17, List.forall_mem_cons.mpr ⟨lw_p18, List.forall_mem_cons.mpr ⟨lw_p19, List.forall_mem_cons.mpr ⟨lw_p20, List.forall_mem_cons.mpr ⟨lw_p21, List.forall_mem_cons.mpr ⟨lw_p22, List.forall_mem_cons.mpr ⟨lw_p23, List.forall_mem_cons.mpr ⟨lw_p24, List.forall_mem_cons.mpr ⟨lw_p25, List.forall_mem_cons.mpr ⟨lw_p26, List.forall_mem_cons.mpr ⟨lw_p27, List.forall_mem_cons.mpr ⟨lw_p28, List.forall_mem_cons.mpr ⟨lw_p29, List.forall_mem_cons.mpr ⟨lw_p30, List.forall_mem_cons.mpr ⟨lw_p31, fun _ h => absurd h List.not_mem_nil⟩⟩⟩⟩⟩⟩⟩⟩⟩⟩⟩⟩⟩⟩⟩⟩
theorem lw_p32 : lw_okq (⟨"SprinklerHouseModel", "areMet", "()Z"⟩, 36) := ⟨⟨by decide +kernel, by decide +kernel⟩, List.mem_of_getElem? (i := 609) (by decide +kernel), List.mem_of_getElem? (i := 897) (by decide +kernel), List.mem_of_getElem? (i := 898) (by decide +kernel)⟩
theorem lw_p33 : lw_okq (⟨"SprinklerHouseModel", "isCell", "(II)Z"⟩, 36) := ⟨⟨by decide +kernel, by decide +kernel⟩, List.mem_of_getElem? (i := 609) (by decide +kernel), List.mem_of_getElem? (i := 920) (by decide +kernel), List.mem_of_getElem? (i := 921) (by decide +kernel)⟩
theorem lw_p34 : lw_okq (⟨"SprinklerHouseModel", "standsAt", "(II)I"⟩, 36) := ⟨⟨by decide +kernel, by decide +kernel⟩, List.mem_of_getElem? (i := 609) (by decide +kernel), List.mem_of_getElem? (i := 924) (by decide +kernel), List.mem_of_getElem? (i := 925) (by decide +kernel)⟩
theorem lw_p35 : lw_okq (⟨"SprinklerHouseModel", "wetsCell", "(III)Z"⟩, 36) := ⟨⟨by decide +kernel, by decide +kernel⟩, List.mem_of_getElem? (i := 609) (by decide +kernel), List.mem_of_getElem? (i := 941) (by decide +kernel), List.mem_of_getElem? (i := 942) (by decide +kernel)⟩
def lw_privs_3 : List (MethodName × Nat) := [(⟨"SprinklerHouseModel", "areMet", "()Z"⟩, 36), (⟨"SprinklerHouseModel", "isCell", "(II)Z"⟩, 36), (⟨"SprinklerHouseModel", "standsAt", "(II)I"⟩, 36), (⟨"SprinklerHouseModel", "wetsCell", "(III)Z"⟩, 36)]
theorem lw_r3 : ∀ q ∈ lw_privs_3, lw_okq q := List.forall_mem_cons.mpr ⟨lw_p32, List.forall_mem_cons.mpr ⟨lw_p33, List.forall_mem_cons.mpr ⟨lw_p34, List.forall_mem_cons.mpr ⟨lw_p35, fun _ h => absurd h List.not_mem_nil⟩⟩⟩⟩
def lw_privs : List (MethodName × Nat) := lw_privs_1 ++ (lw_privs_2 ++ (lw_privs_3))
def lw_tbl : List Cond := k2_sels lw_privs ++ tables_1
theorem lw_privs_ok : ∀ q ∈ lw_privs, lw_okq q := by
  show ∀ q ∈ lw_privs_1 ++ (lw_privs_2 ++ (lw_privs_3)), lw_okq q
  exact List.forall_mem_append.mpr ⟨lw_r1, List.forall_mem_append.mpr ⟨lw_r2, lw_r3⟩⟩
def RX0 : String := "SprinklerHouse$Chooser"
def TX0 : u_T := fun k => match k with
  | 0 => ("SprinklerHouse$Chooser", "net", "LSprinklerHouse$Net;", true)
  | 1 => ("SprinklerHouse$Chooser", "widths", "LSprinklerHouse$Widths;", true)
  | 2 => ("SprinklerHouse$Chooser", "members", "[I", true)
  | 3 => ("SprinklerHouse$Chooser", "heaps", "I", false)
  | 4 => ("SprinklerHouse$Chooser", "count", "I", false)
  | 5 => ("SprinklerHouse$Chooser", "pipes", "[I", true)
  | 6 => ("SprinklerHouse$Chooser", "tried", "[I", true)
  | 7 => ("SprinklerHouse$Chooser", "best", "[I", true)
  | 8 => ("SprinklerHouse$Chooser", "bestPrice", "I", false)
  | 9 => ("SprinklerHouse$Chooser", "leastRest", "[I", true)
  | 10 => ("SprinklerHouse$Chooser", "leastDrags", "[I", true)
  | 11 => ("SprinklerHouse$Chooser", "mostDrags", "[I", true)
  | _ => ("SprinklerHouse$Chooser", "failed", "I", false)
def tyX0 : Nat → FieldType := fun k => match k with
  | 0 => .object "SprinklerHouse$Net"
  | 1 => .object "SprinklerHouse$Widths"
  | 2 => .array .int
  | 3 => .int
  | 4 => .int
  | 5 => .array .int
  | 6 => .array .int
  | 7 => .array .int
  | 8 => .int
  | 9 => .array .int
  | 10 => .array .int
  | 11 => .array .int
  | _ => .int
abbrev wsX00 : List Cond := u_ws RX0 TX0 13
theorem nmX0 : ∀ a, a < 13 → ∀ b, b < 13 → a ≠ b → (TX0 a).2.1 ≠ (TX0 b).2.1 := by decide +kernel
theorem tyX0_ok : ∀ k, k < 13 → parseFieldDescriptor (TX0 k).2.2.1 = some (tyX0 k) := by decide +kernel
abbrev cX0_init : ByteArray := prog_2_method_1_code
def yX0_init : MethodName := ⟨RX0, "<init>", "(LSprinklerHouse$Net;LSprinklerHouse$Widths;[I)V"⟩
abbrev cX0_begin : ByteArray := prog_2_method_2_code
def yX0_begin : MethodName := ⟨RX0, "begin", "(I)V"⟩
abbrev cX0_settle : ByteArray := prog_2_method_3_code
def yX0_settle : MethodName := ⟨RX0, "settle", "()Z"⟩
abbrev cX0_listFreePipes : ByteArray := prog_2_method_4_code
def yX0_listFreePipes : MethodName := ⟨RX0, "listFreePipes", "()V"⟩
abbrev cX0_leastPrice : ByteArray := prog_2_method_5_code
def yX0_leastPrice : MethodName := ⟨RX0, "leastPrice", "(I)I"⟩
abbrev cX0_search : ByteArray := prog_2_method_6_code
def yX0_search : MethodName := ⟨RX0, "search", "(LSprinklerHouse$Chooser;II)V"⟩
abbrev cX0_fix : ByteArray := prog_2_method_7_code
def yX0_fix : MethodName := ⟨RX0, "fix", "(II)V"⟩
abbrev cX0_widen : ByteArray := prog_2_method_8_code
def yX0_widen : MethodName := ⟨RX0, "widen", "(I)V"⟩
abbrev cX0_areAllMet : ByteArray := prog_2_method_9_code
def yX0_areAllMet : MethodName := ⟨RX0, "areAllMet", "(I)Z"⟩
def RX1 : String := "SprinklerHouse$Net"
def TX1 : u_T := fun k => match k with
  | 0 => ("SprinklerHouse$Net", "pressure", "I", false)
  | 1 => ("SprinklerHouse$Net", "sizes", "I", false)
  | 2 => ("SprinklerHouse$Net", "sizeDrags", "[I", true)
  | 3 => ("SprinklerHouse$Net", "sizePrices", "[I", true)
  | 4 => ("SprinklerHouse$Net", "pipes", "I", false)
  | 5 => ("SprinklerHouse$Net", "from", "[I", true)
  | 6 => ("SprinklerHouse$Net", "lengths", "[I", true)
  | 7 => ("SprinklerHouse$Net", "sizeOf", "[I", true)
  | 8 => ("SprinklerHouse$Net", "steps", "[I", true)
  | 9 => ("SprinklerHouse$Net", "drags", "[I", true)
  | 10 => ("SprinklerHouse$Net", "closed", "I", false)
  | 11 => ("SprinklerHouse$Net", "freed", "I", false)
  | 12 => ("SprinklerHouse$Net", "heads", "I", false)
  | 13 => ("SprinklerHouse$Net", "opened", "I", false)
  | 14 => ("SprinklerHouse$Net", "factors", "[I", true)
  | 15 => ("SprinklerHouse$Net", "needs", "[I", true)
  | _ => ("SprinklerHouse$Net", "clogs", "[I", true)
def tyX1 : Nat → FieldType := fun k => match k with
  | 0 => .int
  | 1 => .int
  | 2 => .array .int
  | 3 => .array .int
  | 4 => .int
  | 5 => .array .int
  | 6 => .array .int
  | 7 => .array .int
  | 8 => .array .int
  | 9 => .array .int
  | 10 => .int
  | 11 => .int
  | 12 => .int
  | 13 => .int
  | 14 => .array .int
  | 15 => .array .int
  | _ => .array .int
abbrev wsX10 : List Cond := u_ws RX1 TX1 17
theorem nmX1 : ∀ a, a < 17 → ∀ b, b < 17 → a ≠ b → (TX1 a).2.1 ≠ (TX1 b).2.1 := by decide +kernel
theorem tyX1_ok : ∀ k, k < 17 → parseFieldDescriptor (TX1 k).2.2.1 = some (tyX1 k) := by decide +kernel
abbrev cX1_init : ByteArray := prog_3_method_1_code
def yX1_init : MethodName := ⟨RX1, "<init>", "()V"⟩
abbrev cX1_addSize : ByteArray := prog_3_method_2_code
def yX1_addSize : MethodName := ⟨RX1, "addSize", "(II)I"⟩
abbrev cX1_addPipe : ByteArray := prog_3_method_3_code
def yX1_addPipe : MethodName := ⟨RX1, "addPipe", "(III)I"⟩
abbrev cX1_setSize : ByteArray := prog_3_method_4_code
def yX1_setSize : MethodName := ⟨RX1, "setSize", "(II)V"⟩
abbrev cX1_setHead : ByteArray := prog_3_method_5_code
def yX1_setHead : MethodName := ⟨RX1, "setHead", "(III)V"⟩
abbrev cX1_dragWith : ByteArray := prog_3_method_6_code
def yX1_dragWith : MethodName := ⟨RX1, "dragWith", "(II)I"⟩
abbrev cX1_priceWith : ByteArray := prog_3_method_7_code
def yX1_priceWith : MethodName := ⟨RX1, "priceWith", "(II)I"⟩
abbrev cX1_priceOfAll : ByteArray := prog_3_method_8_code
def yX1_priceOfAll : MethodName := ⟨RX1, "priceOfAll", "()I"⟩
abbrev cX1_factorNow : ByteArray := prog_3_method_9_code
def yX1_factorNow : MethodName := ⟨RX1, "factorNow", "(I)I"⟩
abbrev cX1_countFrom : ByteArray := prog_3_method_10_code
def yX1_countFrom : MethodName := ⟨RX1, "countFrom", "(I)I"⟩
def RX2 : String := "SprinklerHouse$Plan"
def TX2 : u_T := fun k => match k with
  | 0 => ("SprinklerHouse$Plan", "rows", "I", false)
  | 1 => ("SprinklerHouse$Plan", "columns", "I", false)
  | 2 => ("SprinklerHouse$Plan", "kinds", "[I", true)
  | 3 => ("SprinklerHouse$Plan", "standing", "I", false)
  | 4 => ("SprinklerHouse$Plan", "rowOf", "[I", true)
  | 5 => ("SprinklerHouse$Plan", "columnOf", "[I", true)
  | _ => ("SprinklerHouse$Plan", "reachOf", "[I", true)
def tyX2 : Nat → FieldType := fun k => match k with
  | 0 => .int
  | 1 => .int
  | 2 => .array .int
  | 3 => .int
  | 4 => .array .int
  | 5 => .array .int
  | _ => .array .int
abbrev wsX20 : List Cond := u_ws RX2 TX2 7
theorem nmX2 : ∀ a, a < 7 → ∀ b, b < 7 → a ≠ b → (TX2 a).2.1 ≠ (TX2 b).2.1 := by decide +kernel
theorem tyX2_ok : ∀ k, k < 7 → parseFieldDescriptor (TX2 k).2.2.1 = some (tyX2 k) := by decide +kernel
abbrev cX2_init : ByteArray := prog_4_method_1_code
def yX2_init : MethodName := ⟨RX2, "<init>", "()V"⟩
abbrev cX2_lay : ByteArray := prog_4_method_2_code
def yX2_lay : MethodName := ⟨RX2, "lay", "(II)V"⟩
abbrev cX2_isCell : ByteArray := prog_4_method_3_code
def yX2_isCell : MethodName := ⟨RX2, "isCell", "(II)Z"⟩
abbrev cX2_kindOf : ByteArray := prog_4_method_4_code
def yX2_kindOf : MethodName := ⟨RX2, "kindOf", "(II)I"⟩
abbrev cX2_countOpenCells : ByteArray := prog_4_method_5_code
def yX2_countOpenCells : MethodName := ⟨RX2, "countOpenCells", "()I"⟩
abbrev cX2_whoStandsIn : ByteArray := prog_4_method_6_code
def yX2_whoStandsIn : MethodName := ⟨RX2, "whoStandsIn", "(II)I"⟩
abbrev cX2_place : ByteArray := prog_4_method_7_code
def yX2_place : MethodName := ⟨RX2, "place", "(IIII)V"⟩
abbrev cX2_isDry : ByteArray := prog_4_method_8_code
def yX2_isDry : MethodName := ⟨RX2, "isDry", "(II)Z"⟩
abbrev cX2_isWetBy : ByteArray := prog_4_method_9_code
def yX2_isWetBy : MethodName := ⟨RX2, "isWetBy", "(III)Z"⟩
abbrev cX2_isBehindWall : ByteArray := prog_4_method_10_code
def yX2_isBehindWall : MethodName := ⟨RX2, "isBehindWall", "(III)Z"⟩
abbrev cX2_isCut : ByteArray := prog_4_method_11_code
def yX2_isCut : MethodName := ⟨RX2, "isCut", "(IIII)Z"⟩
abbrev cX2_squareTo : ByteArray := prog_4_method_12_code
def yX2_squareTo : MethodName := ⟨RX2, "squareTo", "(III)I"⟩
abbrev cX2_isNearAnother : ByteArray := prog_4_method_13_code
def yX2_isNearAnother : MethodName := ⟨RX2, "isNearAnother", "(II)Z"⟩
def RX3 : String := "SprinklerHouse$Whole"
def TX3 : u_T := fun k => match k with
  | _ => ("", "", "", false)
def tyX3 : Nat → FieldType := fun k => match k with
  | _ => .int
abbrev wsX30 : List Cond := u_ws RX3 TX3 0
theorem nmX3 : ∀ a, a < 0 → ∀ b, b < 0 → a ≠ b → (TX3 a).2.1 ≠ (TX3 b).2.1 := by decide +kernel
theorem tyX3_ok : ∀ k, k < 0 → parseFieldDescriptor (TX3 k).2.2.1 = some (tyX3 k) := by decide +kernel
abbrev cX3_quotient : ByteArray := prog_5_method_2_code
def yX3_quotient : MethodName := ⟨RX3, "quotient", "(JJZ)J"⟩
abbrev cX3_root : ByteArray := prog_5_method_3_code
def yX3_root : MethodName := ⟨RX3, "root", "(JZ)J"⟩
def RX4 : String := "SprinklerHouse$Widths"
def TX4 : u_T := fun k => match k with
  | 0 => ("SprinklerHouse$Widths", "net", "LSprinklerHouse$Net;", true)
  | 1 => ("SprinklerHouse$Widths", "g", "[J", true)
  | _ => ("SprinklerHouse$Widths", "p", "[J", true)
def tyX4 : Nat → FieldType := fun k => match k with
  | 0 => .object "SprinklerHouse$Net"
  | 1 => .array .long
  | _ => .array .long
abbrev wsX40 : List Cond := u_ws RX4 TX4 3
theorem nmX4 : ∀ a, a < 3 → ∀ b, b < 3 → a ≠ b → (TX4 a).2.1 ≠ (TX4 b).2.1 := by decide +kernel
theorem tyX4_ok : ∀ k, k < 3 → parseFieldDescriptor (TX4 k).2.2.1 = some (tyX4 k) := by decide +kernel
abbrev cX4_init : ByteArray := prog_6_method_1_code
def yX4_init : MethodName := ⟨RX4, "<init>", "(LSprinklerHouse$Net;)V"⟩
abbrev cX4_holdPressures : ByteArray := prog_6_method_2_code
def yX4_holdPressures : MethodName := ⟨RX4, "holdPressures", "(II)V"⟩
abbrev cX4_gather : ByteArray := prog_6_method_3_code
def yX4_gather : MethodName := ⟨RX4, "gather", "(I[II)V"⟩
abbrev cX4_conductOf : ByteArray := prog_6_method_4_code
def yX4_conductOf : MethodName := ⟨RX4, "conductOf", "(II[I)J"⟩
abbrev cX4_fall : ByteArray := prog_6_method_5_code
def yX4_fall : MethodName := ⟨RX4, "fall", "(I[II)V"⟩
abbrev cX4_fallen : ByteArray := prog_6_method_6_code
def yX4_fallen : MethodName := ⟨RX4, "fallen", "(JII[I)J"⟩
abbrev cX4_isClosed : ByteArray := prog_6_method_7_code
def yX4_isClosed : MethodName := ⟨RX4, "isClosed", "(I)Z"⟩
abbrev cX4_flowOf : ByteArray := prog_6_method_8_code
def yX4_flowOf : MethodName := ⟨RX4, "flowOf", "(II)J"⟩
abbrev cX4_spareOf : ByteArray := prog_6_method_9_code
def yX4_spareOf : MethodName := ⟨RX4, "spareOf", "(I)J"⟩
abbrev cX4_leastSpare : ByteArray := prog_6_method_10_code
def yX4_leastSpare : MethodName := ⟨RX4, "leastSpare", "(I)J"⟩
def RX5 : String := "SprinklerHouse"
def TX5 : u_T := fun k => match k with
  | 0 => ("SprinklerHouse", "net", "LSprinklerHouse$Net;", true)
  | 1 => ("SprinklerHouse", "widths", "LSprinklerHouse$Widths;", true)
  | 2 => ("SprinklerHouse", "chooser", "LSprinklerHouse$Chooser;", true)
  | 3 => ("SprinklerHouse", "plan", "LSprinklerHouse$Plan;", true)
  | 4 => ("SprinklerHouse", "members", "[I", true)
  | _ => ("SprinklerHouse", "heaps", "I", false)
def tyX5 : Nat → FieldType := fun k => match k with
  | 0 => .object "SprinklerHouse$Net"
  | 1 => .object "SprinklerHouse$Widths"
  | 2 => .object "SprinklerHouse$Chooser"
  | 3 => .object "SprinklerHouse$Plan"
  | 4 => .array .int
  | _ => .int
abbrev wsX50 : List Cond := u_ws RX5 TX5 6
theorem nmX5 : ∀ a, a < 6 → ∀ b, b < 6 → a ≠ b → (TX5 a).2.1 ≠ (TX5 b).2.1 := by decide +kernel
theorem tyX5_ok : ∀ k, k < 6 → parseFieldDescriptor (TX5 k).2.2.1 = some (tyX5 k) := by decide +kernel
abbrev cX5_init : ByteArray := prog_1_method_1_code
def yX5_init : MethodName := ⟨RX5, "<init>", "()V"⟩
abbrev cX5_supply : ByteArray := prog_1_method_2_code
def yX5_supply : MethodName := ⟨RX5, "supply", "(II)I"⟩
abbrev cX5_size : ByteArray := prog_1_method_3_code
def yX5_size : MethodName := ⟨RX5, "size", "(II)I"⟩
abbrev cX5_pipe : ByteArray := prog_1_method_4_code
def yX5_pipe : MethodName := ⟨RX5, "pipe", "(III)I"⟩
abbrev cX5_head : ByteArray := prog_1_method_5_code
def yX5_head : MethodName := ⟨RX5, "head", "(III)I"⟩
abbrev cX5_open : ByteArray := prog_1_method_6_code
def yX5_open : MethodName := ⟨RX5, "open", "(IZ)I"⟩
abbrev cX5_shut : ByteArray := prog_1_method_7_code
def yX5_shut : MethodName := ⟨RX5, "shut", "(IZ)I"⟩
abbrev cX5_clog : ByteArray := prog_1_method_8_code
def yX5_clog : MethodName := ⟨RX5, "clog", "(II)I"⟩
abbrev cX5_resize : ByteArray := prog_1_method_9_code
def yX5_resize : MethodName := ⟨RX5, "resize", "(II)I"⟩
abbrev cX5_conduct : ByteArray := prog_1_method_10_code
def yX5_conduct : MethodName := ⟨RX5, "conduct", "(II)J"⟩
abbrev cX5_pressure : ByteArray := prog_1_method_11_code
def yX5_pressure : MethodName := ⟨RX5, "pressure", "(II)J"⟩
abbrev cX5_flow : ByteArray := prog_1_method_12_code
def yX5_flow : MethodName := ⟨RX5, "flow", "(II)J"⟩
abbrev cX5_total : ByteArray := prog_1_method_13_code
def yX5_total : MethodName := ⟨RX5, "total", "(I)J"⟩
abbrev cX5_about : ByteArray := prog_1_method_14_code
def yX5_about : MethodName := ⟨RX5, "about", "(II)I"⟩
abbrev cX5_worst : ByteArray := prog_1_method_15_code
def yX5_worst : MethodName := ⟨RX5, "worst", "()I"⟩
abbrev cX5_heap : ByteArray := prog_1_method_16_code
def yX5_heap : MethodName := ⟨RX5, "heap", "()I"⟩
abbrev cX5_put : ByteArray := prog_1_method_17_code
def yX5_put : MethodName := ⟨RX5, "put", "(IIZ)I"⟩
abbrev cX5_least : ByteArray := prog_1_method_18_code
def yX5_least : MethodName := ⟨RX5, "least", "(I)J"⟩
abbrev cX5_thinnest : ByteArray := prog_1_method_19_code
def yX5_thinnest : MethodName := ⟨RX5, "thinnest", "()I"⟩
abbrev cX5_free : ByteArray := prog_1_method_20_code
def yX5_free : MethodName := ⟨RX5, "free", "(IZ)I"⟩
abbrev cX5_choose : ByteArray := prog_1_method_21_code
def yX5_choose : MethodName := ⟨RX5, "choose", "()J"⟩
abbrev cX5_bill : ByteArray := prog_1_method_22_code
def yX5_bill : MethodName := ⟨RX5, "bill", "()J"⟩
abbrev cX5_margin : ByteArray := prog_1_method_23_code
def yX5_margin : MethodName := ⟨RX5, "margin", "(I)I"⟩
abbrev cX5_floor : ByteArray := prog_1_method_24_code
def yX5_floor : MethodName := ⟨RX5, "floor", "(II)I"⟩
abbrev cX5_cell : ByteArray := prog_1_method_25_code
def yX5_cell : MethodName := ⟨RX5, "cell", "(III)I"⟩
abbrev cX5_stand : ByteArray := prog_1_method_26_code
def yX5_stand : MethodName := ⟨RX5, "stand", "(IIII)I"⟩
abbrev cX5_lift : ByteArray := prog_1_method_27_code
def yX5_lift : MethodName := ⟨RX5, "lift", "(I)I"⟩
abbrev cX5_wets : ByteArray := prog_1_method_28_code
def yX5_wets : MethodName := ⟨RX5, "wets", "(III)I"⟩
abbrev cX5_dry : ByteArray := prog_1_method_29_code
def yX5_dry : MethodName := ⟨RX5, "dry", "(I)I"⟩
abbrev cX5_near : ByteArray := prog_1_method_30_code
def yX5_near : MethodName := ⟨RX5, "near", "(I)I"⟩
abbrev cX5_told : ByteArray := prog_1_method_31_code
def yX5_told : MethodName := ⟨RX5, "told", "(I)I"⟩
abbrev cX5_isPipe : ByteArray := prog_1_method_32_code
def yX5_isPipe : MethodName := ⟨RX5, "isPipe", "(I)Z"⟩
abbrev cX5_isEnd : ByteArray := prog_1_method_33_code
def yX5_isEnd : MethodName := ⟨RX5, "isEnd", "(I)Z"⟩
abbrev cX5_isHead : ByteArray := prog_1_method_34_code
def yX5_isHead : MethodName := ⟨RX5, "isHead", "(I)Z"⟩
abbrev cX5_isSize : ByteArray := prog_1_method_35_code
def yX5_isSize : MethodName := ⟨RX5, "isSize", "(I)Z"⟩
abbrev cX5_isHeap : ByteArray := prog_1_method_36_code
def yX5_isHeap : MethodName := ⟨RX5, "isHeap", "(I)Z"⟩
abbrev cX5_leastOfHeap : ByteArray := prog_1_method_37_code
def yX5_leastOfHeap : MethodName := ⟨RX5, "leastOfHeap", "(I)J"⟩
abbrev cX5_isMetWithLess : ByteArray := prog_1_method_38_code
def yX5_isMetWithLess : MethodName := ⟨RX5, "isMetWithLess", "(II)Z"⟩
abbrev cX5_leastTooMuch : ByteArray := prog_1_method_39_code
def yX5_leastTooMuch : MethodName := ⟨RX5, "leastTooMuch", "(I)I"⟩
abbrev cX5_isSide : ByteArray := prog_1_method_40_code
def yX5_isSide : MethodName := ⟨RX5, "isSide", "(I)Z"⟩
abbrev cX5_isWithin : ByteArray := prog_1_method_41_code
def yX5_isWithin : MethodName := ⟨RX5, "isWithin", "(III)Z"⟩
abbrev cX5_bit : ByteArray := prog_1_method_42_code
def yX5_bit : MethodName := ⟨RX5, "bit", "(II)I"⟩
abbrev cX5_withBit : ByteArray := prog_1_method_43_code
def yX5_withBit : MethodName := ⟨RX5, "withBit", "(IIZ)I"⟩
def RX6 : String := "SprinklerHouseModel"
def TX6 : u_T := fun k => match k with
  | 0 => ("SprinklerHouseModel", "supply", "I", false)
  | 1 => ("SprinklerHouseModel", "supplyDrag", "I", false)
  | 2 => ("SprinklerHouseModel", "sizeDrag", "[I", true)
  | 3 => ("SprinklerHouseModel", "sizePrice", "[I", true)
  | 4 => ("SprinklerHouseModel", "sizes", "I", false)
  | 5 => ("SprinklerHouseModel", "from", "[I", true)
  | 6 => ("SprinklerHouseModel", "length", "[I", true)
  | 7 => ("SprinklerHouseModel", "sizeOf", "[I", true)
  | 8 => ("SprinklerHouseModel", "deep", "[I", true)
  | 9 => ("SprinklerHouseModel", "isShut", "[Z", true)
  | 10 => ("SprinklerHouseModel", "isFree", "[Z", true)
  | 11 => ("SprinklerHouseModel", "pipes", "I", false)
  | 12 => ("SprinklerHouseModel", "hasHead", "[Z", true)
  | 13 => ("SprinklerHouseModel", "factor", "[I", true)
  | 14 => ("SprinklerHouseModel", "need", "[I", true)
  | 15 => ("SprinklerHouseModel", "isOpen", "[Z", true)
  | 16 => ("SprinklerHouseModel", "clogged", "[I", true)
  | 17 => ("SprinklerHouseModel", "opens", "[Z", true)
  | 18 => ("SprinklerHouseModel", "endLow", "[J", true)
  | 19 => ("SprinklerHouseModel", "endHigh", "[J", true)
  | 20 => ("SprinklerHouseModel", "gLow", "[J", true)
  | 21 => ("SprinklerHouseModel", "gHigh", "[J", true)
  | 22 => ("SprinklerHouseModel", "pLow", "[J", true)
  | 23 => ("SprinklerHouseModel", "pHigh", "[J", true)
  | 24 => ("SprinklerHouseModel", "isPut", "[Z", true)
  | 25 => ("SprinklerHouseModel", "heaps", "I", false)
  | 26 => ("SprinklerHouseModel", "freePipe", "[I", true)
  | 27 => ("SprinklerHouseModel", "held", "[I", true)
  | 28 => ("SprinklerHouseModel", "best", "[I", true)
  | 29 => ("SprinklerHouseModel", "rows", "I", false)
  | 30 => ("SprinklerHouseModel", "columns", "I", false)
  | 31 => ("SprinklerHouseModel", "kinds", "[I", true)
  | 32 => ("SprinklerHouseModel", "stands", "[Z", true)
  | 33 => ("SprinklerHouseModel", "standRow", "[I", true)
  | 34 => ("SprinklerHouseModel", "standColumn", "[I", true)
  | _ => ("SprinklerHouseModel", "reach", "[I", true)
def tyX6 : Nat → FieldType := fun k => match k with
  | 0 => .int
  | 1 => .int
  | 2 => .array .int
  | 3 => .array .int
  | 4 => .int
  | 5 => .array .int
  | 6 => .array .int
  | 7 => .array .int
  | 8 => .array .int
  | 9 => .array .boolean
  | 10 => .array .boolean
  | 11 => .int
  | 12 => .array .boolean
  | 13 => .array .int
  | 14 => .array .int
  | 15 => .array .boolean
  | 16 => .array .int
  | 17 => .array .boolean
  | 18 => .array .long
  | 19 => .array .long
  | 20 => .array .long
  | 21 => .array .long
  | 22 => .array .long
  | 23 => .array .long
  | 24 => .array .boolean
  | 25 => .int
  | 26 => .array .int
  | 27 => .array .int
  | 28 => .array .int
  | 29 => .int
  | 30 => .int
  | 31 => .array .int
  | 32 => .array .boolean
  | 33 => .array .int
  | 34 => .array .int
  | _ => .array .int
abbrev wsX60 : List Cond := u_ws RX6 TX6 36
theorem nmX6 : ∀ a, a < 36 → ∀ b, b < 36 → a ≠ b → (TX6 a).2.1 ≠ (TX6 b).2.1 := by decide +kernel
theorem tyX6_ok : ∀ k, k < 36 → parseFieldDescriptor (TX6 k).2.2.1 = some (tyX6 k) := by decide +kernel
abbrev cX6_init : ByteArray := prog_8_method_1_code
def yX6_init : MethodName := ⟨RX6, "<init>", "()V"⟩
abbrev cX6_in : ByteArray := prog_8_method_3_code
def yX6_in : MethodName := ⟨RX6, "in", "(JJJ)Z"⟩
abbrev cX6_isPipe : ByteArray := prog_8_method_4_code
def yX6_isPipe : MethodName := ⟨RX6, "isPipe", "(I)Z"⟩
abbrev cX6_isHead : ByteArray := prog_8_method_5_code
def yX6_isHead : MethodName := ⟨RX6, "isHead", "(I)Z"⟩
abbrev cX6_supply : ByteArray := prog_8_method_6_code
def yX6_supply : MethodName := ⟨RX6, "supply", "(II)I"⟩
abbrev cX6_size : ByteArray := prog_8_method_7_code
def yX6_size : MethodName := ⟨RX6, "size", "(II)I"⟩
abbrev cX6_pipe : ByteArray := prog_8_method_8_code
def yX6_pipe : MethodName := ⟨RX6, "pipe", "(III)I"⟩
abbrev cX6_head : ByteArray := prog_8_method_9_code
def yX6_head : MethodName := ⟨RX6, "head", "(III)I"⟩
abbrev cX6_open : ByteArray := prog_8_method_10_code
def yX6_open : MethodName := ⟨RX6, "open", "(IZ)I"⟩
abbrev cX6_shut : ByteArray := prog_8_method_11_code
def yX6_shut : MethodName := ⟨RX6, "shut", "(IZ)I"⟩
abbrev cX6_clog : ByteArray := prog_8_method_12_code
def yX6_clog : MethodName := ⟨RX6, "clog", "(II)I"⟩
abbrev cX6_resize : ByteArray := prog_8_method_13_code
def yX6_resize : MethodName := ⟨RX6, "resize", "(II)I"⟩
abbrev cX6_factorNow : ByteArray := prog_8_method_14_code
def yX6_factorNow : MethodName := ⟨RX6, "factorNow", "(I)I"⟩
abbrev cX6_root : ByteArray := prog_8_method_15_code
def yX6_root : MethodName := ⟨RX6, "root", "(J)J"⟩
abbrev cX6_rootUp : ByteArray := prog_8_method_16_code
def yX6_rootUp : MethodName := ⟨RX6, "rootUp", "(J)J"⟩
abbrev cX6_up : ByteArray := prog_8_method_17_code
def yX6_up : MethodName := ⟨RX6, "up", "(JJ)J"⟩
abbrev cX6_drag : ByteArray := prog_8_method_18_code
def yX6_drag : MethodName := ⟨RX6, "drag", "(I)I"⟩
abbrev cX6_openAsTold : ByteArray := prog_8_method_19_code
def yX6_openAsTold : MethodName := ⟨RX6, "openAsTold", "()V"⟩
abbrev cX6_conductOf : ByteArray := prog_8_method_20_code
def yX6_conductOf : MethodName := ⟨RX6, "conductOf", "(I)V"⟩
abbrev cX6_pressureOf : ByteArray := prog_8_method_21_code
def yX6_pressureOf : MethodName := ⟨RX6, "pressureOf", "(IJJ)V"⟩
abbrev cX6_work : ByteArray := prog_8_method_22_code
def yX6_work : MethodName := ⟨RX6, "work", "(I)V"⟩
abbrev cX6_workNow : ByteArray := prog_8_method_23_code
def yX6_workNow : MethodName := ⟨RX6, "workNow", "()V"⟩
abbrev cX6_flowOf : ByteArray := prog_8_method_24_code
def yX6_flowOf : MethodName := ⟨RX6, "flowOf", "(II)J"⟩
abbrev cX6_conduct : ByteArray := prog_8_method_25_code
def yX6_conduct : MethodName := ⟨RX6, "conduct", "(II)J"⟩
abbrev cX6_pressure : ByteArray := prog_8_method_26_code
def yX6_pressure : MethodName := ⟨RX6, "pressure", "(II)J"⟩
abbrev cX6_flow : ByteArray := prog_8_method_27_code
def yX6_flow : MethodName := ⟨RX6, "flow", "(II)J"⟩
abbrev cX6_total : ByteArray := prog_8_method_28_code
def yX6_total : MethodName := ⟨RX6, "total", "(I)J"⟩
abbrev cX6_asInt : ByteArray := prog_8_method_29_code
def yX6_asInt : MethodName := ⟨RX6, "asInt", "(Z)I"⟩
abbrev cX6_about : ByteArray := prog_8_method_30_code
def yX6_about : MethodName := ⟨RX6, "about", "(II)I"⟩
abbrev cX6_spare : ByteArray := prog_8_method_31_code
def yX6_spare : MethodName := ⟨RX6, "spare", "(I)J"⟩
abbrev cX6_worst : ByteArray := prog_8_method_32_code
def yX6_worst : MethodName := ⟨RX6, "worst", "()I"⟩
abbrev cX6_heap : ByteArray := prog_8_method_33_code
def yX6_heap : MethodName := ⟨RX6, "heap", "()I"⟩
abbrev cX6_isHeap : ByteArray := prog_8_method_34_code
def yX6_isHeap : MethodName := ⟨RX6, "isHeap", "(I)Z"⟩
abbrev cX6_put : ByteArray := prog_8_method_35_code
def yX6_put : MethodName := ⟨RX6, "put", "(IIZ)I"⟩
abbrev cX6_leastOf : ByteArray := prog_8_method_36_code
def yX6_leastOf : MethodName := ⟨RX6, "leastOf", "(II)J"⟩
abbrev cX6_least : ByteArray := prog_8_method_37_code
def yX6_least : MethodName := ⟨RX6, "least", "(I)J"⟩
abbrev cX6_thinnest : ByteArray := prog_8_method_38_code
def yX6_thinnest : MethodName := ⟨RX6, "thinnest", "()I"⟩
abbrev cX6_freeMany : ByteArray := prog_8_method_39_code
def yX6_freeMany : MethodName := ⟨RX6, "freeMany", "()I"⟩
abbrev cX6_free : ByteArray := prog_8_method_40_code
def yX6_free : MethodName := ⟨RX6, "free", "(IZ)I"⟩
abbrev cX6_price : ByteArray := prog_8_method_41_code
def yX6_price : MethodName := ⟨RX6, "price", "()J"⟩
abbrev cX6_areMet : ByteArray := prog_8_method_42_code
def yX6_areMet : MethodName := ⟨RX6, "areMet", "()Z"⟩
abbrev cX6_choose : ByteArray := prog_8_method_43_code
def yX6_choose : MethodName := ⟨RX6, "choose", "()J"⟩
abbrev cX6_bill : ByteArray := prog_8_method_44_code
def yX6_bill : MethodName := ⟨RX6, "bill", "()J"⟩
abbrev cX6_margin : ByteArray := prog_8_method_45_code
def yX6_margin : MethodName := ⟨RX6, "margin", "(I)I"⟩
abbrev cX6_isCell : ByteArray := prog_8_method_46_code
def yX6_isCell : MethodName := ⟨RX6, "isCell", "(II)Z"⟩
abbrev cX6_floor : ByteArray := prog_8_method_47_code
def yX6_floor : MethodName := ⟨RX6, "floor", "(II)I"⟩
abbrev cX6_standsAt : ByteArray := prog_8_method_48_code
def yX6_standsAt : MethodName := ⟨RX6, "standsAt", "(II)I"⟩
abbrev cX6_cell : ByteArray := prog_8_method_49_code
def yX6_cell : MethodName := ⟨RX6, "cell", "(III)I"⟩
abbrev cX6_stand : ByteArray := prog_8_method_50_code
def yX6_stand : MethodName := ⟨RX6, "stand", "(IIII)I"⟩
abbrev cX6_lift : ByteArray := prog_8_method_51_code
def yX6_lift : MethodName := ⟨RX6, "lift", "(I)I"⟩
abbrev cX6_square : ByteArray := prog_8_method_52_code
def yX6_square : MethodName := ⟨RX6, "square", "(II)I"⟩
abbrev cX6_side : ByteArray := prog_8_method_53_code
def yX6_side : MethodName := ⟨RX6, "side", "(IIIIII)I"⟩
abbrev cX6_goesThrough : ByteArray := prog_8_method_54_code
def yX6_goesThrough : MethodName := ⟨RX6, "goesThrough", "(IIIIII)Z"⟩
abbrev cX6_wetsCell : ByteArray := prog_8_method_55_code
def yX6_wetsCell : MethodName := ⟨RX6, "wetsCell", "(III)Z"⟩
abbrev cX6_wets : ByteArray := prog_8_method_56_code
def yX6_wets : MethodName := ⟨RX6, "wets", "(III)I"⟩
abbrev cX6_dry : ByteArray := prog_8_method_57_code
def yX6_dry : MethodName := ⟨RX6, "dry", "(I)I"⟩
abbrev cX6_near : ByteArray := prog_8_method_58_code
def yX6_near : MethodName := ⟨RX6, "near", "(I)I"⟩
abbrev cX6_told : ByteArray := prog_8_method_59_code
def yX6_told : MethodName := ⟨RX6, "told", "(I)I"⟩
def RJ6 : String := "java/lang/Integer"
def TJ6 : u_T := fun k => match k with
  | _ => ("", "", "", false)
def tyJ6 : Nat → FieldType := fun k => match k with
  | _ => .int
abbrev wsJ60 : List Cond := u_ws RJ6 TJ6 0
abbrev cJ6_numberOfLeadingZeros_0f7a4 : ByteArray := prog_9_method_47_code
def yJ6_numberOfLeadingZeros_0f7a4 : MethodName := ⟨RJ6, "numberOfLeadingZeros", "(I)I"⟩
abbrev cJ6_bitCount_0f7a4 : ByteArray := prog_9_method_49_code
def yJ6_bitCount_0f7a4 : MethodName := ⟨RJ6, "bitCount", "(I)I"⟩
def RJ13 : String := "java/lang/Long"
def TJ13 : u_T := fun k => match k with
  | _ => ("", "", "", false)
def tyJ13 : Nat → FieldType := fun k => match k with
  | _ => .int
abbrev wsJ130 : List Cond := u_ws RJ13 TJ13 0
abbrev cJ13_numberOfLeadingZeros_95d88 : ByteArray := prog_10_method_48_code
def yJ13_numberOfLeadingZeros_95d88 : MethodName := ⟨RJ13, "numberOfLeadingZeros", "(J)I"⟩
def RJ9 : String := "java/lang/Math"
def TJ9 : u_T := fun k => match k with
  | _ => ("", "", "", false)
def tyJ9 : Nat → FieldType := fun k => match k with
  | _ => .int
abbrev wsJ90 : List Cond := u_ws RJ9 TJ9 0
abbrev cJ9_abs_0f7a4 : ByteArray := prog_11_method_59_code
def yJ9_abs_0f7a4 : MethodName := ⟨RJ9, "abs", "(I)I"⟩
abbrev cJ9_max_7cf53 : ByteArray := prog_11_method_65_code
def yJ9_max_7cf53 : MethodName := ⟨RJ9, "max", "(II)I"⟩
abbrev cJ9_min_7cf53 : ByteArray := prog_11_method_69_code
def yJ9_min_7cf53 : MethodName := ⟨RJ9, "min", "(II)I"⟩
abbrev cJ9_min_f86c9 : ByteArray := prog_11_method_70_code
def yJ9_min_f86c9 : MethodName := ⟨RJ9, "min", "(JJ)J"⟩
def RJ10 : String := "java/lang/System"
def TJ10 : u_T := fun k => match k with
  | _ => ("", "", "", false)
def tyJ10 : Nat → FieldType := fun k => match k with
  | _ => .int
abbrev wsJ100 : List Cond := u_ws RJ10 TJ10 0
def RJ7 : String := "java/util/Arrays"
def TJ7 : u_T := fun k => match k with
  | _ => ("", "", "", false)
def tyJ7 : Nat → FieldType := fun k => match k with
  | _ => .int
abbrev wsJ70 : List Cond := u_ws RJ7 TJ7 0
abbrev cJ7_fill_d0a16 : ByteArray := prog_13_method_101_code
def yJ7_fill_d0a16 : MethodName := ⟨RJ7, "fill", "([JJ)V"⟩
abbrev cJ7_fill_53178 : ByteArray := prog_13_method_103_code
def yJ7_fill_53178 : MethodName := ⟨RJ7, "fill", "([II)V"⟩
def RL : String := "SprinklerHouseLaw"
abbrev cL_law : ByteArray := code
def yL_law : MethodName := ⟨RL, "law", "([I)Z"⟩
