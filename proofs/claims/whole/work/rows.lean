section
-- ===== PART A: goes FIRST, ahead of the names: the tables' words, and 'selects' of the private methods out of them =====
/-- a private method of a class that the tables say can be made, by its rows of tables_1 -/
def lw_okq (q : MethodName × Nat) : Prop := (q.1.cls ≠ "java/lang/invoke/MethodHandle" ∧ q.1.cls ≠ "java/lang/invoke/VarHandle") ∧ Cond.instantiable q.1.cls q.2 ∈ tables_1 ∧ Cond.privateMethod q.1 ∈ tables_1 ∧ Cond.instanceMethod q.1 ∈ tables_1
theorem lw_p0 : lw_okq (⟨"SprinklerHouse", "isEnd", "(I)Z"⟩, 6) := ⟨⟨by decide +kernel, by decide +kernel⟩, List.mem_of_getElem? (i := 14) (by decide +kernel), List.mem_of_getElem? (i := 239) (by decide +kernel), List.mem_of_getElem? (i := 240) (by decide +kernel)⟩
theorem lw_p1 : lw_okq (⟨"SprinklerHouse", "isPipe", "(I)Z"⟩, 6) := ⟨⟨by decide +kernel, by decide +kernel⟩, List.mem_of_getElem? (i := 14) (by decide +kernel), List.mem_of_getElem? (i := 243) (by decide +kernel), List.mem_of_getElem? (i := 244) (by decide +kernel)⟩
theorem lw_p2 : lw_okq (⟨"SprinklerHouse", "isSize", "(I)Z"⟩, 6) := ⟨⟨by decide +kernel, by decide +kernel⟩, List.mem_of_getElem? (i := 14) (by decide +kernel), List.mem_of_getElem? (i := 247) (by decide +kernel), List.mem_of_getElem? (i := 248) (by decide +kernel)⟩
theorem lw_p3 : lw_okq (⟨"SprinklerHouse", "isHead", "(I)Z"⟩, 6) := ⟨⟨by decide +kernel, by decide +kernel⟩, List.mem_of_getElem? (i := 14) (by decide +kernel), List.mem_of_getElem? (i := 278) (by decide +kernel), List.mem_of_getElem? (i := 279) (by decide +kernel)⟩
theorem lw_p4 : lw_okq (⟨"SprinklerHouse$Widths", "isClosed", "(I)Z"⟩, 3) := ⟨⟨by decide +kernel, by decide +kernel⟩, List.mem_of_getElem? (i := 104) (by decide +kernel), List.mem_of_getElem? (i := 325) (by decide +kernel), List.mem_of_getElem? (i := 326) (by decide +kernel)⟩
theorem lw_p5 : lw_okq (⟨"SprinklerHouse$Widths", "fallen", "(JII[I)J"⟩, 3) := ⟨⟨by decide +kernel, by decide +kernel⟩, List.mem_of_getElem? (i := 104) (by decide +kernel), List.mem_of_getElem? (i := 358) (by decide +kernel), List.mem_of_getElem? (i := 359) (by decide +kernel)⟩
theorem lw_p6 : lw_okq (⟨"SprinklerHouse", "isHeap", "(I)Z"⟩, 6) := ⟨⟨by decide +kernel, by decide +kernel⟩, List.mem_of_getElem? (i := 14) (by decide +kernel), List.mem_of_getElem? (i := 402) (by decide +kernel), List.mem_of_getElem? (i := 403) (by decide +kernel)⟩
theorem lw_p7 : lw_okq (⟨"SprinklerHouse", "leastOfHeap", "(I)J"⟩, 6) := ⟨⟨by decide +kernel, by decide +kernel⟩, List.mem_of_getElem? (i := 14) (by decide +kernel), List.mem_of_getElem? (i := 417) (by decide +kernel), List.mem_of_getElem? (i := 418) (by decide +kernel)⟩
theorem lw_p8 : lw_okq (⟨"SprinklerHouse$Chooser", "listFreePipes", "()V"⟩, 13) := ⟨⟨by decide +kernel, by decide +kernel⟩, List.mem_of_getElem? (i := 122) (by decide +kernel), List.mem_of_getElem? (i := 447) (by decide +kernel), List.mem_of_getElem? (i := 448) (by decide +kernel)⟩
theorem lw_p9 : lw_okq (⟨"SprinklerHouse$Chooser", "widen", "(I)V"⟩, 13) := ⟨⟨by decide +kernel, by decide +kernel⟩, List.mem_of_getElem? (i := 122) (by decide +kernel), List.mem_of_getElem? (i := 455) (by decide +kernel), List.mem_of_getElem? (i := 456) (by decide +kernel)⟩
theorem lw_p10 : lw_okq (⟨"SprinklerHouse$Chooser", "leastPrice", "(I)I"⟩, 13) := ⟨⟨by decide +kernel, by decide +kernel⟩, List.mem_of_getElem? (i := 122) (by decide +kernel), List.mem_of_getElem? (i := 466) (by decide +kernel), List.mem_of_getElem? (i := 467) (by decide +kernel)⟩
theorem lw_p11 : lw_okq (⟨"SprinklerHouse$Chooser", "areAllMet", "(I)Z"⟩, 13) := ⟨⟨by decide +kernel, by decide +kernel⟩, List.mem_of_getElem? (i := 122) (by decide +kernel), List.mem_of_getElem? (i := 477) (by decide +kernel), List.mem_of_getElem? (i := 478) (by decide +kernel)⟩
theorem lw_p12 : lw_okq (⟨"SprinklerHouse$Chooser", "fix", "(II)V"⟩, 13) := ⟨⟨by decide +kernel, by decide +kernel⟩, List.mem_of_getElem? (i := 122) (by decide +kernel), List.mem_of_getElem? (i := 484) (by decide +kernel), List.mem_of_getElem? (i := 485) (by decide +kernel)⟩
theorem lw_p13 : lw_okq (⟨"SprinklerHouse", "isMetWithLess", "(II)Z"⟩, 6) := ⟨⟨by decide +kernel, by decide +kernel⟩, List.mem_of_getElem? (i := 14) (by decide +kernel), List.mem_of_getElem? (i := 503) (by decide +kernel), List.mem_of_getElem? (i := 504) (by decide +kernel)⟩
theorem lw_p14 : lw_okq (⟨"SprinklerHouse", "leastTooMuch", "(I)I"⟩, 6) := ⟨⟨by decide +kernel, by decide +kernel⟩, List.mem_of_getElem? (i := 14) (by decide +kernel), List.mem_of_getElem? (i := 509) (by decide +kernel), List.mem_of_getElem? (i := 510) (by decide +kernel)⟩
theorem lw_p15 : lw_okq (⟨"SprinklerHouse$Plan", "squareTo", "(III)I"⟩, 7) := ⟨⟨by decide +kernel, by decide +kernel⟩, List.mem_of_getElem? (i := 168) (by decide +kernel), List.mem_of_getElem? (i := 563) (by decide +kernel), List.mem_of_getElem? (i := 564) (by decide +kernel)⟩
def lw_privs_1 : List (MethodName × Nat) := [(⟨"SprinklerHouse", "isEnd", "(I)Z"⟩, 6), (⟨"SprinklerHouse", "isPipe", "(I)Z"⟩, 6), (⟨"SprinklerHouse", "isSize", "(I)Z"⟩, 6), (⟨"SprinklerHouse", "isHead", "(I)Z"⟩, 6), (⟨"SprinklerHouse$Widths", "isClosed", "(I)Z"⟩, 3), (⟨"SprinklerHouse$Widths", "fallen", "(JII[I)J"⟩, 3), (⟨"SprinklerHouse", "isHeap", "(I)Z"⟩, 6), (⟨"SprinklerHouse", "leastOfHeap", "(I)J"⟩, 6), (⟨"SprinklerHouse$Chooser", "listFreePipes", "()V"⟩, 13), (⟨"SprinklerHouse$Chooser", "widen", "(I)V"⟩, 13), (⟨"SprinklerHouse$Chooser", "leastPrice", "(I)I"⟩, 13), (⟨"SprinklerHouse$Chooser", "areAllMet", "(I)Z"⟩, 13), (⟨"SprinklerHouse$Chooser", "fix", "(II)V"⟩, 13), (⟨"SprinklerHouse", "isMetWithLess", "(II)Z"⟩, 6), (⟨"SprinklerHouse", "leastTooMuch", "(I)I"⟩, 6), (⟨"SprinklerHouse$Plan", "squareTo", "(III)I"⟩, 7)]
theorem lw_r1 : ∀ q ∈ lw_privs_1, lw_okq q := List.forall_mem_cons.mpr ⟨lw_p0, List.forall_mem_cons.mpr ⟨lw_p1, List.forall_mem_cons.mpr ⟨lw_p2, List.forall_mem_cons.mpr ⟨lw_p3, List.forall_mem_cons.mpr ⟨lw_p4, List.forall_mem_cons.mpr ⟨lw_p5, List.forall_mem_cons.mpr ⟨lw_p6, List.forall_mem_cons.mpr ⟨lw_p7, List.forall_mem_cons.mpr ⟨lw_p8, List.forall_mem_cons.mpr ⟨lw_p9, List.forall_mem_cons.mpr ⟨lw_p10, List.forall_mem_cons.mpr ⟨lw_p11, List.forall_mem_cons.mpr ⟨lw_p12, List.forall_mem_cons.mpr ⟨lw_p13, List.forall_mem_cons.mpr ⟨lw_p14, List.forall_mem_cons.mpr ⟨lw_p15, fun _ h => absurd h List.not_mem_nil⟩⟩⟩⟩⟩⟩⟩⟩⟩⟩⟩⟩⟩⟩⟩⟩
theorem lw_p16 : lw_okq (⟨"SprinklerHouse$Plan", "isBehindWall", "(III)Z"⟩, 7) := ⟨⟨by decide +kernel, by decide +kernel⟩, List.mem_of_getElem? (i := 168) (by decide +kernel), List.mem_of_getElem? (i := 567) (by decide +kernel), List.mem_of_getElem? (i := 568) (by decide +kernel)⟩
theorem lw_p17 : lw_okq (⟨"SprinklerHouseModel", "isPipe", "(I)Z"⟩, 36) := ⟨⟨by decide +kernel, by decide +kernel⟩, List.mem_of_getElem? (i := 604) (by decide +kernel), List.mem_of_getElem? (i := 739) (by decide +kernel), List.mem_of_getElem? (i := 740) (by decide +kernel)⟩
theorem lw_p18 : lw_okq (⟨"SprinklerHouseModel", "isHead", "(I)Z"⟩, 36) := ⟨⟨by decide +kernel, by decide +kernel⟩, List.mem_of_getElem? (i := 604) (by decide +kernel), List.mem_of_getElem? (i := 754) (by decide +kernel), List.mem_of_getElem? (i := 755) (by decide +kernel)⟩
theorem lw_p19 : lw_okq (⟨"SprinklerHouseModel", "workNow", "()V"⟩, 36) := ⟨⟨by decide +kernel, by decide +kernel⟩, List.mem_of_getElem? (i := 604) (by decide +kernel), List.mem_of_getElem? (i := 777) (by decide +kernel), List.mem_of_getElem? (i := 778) (by decide +kernel)⟩
theorem lw_p20 : lw_okq (⟨"SprinklerHouseModel", "openAsTold", "()V"⟩, 36) := ⟨⟨by decide +kernel, by decide +kernel⟩, List.mem_of_getElem? (i := 604) (by decide +kernel), List.mem_of_getElem? (i := 781) (by decide +kernel), List.mem_of_getElem? (i := 782) (by decide +kernel)⟩
theorem lw_p21 : lw_okq (⟨"SprinklerHouseModel", "work", "(I)V"⟩, 36) := ⟨⟨by decide +kernel, by decide +kernel⟩, List.mem_of_getElem? (i := 604) (by decide +kernel), List.mem_of_getElem? (i := 785) (by decide +kernel), List.mem_of_getElem? (i := 786) (by decide +kernel)⟩
theorem lw_p22 : lw_okq (⟨"SprinklerHouseModel", "factorNow", "(I)I"⟩, 36) := ⟨⟨by decide +kernel, by decide +kernel⟩, List.mem_of_getElem? (i := 604) (by decide +kernel), List.mem_of_getElem? (i := 790) (by decide +kernel), List.mem_of_getElem? (i := 791) (by decide +kernel)⟩
theorem lw_p23 : lw_okq (⟨"SprinklerHouseModel", "conductOf", "(I)V"⟩, 36) := ⟨⟨by decide +kernel, by decide +kernel⟩, List.mem_of_getElem? (i := 604) (by decide +kernel), List.mem_of_getElem? (i := 794) (by decide +kernel), List.mem_of_getElem? (i := 795) (by decide +kernel)⟩
theorem lw_p24 : lw_okq (⟨"SprinklerHouseModel", "drag", "(I)I"⟩, 36) := ⟨⟨by decide +kernel, by decide +kernel⟩, List.mem_of_getElem? (i := 604) (by decide +kernel), List.mem_of_getElem? (i := 798) (by decide +kernel), List.mem_of_getElem? (i := 799) (by decide +kernel)⟩
theorem lw_p25 : lw_okq (⟨"SprinklerHouseModel", "pressureOf", "(IJJ)V"⟩, 36) := ⟨⟨by decide +kernel, by decide +kernel⟩, List.mem_of_getElem? (i := 604) (by decide +kernel), List.mem_of_getElem? (i := 814) (by decide +kernel), List.mem_of_getElem? (i := 815) (by decide +kernel)⟩
theorem lw_p26 : lw_okq (⟨"SprinklerHouseModel", "flowOf", "(II)J"⟩, 36) := ⟨⟨by decide +kernel, by decide +kernel⟩, List.mem_of_getElem? (i := 604) (by decide +kernel), List.mem_of_getElem? (i := 828) (by decide +kernel), List.mem_of_getElem? (i := 829) (by decide +kernel)⟩
theorem lw_p27 : lw_okq (⟨"SprinklerHouseModel", "spare", "(I)J"⟩, 36) := ⟨⟨by decide +kernel, by decide +kernel⟩, List.mem_of_getElem? (i := 604) (by decide +kernel), List.mem_of_getElem? (i := 847) (by decide +kernel), List.mem_of_getElem? (i := 848) (by decide +kernel)⟩
theorem lw_p28 : lw_okq (⟨"SprinklerHouseModel", "isHeap", "(I)Z"⟩, 36) := ⟨⟨by decide +kernel, by decide +kernel⟩, List.mem_of_getElem? (i := 604) (by decide +kernel), List.mem_of_getElem? (i := 859) (by decide +kernel), List.mem_of_getElem? (i := 860) (by decide +kernel)⟩
theorem lw_p29 : lw_okq (⟨"SprinklerHouseModel", "leastOf", "(II)J"⟩, 36) := ⟨⟨by decide +kernel, by decide +kernel⟩, List.mem_of_getElem? (i := 604) (by decide +kernel), List.mem_of_getElem? (i := 867) (by decide +kernel), List.mem_of_getElem? (i := 868) (by decide +kernel)⟩
theorem lw_p30 : lw_okq (⟨"SprinklerHouseModel", "freeMany", "()I"⟩, 36) := ⟨⟨by decide +kernel, by decide +kernel⟩, List.mem_of_getElem? (i := 604) (by decide +kernel), List.mem_of_getElem? (i := 880) (by decide +kernel), List.mem_of_getElem? (i := 881) (by decide +kernel)⟩
theorem lw_p31 : lw_okq (⟨"SprinklerHouseModel", "price", "()J"⟩, 36) := ⟨⟨by decide +kernel, by decide +kernel⟩, List.mem_of_getElem? (i := 604) (by decide +kernel), List.mem_of_getElem? (i := 888) (by decide +kernel), List.mem_of_getElem? (i := 889) (by decide +kernel)⟩
def lw_privs_2 : List (MethodName × Nat) := [(⟨"SprinklerHouse$Plan", "isBehindWall", "(III)Z"⟩, 7), (⟨"SprinklerHouseModel", "isPipe", "(I)Z"⟩, 36), (⟨"SprinklerHouseModel", "isHead", "(I)Z"⟩, 36), (⟨"SprinklerHouseModel", "workNow", "()V"⟩, 36), (⟨"SprinklerHouseModel", "openAsTold", "()V"⟩, 36), (⟨"SprinklerHouseModel", "work", "(I)V"⟩, 36), (⟨"SprinklerHouseModel", "factorNow", "(I)I"⟩, 36), (⟨"SprinklerHouseModel", "conductOf", "(I)V"⟩, 36), (⟨"SprinklerHouseModel", "drag", "(I)I"⟩, 36), (⟨"SprinklerHouseModel", "pressureOf", "(IJJ)V"⟩, 36), (⟨"SprinklerHouseModel", "flowOf", "(II)J"⟩, 36), (⟨"SprinklerHouseModel", "spare", "(I)J"⟩, 36), (⟨"SprinklerHouseModel", "isHeap", "(I)Z"⟩, 36), (⟨"SprinklerHouseModel", "leastOf", "(II)J"⟩, 36), (⟨"SprinklerHouseModel", "freeMany", "()I"⟩, 36), (⟨"SprinklerHouseModel", "price", "()J"⟩, 36)]
theorem lw_r2 : ∀ q ∈ lw_privs_2, lw_okq q := List.forall_mem_cons.mpr ⟨lw_p16, List.forall_mem_cons.mpr ⟨lw_p17, List.forall_mem_cons.mpr ⟨lw_p18, List.forall_mem_cons.mpr ⟨lw_p19, List.forall_mem_cons.mpr ⟨lw_p20, List.forall_mem_cons.mpr ⟨lw_p21, List.forall_mem_cons.mpr ⟨lw_p22, List.forall_mem_cons.mpr ⟨lw_p23, List.forall_mem_cons.mpr ⟨lw_p24, List.forall_mem_cons.mpr ⟨lw_p25, List.forall_mem_cons.mpr ⟨lw_p26, List.forall_mem_cons.mpr ⟨lw_p27, List.forall_mem_cons.mpr ⟨lw_p28, List.forall_mem_cons.mpr ⟨lw_p29, List.forall_mem_cons.mpr ⟨lw_p30, List.forall_mem_cons.mpr ⟨lw_p31, fun _ h => absurd h List.not_mem_nil⟩⟩⟩⟩⟩⟩⟩⟩⟩⟩⟩⟩⟩⟩⟩⟩
theorem lw_p32 : lw_okq (⟨"SprinklerHouseModel", "areMet", "()Z"⟩, 36) := ⟨⟨by decide +kernel, by decide +kernel⟩, List.mem_of_getElem? (i := 604) (by decide +kernel), List.mem_of_getElem? (i := 892) (by decide +kernel), List.mem_of_getElem? (i := 893) (by decide +kernel)⟩
theorem lw_p33 : lw_okq (⟨"SprinklerHouseModel", "isCell", "(II)Z"⟩, 36) := ⟨⟨by decide +kernel, by decide +kernel⟩, List.mem_of_getElem? (i := 604) (by decide +kernel), List.mem_of_getElem? (i := 915) (by decide +kernel), List.mem_of_getElem? (i := 916) (by decide +kernel)⟩
theorem lw_p34 : lw_okq (⟨"SprinklerHouseModel", "standsAt", "(II)I"⟩, 36) := ⟨⟨by decide +kernel, by decide +kernel⟩, List.mem_of_getElem? (i := 604) (by decide +kernel), List.mem_of_getElem? (i := 919) (by decide +kernel), List.mem_of_getElem? (i := 920) (by decide +kernel)⟩
theorem lw_p35 : lw_okq (⟨"SprinklerHouseModel", "wetsCell", "(III)Z"⟩, 36) := ⟨⟨by decide +kernel, by decide +kernel⟩, List.mem_of_getElem? (i := 604) (by decide +kernel), List.mem_of_getElem? (i := 936) (by decide +kernel), List.mem_of_getElem? (i := 937) (by decide +kernel)⟩
def lw_privs_3 : List (MethodName × Nat) := [(⟨"SprinklerHouseModel", "areMet", "()Z"⟩, 36), (⟨"SprinklerHouseModel", "isCell", "(II)Z"⟩, 36), (⟨"SprinklerHouseModel", "standsAt", "(II)I"⟩, 36), (⟨"SprinklerHouseModel", "wetsCell", "(III)Z"⟩, 36)]
theorem lw_r3 : ∀ q ∈ lw_privs_3, lw_okq q := List.forall_mem_cons.mpr ⟨lw_p32, List.forall_mem_cons.mpr ⟨lw_p33, List.forall_mem_cons.mpr ⟨lw_p34, List.forall_mem_cons.mpr ⟨lw_p35, fun _ h => absurd h List.not_mem_nil⟩⟩⟩⟩
def lw_privs : List (MethodName × Nat) := lw_privs_1 ++ (lw_privs_2 ++ (lw_privs_3))
def lw_tbl : List Cond := k2_sels lw_privs ++ tables_1
theorem lw_privs_ok : ∀ q ∈ lw_privs, lw_okq q := by
  show ∀ q ∈ lw_privs_1 ++ (lw_privs_2 ++ (lw_privs_3)), lw_okq q
  exact List.forall_mem_append.mpr ⟨lw_r1, List.forall_mem_append.mpr ⟨lw_r2, lw_r3⟩⟩
def RX0 : String := "SprinklerHouse$Chooser"
def TX0 : u_T := fun k => match k with
  | 0 => ("SprinklerHouse$Chooser", "net", "LSprinklerHouse$Net;", true)
  | 1 => ("SprinklerHouse$Chooser", "widths", "LSprinklerHouse$Widths;", true)
  | 2 => ("SprinklerHouse$Chooser", "members", "[I", true)
  | 3 => ("SprinklerHouse$Chooser", "heaps", "I", false)
  | 4 => ("SprinklerHouse$Chooser", "count", "I", false)
  | 5 => ("SprinklerHouse$Chooser", "pipes", "[I", true)
  | 6 => ("SprinklerHouse$Chooser", "tried", "[I", true)
  | 7 => ("SprinklerHouse$Chooser", "best", "[I", true)
  | 8 => ("SprinklerHouse$Chooser", "bestPrice", "I", false)
  | 9 => ("SprinklerHouse$Chooser", "leastRest", "[I", true)
  | 10 => ("SprinklerHouse$Chooser", "leastDrags", "[I", true)
  | 11 => ("SprinklerHouse$Chooser", "mostDrags", "[I", true)
  | _ => ("SprinklerHouse$Chooser", "failed", "I", false)
def tyX0 : Nat → FieldType := fun k => match k with
  | 0 => .object "SprinklerHouse$Net"
  | 1 => .object "SprinklerHouse$Widths"
  | 2 => .array .int
  | 3 => .int
  | 4 => .int
  | 5 => .array .int
  | 6 => .array .int
  | 7 => .array .int
  | 8 => .int
  | 9 => .array .int
  | 10 => .array .int
  | 11 => .array .int
  | _ => .int
abbrev wsX00 : List Cond := u_ws RX0 TX0 13
theorem nmX0 : ∀ a, a < 13 → ∀ b, b < 13 → a ≠ b → (TX0 a).2.1 ≠ (TX0 b).2.1 := by decide +kernel
theorem tyX0_ok : ∀ k, k < 13 → parseFieldDescriptor (TX0 k).2.2.1 = some (tyX0 k) := by decide +kernel
abbrev cX0_init : ByteArray := prog_2_method_1_code
def yX0_init : MethodName := ⟨RX0, "<init>", "(LSprinklerHouse$Net;LSprinklerHouse$Widths;[I)V"⟩
abbrev cX0_chooseSizes : ByteArray := prog_2_method_2_code
def yX0_chooseSizes : MethodName := ⟨RX0, "chooseSizes", "(I)Z"⟩
abbrev cX0_listFreePipes : ByteArray := prog_2_method_3_code
def yX0_listFreePipes : MethodName := ⟨RX0, "listFreePipes", "()V"⟩
abbrev cX0_leastPrice : ByteArray := prog_2_method_4_code
def yX0_leastPrice : MethodName := ⟨RX0, "leastPrice", "(I)I"⟩
abbrev cX0_search : ByteArray := prog_2_method_5_code
def yX0_search : MethodName := ⟨RX0, "search", "(LSprinklerHouse$Chooser;II)V"⟩
abbrev cX0_fix : ByteArray := prog_2_method_6_code
def yX0_fix : MethodName := ⟨RX0, "fix", "(II)V"⟩
abbrev cX0_widen : ByteArray := prog_2_method_7_code
def yX0_widen : MethodName := ⟨RX0, "widen", "(I)V"⟩
abbrev cX0_areAllMet : ByteArray := prog_2_method_8_code
def yX0_areAllMet : MethodName := ⟨RX0, "areAllMet", "(I)Z"⟩
def RX1 : String := "SprinklerHouse$Net"
def TX1 : u_T := fun k => match k with
  | 0 => ("SprinklerHouse$Net", "pressure", "I", false)
  | 1 => ("SprinklerHouse$Net", "sizes", "I", false)
  | 2 => ("SprinklerHouse$Net", "sizeDrags", "[I", true)
  | 3 => ("SprinklerHouse$Net", "sizePrices", "[I", true)
  | 4 => ("SprinklerHouse$Net", "pipes", "I", false)
  | 5 => ("SprinklerHouse$Net", "from", "[I", true)
  | 6 => ("SprinklerHouse$Net", "lengths", "[I", true)
  | 7 => ("SprinklerHouse$Net", "sizeOf", "[I", true)
  | 8 => ("SprinklerHouse$Net", "steps", "[I", true)
  | 9 => ("SprinklerHouse$Net", "drags", "[I", true)
  | 10 => ("SprinklerHouse$Net", "closed", "I", false)
  | 11 => ("SprinklerHouse$Net", "freed", "I", false)
  | 12 => ("SprinklerHouse$Net", "heads", "I", false)
  | 13 => ("SprinklerHouse$Net", "opened", "I", false)
  | 14 => ("SprinklerHouse$Net", "factors", "[I", true)
  | 15 => ("SprinklerHouse$Net", "needs", "[I", true)
  | _ => ("SprinklerHouse$Net", "clogs", "[I", true)
def tyX1 : Nat → FieldType := fun k => match k with
  | 0 => .int
  | 1 => .int
  | 2 => .array .int
  | 3 => .array .int
  | 4 => .int
  | 5 => .array .int
  | 6 => .array .int
  | 7 => .array .int
  | 8 => .array .int
  | 9 => .array .int
  | 10 => .int
  | 11 => .int
  | 12 => .int
  | 13 => .int
  | 14 => .array .int
  | 15 => .array .int
  | _ => .array .int
abbrev wsX10 : List Cond := u_ws RX1 TX1 17
theorem nmX1 : ∀ a, a < 17 → ∀ b, b < 17 → a ≠ b → (TX1 a).2.1 ≠ (TX1 b).2.1 := by decide +kernel
theorem tyX1_ok : ∀ k, k < 17 → parseFieldDescriptor (TX1 k).2.2.1 = some (tyX1 k) := by decide +kernel
abbrev cX1_init : ByteArray := prog_3_method_1_code
def yX1_init : MethodName := ⟨RX1, "<init>", "()V"⟩
abbrev cX1_addSize : ByteArray := prog_3_method_2_code
def yX1_addSize : MethodName := ⟨RX1, "addSize", "(II)I"⟩
abbrev cX1_addPipe : ByteArray := prog_3_method_3_code
def yX1_addPipe : MethodName := ⟨RX1, "addPipe", "(III)I"⟩
abbrev cX1_setSize : ByteArray := prog_3_method_4_code
def yX1_setSize : MethodName := ⟨RX1, "setSize", "(II)V"⟩
abbrev cX1_setHead : ByteArray := prog_3_method_5_code
def yX1_setHead : MethodName := ⟨RX1, "setHead", "(III)V"⟩
abbrev cX1_dragWith : ByteArray := prog_3_method_6_code
def yX1_dragWith : MethodName := ⟨RX1, "dragWith", "(II)I"⟩
abbrev cX1_priceWith : ByteArray := prog_3_method_7_code
def yX1_priceWith : MethodName := ⟨RX1, "priceWith", "(II)I"⟩
abbrev cX1_priceOfAll : ByteArray := prog_3_method_8_code
def yX1_priceOfAll : MethodName := ⟨RX1, "priceOfAll", "()I"⟩
abbrev cX1_factorNow : ByteArray := prog_3_method_9_code
def yX1_factorNow : MethodName := ⟨RX1, "factorNow", "(I)I"⟩
abbrev cX1_countFrom : ByteArray := prog_3_method_10_code
def yX1_countFrom : MethodName := ⟨RX1, "countFrom", "(I)I"⟩
def RX2 : String := "SprinklerHouse$Plan"
def TX2 : u_T := fun k => match k with
  | 0 => ("SprinklerHouse$Plan", "rows", "I", false)
  | 1 => ("SprinklerHouse$Plan", "columns", "I", false)
  | 2 => ("SprinklerHouse$Plan", "kinds", "[I", true)
  | 3 => ("SprinklerHouse$Plan", "standing", "I", false)
  | 4 => ("SprinklerHouse$Plan", "rowOf", "[I", true)
  | 5 => ("SprinklerHouse$Plan", "columnOf", "[I", true)
  | _ => ("SprinklerHouse$Plan", "reachOf", "[I", true)
def tyX2 : Nat → FieldType := fun k => match k with
  | 0 => .int
  | 1 => .int
  | 2 => .array .int
  | 3 => .int
  | 4 => .array .int
  | 5 => .array .int
  | _ => .array .int
abbrev wsX20 : List Cond := u_ws RX2 TX2 7
theorem nmX2 : ∀ a, a < 7 → ∀ b, b < 7 → a ≠ b → (TX2 a).2.1 ≠ (TX2 b).2.1 := by decide +kernel
theorem tyX2_ok : ∀ k, k < 7 → parseFieldDescriptor (TX2 k).2.2.1 = some (tyX2 k) := by decide +kernel
abbrev cX2_init : ByteArray := prog_4_method_1_code
def yX2_init : MethodName := ⟨RX2, "<init>", "()V"⟩
abbrev cX2_lay : ByteArray := prog_4_method_2_code
def yX2_lay : MethodName := ⟨RX2, "lay", "(II)V"⟩
abbrev cX2_isCell : ByteArray := prog_4_method_3_code
def yX2_isCell : MethodName := ⟨RX2, "isCell", "(II)Z"⟩
abbrev cX2_kindOf : ByteArray := prog_4_method_4_code
def yX2_kindOf : MethodName := ⟨RX2, "kindOf", "(II)I"⟩
abbrev cX2_countOpenCells : ByteArray := prog_4_method_5_code
def yX2_countOpenCells : MethodName := ⟨RX2, "countOpenCells", "()I"⟩
abbrev cX2_whoStandsIn : ByteArray := prog_4_method_6_code
def yX2_whoStandsIn : MethodName := ⟨RX2, "whoStandsIn", "(II)I"⟩
abbrev cX2_place : ByteArray := prog_4_method_7_code
def yX2_place : MethodName := ⟨RX2, "place", "(IIII)V"⟩
abbrev cX2_isDry : ByteArray := prog_4_method_8_code
def yX2_isDry : MethodName := ⟨RX2, "isDry", "(II)Z"⟩
abbrev cX2_isWetBy : ByteArray := prog_4_method_9_code
def yX2_isWetBy : MethodName := ⟨RX2, "isWetBy", "(III)Z"⟩
abbrev cX2_isBehindWall : ByteArray := prog_4_method_10_code
def yX2_isBehindWall : MethodName := ⟨RX2, "isBehindWall", "(III)Z"⟩
abbrev cX2_isCut : ByteArray := prog_4_method_11_code
def yX2_isCut : MethodName := ⟨RX2, "isCut", "(IIII)Z"⟩
abbrev cX2_squareTo : ByteArray := prog_4_method_12_code
def yX2_squareTo : MethodName := ⟨RX2, "squareTo", "(III)I"⟩
abbrev cX2_isNearAnother : ByteArray := prog_4_method_13_code
def yX2_isNearAnother : MethodName := ⟨RX2, "isNearAnother", "(II)Z"⟩
def RX3 : String := "SprinklerHouse$Whole"
def TX3 : u_T := fun k => match k with
  | _ => ("", "", "", false)
def tyX3 : Nat → FieldType := fun k => match k with
  | _ => .int
abbrev wsX30 : List Cond := u_ws RX3 TX3 0
theorem nmX3 : ∀ a, a < 0 → ∀ b, b < 0 → a ≠ b → (TX3 a).2.1 ≠ (TX3 b).2.1 := by decide +kernel
theorem tyX3_ok : ∀ k, k < 0 → parseFieldDescriptor (TX3 k).2.2.1 = some (tyX3 k) := by decide +kernel
abbrev cX3_quotient : ByteArray := prog_5_method_2_code
def yX3_quotient : MethodName := ⟨RX3, "quotient", "(JJZ)J"⟩
abbrev cX3_root : ByteArray := prog_5_method_3_code
def yX3_root : MethodName := ⟨RX3, "root", "(JZ)J"⟩
def RX4 : String := "SprinklerHouse$Widths"
def TX4 : u_T := fun k => match k with
  | 0 => ("SprinklerHouse$Widths", "net", "LSprinklerHouse$Net;", true)
  | 1 => ("SprinklerHouse$Widths", "g", "[J", true)
  | _ => ("SprinklerHouse$Widths", "p", "[J", true)
def tyX4 : Nat → FieldType := fun k => match k with
  | 0 => .object "SprinklerHouse$Net"
  | 1 => .array .long
  | _ => .array .long
abbrev wsX40 : List Cond := u_ws RX4 TX4 3
theorem nmX4 : ∀ a, a < 3 → ∀ b, b < 3 → a ≠ b → (TX4 a).2.1 ≠ (TX4 b).2.1 := by decide +kernel
theorem tyX4_ok : ∀ k, k < 3 → parseFieldDescriptor (TX4 k).2.2.1 = some (tyX4 k) := by decide +kernel
abbrev cX4_init : ByteArray := prog_6_method_1_code
def yX4_init : MethodName := ⟨RX4, "<init>", "(LSprinklerHouse$Net;)V"⟩
abbrev cX4_holdPressures : ByteArray := prog_6_method_2_code
def yX4_holdPressures : MethodName := ⟨RX4, "holdPressures", "(II)V"⟩
abbrev cX4_gather : ByteArray := prog_6_method_3_code
def yX4_gather : MethodName := ⟨RX4, "gather", "(I[II)V"⟩
abbrev cX4_conductOf : ByteArray := prog_6_method_4_code
def yX4_conductOf : MethodName := ⟨RX4, "conductOf", "(II[I)J"⟩
abbrev cX4_fall : ByteArray := prog_6_method_5_code
def yX4_fall : MethodName := ⟨RX4, "fall", "(I[II)V"⟩
abbrev cX4_fallen : ByteArray := prog_6_method_6_code
def yX4_fallen : MethodName := ⟨RX4, "fallen", "(JII[I)J"⟩
abbrev cX4_isClosed : ByteArray := prog_6_method_7_code
def yX4_isClosed : MethodName := ⟨RX4, "isClosed", "(I)Z"⟩
abbrev cX4_flowOf : ByteArray := prog_6_method_8_code
def yX4_flowOf : MethodName := ⟨RX4, "flowOf", "(II)J"⟩
abbrev cX4_spareOf : ByteArray := prog_6_method_9_code
def yX4_spareOf : MethodName := ⟨RX4, "spareOf", "(I)J"⟩
abbrev cX4_leastSpare : ByteArray := prog_6_method_10_code
def yX4_leastSpare : MethodName := ⟨RX4, "leastSpare", "(I)J"⟩
def RX5 : String := "SprinklerHouse"
def TX5 : u_T := fun k => match k with
  | 0 => ("SprinklerHouse", "net", "LSprinklerHouse$Net;", true)
  | 1 => ("SprinklerHouse", "widths", "LSprinklerHouse$Widths;", true)
  | 2 => ("SprinklerHouse", "chooser", "LSprinklerHouse$Chooser;", true)
  | 3 => ("SprinklerHouse", "plan", "LSprinklerHouse$Plan;", true)
  | 4 => ("SprinklerHouse", "members", "[I", true)
  | _ => ("SprinklerHouse", "heaps", "I", false)
def tyX5 : Nat → FieldType := fun k => match k with
  | 0 => .object "SprinklerHouse$Net"
  | 1 => .object "SprinklerHouse$Widths"
  | 2 => .object "SprinklerHouse$Chooser"
  | 3 => .object "SprinklerHouse$Plan"
  | 4 => .array .int
  | _ => .int
abbrev wsX50 : List Cond := u_ws RX5 TX5 6
theorem nmX5 : ∀ a, a < 6 → ∀ b, b < 6 → a ≠ b → (TX5 a).2.1 ≠ (TX5 b).2.1 := by decide +kernel
theorem tyX5_ok : ∀ k, k < 6 → parseFieldDescriptor (TX5 k).2.2.1 = some (tyX5 k) := by decide +kernel
abbrev cX5_init : ByteArray := prog_1_method_1_code
def yX5_init : MethodName := ⟨RX5, "<init>", "()V"⟩
abbrev cX5_supply : ByteArray := prog_1_method_2_code
def yX5_supply : MethodName := ⟨RX5, "supply", "(II)I"⟩
abbrev cX5_size : ByteArray := prog_1_method_3_code
def yX5_size : MethodName := ⟨RX5, "size", "(II)I"⟩
abbrev cX5_pipe : ByteArray := prog_1_method_4_code
def yX5_pipe : MethodName := ⟨RX5, "pipe", "(III)I"⟩
abbrev cX5_head : ByteArray := prog_1_method_5_code
def yX5_head : MethodName := ⟨RX5, "head", "(III)I"⟩
abbrev cX5_open : ByteArray := prog_1_method_6_code
def yX5_open : MethodName := ⟨RX5, "open", "(IZ)I"⟩
abbrev cX5_shut : ByteArray := prog_1_method_7_code
def yX5_shut : MethodName := ⟨RX5, "shut", "(IZ)I"⟩
abbrev cX5_clog : ByteArray := prog_1_method_8_code
def yX5_clog : MethodName := ⟨RX5, "clog", "(II)I"⟩
abbrev cX5_resize : ByteArray := prog_1_method_9_code
def yX5_resize : MethodName := ⟨RX5, "resize", "(II)I"⟩
abbrev cX5_conduct : ByteArray := prog_1_method_10_code
def yX5_conduct : MethodName := ⟨RX5, "conduct", "(II)J"⟩
abbrev cX5_pressure : ByteArray := prog_1_method_11_code
def yX5_pressure : MethodName := ⟨RX5, "pressure", "(II)J"⟩
abbrev cX5_flow : ByteArray := prog_1_method_12_code
def yX5_flow : MethodName := ⟨RX5, "flow", "(II)J"⟩
abbrev cX5_total : ByteArray := prog_1_method_13_code
def yX5_total : MethodName := ⟨RX5, "total", "(I)J"⟩
abbrev cX5_about : ByteArray := prog_1_method_14_code
def yX5_about : MethodName := ⟨RX5, "about", "(II)I"⟩
abbrev cX5_worst : ByteArray := prog_1_method_15_code
def yX5_worst : MethodName := ⟨RX5, "worst", "()I"⟩
abbrev cX5_heap : ByteArray := prog_1_method_16_code
def yX5_heap : MethodName := ⟨RX5, "heap", "()I"⟩
abbrev cX5_put : ByteArray := prog_1_method_17_code
def yX5_put : MethodName := ⟨RX5, "put", "(IIZ)I"⟩
abbrev cX5_least : ByteArray := prog_1_method_18_code
def yX5_least : MethodName := ⟨RX5, "least", "(I)J"⟩
abbrev cX5_thinnest : ByteArray := prog_1_method_19_code
def yX5_thinnest : MethodName := ⟨RX5, "thinnest", "()I"⟩
abbrev cX5_free : ByteArray := prog_1_method_20_code
def yX5_free : MethodName := ⟨RX5, "free", "(IZ)I"⟩
abbrev cX5_choose : ByteArray := prog_1_method_21_code
def yX5_choose : MethodName := ⟨RX5, "choose", "()J"⟩
abbrev cX5_bill : ByteArray := prog_1_method_22_code
def yX5_bill : MethodName := ⟨RX5, "bill", "()J"⟩
abbrev cX5_margin : ByteArray := prog_1_method_23_code
def yX5_margin : MethodName := ⟨RX5, "margin", "(I)I"⟩
abbrev cX5_floor : ByteArray := prog_1_method_24_code
def yX5_floor : MethodName := ⟨RX5, "floor", "(II)I"⟩
abbrev cX5_cell : ByteArray := prog_1_method_25_code
def yX5_cell : MethodName := ⟨RX5, "cell", "(III)I"⟩
abbrev cX5_stand : ByteArray := prog_1_method_26_code
def yX5_stand : MethodName := ⟨RX5, "stand", "(IIII)I"⟩
abbrev cX5_lift : ByteArray := prog_1_method_27_code
def yX5_lift : MethodName := ⟨RX5, "lift", "(I)I"⟩
abbrev cX5_wets : ByteArray := prog_1_method_28_code
def yX5_wets : MethodName := ⟨RX5, "wets", "(III)I"⟩
abbrev cX5_dry : ByteArray := prog_1_method_29_code
def yX5_dry : MethodName := ⟨RX5, "dry", "(I)I"⟩
abbrev cX5_near : ByteArray := prog_1_method_30_code
def yX5_near : MethodName := ⟨RX5, "near", "(I)I"⟩
abbrev cX5_told : ByteArray := prog_1_method_31_code
def yX5_told : MethodName := ⟨RX5, "told", "(I)I"⟩
abbrev cX5_isPipe : ByteArray := prog_1_method_32_code
def yX5_isPipe : MethodName := ⟨RX5, "isPipe", "(I)Z"⟩
abbrev cX5_isEnd : ByteArray := prog_1_method_33_code
def yX5_isEnd : MethodName := ⟨RX5, "isEnd", "(I)Z"⟩
abbrev cX5_isHead : ByteArray := prog_1_method_34_code
def yX5_isHead : MethodName := ⟨RX5, "isHead", "(I)Z"⟩
abbrev cX5_isSize : ByteArray := prog_1_method_35_code
def yX5_isSize : MethodName := ⟨RX5, "isSize", "(I)Z"⟩
abbrev cX5_isHeap : ByteArray := prog_1_method_36_code
def yX5_isHeap : MethodName := ⟨RX5, "isHeap", "(I)Z"⟩
abbrev cX5_leastOfHeap : ByteArray := prog_1_method_37_code
def yX5_leastOfHeap : MethodName := ⟨RX5, "leastOfHeap", "(I)J"⟩
abbrev cX5_isMetWithLess : ByteArray := prog_1_method_38_code
def yX5_isMetWithLess : MethodName := ⟨RX5, "isMetWithLess", "(II)Z"⟩
abbrev cX5_leastTooMuch : ByteArray := prog_1_method_39_code
def yX5_leastTooMuch : MethodName := ⟨RX5, "leastTooMuch", "(I)I"⟩
abbrev cX5_isSide : ByteArray := prog_1_method_40_code
def yX5_isSide : MethodName := ⟨RX5, "isSide", "(I)Z"⟩
abbrev cX5_isWithin : ByteArray := prog_1_method_41_code
def yX5_isWithin : MethodName := ⟨RX5, "isWithin", "(III)Z"⟩
abbrev cX5_bit : ByteArray := prog_1_method_42_code
def yX5_bit : MethodName := ⟨RX5, "bit", "(II)I"⟩
abbrev cX5_withBit : ByteArray := prog_1_method_43_code
def yX5_withBit : MethodName := ⟨RX5, "withBit", "(IIZ)I"⟩
def RX6 : String := "SprinklerHouseModel"
def TX6 : u_T := fun k => match k with
  | 0 => ("SprinklerHouseModel", "supply", "I", false)
  | 1 => ("SprinklerHouseModel", "supplyDrag", "I", false)
  | 2 => ("SprinklerHouseModel", "sizeDrag", "[I", true)
  | 3 => ("SprinklerHouseModel", "sizePrice", "[I", true)
  | 4 => ("SprinklerHouseModel", "sizes", "I", false)
  | 5 => ("SprinklerHouseModel", "from", "[I", true)
  | 6 => ("SprinklerHouseModel", "length", "[I", true)
  | 7 => ("SprinklerHouseModel", "sizeOf", "[I", true)
  | 8 => ("SprinklerHouseModel", "deep", "[I", true)
  | 9 => ("SprinklerHouseModel", "isShut", "[Z", true)
  | 10 => ("SprinklerHouseModel", "isFree", "[Z", true)
  | 11 => ("SprinklerHouseModel", "pipes", "I", false)
  | 12 => ("SprinklerHouseModel", "hasHead", "[Z", true)
  | 13 => ("SprinklerHouseModel", "factor", "[I", true)
  | 14 => ("SprinklerHouseModel", "need", "[I", true)
  | 15 => ("SprinklerHouseModel", "isOpen", "[Z", true)
  | 16 => ("SprinklerHouseModel", "clogged", "[I", true)
  | 17 => ("SprinklerHouseModel", "opens", "[Z", true)
  | 18 => ("SprinklerHouseModel", "endLow", "[J", true)
  | 19 => ("SprinklerHouseModel", "endHigh", "[J", true)
  | 20 => ("SprinklerHouseModel", "gLow", "[J", true)
  | 21 => ("SprinklerHouseModel", "gHigh", "[J", true)
  | 22 => ("SprinklerHouseModel", "pLow", "[J", true)
  | 23 => ("SprinklerHouseModel", "pHigh", "[J", true)
  | 24 => ("SprinklerHouseModel", "isPut", "[Z", true)
  | 25 => ("SprinklerHouseModel", "heaps", "I", false)
  | 26 => ("SprinklerHouseModel", "freePipe", "[I", true)
  | 27 => ("SprinklerHouseModel", "held", "[I", true)
  | 28 => ("SprinklerHouseModel", "best", "[I", true)
  | 29 => ("SprinklerHouseModel", "rows", "I", false)
  | 30 => ("SprinklerHouseModel", "columns", "I", false)
  | 31 => ("SprinklerHouseModel", "kinds", "[I", true)
  | 32 => ("SprinklerHouseModel", "stands", "[Z", true)
  | 33 => ("SprinklerHouseModel", "standRow", "[I", true)
  | 34 => ("SprinklerHouseModel", "standColumn", "[I", true)
  | _ => ("SprinklerHouseModel", "reach", "[I", true)
def tyX6 : Nat → FieldType := fun k => match k with
  | 0 => .int
  | 1 => .int
  | 2 => .array .int
  | 3 => .array .int
  | 4 => .int
  | 5 => .array .int
  | 6 => .array .int
  | 7 => .array .int
  | 8 => .array .int
  | 9 => .array .boolean
  | 10 => .array .boolean
  | 11 => .int
  | 12 => .array .boolean
  | 13 => .array .int
  | 14 => .array .int
  | 15 => .array .boolean
  | 16 => .array .int
  | 17 => .array .boolean
  | 18 => .array .long
  | 19 => .array .long
  | 20 => .array .long
  | 21 => .array .long
  | 22 => .array .long
  | 23 => .array .long
  | 24 => .array .boolean
  | 25 => .int
  | 26 => .array .int
  | 27 => .array .int
  | 28 => .array .int
  | 29 => .int
  | 30 => .int
  | 31 => .array .int
  | 32 => .array .boolean
  | 33 => .array .int
  | 34 => .array .int
  | _ => .array .int
abbrev wsX60 : List Cond := u_ws RX6 TX6 36
theorem nmX6 : ∀ a, a < 36 → ∀ b, b < 36 → a ≠ b → (TX6 a).2.1 ≠ (TX6 b).2.1 := by decide +kernel
theorem tyX6_ok : ∀ k, k < 36 → parseFieldDescriptor (TX6 k).2.2.1 = some (tyX6 k) := by decide +kernel
abbrev cX6_init : ByteArray := prog_8_method_1_code
def yX6_init : MethodName := ⟨RX6, "<init>", "()V"⟩
abbrev cX6_in : ByteArray := prog_8_method_3_code
def yX6_in : MethodName := ⟨RX6, "in", "(JJJ)Z"⟩
abbrev cX6_isPipe : ByteArray := prog_8_method_4_code
def yX6_isPipe : MethodName := ⟨RX6, "isPipe", "(I)Z"⟩
abbrev cX6_isHead : ByteArray := prog_8_method_5_code
def yX6_isHead : MethodName := ⟨RX6, "isHead", "(I)Z"⟩
abbrev cX6_supply : ByteArray := prog_8_method_6_code
def yX6_supply : MethodName := ⟨RX6, "supply", "(II)I"⟩
abbrev cX6_size : ByteArray := prog_8_method_7_code
def yX6_size : MethodName := ⟨RX6, "size", "(II)I"⟩
abbrev cX6_pipe : ByteArray := prog_8_method_8_code
def yX6_pipe : MethodName := ⟨RX6, "pipe", "(III)I"⟩
abbrev cX6_head : ByteArray := prog_8_method_9_code
def yX6_head : MethodName := ⟨RX6, "head", "(III)I"⟩
abbrev cX6_open : ByteArray := prog_8_method_10_code
def yX6_open : MethodName := ⟨RX6, "open", "(IZ)I"⟩
abbrev cX6_shut : ByteArray := prog_8_method_11_code
def yX6_shut : MethodName := ⟨RX6, "shut", "(IZ)I"⟩
abbrev cX6_clog : ByteArray := prog_8_method_12_code
def yX6_clog : MethodName := ⟨RX6, "clog", "(II)I"⟩
abbrev cX6_resize : ByteArray := prog_8_method_13_code
def yX6_resize : MethodName := ⟨RX6, "resize", "(II)I"⟩
abbrev cX6_factorNow : ByteArray := prog_8_method_14_code
def yX6_factorNow : MethodName := ⟨RX6, "factorNow", "(I)I"⟩
abbrev cX6_root : ByteArray := prog_8_method_15_code
def yX6_root : MethodName := ⟨RX6, "root", "(J)J"⟩
abbrev cX6_rootUp : ByteArray := prog_8_method_16_code
def yX6_rootUp : MethodName := ⟨RX6, "rootUp", "(J)J"⟩
abbrev cX6_up : ByteArray := prog_8_method_17_code
def yX6_up : MethodName := ⟨RX6, "up", "(JJ)J"⟩
abbrev cX6_drag : ByteArray := prog_8_method_18_code
def yX6_drag : MethodName := ⟨RX6, "drag", "(I)I"⟩
abbrev cX6_openAsTold : ByteArray := prog_8_method_19_code
def yX6_openAsTold : MethodName := ⟨RX6, "openAsTold", "()V"⟩
abbrev cX6_conductOf : ByteArray := prog_8_method_20_code
def yX6_conductOf : MethodName := ⟨RX6, "conductOf", "(I)V"⟩
abbrev cX6_pressureOf : ByteArray := prog_8_method_21_code
def yX6_pressureOf : MethodName := ⟨RX6, "pressureOf", "(IJJ)V"⟩
abbrev cX6_work : ByteArray := prog_8_method_22_code
def yX6_work : MethodName := ⟨RX6, "work", "(I)V"⟩
abbrev cX6_workNow : ByteArray := prog_8_method_23_code
def yX6_workNow : MethodName := ⟨RX6, "workNow", "()V"⟩
abbrev cX6_flowOf : ByteArray := prog_8_method_24_code
def yX6_flowOf : MethodName := ⟨RX6, "flowOf", "(II)J"⟩
abbrev cX6_conduct : ByteArray := prog_8_method_25_code
def yX6_conduct : MethodName := ⟨RX6, "conduct", "(II)J"⟩
abbrev cX6_pressure : ByteArray := prog_8_method_26_code
def yX6_pressure : MethodName := ⟨RX6, "pressure", "(II)J"⟩
abbrev cX6_flow : ByteArray := prog_8_method_27_code
def yX6_flow : MethodName := ⟨RX6, "flow", "(II)J"⟩
abbrev cX6_total : ByteArray := prog_8_method_28_code
def yX6_total : MethodName := ⟨RX6, "total", "(I)J"⟩
abbrev cX6_asInt : ByteArray := prog_8_method_29_code
def yX6_asInt : MethodName := ⟨RX6, "asInt", "(Z)I"⟩
abbrev cX6_about : ByteArray := prog_8_method_30_code
def yX6_about : MethodName := ⟨RX6, "about", "(II)I"⟩
abbrev cX6_spare : ByteArray := prog_8_method_31_code
def yX6_spare : MethodName := ⟨RX6, "spare", "(I)J"⟩
abbrev cX6_worst : ByteArray := prog_8_method_32_code
def yX6_worst : MethodName := ⟨RX6, "worst", "()I"⟩
abbrev cX6_heap : ByteArray := prog_8_method_33_code
def yX6_heap : MethodName := ⟨RX6, "heap", "()I"⟩
abbrev cX6_isHeap : ByteArray := prog_8_method_34_code
def yX6_isHeap : MethodName := ⟨RX6, "isHeap", "(I)Z"⟩
abbrev cX6_put : ByteArray := prog_8_method_35_code
def yX6_put : MethodName := ⟨RX6, "put", "(IIZ)I"⟩
abbrev cX6_leastOf : ByteArray := prog_8_method_36_code
def yX6_leastOf : MethodName := ⟨RX6, "leastOf", "(II)J"⟩
abbrev cX6_least : ByteArray := prog_8_method_37_code
def yX6_least : MethodName := ⟨RX6, "least", "(I)J"⟩
abbrev cX6_thinnest : ByteArray := prog_8_method_38_code
def yX6_thinnest : MethodName := ⟨RX6, "thinnest", "()I"⟩
abbrev cX6_freeMany : ByteArray := prog_8_method_39_code
def yX6_freeMany : MethodName := ⟨RX6, "freeMany", "()I"⟩
abbrev cX6_free : ByteArray := prog_8_method_40_code
def yX6_free : MethodName := ⟨RX6, "free", "(IZ)I"⟩
abbrev cX6_price : ByteArray := prog_8_method_41_code
def yX6_price : MethodName := ⟨RX6, "price", "()J"⟩
abbrev cX6_areMet : ByteArray := prog_8_method_42_code
def yX6_areMet : MethodName := ⟨RX6, "areMet", "()Z"⟩
abbrev cX6_choose : ByteArray := prog_8_method_43_code
def yX6_choose : MethodName := ⟨RX6, "choose", "()J"⟩
abbrev cX6_bill : ByteArray := prog_8_method_44_code
def yX6_bill : MethodName := ⟨RX6, "bill", "()J"⟩
abbrev cX6_margin : ByteArray := prog_8_method_45_code
def yX6_margin : MethodName := ⟨RX6, "margin", "(I)I"⟩
abbrev cX6_isCell : ByteArray := prog_8_method_46_code
def yX6_isCell : MethodName := ⟨RX6, "isCell", "(II)Z"⟩
abbrev cX6_floor : ByteArray := prog_8_method_47_code
def yX6_floor : MethodName := ⟨RX6, "floor", "(II)I"⟩
abbrev cX6_standsAt : ByteArray := prog_8_method_48_code
def yX6_standsAt : MethodName := ⟨RX6, "standsAt", "(II)I"⟩
abbrev cX6_cell : ByteArray := prog_8_method_49_code
def yX6_cell : MethodName := ⟨RX6, "cell", "(III)I"⟩
abbrev cX6_stand : ByteArray := prog_8_method_50_code
def yX6_stand : MethodName := ⟨RX6, "stand", "(IIII)I"⟩
abbrev cX6_lift : ByteArray := prog_8_method_51_code
def yX6_lift : MethodName := ⟨RX6, "lift", "(I)I"⟩
abbrev cX6_square : ByteArray := prog_8_method_52_code
def yX6_square : MethodName := ⟨RX6, "square", "(II)I"⟩
abbrev cX6_side : ByteArray := prog_8_method_53_code
def yX6_side : MethodName := ⟨RX6, "side", "(IIIIII)I"⟩
abbrev cX6_goesThrough : ByteArray := prog_8_method_54_code
def yX6_goesThrough : MethodName := ⟨RX6, "goesThrough", "(IIIIII)Z"⟩
abbrev cX6_wetsCell : ByteArray := prog_8_method_55_code
def yX6_wetsCell : MethodName := ⟨RX6, "wetsCell", "(III)Z"⟩
abbrev cX6_wets : ByteArray := prog_8_method_56_code
def yX6_wets : MethodName := ⟨RX6, "wets", "(III)I"⟩
abbrev cX6_dry : ByteArray := prog_8_method_57_code
def yX6_dry : MethodName := ⟨RX6, "dry", "(I)I"⟩
abbrev cX6_near : ByteArray := prog_8_method_58_code
def yX6_near : MethodName := ⟨RX6, "near", "(I)I"⟩
abbrev cX6_told : ByteArray := prog_8_method_59_code
def yX6_told : MethodName := ⟨RX6, "told", "(I)I"⟩
def RJ6 : String := "java/lang/Integer"
def TJ6 : u_T := fun k => match k with
  | _ => ("", "", "", false)
def tyJ6 : Nat → FieldType := fun k => match k with
  | _ => .int
abbrev wsJ60 : List Cond := u_ws RJ6 TJ6 0
abbrev cJ6_numberOfLeadingZeros_0f7a4 : ByteArray := prog_9_method_47_code
def yJ6_numberOfLeadingZeros_0f7a4 : MethodName := ⟨RJ6, "numberOfLeadingZeros", "(I)I"⟩
abbrev cJ6_bitCount_0f7a4 : ByteArray := prog_9_method_49_code
def yJ6_bitCount_0f7a4 : MethodName := ⟨RJ6, "bitCount", "(I)I"⟩
def RJ13 : String := "java/lang/Long"
def TJ13 : u_T := fun k => match k with
  | _ => ("", "", "", false)
def tyJ13 : Nat → FieldType := fun k => match k with
  | _ => .int
abbrev wsJ130 : List Cond := u_ws RJ13 TJ13 0
abbrev cJ13_numberOfLeadingZeros_95d88 : ByteArray := prog_10_method_48_code
def yJ13_numberOfLeadingZeros_95d88 : MethodName := ⟨RJ13, "numberOfLeadingZeros", "(J)I"⟩
def RJ9 : String := "java/lang/Math"
def TJ9 : u_T := fun k => match k with
  | _ => ("", "", "", false)
def tyJ9 : Nat → FieldType := fun k => match k with
  | _ => .int
abbrev wsJ90 : List Cond := u_ws RJ9 TJ9 0
abbrev cJ9_abs_0f7a4 : ByteArray := prog_11_method_59_code
def yJ9_abs_0f7a4 : MethodName := ⟨RJ9, "abs", "(I)I"⟩
abbrev cJ9_max_7cf53 : ByteArray := prog_11_method_65_code
def yJ9_max_7cf53 : MethodName := ⟨RJ9, "max", "(II)I"⟩
abbrev cJ9_min_7cf53 : ByteArray := prog_11_method_69_code
def yJ9_min_7cf53 : MethodName := ⟨RJ9, "min", "(II)I"⟩
abbrev cJ9_min_f86c9 : ByteArray := prog_11_method_70_code
def yJ9_min_f86c9 : MethodName := ⟨RJ9, "min", "(JJ)J"⟩
def RJ10 : String := "java/lang/System"
def TJ10 : u_T := fun k => match k with
  | _ => ("", "", "", false)
def tyJ10 : Nat → FieldType := fun k => match k with
  | _ => .int
abbrev wsJ100 : List Cond := u_ws RJ10 TJ10 0
def RJ7 : String := "java/util/Arrays"
def TJ7 : u_T := fun k => match k with
  | _ => ("", "", "", false)
def tyJ7 : Nat → FieldType := fun k => match k with
  | _ => .int
abbrev wsJ70 : List Cond := u_ws RJ7 TJ7 0
abbrev cJ7_fill_d0a16 : ByteArray := prog_13_method_101_code
def yJ7_fill_d0a16 : MethodName := ⟨RJ7, "fill", "([JJ)V"⟩
abbrev cJ7_fill_53178 : ByteArray := prog_13_method_103_code
def yJ7_fill_53178 : MethodName := ⟨RJ7, "fill", "([II)V"⟩
def RL : String := "SprinklerHouseLaw"
abbrev cL_law : ByteArray := code
def yL_law : MethodName := ⟨RL, "law", "([I)Z"⟩
end
section
theorem dJ13_numberOfLeadingZeros_95d88_0 : decode cJ13_numberOfLeadingZeros_95d88 0 = .ok (.lload_n 0, 1) := by decide +kernel
theorem dJ13_numberOfLeadingZeros_95d88_1 : decode cJ13_numberOfLeadingZeros_95d88 1 = .ok (.bipush 32, 2) := by decide +kernel
theorem dJ13_numberOfLeadingZeros_95d88_3 : decode cJ13_numberOfLeadingZeros_95d88 3 = .ok (.lushr, 1) := by decide +kernel
theorem dJ13_numberOfLeadingZeros_95d88_4 : decode cJ13_numberOfLeadingZeros_95d88 4 = .ok (.l2i, 1) := by decide +kernel
theorem dJ13_numberOfLeadingZeros_95d88_5 : decode cJ13_numberOfLeadingZeros_95d88 5 = .ok (.istore_n 2, 1) := by decide +kernel
theorem dJ13_numberOfLeadingZeros_95d88_6 : decode cJ13_numberOfLeadingZeros_95d88 6 = .ok (.iload_n 2, 1) := by decide +kernel
theorem dJ13_numberOfLeadingZeros_95d88_7 : decode cJ13_numberOfLeadingZeros_95d88 7 = .ok (.ifCond .ne 14, 3) := by decide +kernel
theorem dJ13_numberOfLeadingZeros_95d88_10 : decode cJ13_numberOfLeadingZeros_95d88 10 = .ok (.bipush 32, 2) := by decide +kernel
theorem dJ13_numberOfLeadingZeros_95d88_12 : decode cJ13_numberOfLeadingZeros_95d88 12 = .ok (.lload_n 0, 1) := by decide +kernel
theorem dJ13_numberOfLeadingZeros_95d88_13 : decode cJ13_numberOfLeadingZeros_95d88 13 = .ok (.l2i, 1) := by decide +kernel
theorem dJ13_numberOfLeadingZeros_95d88_14 : decode cJ13_numberOfLeadingZeros_95d88 14 = .ok (.invokestatic 308, 3) := by decide +kernel
theorem dJ13_numberOfLeadingZeros_95d88_17 : decode cJ13_numberOfLeadingZeros_95d88 17 = .ok (.iadd, 1) := by decide +kernel
theorem dJ13_numberOfLeadingZeros_95d88_18 : decode cJ13_numberOfLeadingZeros_95d88 18 = .ok (.goto 7, 3) := by decide +kernel
theorem dJ13_numberOfLeadingZeros_95d88_21 : decode cJ13_numberOfLeadingZeros_95d88 21 = .ok (.iload_n 2, 1) := by decide +kernel
theorem dJ13_numberOfLeadingZeros_95d88_22 : decode cJ13_numberOfLeadingZeros_95d88 22 = .ok (.invokestatic 308, 3) := by decide +kernel
theorem dJ13_numberOfLeadingZeros_95d88_25 : decode cJ13_numberOfLeadingZeros_95d88 25 = .ok (.ireturn, 1) := by decide +kernel
theorem dJ6_numberOfLeadingZeros_0f7a4_0 : decode cJ6_numberOfLeadingZeros_0f7a4 0 = .ok (.iload_n 0, 1) := by decide +kernel
theorem dJ6_numberOfLeadingZeros_0f7a4_1 : decode cJ6_numberOfLeadingZeros_0f7a4 1 = .ok (.ifCond .gt 14, 3) := by decide +kernel
theorem dJ6_numberOfLeadingZeros_0f7a4_4 : decode cJ6_numberOfLeadingZeros_0f7a4 4 = .ok (.iload_n 0, 1) := by decide +kernel
theorem dJ6_numberOfLeadingZeros_0f7a4_5 : decode cJ6_numberOfLeadingZeros_0f7a4 5 = .ok (.ifCond .ne 8, 3) := by decide +kernel
theorem dJ6_numberOfLeadingZeros_0f7a4_8 : decode cJ6_numberOfLeadingZeros_0f7a4 8 = .ok (.bipush 32, 2) := by decide +kernel
theorem dJ6_numberOfLeadingZeros_0f7a4_10 : decode cJ6_numberOfLeadingZeros_0f7a4 10 = .ok (.goto 4, 3) := by decide +kernel
theorem dJ6_numberOfLeadingZeros_0f7a4_13 : decode cJ6_numberOfLeadingZeros_0f7a4 13 = .ok (.iconst 0, 1) := by decide +kernel
theorem dJ6_numberOfLeadingZeros_0f7a4_14 : decode cJ6_numberOfLeadingZeros_0f7a4 14 = .ok (.ireturn, 1) := by decide +kernel
theorem dJ6_numberOfLeadingZeros_0f7a4_15 : decode cJ6_numberOfLeadingZeros_0f7a4 15 = .ok (.bipush 31, 2) := by decide +kernel
theorem dJ6_numberOfLeadingZeros_0f7a4_17 : decode cJ6_numberOfLeadingZeros_0f7a4 17 = .ok (.istore_n 1, 1) := by decide +kernel
theorem dJ6_numberOfLeadingZeros_0f7a4_18 : decode cJ6_numberOfLeadingZeros_0f7a4 18 = .ok (.iload_n 0, 1) := by decide +kernel
theorem dJ6_numberOfLeadingZeros_0f7a4_19 : decode cJ6_numberOfLeadingZeros_0f7a4 19 = .ok (.ldc_w 264, 3) := by decide +kernel
theorem dJ6_numberOfLeadingZeros_0f7a4_22 : decode cJ6_numberOfLeadingZeros_0f7a4 22 = .ok (.if_icmp .lt 11, 3) := by decide +kernel
theorem dJ6_numberOfLeadingZeros_0f7a4_25 : decode cJ6_numberOfLeadingZeros_0f7a4 25 = .ok (.iinc 1 (-16), 3) := by decide +kernel
theorem dJ6_numberOfLeadingZeros_0f7a4_28 : decode cJ6_numberOfLeadingZeros_0f7a4 28 = .ok (.iload_n 0, 1) := by decide +kernel
theorem dJ6_numberOfLeadingZeros_0f7a4_29 : decode cJ6_numberOfLeadingZeros_0f7a4 29 = .ok (.bipush 16, 2) := by decide +kernel
theorem dJ6_numberOfLeadingZeros_0f7a4_31 : decode cJ6_numberOfLeadingZeros_0f7a4 31 = .ok (.iushr, 1) := by decide +kernel
theorem dJ6_numberOfLeadingZeros_0f7a4_32 : decode cJ6_numberOfLeadingZeros_0f7a4 32 = .ok (.istore_n 0, 1) := by decide +kernel
theorem dJ6_numberOfLeadingZeros_0f7a4_33 : decode cJ6_numberOfLeadingZeros_0f7a4 33 = .ok (.iload_n 0, 1) := by decide +kernel
theorem dJ6_numberOfLeadingZeros_0f7a4_34 : decode cJ6_numberOfLeadingZeros_0f7a4 34 = .ok (.sipush 256, 3) := by decide +kernel
theorem dJ6_numberOfLeadingZeros_0f7a4_37 : decode cJ6_numberOfLeadingZeros_0f7a4 37 = .ok (.if_icmp .lt 11, 3) := by decide +kernel
theorem dJ6_numberOfLeadingZeros_0f7a4_40 : decode cJ6_numberOfLeadingZeros_0f7a4 40 = .ok (.iinc 1 (-8), 3) := by decide +kernel
theorem dJ6_numberOfLeadingZeros_0f7a4_43 : decode cJ6_numberOfLeadingZeros_0f7a4 43 = .ok (.iload_n 0, 1) := by decide +kernel
theorem dJ6_numberOfLeadingZeros_0f7a4_44 : decode cJ6_numberOfLeadingZeros_0f7a4 44 = .ok (.bipush 8, 2) := by decide +kernel
theorem dJ6_numberOfLeadingZeros_0f7a4_46 : decode cJ6_numberOfLeadingZeros_0f7a4 46 = .ok (.iushr, 1) := by decide +kernel
theorem dJ6_numberOfLeadingZeros_0f7a4_47 : decode cJ6_numberOfLeadingZeros_0f7a4 47 = .ok (.istore_n 0, 1) := by decide +kernel
theorem dJ6_numberOfLeadingZeros_0f7a4_48 : decode cJ6_numberOfLeadingZeros_0f7a4 48 = .ok (.iload_n 0, 1) := by decide +kernel
theorem dJ6_numberOfLeadingZeros_0f7a4_49 : decode cJ6_numberOfLeadingZeros_0f7a4 49 = .ok (.bipush 16, 2) := by decide +kernel
theorem dJ6_numberOfLeadingZeros_0f7a4_51 : decode cJ6_numberOfLeadingZeros_0f7a4 51 = .ok (.if_icmp .lt 10, 3) := by decide +kernel
theorem dJ6_numberOfLeadingZeros_0f7a4_54 : decode cJ6_numberOfLeadingZeros_0f7a4 54 = .ok (.iinc 1 (-4), 3) := by decide +kernel
theorem dJ6_numberOfLeadingZeros_0f7a4_57 : decode cJ6_numberOfLeadingZeros_0f7a4 57 = .ok (.iload_n 0, 1) := by decide +kernel
theorem dJ6_numberOfLeadingZeros_0f7a4_58 : decode cJ6_numberOfLeadingZeros_0f7a4 58 = .ok (.iconst 4, 1) := by decide +kernel
theorem dJ6_numberOfLeadingZeros_0f7a4_59 : decode cJ6_numberOfLeadingZeros_0f7a4 59 = .ok (.iushr, 1) := by decide +kernel
theorem dJ6_numberOfLeadingZeros_0f7a4_60 : decode cJ6_numberOfLeadingZeros_0f7a4 60 = .ok (.istore_n 0, 1) := by decide +kernel
theorem dJ6_numberOfLeadingZeros_0f7a4_61 : decode cJ6_numberOfLeadingZeros_0f7a4 61 = .ok (.iload_n 0, 1) := by decide +kernel
theorem dJ6_numberOfLeadingZeros_0f7a4_62 : decode cJ6_numberOfLeadingZeros_0f7a4 62 = .ok (.iconst 4, 1) := by decide +kernel
theorem dJ6_numberOfLeadingZeros_0f7a4_63 : decode cJ6_numberOfLeadingZeros_0f7a4 63 = .ok (.if_icmp .lt 10, 3) := by decide +kernel
theorem dJ6_numberOfLeadingZeros_0f7a4_66 : decode cJ6_numberOfLeadingZeros_0f7a4 66 = .ok (.iinc 1 (-2), 3) := by decide +kernel
theorem dJ6_numberOfLeadingZeros_0f7a4_69 : decode cJ6_numberOfLeadingZeros_0f7a4 69 = .ok (.iload_n 0, 1) := by decide +kernel
theorem dJ6_numberOfLeadingZeros_0f7a4_70 : decode cJ6_numberOfLeadingZeros_0f7a4 70 = .ok (.iconst 2, 1) := by decide +kernel
theorem dJ6_numberOfLeadingZeros_0f7a4_71 : decode cJ6_numberOfLeadingZeros_0f7a4 71 = .ok (.iushr, 1) := by decide +kernel
theorem dJ6_numberOfLeadingZeros_0f7a4_72 : decode cJ6_numberOfLeadingZeros_0f7a4 72 = .ok (.istore_n 0, 1) := by decide +kernel
theorem dJ6_numberOfLeadingZeros_0f7a4_73 : decode cJ6_numberOfLeadingZeros_0f7a4 73 = .ok (.iload_n 1, 1) := by decide +kernel
theorem dJ6_numberOfLeadingZeros_0f7a4_74 : decode cJ6_numberOfLeadingZeros_0f7a4 74 = .ok (.iload_n 0, 1) := by decide +kernel
theorem dJ6_numberOfLeadingZeros_0f7a4_75 : decode cJ6_numberOfLeadingZeros_0f7a4 75 = .ok (.iconst 1, 1) := by decide +kernel
theorem dJ6_numberOfLeadingZeros_0f7a4_76 : decode cJ6_numberOfLeadingZeros_0f7a4 76 = .ok (.iushr, 1) := by decide +kernel
theorem dJ6_numberOfLeadingZeros_0f7a4_77 : decode cJ6_numberOfLeadingZeros_0f7a4 77 = .ok (.isub, 1) := by decide +kernel
theorem dJ6_numberOfLeadingZeros_0f7a4_78 : decode cJ6_numberOfLeadingZeros_0f7a4 78 = .ok (.ireturn, 1) := by decide +kernel
theorem dJ6_bitCount_0f7a4_0 : decode cJ6_bitCount_0f7a4 0 = .ok (.iload_n 0, 1) := by decide +kernel
theorem dJ6_bitCount_0f7a4_1 : decode cJ6_bitCount_0f7a4 1 = .ok (.iload_n 0, 1) := by decide +kernel
theorem dJ6_bitCount_0f7a4_2 : decode cJ6_bitCount_0f7a4 2 = .ok (.iconst 1, 1) := by decide +kernel
theorem dJ6_bitCount_0f7a4_3 : decode cJ6_bitCount_0f7a4 3 = .ok (.iushr, 1) := by decide +kernel
theorem dJ6_bitCount_0f7a4_4 : decode cJ6_bitCount_0f7a4 4 = .ok (.ldc_w 265, 3) := by decide +kernel
theorem dJ6_bitCount_0f7a4_7 : decode cJ6_bitCount_0f7a4 7 = .ok (.iand, 1) := by decide +kernel
theorem dJ6_bitCount_0f7a4_8 : decode cJ6_bitCount_0f7a4 8 = .ok (.isub, 1) := by decide +kernel
theorem dJ6_bitCount_0f7a4_9 : decode cJ6_bitCount_0f7a4 9 = .ok (.istore_n 0, 1) := by decide +kernel
theorem dJ6_bitCount_0f7a4_10 : decode cJ6_bitCount_0f7a4 10 = .ok (.iload_n 0, 1) := by decide +kernel
theorem dJ6_bitCount_0f7a4_11 : decode cJ6_bitCount_0f7a4 11 = .ok (.ldc_w 266, 3) := by decide +kernel
theorem dJ6_bitCount_0f7a4_14 : decode cJ6_bitCount_0f7a4 14 = .ok (.iand, 1) := by decide +kernel
theorem dJ6_bitCount_0f7a4_15 : decode cJ6_bitCount_0f7a4 15 = .ok (.iload_n 0, 1) := by decide +kernel
theorem dJ6_bitCount_0f7a4_16 : decode cJ6_bitCount_0f7a4 16 = .ok (.iconst 2, 1) := by decide +kernel
theorem dJ6_bitCount_0f7a4_17 : decode cJ6_bitCount_0f7a4 17 = .ok (.iushr, 1) := by decide +kernel
theorem dJ6_bitCount_0f7a4_18 : decode cJ6_bitCount_0f7a4 18 = .ok (.ldc_w 266, 3) := by decide +kernel
theorem dJ6_bitCount_0f7a4_21 : decode cJ6_bitCount_0f7a4 21 = .ok (.iand, 1) := by decide +kernel
theorem dJ6_bitCount_0f7a4_22 : decode cJ6_bitCount_0f7a4 22 = .ok (.iadd, 1) := by decide +kernel
theorem dJ6_bitCount_0f7a4_23 : decode cJ6_bitCount_0f7a4 23 = .ok (.istore_n 0, 1) := by decide +kernel
theorem dJ6_bitCount_0f7a4_24 : decode cJ6_bitCount_0f7a4 24 = .ok (.iload_n 0, 1) := by decide +kernel
theorem dJ6_bitCount_0f7a4_25 : decode cJ6_bitCount_0f7a4 25 = .ok (.iload_n 0, 1) := by decide +kernel
theorem dJ6_bitCount_0f7a4_26 : decode cJ6_bitCount_0f7a4 26 = .ok (.iconst 4, 1) := by decide +kernel
theorem dJ6_bitCount_0f7a4_27 : decode cJ6_bitCount_0f7a4 27 = .ok (.iushr, 1) := by decide +kernel
theorem dJ6_bitCount_0f7a4_28 : decode cJ6_bitCount_0f7a4 28 = .ok (.iadd, 1) := by decide +kernel
theorem dJ6_bitCount_0f7a4_29 : decode cJ6_bitCount_0f7a4 29 = .ok (.ldc_w 267, 3) := by decide +kernel
theorem dJ6_bitCount_0f7a4_32 : decode cJ6_bitCount_0f7a4 32 = .ok (.iand, 1) := by decide +kernel
theorem dJ6_bitCount_0f7a4_33 : decode cJ6_bitCount_0f7a4 33 = .ok (.istore_n 0, 1) := by decide +kernel
theorem dJ6_bitCount_0f7a4_34 : decode cJ6_bitCount_0f7a4 34 = .ok (.iload_n 0, 1) := by decide +kernel
theorem dJ6_bitCount_0f7a4_35 : decode cJ6_bitCount_0f7a4 35 = .ok (.iload_n 0, 1) := by decide +kernel
theorem dJ6_bitCount_0f7a4_36 : decode cJ6_bitCount_0f7a4 36 = .ok (.bipush 8, 2) := by decide +kernel
theorem dJ6_bitCount_0f7a4_38 : decode cJ6_bitCount_0f7a4 38 = .ok (.iushr, 1) := by decide +kernel
theorem dJ6_bitCount_0f7a4_39 : decode cJ6_bitCount_0f7a4 39 = .ok (.iadd, 1) := by decide +kernel
theorem dJ6_bitCount_0f7a4_40 : decode cJ6_bitCount_0f7a4 40 = .ok (.istore_n 0, 1) := by decide +kernel
theorem dJ6_bitCount_0f7a4_41 : decode cJ6_bitCount_0f7a4 41 = .ok (.iload_n 0, 1) := by decide +kernel
theorem dJ6_bitCount_0f7a4_42 : decode cJ6_bitCount_0f7a4 42 = .ok (.iload_n 0, 1) := by decide +kernel
theorem dJ6_bitCount_0f7a4_43 : decode cJ6_bitCount_0f7a4 43 = .ok (.bipush 16, 2) := by decide +kernel
theorem dJ6_bitCount_0f7a4_45 : decode cJ6_bitCount_0f7a4 45 = .ok (.iushr, 1) := by decide +kernel
theorem dJ6_bitCount_0f7a4_46 : decode cJ6_bitCount_0f7a4 46 = .ok (.iadd, 1) := by decide +kernel
theorem dJ6_bitCount_0f7a4_47 : decode cJ6_bitCount_0f7a4 47 = .ok (.istore_n 0, 1) := by decide +kernel
theorem dJ6_bitCount_0f7a4_48 : decode cJ6_bitCount_0f7a4 48 = .ok (.iload_n 0, 1) := by decide +kernel
theorem dJ6_bitCount_0f7a4_49 : decode cJ6_bitCount_0f7a4 49 = .ok (.bipush 63, 2) := by decide +kernel
theorem dJ6_bitCount_0f7a4_51 : decode cJ6_bitCount_0f7a4 51 = .ok (.iand, 1) := by decide +kernel
theorem dJ6_bitCount_0f7a4_52 : decode cJ6_bitCount_0f7a4 52 = .ok (.ireturn, 1) := by decide +kernel
theorem dJ7_fill_d0a16_0 : decode cJ7_fill_d0a16 0 = .ok (.iconst 0, 1) := by decide +kernel
theorem dJ7_fill_d0a16_1 : decode cJ7_fill_d0a16 1 = .ok (.istore_n 3, 1) := by decide +kernel
theorem dJ7_fill_d0a16_2 : decode cJ7_fill_d0a16 2 = .ok (.aload_n 0, 1) := by decide +kernel
theorem dJ7_fill_d0a16_3 : decode cJ7_fill_d0a16 3 = .ok (.arraylength, 1) := by decide +kernel
theorem dJ7_fill_d0a16_4 : decode cJ7_fill_d0a16 4 = .ok (.istore 4, 2) := by decide +kernel
theorem dJ7_fill_d0a16_6 : decode cJ7_fill_d0a16 6 = .ok (.iload_n 3, 1) := by decide +kernel
theorem dJ7_fill_d0a16_7 : decode cJ7_fill_d0a16 7 = .ok (.iload 4, 2) := by decide +kernel
theorem dJ7_fill_d0a16_9 : decode cJ7_fill_d0a16 9 = .ok (.if_icmp .ge 13, 3) := by decide +kernel
theorem dJ7_fill_d0a16_12 : decode cJ7_fill_d0a16 12 = .ok (.aload_n 0, 1) := by decide +kernel
theorem dJ7_fill_d0a16_13 : decode cJ7_fill_d0a16 13 = .ok (.iload_n 3, 1) := by decide +kernel
theorem dJ7_fill_d0a16_14 : decode cJ7_fill_d0a16 14 = .ok (.lload_n 1, 1) := by decide +kernel
theorem dJ7_fill_d0a16_15 : decode cJ7_fill_d0a16 15 = .ok (.lastore, 1) := by decide +kernel
theorem dJ7_fill_d0a16_16 : decode cJ7_fill_d0a16 16 = .ok (.iinc 3 1, 3) := by decide +kernel
theorem dJ7_fill_d0a16_19 : decode cJ7_fill_d0a16 19 = .ok (.goto (-13), 3) := by decide +kernel
theorem dJ7_fill_d0a16_22 : decode cJ7_fill_d0a16 22 = .ok (.return_, 1) := by decide +kernel
theorem dJ7_fill_53178_0 : decode cJ7_fill_53178 0 = .ok (.iconst 0, 1) := by decide +kernel
theorem dJ7_fill_53178_1 : decode cJ7_fill_53178 1 = .ok (.istore_n 2, 1) := by decide +kernel
theorem dJ7_fill_53178_2 : decode cJ7_fill_53178 2 = .ok (.aload_n 0, 1) := by decide +kernel
theorem dJ7_fill_53178_3 : decode cJ7_fill_53178 3 = .ok (.arraylength, 1) := by decide +kernel
theorem dJ7_fill_53178_4 : decode cJ7_fill_53178 4 = .ok (.istore_n 3, 1) := by decide +kernel
theorem dJ7_fill_53178_5 : decode cJ7_fill_53178 5 = .ok (.iload_n 2, 1) := by decide +kernel
theorem dJ7_fill_53178_6 : decode cJ7_fill_53178 6 = .ok (.iload_n 3, 1) := by decide +kernel
theorem dJ7_fill_53178_7 : decode cJ7_fill_53178 7 = .ok (.if_icmp .ge 13, 3) := by decide +kernel
theorem dJ7_fill_53178_10 : decode cJ7_fill_53178 10 = .ok (.aload_n 0, 1) := by decide +kernel
theorem dJ7_fill_53178_11 : decode cJ7_fill_53178 11 = .ok (.iload_n 2, 1) := by decide +kernel
theorem dJ7_fill_53178_12 : decode cJ7_fill_53178 12 = .ok (.iload_n 1, 1) := by decide +kernel
theorem dJ7_fill_53178_13 : decode cJ7_fill_53178 13 = .ok (.iastore, 1) := by decide +kernel
theorem dJ7_fill_53178_14 : decode cJ7_fill_53178 14 = .ok (.iinc 2 1, 3) := by decide +kernel
theorem dJ7_fill_53178_17 : decode cJ7_fill_53178 17 = .ok (.goto (-12), 3) := by decide +kernel
theorem dJ7_fill_53178_20 : decode cJ7_fill_53178 20 = .ok (.return_, 1) := by decide +kernel
theorem dJ9_abs_0f7a4_0 : decode cJ9_abs_0f7a4 0 = .ok (.iload_n 0, 1) := by decide +kernel
theorem dJ9_abs_0f7a4_1 : decode cJ9_abs_0f7a4 1 = .ok (.ifCond .ge 8, 3) := by decide +kernel
theorem dJ9_abs_0f7a4_4 : decode cJ9_abs_0f7a4 4 = .ok (.iload_n 0, 1) := by decide +kernel
theorem dJ9_abs_0f7a4_5 : decode cJ9_abs_0f7a4 5 = .ok (.ineg, 1) := by decide +kernel
theorem dJ9_abs_0f7a4_6 : decode cJ9_abs_0f7a4 6 = .ok (.goto 4, 3) := by decide +kernel
theorem dJ9_abs_0f7a4_9 : decode cJ9_abs_0f7a4 9 = .ok (.iload_n 0, 1) := by decide +kernel
theorem dJ9_abs_0f7a4_10 : decode cJ9_abs_0f7a4 10 = .ok (.ireturn, 1) := by decide +kernel
theorem dJ9_max_7cf53_0 : decode cJ9_max_7cf53 0 = .ok (.iload_n 0, 1) := by decide +kernel
theorem dJ9_max_7cf53_1 : decode cJ9_max_7cf53 1 = .ok (.iload_n 1, 1) := by decide +kernel
theorem dJ9_max_7cf53_2 : decode cJ9_max_7cf53 2 = .ok (.if_icmp .lt 7, 3) := by decide +kernel
theorem dJ9_max_7cf53_5 : decode cJ9_max_7cf53 5 = .ok (.iload_n 0, 1) := by decide +kernel
theorem dJ9_max_7cf53_6 : decode cJ9_max_7cf53 6 = .ok (.goto 4, 3) := by decide +kernel
theorem dJ9_max_7cf53_9 : decode cJ9_max_7cf53 9 = .ok (.iload_n 1, 1) := by decide +kernel
theorem dJ9_max_7cf53_10 : decode cJ9_max_7cf53 10 = .ok (.ireturn, 1) := by decide +kernel
theorem dJ9_min_7cf53_0 : decode cJ9_min_7cf53 0 = .ok (.iload_n 0, 1) := by decide +kernel
theorem dJ9_min_7cf53_1 : decode cJ9_min_7cf53 1 = .ok (.iload_n 1, 1) := by decide +kernel
theorem dJ9_min_7cf53_2 : decode cJ9_min_7cf53 2 = .ok (.if_icmp .gt 7, 3) := by decide +kernel
theorem dJ9_min_7cf53_5 : decode cJ9_min_7cf53 5 = .ok (.iload_n 0, 1) := by decide +kernel
theorem dJ9_min_7cf53_6 : decode cJ9_min_7cf53 6 = .ok (.goto 4, 3) := by decide +kernel
theorem dJ9_min_7cf53_9 : decode cJ9_min_7cf53 9 = .ok (.iload_n 1, 1) := by decide +kernel
theorem dJ9_min_7cf53_10 : decode cJ9_min_7cf53 10 = .ok (.ireturn, 1) := by decide +kernel
theorem dJ9_min_f86c9_0 : decode cJ9_min_f86c9 0 = .ok (.lload_n 0, 1) := by decide +kernel
theorem dJ9_min_f86c9_1 : decode cJ9_min_f86c9 1 = .ok (.lload_n 2, 1) := by decide +kernel
theorem dJ9_min_f86c9_2 : decode cJ9_min_f86c9 2 = .ok (.lcmp, 1) := by decide +kernel
theorem dJ9_min_f86c9_3 : decode cJ9_min_f86c9 3 = .ok (.ifCond .gt 7, 3) := by decide +kernel
theorem dJ9_min_f86c9_6 : decode cJ9_min_f86c9 6 = .ok (.lload_n 0, 1) := by decide +kernel
theorem dJ9_min_f86c9_7 : decode cJ9_min_f86c9 7 = .ok (.goto 4, 3) := by decide +kernel
theorem dJ9_min_f86c9_10 : decode cJ9_min_f86c9 10 = .ok (.lload_n 2, 1) := by decide +kernel
theorem dJ9_min_f86c9_11 : decode cJ9_min_f86c9 11 = .ok (.lreturn, 1) := by decide +kernel
theorem dL_law_0 : decode cL_law 0 = .ok (.new 7, 3) := by decide +kernel
theorem dL_law_3 : decode cL_law 3 = .ok (.dup, 1) := by decide +kernel
theorem dL_law_4 : decode cL_law 4 = .ok (.invokespecial 9, 3) := by decide +kernel
theorem dL_law_7 : decode cL_law 7 = .ok (.astore_n 1, 1) := by decide +kernel
theorem dL_law_8 : decode cL_law 8 = .ok (.new 10, 3) := by decide +kernel
theorem dL_law_11 : decode cL_law 11 = .ok (.dup, 1) := by decide +kernel
theorem dL_law_12 : decode cL_law 12 = .ok (.invokespecial 12, 3) := by decide +kernel
theorem dL_law_15 : decode cL_law 15 = .ok (.astore_n 2, 1) := by decide +kernel
theorem dL_law_16 : decode cL_law 16 = .ok (.iconst 0, 1) := by decide +kernel
theorem dL_law_17 : decode cL_law 17 = .ok (.istore_n 3, 1) := by decide +kernel
theorem dL_law_18 : decode cL_law 18 = .ok (.iload_n 3, 1) := by decide +kernel
theorem dL_law_19 : decode cL_law 19 = .ok (.aload_n 0, 1) := by decide +kernel
theorem dL_law_20 : decode cL_law 20 = .ok (.arraylength, 1) := by decide +kernel
theorem dL_law_21 : decode cL_law 21 = .ok (.iconst 5, 1) := by decide +kernel
theorem dL_law_22 : decode cL_law 22 = .ok (.isub, 1) := by decide +kernel
theorem dL_law_23 : decode cL_law 23 = .ok (.if_icmp .gt 1112, 3) := by decide +kernel
theorem dL_law_26 : decode cL_law 26 = .ok (.aload_n 0, 1) := by decide +kernel
theorem dL_law_27 : decode cL_law 27 = .ok (.iload_n 3, 1) := by decide +kernel
theorem dL_law_28 : decode cL_law 28 = .ok (.iaload, 1) := by decide +kernel
theorem dL_law_29 : decode cL_law 29 = .ok (.bipush 31, 2) := by decide +kernel
theorem dL_law_31 : decode cL_law 31 = .ok (.iand, 1) := by decide +kernel
theorem dL_law_32 : decode cL_law 32 = .ok (.tableswitch 1097 0 29 #[136, 169, 202, 245, 288, 337, 386, 419, 452, 486, 520, 554, 578, 611, 624, 637, 696, 720, 733, 782, 796, 810, 833, 866, 909, 962, 985, 1028, 1051, 1074], 136) := by decide +kernel
theorem dL_law_168 : decode cL_law 168 = .ok (.aload_n 1, 1) := by decide +kernel
theorem dL_law_169 : decode cL_law 169 = .ok (.aload_n 0, 1) := by decide +kernel
theorem dL_law_170 : decode cL_law 170 = .ok (.iload_n 3, 1) := by decide +kernel
theorem dL_law_171 : decode cL_law 171 = .ok (.iconst 1, 1) := by decide +kernel
theorem dL_law_172 : decode cL_law 172 = .ok (.iadd, 1) := by decide +kernel
theorem dL_law_173 : decode cL_law 173 = .ok (.iaload, 1) := by decide +kernel
theorem dL_law_174 : decode cL_law 174 = .ok (.aload_n 0, 1) := by decide +kernel
theorem dL_law_175 : decode cL_law 175 = .ok (.iload_n 3, 1) := by decide +kernel
theorem dL_law_176 : decode cL_law 176 = .ok (.iconst 2, 1) := by decide +kernel
theorem dL_law_177 : decode cL_law 177 = .ok (.iadd, 1) := by decide +kernel
theorem dL_law_178 : decode cL_law 178 = .ok (.iaload, 1) := by decide +kernel
theorem dL_law_179 : decode cL_law 179 = .ok (.invokevirtual 13, 3) := by decide +kernel
theorem dL_law_182 : decode cL_law 182 = .ok (.aload_n 2, 1) := by decide +kernel
theorem dL_law_183 : decode cL_law 183 = .ok (.aload_n 0, 1) := by decide +kernel
theorem dL_law_184 : decode cL_law 184 = .ok (.iload_n 3, 1) := by decide +kernel
theorem dL_law_185 : decode cL_law 185 = .ok (.iconst 1, 1) := by decide +kernel
theorem dL_law_186 : decode cL_law 186 = .ok (.iadd, 1) := by decide +kernel
theorem dL_law_187 : decode cL_law 187 = .ok (.iaload, 1) := by decide +kernel
theorem dL_law_188 : decode cL_law 188 = .ok (.aload_n 0, 1) := by decide +kernel
theorem dL_law_189 : decode cL_law 189 = .ok (.iload_n 3, 1) := by decide +kernel
theorem dL_law_190 : decode cL_law 190 = .ok (.iconst 2, 1) := by decide +kernel
theorem dL_law_191 : decode cL_law 191 = .ok (.iadd, 1) := by decide +kernel
theorem dL_law_192 : decode cL_law 192 = .ok (.iaload, 1) := by decide +kernel
theorem dL_law_193 : decode cL_law 193 = .ok (.invokevirtual 17, 3) := by decide +kernel
theorem dL_law_196 : decode cL_law 196 = .ok (.if_icmp .eq 933, 3) := by decide +kernel
theorem dL_law_199 : decode cL_law 199 = .ok (.iconst 0, 1) := by decide +kernel
theorem dL_law_200 : decode cL_law 200 = .ok (.ireturn, 1) := by decide +kernel
theorem dL_law_201 : decode cL_law 201 = .ok (.aload_n 1, 1) := by decide +kernel
theorem dL_law_202 : decode cL_law 202 = .ok (.aload_n 0, 1) := by decide +kernel
theorem dL_law_203 : decode cL_law 203 = .ok (.iload_n 3, 1) := by decide +kernel
theorem dL_law_204 : decode cL_law 204 = .ok (.iconst 1, 1) := by decide +kernel
theorem dL_law_205 : decode cL_law 205 = .ok (.iadd, 1) := by decide +kernel
theorem dL_law_206 : decode cL_law 206 = .ok (.iaload, 1) := by decide +kernel
theorem dL_law_207 : decode cL_law 207 = .ok (.aload_n 0, 1) := by decide +kernel
theorem dL_law_208 : decode cL_law 208 = .ok (.iload_n 3, 1) := by decide +kernel
theorem dL_law_209 : decode cL_law 209 = .ok (.iconst 2, 1) := by decide +kernel
theorem dL_law_210 : decode cL_law 210 = .ok (.iadd, 1) := by decide +kernel
theorem dL_law_211 : decode cL_law 211 = .ok (.iaload, 1) := by decide +kernel
theorem dL_law_212 : decode cL_law 212 = .ok (.invokevirtual 18, 3) := by decide +kernel
theorem dL_law_215 : decode cL_law 215 = .ok (.aload_n 2, 1) := by decide +kernel
theorem dL_law_216 : decode cL_law 216 = .ok (.aload_n 0, 1) := by decide +kernel
theorem dL_law_217 : decode cL_law 217 = .ok (.iload_n 3, 1) := by decide +kernel
theorem dL_law_218 : decode cL_law 218 = .ok (.iconst 1, 1) := by decide +kernel
theorem dL_law_219 : decode cL_law 219 = .ok (.iadd, 1) := by decide +kernel
theorem dL_law_220 : decode cL_law 220 = .ok (.iaload, 1) := by decide +kernel
theorem dL_law_221 : decode cL_law 221 = .ok (.aload_n 0, 1) := by decide +kernel
theorem dL_law_222 : decode cL_law 222 = .ok (.iload_n 3, 1) := by decide +kernel
theorem dL_law_223 : decode cL_law 223 = .ok (.iconst 2, 1) := by decide +kernel
theorem dL_law_224 : decode cL_law 224 = .ok (.iadd, 1) := by decide +kernel
theorem dL_law_225 : decode cL_law 225 = .ok (.iaload, 1) := by decide +kernel
theorem dL_law_226 : decode cL_law 226 = .ok (.invokevirtual 21, 3) := by decide +kernel
theorem dL_law_229 : decode cL_law 229 = .ok (.if_icmp .eq 900, 3) := by decide +kernel
theorem dL_law_232 : decode cL_law 232 = .ok (.iconst 0, 1) := by decide +kernel
theorem dL_law_233 : decode cL_law 233 = .ok (.ireturn, 1) := by decide +kernel
theorem dL_law_234 : decode cL_law 234 = .ok (.aload_n 1, 1) := by decide +kernel
theorem dL_law_235 : decode cL_law 235 = .ok (.aload_n 0, 1) := by decide +kernel
theorem dL_law_236 : decode cL_law 236 = .ok (.iload_n 3, 1) := by decide +kernel
theorem dL_law_237 : decode cL_law 237 = .ok (.iconst 1, 1) := by decide +kernel
theorem dL_law_238 : decode cL_law 238 = .ok (.iadd, 1) := by decide +kernel
theorem dL_law_239 : decode cL_law 239 = .ok (.iaload, 1) := by decide +kernel
theorem dL_law_240 : decode cL_law 240 = .ok (.aload_n 0, 1) := by decide +kernel
theorem dL_law_241 : decode cL_law 241 = .ok (.iload_n 3, 1) := by decide +kernel
theorem dL_law_242 : decode cL_law 242 = .ok (.iconst 2, 1) := by decide +kernel
theorem dL_law_243 : decode cL_law 243 = .ok (.iadd, 1) := by decide +kernel
theorem dL_law_244 : decode cL_law 244 = .ok (.iaload, 1) := by decide +kernel
theorem dL_law_245 : decode cL_law 245 = .ok (.aload_n 0, 1) := by decide +kernel
theorem dL_law_246 : decode cL_law 246 = .ok (.iload_n 3, 1) := by decide +kernel
theorem dL_law_247 : decode cL_law 247 = .ok (.iconst 3, 1) := by decide +kernel
theorem dL_law_248 : decode cL_law 248 = .ok (.iadd, 1) := by decide +kernel
theorem dL_law_249 : decode cL_law 249 = .ok (.iaload, 1) := by decide +kernel
theorem dL_law_250 : decode cL_law 250 = .ok (.invokevirtual 22, 3) := by decide +kernel
theorem dL_law_253 : decode cL_law 253 = .ok (.aload_n 2, 1) := by decide +kernel
theorem dL_law_254 : decode cL_law 254 = .ok (.aload_n 0, 1) := by decide +kernel
theorem dL_law_255 : decode cL_law 255 = .ok (.iload_n 3, 1) := by decide +kernel
theorem dL_law_256 : decode cL_law 256 = .ok (.iconst 1, 1) := by decide +kernel
theorem dL_law_257 : decode cL_law 257 = .ok (.iadd, 1) := by decide +kernel
theorem dL_law_258 : decode cL_law 258 = .ok (.iaload, 1) := by decide +kernel
theorem dL_law_259 : decode cL_law 259 = .ok (.aload_n 0, 1) := by decide +kernel
theorem dL_law_260 : decode cL_law 260 = .ok (.iload_n 3, 1) := by decide +kernel
theorem dL_law_261 : decode cL_law 261 = .ok (.iconst 2, 1) := by decide +kernel
theorem dL_law_262 : decode cL_law 262 = .ok (.iadd, 1) := by decide +kernel
theorem dL_law_263 : decode cL_law 263 = .ok (.iaload, 1) := by decide +kernel
theorem dL_law_264 : decode cL_law 264 = .ok (.aload_n 0, 1) := by decide +kernel
theorem dL_law_265 : decode cL_law 265 = .ok (.iload_n 3, 1) := by decide +kernel
theorem dL_law_266 : decode cL_law 266 = .ok (.iconst 3, 1) := by decide +kernel
theorem dL_law_267 : decode cL_law 267 = .ok (.iadd, 1) := by decide +kernel
theorem dL_law_268 : decode cL_law 268 = .ok (.iaload, 1) := by decide +kernel
theorem dL_law_269 : decode cL_law 269 = .ok (.invokevirtual 26, 3) := by decide +kernel
theorem dL_law_272 : decode cL_law 272 = .ok (.if_icmp .eq 857, 3) := by decide +kernel
theorem dL_law_275 : decode cL_law 275 = .ok (.iconst 0, 1) := by decide +kernel
theorem dL_law_276 : decode cL_law 276 = .ok (.ireturn, 1) := by decide +kernel
theorem dL_law_277 : decode cL_law 277 = .ok (.aload_n 1, 1) := by decide +kernel
theorem dL_law_278 : decode cL_law 278 = .ok (.aload_n 0, 1) := by decide +kernel
theorem dL_law_279 : decode cL_law 279 = .ok (.iload_n 3, 1) := by decide +kernel
theorem dL_law_280 : decode cL_law 280 = .ok (.iconst 1, 1) := by decide +kernel
theorem dL_law_281 : decode cL_law 281 = .ok (.iadd, 1) := by decide +kernel
theorem dL_law_282 : decode cL_law 282 = .ok (.iaload, 1) := by decide +kernel
theorem dL_law_283 : decode cL_law 283 = .ok (.aload_n 0, 1) := by decide +kernel
theorem dL_law_284 : decode cL_law 284 = .ok (.iload_n 3, 1) := by decide +kernel
theorem dL_law_285 : decode cL_law 285 = .ok (.iconst 2, 1) := by decide +kernel
theorem dL_law_286 : decode cL_law 286 = .ok (.iadd, 1) := by decide +kernel
theorem dL_law_287 : decode cL_law 287 = .ok (.iaload, 1) := by decide +kernel
theorem dL_law_288 : decode cL_law 288 = .ok (.aload_n 0, 1) := by decide +kernel
theorem dL_law_289 : decode cL_law 289 = .ok (.iload_n 3, 1) := by decide +kernel
theorem dL_law_290 : decode cL_law 290 = .ok (.iconst 3, 1) := by decide +kernel
theorem dL_law_291 : decode cL_law 291 = .ok (.iadd, 1) := by decide +kernel
theorem dL_law_292 : decode cL_law 292 = .ok (.iaload, 1) := by decide +kernel
theorem dL_law_293 : decode cL_law 293 = .ok (.invokevirtual 27, 3) := by decide +kernel
theorem dL_law_296 : decode cL_law 296 = .ok (.aload_n 2, 1) := by decide +kernel
theorem dL_law_297 : decode cL_law 297 = .ok (.aload_n 0, 1) := by decide +kernel
theorem dL_law_298 : decode cL_law 298 = .ok (.iload_n 3, 1) := by decide +kernel
theorem dL_law_299 : decode cL_law 299 = .ok (.iconst 1, 1) := by decide +kernel
theorem dL_law_300 : decode cL_law 300 = .ok (.iadd, 1) := by decide +kernel
theorem dL_law_301 : decode cL_law 301 = .ok (.iaload, 1) := by decide +kernel
theorem dL_law_302 : decode cL_law 302 = .ok (.aload_n 0, 1) := by decide +kernel
theorem dL_law_303 : decode cL_law 303 = .ok (.iload_n 3, 1) := by decide +kernel
theorem dL_law_304 : decode cL_law 304 = .ok (.iconst 2, 1) := by decide +kernel
theorem dL_law_305 : decode cL_law 305 = .ok (.iadd, 1) := by decide +kernel
theorem dL_law_306 : decode cL_law 306 = .ok (.iaload, 1) := by decide +kernel
theorem dL_law_307 : decode cL_law 307 = .ok (.aload_n 0, 1) := by decide +kernel
theorem dL_law_308 : decode cL_law 308 = .ok (.iload_n 3, 1) := by decide +kernel
theorem dL_law_309 : decode cL_law 309 = .ok (.iconst 3, 1) := by decide +kernel
theorem dL_law_310 : decode cL_law 310 = .ok (.iadd, 1) := by decide +kernel
theorem dL_law_311 : decode cL_law 311 = .ok (.iaload, 1) := by decide +kernel
theorem dL_law_312 : decode cL_law 312 = .ok (.invokevirtual 30, 3) := by decide +kernel
theorem dL_law_315 : decode cL_law 315 = .ok (.if_icmp .eq 814, 3) := by decide +kernel
theorem dL_law_318 : decode cL_law 318 = .ok (.iconst 0, 1) := by decide +kernel
theorem dL_law_319 : decode cL_law 319 = .ok (.ireturn, 1) := by decide +kernel
theorem dL_law_320 : decode cL_law 320 = .ok (.aload_n 1, 1) := by decide +kernel
theorem dL_law_321 : decode cL_law 321 = .ok (.aload_n 0, 1) := by decide +kernel
theorem dL_law_322 : decode cL_law 322 = .ok (.iload_n 3, 1) := by decide +kernel
theorem dL_law_323 : decode cL_law 323 = .ok (.iconst 1, 1) := by decide +kernel
theorem dL_law_324 : decode cL_law 324 = .ok (.iadd, 1) := by decide +kernel
theorem dL_law_325 : decode cL_law 325 = .ok (.iaload, 1) := by decide +kernel
theorem dL_law_326 : decode cL_law 326 = .ok (.aload_n 0, 1) := by decide +kernel
theorem dL_law_327 : decode cL_law 327 = .ok (.iload_n 3, 1) := by decide +kernel
theorem dL_law_328 : decode cL_law 328 = .ok (.iconst 2, 1) := by decide +kernel
theorem dL_law_329 : decode cL_law 329 = .ok (.iadd, 1) := by decide +kernel
theorem dL_law_330 : decode cL_law 330 = .ok (.iaload, 1) := by decide +kernel
theorem dL_law_331 : decode cL_law 331 = .ok (.ifCond .eq 7, 3) := by decide +kernel
theorem dL_law_334 : decode cL_law 334 = .ok (.iconst 1, 1) := by decide +kernel
theorem dL_law_335 : decode cL_law 335 = .ok (.goto 4, 3) := by decide +kernel
theorem dL_law_338 : decode cL_law 338 = .ok (.iconst 0, 1) := by decide +kernel
theorem dL_law_339 : decode cL_law 339 = .ok (.invokevirtual 31, 3) := by decide +kernel
theorem dL_law_342 : decode cL_law 342 = .ok (.aload_n 2, 1) := by decide +kernel
theorem dL_law_343 : decode cL_law 343 = .ok (.aload_n 0, 1) := by decide +kernel
theorem dL_law_344 : decode cL_law 344 = .ok (.iload_n 3, 1) := by decide +kernel
theorem dL_law_345 : decode cL_law 345 = .ok (.iconst 1, 1) := by decide +kernel
theorem dL_law_346 : decode cL_law 346 = .ok (.iadd, 1) := by decide +kernel
theorem dL_law_347 : decode cL_law 347 = .ok (.iaload, 1) := by decide +kernel
theorem dL_law_348 : decode cL_law 348 = .ok (.aload_n 0, 1) := by decide +kernel
theorem dL_law_349 : decode cL_law 349 = .ok (.iload_n 3, 1) := by decide +kernel
theorem dL_law_350 : decode cL_law 350 = .ok (.iconst 2, 1) := by decide +kernel
theorem dL_law_351 : decode cL_law 351 = .ok (.iadd, 1) := by decide +kernel
theorem dL_law_352 : decode cL_law 352 = .ok (.iaload, 1) := by decide +kernel
theorem dL_law_353 : decode cL_law 353 = .ok (.ifCond .eq 7, 3) := by decide +kernel
theorem dL_law_356 : decode cL_law 356 = .ok (.iconst 1, 1) := by decide +kernel
theorem dL_law_357 : decode cL_law 357 = .ok (.goto 4, 3) := by decide +kernel
theorem dL_law_360 : decode cL_law 360 = .ok (.iconst 0, 1) := by decide +kernel
theorem dL_law_361 : decode cL_law 361 = .ok (.invokevirtual 35, 3) := by decide +kernel
theorem dL_law_364 : decode cL_law 364 = .ok (.if_icmp .eq 765, 3) := by decide +kernel
theorem dL_law_367 : decode cL_law 367 = .ok (.iconst 0, 1) := by decide +kernel
theorem dL_law_368 : decode cL_law 368 = .ok (.ireturn, 1) := by decide +kernel
theorem dL_law_369 : decode cL_law 369 = .ok (.aload_n 1, 1) := by decide +kernel
theorem dL_law_370 : decode cL_law 370 = .ok (.aload_n 0, 1) := by decide +kernel
theorem dL_law_371 : decode cL_law 371 = .ok (.iload_n 3, 1) := by decide +kernel
theorem dL_law_372 : decode cL_law 372 = .ok (.iconst 1, 1) := by decide +kernel
theorem dL_law_373 : decode cL_law 373 = .ok (.iadd, 1) := by decide +kernel
theorem dL_law_374 : decode cL_law 374 = .ok (.iaload, 1) := by decide +kernel
theorem dL_law_375 : decode cL_law 375 = .ok (.aload_n 0, 1) := by decide +kernel
theorem dL_law_376 : decode cL_law 376 = .ok (.iload_n 3, 1) := by decide +kernel
theorem dL_law_377 : decode cL_law 377 = .ok (.iconst 2, 1) := by decide +kernel
theorem dL_law_378 : decode cL_law 378 = .ok (.iadd, 1) := by decide +kernel
theorem dL_law_379 : decode cL_law 379 = .ok (.iaload, 1) := by decide +kernel
theorem dL_law_380 : decode cL_law 380 = .ok (.ifCond .eq 7, 3) := by decide +kernel
theorem dL_law_383 : decode cL_law 383 = .ok (.iconst 1, 1) := by decide +kernel
theorem dL_law_384 : decode cL_law 384 = .ok (.goto 4, 3) := by decide +kernel
theorem dL_law_387 : decode cL_law 387 = .ok (.iconst 0, 1) := by decide +kernel
theorem dL_law_388 : decode cL_law 388 = .ok (.invokevirtual 36, 3) := by decide +kernel
theorem dL_law_391 : decode cL_law 391 = .ok (.aload_n 2, 1) := by decide +kernel
theorem dL_law_392 : decode cL_law 392 = .ok (.aload_n 0, 1) := by decide +kernel
theorem dL_law_393 : decode cL_law 393 = .ok (.iload_n 3, 1) := by decide +kernel
theorem dL_law_394 : decode cL_law 394 = .ok (.iconst 1, 1) := by decide +kernel
theorem dL_law_395 : decode cL_law 395 = .ok (.iadd, 1) := by decide +kernel
theorem dL_law_396 : decode cL_law 396 = .ok (.iaload, 1) := by decide +kernel
theorem dL_law_397 : decode cL_law 397 = .ok (.aload_n 0, 1) := by decide +kernel
theorem dL_law_398 : decode cL_law 398 = .ok (.iload_n 3, 1) := by decide +kernel
theorem dL_law_399 : decode cL_law 399 = .ok (.iconst 2, 1) := by decide +kernel
theorem dL_law_400 : decode cL_law 400 = .ok (.iadd, 1) := by decide +kernel
theorem dL_law_401 : decode cL_law 401 = .ok (.iaload, 1) := by decide +kernel
theorem dL_law_402 : decode cL_law 402 = .ok (.ifCond .eq 7, 3) := by decide +kernel
theorem dL_law_405 : decode cL_law 405 = .ok (.iconst 1, 1) := by decide +kernel
theorem dL_law_406 : decode cL_law 406 = .ok (.goto 4, 3) := by decide +kernel
theorem dL_law_409 : decode cL_law 409 = .ok (.iconst 0, 1) := by decide +kernel
theorem dL_law_410 : decode cL_law 410 = .ok (.invokevirtual 39, 3) := by decide +kernel
theorem dL_law_413 : decode cL_law 413 = .ok (.if_icmp .eq 716, 3) := by decide +kernel
theorem dL_law_416 : decode cL_law 416 = .ok (.iconst 0, 1) := by decide +kernel
theorem dL_law_417 : decode cL_law 417 = .ok (.ireturn, 1) := by decide +kernel
theorem dL_law_418 : decode cL_law 418 = .ok (.aload_n 1, 1) := by decide +kernel
theorem dL_law_419 : decode cL_law 419 = .ok (.aload_n 0, 1) := by decide +kernel
theorem dL_law_420 : decode cL_law 420 = .ok (.iload_n 3, 1) := by decide +kernel
theorem dL_law_421 : decode cL_law 421 = .ok (.iconst 1, 1) := by decide +kernel
theorem dL_law_422 : decode cL_law 422 = .ok (.iadd, 1) := by decide +kernel
theorem dL_law_423 : decode cL_law 423 = .ok (.iaload, 1) := by decide +kernel
theorem dL_law_424 : decode cL_law 424 = .ok (.aload_n 0, 1) := by decide +kernel
theorem dL_law_425 : decode cL_law 425 = .ok (.iload_n 3, 1) := by decide +kernel
theorem dL_law_426 : decode cL_law 426 = .ok (.iconst 2, 1) := by decide +kernel
theorem dL_law_427 : decode cL_law 427 = .ok (.iadd, 1) := by decide +kernel
theorem dL_law_428 : decode cL_law 428 = .ok (.iaload, 1) := by decide +kernel
theorem dL_law_429 : decode cL_law 429 = .ok (.invokevirtual 40, 3) := by decide +kernel
theorem dL_law_432 : decode cL_law 432 = .ok (.aload_n 2, 1) := by decide +kernel
theorem dL_law_433 : decode cL_law 433 = .ok (.aload_n 0, 1) := by decide +kernel
theorem dL_law_434 : decode cL_law 434 = .ok (.iload_n 3, 1) := by decide +kernel
theorem dL_law_435 : decode cL_law 435 = .ok (.iconst 1, 1) := by decide +kernel
theorem dL_law_436 : decode cL_law 436 = .ok (.iadd, 1) := by decide +kernel
theorem dL_law_437 : decode cL_law 437 = .ok (.iaload, 1) := by decide +kernel
theorem dL_law_438 : decode cL_law 438 = .ok (.aload_n 0, 1) := by decide +kernel
theorem dL_law_439 : decode cL_law 439 = .ok (.iload_n 3, 1) := by decide +kernel
theorem dL_law_440 : decode cL_law 440 = .ok (.iconst 2, 1) := by decide +kernel
theorem dL_law_441 : decode cL_law 441 = .ok (.iadd, 1) := by decide +kernel
theorem dL_law_442 : decode cL_law 442 = .ok (.iaload, 1) := by decide +kernel
theorem dL_law_443 : decode cL_law 443 = .ok (.invokevirtual 43, 3) := by decide +kernel
theorem dL_law_446 : decode cL_law 446 = .ok (.if_icmp .eq 683, 3) := by decide +kernel
theorem dL_law_449 : decode cL_law 449 = .ok (.iconst 0, 1) := by decide +kernel
theorem dL_law_450 : decode cL_law 450 = .ok (.ireturn, 1) := by decide +kernel
theorem dL_law_451 : decode cL_law 451 = .ok (.aload_n 1, 1) := by decide +kernel
theorem dL_law_452 : decode cL_law 452 = .ok (.aload_n 0, 1) := by decide +kernel
theorem dL_law_453 : decode cL_law 453 = .ok (.iload_n 3, 1) := by decide +kernel
theorem dL_law_454 : decode cL_law 454 = .ok (.iconst 1, 1) := by decide +kernel
theorem dL_law_455 : decode cL_law 455 = .ok (.iadd, 1) := by decide +kernel
theorem dL_law_456 : decode cL_law 456 = .ok (.iaload, 1) := by decide +kernel
theorem dL_law_457 : decode cL_law 457 = .ok (.aload_n 0, 1) := by decide +kernel
theorem dL_law_458 : decode cL_law 458 = .ok (.iload_n 3, 1) := by decide +kernel
theorem dL_law_459 : decode cL_law 459 = .ok (.iconst 2, 1) := by decide +kernel
theorem dL_law_460 : decode cL_law 460 = .ok (.iadd, 1) := by decide +kernel
theorem dL_law_461 : decode cL_law 461 = .ok (.iaload, 1) := by decide +kernel
theorem dL_law_462 : decode cL_law 462 = .ok (.invokevirtual 44, 3) := by decide +kernel
theorem dL_law_465 : decode cL_law 465 = .ok (.aload_n 2, 1) := by decide +kernel
theorem dL_law_466 : decode cL_law 466 = .ok (.aload_n 0, 1) := by decide +kernel
theorem dL_law_467 : decode cL_law 467 = .ok (.iload_n 3, 1) := by decide +kernel
theorem dL_law_468 : decode cL_law 468 = .ok (.iconst 1, 1) := by decide +kernel
theorem dL_law_469 : decode cL_law 469 = .ok (.iadd, 1) := by decide +kernel
theorem dL_law_470 : decode cL_law 470 = .ok (.iaload, 1) := by decide +kernel
theorem dL_law_471 : decode cL_law 471 = .ok (.aload_n 0, 1) := by decide +kernel
theorem dL_law_472 : decode cL_law 472 = .ok (.iload_n 3, 1) := by decide +kernel
theorem dL_law_473 : decode cL_law 473 = .ok (.iconst 2, 1) := by decide +kernel
theorem dL_law_474 : decode cL_law 474 = .ok (.iadd, 1) := by decide +kernel
theorem dL_law_475 : decode cL_law 475 = .ok (.iaload, 1) := by decide +kernel
theorem dL_law_476 : decode cL_law 476 = .ok (.invokevirtual 47, 3) := by decide +kernel
theorem dL_law_479 : decode cL_law 479 = .ok (.if_icmp .eq 650, 3) := by decide +kernel
theorem dL_law_482 : decode cL_law 482 = .ok (.iconst 0, 1) := by decide +kernel
theorem dL_law_483 : decode cL_law 483 = .ok (.ireturn, 1) := by decide +kernel
theorem dL_law_484 : decode cL_law 484 = .ok (.aload_n 1, 1) := by decide +kernel
theorem dL_law_485 : decode cL_law 485 = .ok (.aload_n 0, 1) := by decide +kernel
theorem dL_law_486 : decode cL_law 486 = .ok (.iload_n 3, 1) := by decide +kernel
theorem dL_law_487 : decode cL_law 487 = .ok (.iconst 1, 1) := by decide +kernel
theorem dL_law_488 : decode cL_law 488 = .ok (.iadd, 1) := by decide +kernel
theorem dL_law_489 : decode cL_law 489 = .ok (.iaload, 1) := by decide +kernel
theorem dL_law_490 : decode cL_law 490 = .ok (.aload_n 0, 1) := by decide +kernel
theorem dL_law_491 : decode cL_law 491 = .ok (.iload_n 3, 1) := by decide +kernel
theorem dL_law_492 : decode cL_law 492 = .ok (.iconst 2, 1) := by decide +kernel
theorem dL_law_493 : decode cL_law 493 = .ok (.iadd, 1) := by decide +kernel
theorem dL_law_494 : decode cL_law 494 = .ok (.iaload, 1) := by decide +kernel
theorem dL_law_495 : decode cL_law 495 = .ok (.invokevirtual 48, 3) := by decide +kernel
theorem dL_law_498 : decode cL_law 498 = .ok (.aload_n 2, 1) := by decide +kernel
theorem dL_law_499 : decode cL_law 499 = .ok (.aload_n 0, 1) := by decide +kernel
theorem dL_law_500 : decode cL_law 500 = .ok (.iload_n 3, 1) := by decide +kernel
theorem dL_law_501 : decode cL_law 501 = .ok (.iconst 1, 1) := by decide +kernel
theorem dL_law_502 : decode cL_law 502 = .ok (.iadd, 1) := by decide +kernel
theorem dL_law_503 : decode cL_law 503 = .ok (.iaload, 1) := by decide +kernel
theorem dL_law_504 : decode cL_law 504 = .ok (.aload_n 0, 1) := by decide +kernel
theorem dL_law_505 : decode cL_law 505 = .ok (.iload_n 3, 1) := by decide +kernel
theorem dL_law_506 : decode cL_law 506 = .ok (.iconst 2, 1) := by decide +kernel
theorem dL_law_507 : decode cL_law 507 = .ok (.iadd, 1) := by decide +kernel
theorem dL_law_508 : decode cL_law 508 = .ok (.iaload, 1) := by decide +kernel
theorem dL_law_509 : decode cL_law 509 = .ok (.invokevirtual 52, 3) := by decide +kernel
theorem dL_law_512 : decode cL_law 512 = .ok (.lcmp, 1) := by decide +kernel
theorem dL_law_513 : decode cL_law 513 = .ok (.ifCond .eq 616, 3) := by decide +kernel
theorem dL_law_516 : decode cL_law 516 = .ok (.iconst 0, 1) := by decide +kernel
theorem dL_law_517 : decode cL_law 517 = .ok (.ireturn, 1) := by decide +kernel
theorem dL_law_518 : decode cL_law 518 = .ok (.aload_n 1, 1) := by decide +kernel
theorem dL_law_519 : decode cL_law 519 = .ok (.aload_n 0, 1) := by decide +kernel
theorem dL_law_520 : decode cL_law 520 = .ok (.iload_n 3, 1) := by decide +kernel
theorem dL_law_521 : decode cL_law 521 = .ok (.iconst 1, 1) := by decide +kernel
theorem dL_law_522 : decode cL_law 522 = .ok (.iadd, 1) := by decide +kernel
theorem dL_law_523 : decode cL_law 523 = .ok (.iaload, 1) := by decide +kernel
theorem dL_law_524 : decode cL_law 524 = .ok (.aload_n 0, 1) := by decide +kernel
theorem dL_law_525 : decode cL_law 525 = .ok (.iload_n 3, 1) := by decide +kernel
theorem dL_law_526 : decode cL_law 526 = .ok (.iconst 2, 1) := by decide +kernel
theorem dL_law_527 : decode cL_law 527 = .ok (.iadd, 1) := by decide +kernel
theorem dL_law_528 : decode cL_law 528 = .ok (.iaload, 1) := by decide +kernel
theorem dL_law_529 : decode cL_law 529 = .ok (.invokevirtual 53, 3) := by decide +kernel
theorem dL_law_532 : decode cL_law 532 = .ok (.aload_n 2, 1) := by decide +kernel
theorem dL_law_533 : decode cL_law 533 = .ok (.aload_n 0, 1) := by decide +kernel
theorem dL_law_534 : decode cL_law 534 = .ok (.iload_n 3, 1) := by decide +kernel
theorem dL_law_535 : decode cL_law 535 = .ok (.iconst 1, 1) := by decide +kernel
theorem dL_law_536 : decode cL_law 536 = .ok (.iadd, 1) := by decide +kernel
theorem dL_law_537 : decode cL_law 537 = .ok (.iaload, 1) := by decide +kernel
theorem dL_law_538 : decode cL_law 538 = .ok (.aload_n 0, 1) := by decide +kernel
theorem dL_law_539 : decode cL_law 539 = .ok (.iload_n 3, 1) := by decide +kernel
theorem dL_law_540 : decode cL_law 540 = .ok (.iconst 2, 1) := by decide +kernel
theorem dL_law_541 : decode cL_law 541 = .ok (.iadd, 1) := by decide +kernel
theorem dL_law_542 : decode cL_law 542 = .ok (.iaload, 1) := by decide +kernel
theorem dL_law_543 : decode cL_law 543 = .ok (.invokevirtual 56, 3) := by decide +kernel
theorem dL_law_546 : decode cL_law 546 = .ok (.lcmp, 1) := by decide +kernel
theorem dL_law_547 : decode cL_law 547 = .ok (.ifCond .eq 582, 3) := by decide +kernel
theorem dL_law_550 : decode cL_law 550 = .ok (.iconst 0, 1) := by decide +kernel
theorem dL_law_551 : decode cL_law 551 = .ok (.ireturn, 1) := by decide +kernel
theorem dL_law_552 : decode cL_law 552 = .ok (.aload_n 1, 1) := by decide +kernel
theorem dL_law_553 : decode cL_law 553 = .ok (.aload_n 0, 1) := by decide +kernel
theorem dL_law_554 : decode cL_law 554 = .ok (.iload_n 3, 1) := by decide +kernel
theorem dL_law_555 : decode cL_law 555 = .ok (.iconst 1, 1) := by decide +kernel
theorem dL_law_556 : decode cL_law 556 = .ok (.iadd, 1) := by decide +kernel
theorem dL_law_557 : decode cL_law 557 = .ok (.iaload, 1) := by decide +kernel
theorem dL_law_558 : decode cL_law 558 = .ok (.aload_n 0, 1) := by decide +kernel
theorem dL_law_559 : decode cL_law 559 = .ok (.iload_n 3, 1) := by decide +kernel
theorem dL_law_560 : decode cL_law 560 = .ok (.iconst 2, 1) := by decide +kernel
theorem dL_law_561 : decode cL_law 561 = .ok (.iadd, 1) := by decide +kernel
theorem dL_law_562 : decode cL_law 562 = .ok (.iaload, 1) := by decide +kernel
theorem dL_law_563 : decode cL_law 563 = .ok (.invokevirtual 57, 3) := by decide +kernel
theorem dL_law_566 : decode cL_law 566 = .ok (.aload_n 2, 1) := by decide +kernel
theorem dL_law_567 : decode cL_law 567 = .ok (.aload_n 0, 1) := by decide +kernel
theorem dL_law_568 : decode cL_law 568 = .ok (.iload_n 3, 1) := by decide +kernel
theorem dL_law_569 : decode cL_law 569 = .ok (.iconst 1, 1) := by decide +kernel
theorem dL_law_570 : decode cL_law 570 = .ok (.iadd, 1) := by decide +kernel
theorem dL_law_571 : decode cL_law 571 = .ok (.iaload, 1) := by decide +kernel
theorem dL_law_572 : decode cL_law 572 = .ok (.aload_n 0, 1) := by decide +kernel
theorem dL_law_573 : decode cL_law 573 = .ok (.iload_n 3, 1) := by decide +kernel
theorem dL_law_574 : decode cL_law 574 = .ok (.iconst 2, 1) := by decide +kernel
theorem dL_law_575 : decode cL_law 575 = .ok (.iadd, 1) := by decide +kernel
theorem dL_law_576 : decode cL_law 576 = .ok (.iaload, 1) := by decide +kernel
theorem dL_law_577 : decode cL_law 577 = .ok (.invokevirtual 60, 3) := by decide +kernel
theorem dL_law_580 : decode cL_law 580 = .ok (.lcmp, 1) := by decide +kernel
theorem dL_law_581 : decode cL_law 581 = .ok (.ifCond .eq 548, 3) := by decide +kernel
theorem dL_law_584 : decode cL_law 584 = .ok (.iconst 0, 1) := by decide +kernel
theorem dL_law_585 : decode cL_law 585 = .ok (.ireturn, 1) := by decide +kernel
theorem dL_law_586 : decode cL_law 586 = .ok (.aload_n 1, 1) := by decide +kernel
theorem dL_law_587 : decode cL_law 587 = .ok (.aload_n 0, 1) := by decide +kernel
theorem dL_law_588 : decode cL_law 588 = .ok (.iload_n 3, 1) := by decide +kernel
theorem dL_law_589 : decode cL_law 589 = .ok (.iconst 1, 1) := by decide +kernel
theorem dL_law_590 : decode cL_law 590 = .ok (.iadd, 1) := by decide +kernel
theorem dL_law_591 : decode cL_law 591 = .ok (.iaload, 1) := by decide +kernel
theorem dL_law_592 : decode cL_law 592 = .ok (.invokevirtual 61, 3) := by decide +kernel
theorem dL_law_595 : decode cL_law 595 = .ok (.aload_n 2, 1) := by decide +kernel
theorem dL_law_596 : decode cL_law 596 = .ok (.aload_n 0, 1) := by decide +kernel
theorem dL_law_597 : decode cL_law 597 = .ok (.iload_n 3, 1) := by decide +kernel
theorem dL_law_598 : decode cL_law 598 = .ok (.iconst 1, 1) := by decide +kernel
theorem dL_law_599 : decode cL_law 599 = .ok (.iadd, 1) := by decide +kernel
theorem dL_law_600 : decode cL_law 600 = .ok (.iaload, 1) := by decide +kernel
theorem dL_law_601 : decode cL_law 601 = .ok (.invokevirtual 65, 3) := by decide +kernel
theorem dL_law_604 : decode cL_law 604 = .ok (.lcmp, 1) := by decide +kernel
theorem dL_law_605 : decode cL_law 605 = .ok (.ifCond .eq 524, 3) := by decide +kernel
theorem dL_law_608 : decode cL_law 608 = .ok (.iconst 0, 1) := by decide +kernel
theorem dL_law_609 : decode cL_law 609 = .ok (.ireturn, 1) := by decide +kernel
theorem dL_law_610 : decode cL_law 610 = .ok (.aload_n 1, 1) := by decide +kernel
theorem dL_law_611 : decode cL_law 611 = .ok (.aload_n 0, 1) := by decide +kernel
theorem dL_law_612 : decode cL_law 612 = .ok (.iload_n 3, 1) := by decide +kernel
theorem dL_law_613 : decode cL_law 613 = .ok (.iconst 1, 1) := by decide +kernel
theorem dL_law_614 : decode cL_law 614 = .ok (.iadd, 1) := by decide +kernel
theorem dL_law_615 : decode cL_law 615 = .ok (.iaload, 1) := by decide +kernel
theorem dL_law_616 : decode cL_law 616 = .ok (.aload_n 0, 1) := by decide +kernel
theorem dL_law_617 : decode cL_law 617 = .ok (.iload_n 3, 1) := by decide +kernel
theorem dL_law_618 : decode cL_law 618 = .ok (.iconst 2, 1) := by decide +kernel
theorem dL_law_619 : decode cL_law 619 = .ok (.iadd, 1) := by decide +kernel
theorem dL_law_620 : decode cL_law 620 = .ok (.iaload, 1) := by decide +kernel
theorem dL_law_621 : decode cL_law 621 = .ok (.invokevirtual 66, 3) := by decide +kernel
theorem dL_law_624 : decode cL_law 624 = .ok (.aload_n 2, 1) := by decide +kernel
theorem dL_law_625 : decode cL_law 625 = .ok (.aload_n 0, 1) := by decide +kernel
theorem dL_law_626 : decode cL_law 626 = .ok (.iload_n 3, 1) := by decide +kernel
theorem dL_law_627 : decode cL_law 627 = .ok (.iconst 1, 1) := by decide +kernel
theorem dL_law_628 : decode cL_law 628 = .ok (.iadd, 1) := by decide +kernel
theorem dL_law_629 : decode cL_law 629 = .ok (.iaload, 1) := by decide +kernel
theorem dL_law_630 : decode cL_law 630 = .ok (.aload_n 0, 1) := by decide +kernel
theorem dL_law_631 : decode cL_law 631 = .ok (.iload_n 3, 1) := by decide +kernel
theorem dL_law_632 : decode cL_law 632 = .ok (.iconst 2, 1) := by decide +kernel
theorem dL_law_633 : decode cL_law 633 = .ok (.iadd, 1) := by decide +kernel
theorem dL_law_634 : decode cL_law 634 = .ok (.iaload, 1) := by decide +kernel
theorem dL_law_635 : decode cL_law 635 = .ok (.invokevirtual 69, 3) := by decide +kernel
theorem dL_law_638 : decode cL_law 638 = .ok (.if_icmp .eq 491, 3) := by decide +kernel
theorem dL_law_641 : decode cL_law 641 = .ok (.iconst 0, 1) := by decide +kernel
theorem dL_law_642 : decode cL_law 642 = .ok (.ireturn, 1) := by decide +kernel
theorem dL_law_643 : decode cL_law 643 = .ok (.aload_n 1, 1) := by decide +kernel
theorem dL_law_644 : decode cL_law 644 = .ok (.invokevirtual 70, 3) := by decide +kernel
theorem dL_law_647 : decode cL_law 647 = .ok (.aload_n 2, 1) := by decide +kernel
theorem dL_law_648 : decode cL_law 648 = .ok (.invokevirtual 74, 3) := by decide +kernel
theorem dL_law_651 : decode cL_law 651 = .ok (.if_icmp .eq 478, 3) := by decide +kernel
theorem dL_law_654 : decode cL_law 654 = .ok (.iconst 0, 1) := by decide +kernel
theorem dL_law_655 : decode cL_law 655 = .ok (.ireturn, 1) := by decide +kernel
theorem dL_law_656 : decode cL_law 656 = .ok (.aload_n 1, 1) := by decide +kernel
theorem dL_law_657 : decode cL_law 657 = .ok (.invokevirtual 75, 3) := by decide +kernel
theorem dL_law_660 : decode cL_law 660 = .ok (.aload_n 2, 1) := by decide +kernel
theorem dL_law_661 : decode cL_law 661 = .ok (.invokevirtual 78, 3) := by decide +kernel
theorem dL_law_664 : decode cL_law 664 = .ok (.if_icmp .eq 465, 3) := by decide +kernel
theorem dL_law_667 : decode cL_law 667 = .ok (.iconst 0, 1) := by decide +kernel
theorem dL_law_668 : decode cL_law 668 = .ok (.ireturn, 1) := by decide +kernel
theorem dL_law_669 : decode cL_law 669 = .ok (.aload_n 1, 1) := by decide +kernel
theorem dL_law_670 : decode cL_law 670 = .ok (.aload_n 0, 1) := by decide +kernel
theorem dL_law_671 : decode cL_law 671 = .ok (.iload_n 3, 1) := by decide +kernel
theorem dL_law_672 : decode cL_law 672 = .ok (.iconst 1, 1) := by decide +kernel
theorem dL_law_673 : decode cL_law 673 = .ok (.iadd, 1) := by decide +kernel
theorem dL_law_674 : decode cL_law 674 = .ok (.iaload, 1) := by decide +kernel
theorem dL_law_675 : decode cL_law 675 = .ok (.aload_n 0, 1) := by decide +kernel
theorem dL_law_676 : decode cL_law 676 = .ok (.iload_n 3, 1) := by decide +kernel
theorem dL_law_677 : decode cL_law 677 = .ok (.iconst 2, 1) := by decide +kernel
theorem dL_law_678 : decode cL_law 678 = .ok (.iadd, 1) := by decide +kernel
theorem dL_law_679 : decode cL_law 679 = .ok (.iaload, 1) := by decide +kernel
theorem dL_law_680 : decode cL_law 680 = .ok (.aload_n 0, 1) := by decide +kernel
theorem dL_law_681 : decode cL_law 681 = .ok (.iload_n 3, 1) := by decide +kernel
theorem dL_law_682 : decode cL_law 682 = .ok (.iconst 3, 1) := by decide +kernel
theorem dL_law_683 : decode cL_law 683 = .ok (.iadd, 1) := by decide +kernel
theorem dL_law_684 : decode cL_law 684 = .ok (.iaload, 1) := by decide +kernel
theorem dL_law_685 : decode cL_law 685 = .ok (.ifCond .eq 7, 3) := by decide +kernel
theorem dL_law_688 : decode cL_law 688 = .ok (.iconst 1, 1) := by decide +kernel
theorem dL_law_689 : decode cL_law 689 = .ok (.goto 4, 3) := by decide +kernel
theorem dL_law_692 : decode cL_law 692 = .ok (.iconst 0, 1) := by decide +kernel
theorem dL_law_693 : decode cL_law 693 = .ok (.invokevirtual 79, 3) := by decide +kernel
theorem dL_law_696 : decode cL_law 696 = .ok (.aload_n 2, 1) := by decide +kernel
theorem dL_law_697 : decode cL_law 697 = .ok (.aload_n 0, 1) := by decide +kernel
theorem dL_law_698 : decode cL_law 698 = .ok (.iload_n 3, 1) := by decide +kernel
theorem dL_law_699 : decode cL_law 699 = .ok (.iconst 1, 1) := by decide +kernel
theorem dL_law_700 : decode cL_law 700 = .ok (.iadd, 1) := by decide +kernel
theorem dL_law_701 : decode cL_law 701 = .ok (.iaload, 1) := by decide +kernel
theorem dL_law_702 : decode cL_law 702 = .ok (.aload_n 0, 1) := by decide +kernel
theorem dL_law_703 : decode cL_law 703 = .ok (.iload_n 3, 1) := by decide +kernel
theorem dL_law_704 : decode cL_law 704 = .ok (.iconst 2, 1) := by decide +kernel
theorem dL_law_705 : decode cL_law 705 = .ok (.iadd, 1) := by decide +kernel
theorem dL_law_706 : decode cL_law 706 = .ok (.iaload, 1) := by decide +kernel
theorem dL_law_707 : decode cL_law 707 = .ok (.aload_n 0, 1) := by decide +kernel
theorem dL_law_708 : decode cL_law 708 = .ok (.iload_n 3, 1) := by decide +kernel
theorem dL_law_709 : decode cL_law 709 = .ok (.iconst 3, 1) := by decide +kernel
theorem dL_law_710 : decode cL_law 710 = .ok (.iadd, 1) := by decide +kernel
theorem dL_law_711 : decode cL_law 711 = .ok (.iaload, 1) := by decide +kernel
theorem dL_law_712 : decode cL_law 712 = .ok (.ifCond .eq 7, 3) := by decide +kernel
theorem dL_law_715 : decode cL_law 715 = .ok (.iconst 1, 1) := by decide +kernel
theorem dL_law_716 : decode cL_law 716 = .ok (.goto 4, 3) := by decide +kernel
theorem dL_law_719 : decode cL_law 719 = .ok (.iconst 0, 1) := by decide +kernel
theorem dL_law_720 : decode cL_law 720 = .ok (.invokevirtual 83, 3) := by decide +kernel
theorem dL_law_723 : decode cL_law 723 = .ok (.if_icmp .eq 406, 3) := by decide +kernel
theorem dL_law_726 : decode cL_law 726 = .ok (.iconst 0, 1) := by decide +kernel
theorem dL_law_727 : decode cL_law 727 = .ok (.ireturn, 1) := by decide +kernel
theorem dL_law_728 : decode cL_law 728 = .ok (.aload_n 1, 1) := by decide +kernel
theorem dL_law_729 : decode cL_law 729 = .ok (.aload_n 0, 1) := by decide +kernel
theorem dL_law_730 : decode cL_law 730 = .ok (.iload_n 3, 1) := by decide +kernel
theorem dL_law_731 : decode cL_law 731 = .ok (.iconst 1, 1) := by decide +kernel
theorem dL_law_732 : decode cL_law 732 = .ok (.iadd, 1) := by decide +kernel
theorem dL_law_733 : decode cL_law 733 = .ok (.iaload, 1) := by decide +kernel
theorem dL_law_734 : decode cL_law 734 = .ok (.invokevirtual 84, 3) := by decide +kernel
theorem dL_law_737 : decode cL_law 737 = .ok (.aload_n 2, 1) := by decide +kernel
theorem dL_law_738 : decode cL_law 738 = .ok (.aload_n 0, 1) := by decide +kernel
theorem dL_law_739 : decode cL_law 739 = .ok (.iload_n 3, 1) := by decide +kernel
theorem dL_law_740 : decode cL_law 740 = .ok (.iconst 1, 1) := by decide +kernel
theorem dL_law_741 : decode cL_law 741 = .ok (.iadd, 1) := by decide +kernel
theorem dL_law_742 : decode cL_law 742 = .ok (.iaload, 1) := by decide +kernel
theorem dL_law_743 : decode cL_law 743 = .ok (.invokevirtual 87, 3) := by decide +kernel
theorem dL_law_746 : decode cL_law 746 = .ok (.lcmp, 1) := by decide +kernel
theorem dL_law_747 : decode cL_law 747 = .ok (.ifCond .eq 382, 3) := by decide +kernel
theorem dL_law_750 : decode cL_law 750 = .ok (.iconst 0, 1) := by decide +kernel
theorem dL_law_751 : decode cL_law 751 = .ok (.ireturn, 1) := by decide +kernel
theorem dL_law_752 : decode cL_law 752 = .ok (.aload_n 1, 1) := by decide +kernel
theorem dL_law_753 : decode cL_law 753 = .ok (.invokevirtual 88, 3) := by decide +kernel
theorem dL_law_756 : decode cL_law 756 = .ok (.aload_n 2, 1) := by decide +kernel
theorem dL_law_757 : decode cL_law 757 = .ok (.invokevirtual 91, 3) := by decide +kernel
theorem dL_law_760 : decode cL_law 760 = .ok (.if_icmp .eq 369, 3) := by decide +kernel
theorem dL_law_763 : decode cL_law 763 = .ok (.iconst 0, 1) := by decide +kernel
theorem dL_law_764 : decode cL_law 764 = .ok (.ireturn, 1) := by decide +kernel
theorem dL_law_765 : decode cL_law 765 = .ok (.aload_n 1, 1) := by decide +kernel
theorem dL_law_766 : decode cL_law 766 = .ok (.aload_n 0, 1) := by decide +kernel
theorem dL_law_767 : decode cL_law 767 = .ok (.iload_n 3, 1) := by decide +kernel
theorem dL_law_768 : decode cL_law 768 = .ok (.iconst 1, 1) := by decide +kernel
theorem dL_law_769 : decode cL_law 769 = .ok (.iadd, 1) := by decide +kernel
theorem dL_law_770 : decode cL_law 770 = .ok (.iaload, 1) := by decide +kernel
theorem dL_law_771 : decode cL_law 771 = .ok (.aload_n 0, 1) := by decide +kernel
theorem dL_law_772 : decode cL_law 772 = .ok (.iload_n 3, 1) := by decide +kernel
theorem dL_law_773 : decode cL_law 773 = .ok (.iconst 2, 1) := by decide +kernel
theorem dL_law_774 : decode cL_law 774 = .ok (.iadd, 1) := by decide +kernel
theorem dL_law_775 : decode cL_law 775 = .ok (.iaload, 1) := by decide +kernel
theorem dL_law_776 : decode cL_law 776 = .ok (.ifCond .eq 7, 3) := by decide +kernel
theorem dL_law_779 : decode cL_law 779 = .ok (.iconst 1, 1) := by decide +kernel
theorem dL_law_780 : decode cL_law 780 = .ok (.goto 4, 3) := by decide +kernel
theorem dL_law_783 : decode cL_law 783 = .ok (.iconst 0, 1) := by decide +kernel
theorem dL_law_784 : decode cL_law 784 = .ok (.invokevirtual 92, 3) := by decide +kernel
theorem dL_law_787 : decode cL_law 787 = .ok (.aload_n 2, 1) := by decide +kernel
theorem dL_law_788 : decode cL_law 788 = .ok (.aload_n 0, 1) := by decide +kernel
theorem dL_law_789 : decode cL_law 789 = .ok (.iload_n 3, 1) := by decide +kernel
theorem dL_law_790 : decode cL_law 790 = .ok (.iconst 1, 1) := by decide +kernel
theorem dL_law_791 : decode cL_law 791 = .ok (.iadd, 1) := by decide +kernel
theorem dL_law_792 : decode cL_law 792 = .ok (.iaload, 1) := by decide +kernel
theorem dL_law_793 : decode cL_law 793 = .ok (.aload_n 0, 1) := by decide +kernel
theorem dL_law_794 : decode cL_law 794 = .ok (.iload_n 3, 1) := by decide +kernel
theorem dL_law_795 : decode cL_law 795 = .ok (.iconst 2, 1) := by decide +kernel
theorem dL_law_796 : decode cL_law 796 = .ok (.iadd, 1) := by decide +kernel
theorem dL_law_797 : decode cL_law 797 = .ok (.iaload, 1) := by decide +kernel
theorem dL_law_798 : decode cL_law 798 = .ok (.ifCond .eq 7, 3) := by decide +kernel
theorem dL_law_801 : decode cL_law 801 = .ok (.iconst 1, 1) := by decide +kernel
theorem dL_law_802 : decode cL_law 802 = .ok (.goto 4, 3) := by decide +kernel
theorem dL_law_805 : decode cL_law 805 = .ok (.iconst 0, 1) := by decide +kernel
theorem dL_law_806 : decode cL_law 806 = .ok (.invokevirtual 95, 3) := by decide +kernel
theorem dL_law_809 : decode cL_law 809 = .ok (.if_icmp .eq 320, 3) := by decide +kernel
theorem dL_law_812 : decode cL_law 812 = .ok (.iconst 0, 1) := by decide +kernel
theorem dL_law_813 : decode cL_law 813 = .ok (.ireturn, 1) := by decide +kernel
theorem dL_law_814 : decode cL_law 814 = .ok (.aload_n 1, 1) := by decide +kernel
theorem dL_law_815 : decode cL_law 815 = .ok (.invokevirtual 96, 3) := by decide +kernel
theorem dL_law_818 : decode cL_law 818 = .ok (.aload_n 2, 1) := by decide +kernel
theorem dL_law_819 : decode cL_law 819 = .ok (.invokevirtual 100, 3) := by decide +kernel
theorem dL_law_822 : decode cL_law 822 = .ok (.lcmp, 1) := by decide +kernel
theorem dL_law_823 : decode cL_law 823 = .ok (.ifCond .eq 306, 3) := by decide +kernel
theorem dL_law_826 : decode cL_law 826 = .ok (.iconst 0, 1) := by decide +kernel
theorem dL_law_827 : decode cL_law 827 = .ok (.ireturn, 1) := by decide +kernel
theorem dL_law_828 : decode cL_law 828 = .ok (.aload_n 1, 1) := by decide +kernel
theorem dL_law_829 : decode cL_law 829 = .ok (.invokevirtual 101, 3) := by decide +kernel
theorem dL_law_832 : decode cL_law 832 = .ok (.aload_n 2, 1) := by decide +kernel
theorem dL_law_833 : decode cL_law 833 = .ok (.invokevirtual 104, 3) := by decide +kernel
theorem dL_law_836 : decode cL_law 836 = .ok (.lcmp, 1) := by decide +kernel
theorem dL_law_837 : decode cL_law 837 = .ok (.ifCond .eq 292, 3) := by decide +kernel
theorem dL_law_840 : decode cL_law 840 = .ok (.iconst 0, 1) := by decide +kernel
theorem dL_law_841 : decode cL_law 841 = .ok (.ireturn, 1) := by decide +kernel
theorem dL_law_842 : decode cL_law 842 = .ok (.aload_n 1, 1) := by decide +kernel
theorem dL_law_843 : decode cL_law 843 = .ok (.aload_n 0, 1) := by decide +kernel
theorem dL_law_844 : decode cL_law 844 = .ok (.iload_n 3, 1) := by decide +kernel
theorem dL_law_845 : decode cL_law 845 = .ok (.iconst 1, 1) := by decide +kernel
theorem dL_law_846 : decode cL_law 846 = .ok (.iadd, 1) := by decide +kernel
theorem dL_law_847 : decode cL_law 847 = .ok (.iaload, 1) := by decide +kernel
theorem dL_law_848 : decode cL_law 848 = .ok (.invokevirtual 105, 3) := by decide +kernel
theorem dL_law_851 : decode cL_law 851 = .ok (.aload_n 2, 1) := by decide +kernel
theorem dL_law_852 : decode cL_law 852 = .ok (.aload_n 0, 1) := by decide +kernel
theorem dL_law_853 : decode cL_law 853 = .ok (.iload_n 3, 1) := by decide +kernel
theorem dL_law_854 : decode cL_law 854 = .ok (.iconst 1, 1) := by decide +kernel
theorem dL_law_855 : decode cL_law 855 = .ok (.iadd, 1) := by decide +kernel
theorem dL_law_856 : decode cL_law 856 = .ok (.iaload, 1) := by decide +kernel
theorem dL_law_857 : decode cL_law 857 = .ok (.invokevirtual 109, 3) := by decide +kernel
theorem dL_law_860 : decode cL_law 860 = .ok (.if_icmp .eq 269, 3) := by decide +kernel
theorem dL_law_863 : decode cL_law 863 = .ok (.iconst 0, 1) := by decide +kernel
theorem dL_law_864 : decode cL_law 864 = .ok (.ireturn, 1) := by decide +kernel
theorem dL_law_865 : decode cL_law 865 = .ok (.aload_n 1, 1) := by decide +kernel
theorem dL_law_866 : decode cL_law 866 = .ok (.aload_n 0, 1) := by decide +kernel
theorem dL_law_867 : decode cL_law 867 = .ok (.iload_n 3, 1) := by decide +kernel
theorem dL_law_868 : decode cL_law 868 = .ok (.iconst 1, 1) := by decide +kernel
theorem dL_law_869 : decode cL_law 869 = .ok (.iadd, 1) := by decide +kernel
theorem dL_law_870 : decode cL_law 870 = .ok (.iaload, 1) := by decide +kernel
theorem dL_law_871 : decode cL_law 871 = .ok (.aload_n 0, 1) := by decide +kernel
theorem dL_law_872 : decode cL_law 872 = .ok (.iload_n 3, 1) := by decide +kernel
theorem dL_law_873 : decode cL_law 873 = .ok (.iconst 2, 1) := by decide +kernel
theorem dL_law_874 : decode cL_law 874 = .ok (.iadd, 1) := by decide +kernel
theorem dL_law_875 : decode cL_law 875 = .ok (.iaload, 1) := by decide +kernel
theorem dL_law_876 : decode cL_law 876 = .ok (.invokevirtual 110, 3) := by decide +kernel
theorem dL_law_879 : decode cL_law 879 = .ok (.aload_n 2, 1) := by decide +kernel
theorem dL_law_880 : decode cL_law 880 = .ok (.aload_n 0, 1) := by decide +kernel
theorem dL_law_881 : decode cL_law 881 = .ok (.iload_n 3, 1) := by decide +kernel
theorem dL_law_882 : decode cL_law 882 = .ok (.iconst 1, 1) := by decide +kernel
theorem dL_law_883 : decode cL_law 883 = .ok (.iadd, 1) := by decide +kernel
theorem dL_law_884 : decode cL_law 884 = .ok (.iaload, 1) := by decide +kernel
theorem dL_law_885 : decode cL_law 885 = .ok (.aload_n 0, 1) := by decide +kernel
theorem dL_law_886 : decode cL_law 886 = .ok (.iload_n 3, 1) := by decide +kernel
theorem dL_law_887 : decode cL_law 887 = .ok (.iconst 2, 1) := by decide +kernel
theorem dL_law_888 : decode cL_law 888 = .ok (.iadd, 1) := by decide +kernel
theorem dL_law_889 : decode cL_law 889 = .ok (.iaload, 1) := by decide +kernel
theorem dL_law_890 : decode cL_law 890 = .ok (.invokevirtual 113, 3) := by decide +kernel
theorem dL_law_893 : decode cL_law 893 = .ok (.if_icmp .eq 236, 3) := by decide +kernel
theorem dL_law_896 : decode cL_law 896 = .ok (.iconst 0, 1) := by decide +kernel
theorem dL_law_897 : decode cL_law 897 = .ok (.ireturn, 1) := by decide +kernel
theorem dL_law_898 : decode cL_law 898 = .ok (.aload_n 1, 1) := by decide +kernel
theorem dL_law_899 : decode cL_law 899 = .ok (.aload_n 0, 1) := by decide +kernel
theorem dL_law_900 : decode cL_law 900 = .ok (.iload_n 3, 1) := by decide +kernel
theorem dL_law_901 : decode cL_law 901 = .ok (.iconst 1, 1) := by decide +kernel
theorem dL_law_902 : decode cL_law 902 = .ok (.iadd, 1) := by decide +kernel
theorem dL_law_903 : decode cL_law 903 = .ok (.iaload, 1) := by decide +kernel
theorem dL_law_904 : decode cL_law 904 = .ok (.aload_n 0, 1) := by decide +kernel
theorem dL_law_905 : decode cL_law 905 = .ok (.iload_n 3, 1) := by decide +kernel
theorem dL_law_906 : decode cL_law 906 = .ok (.iconst 2, 1) := by decide +kernel
theorem dL_law_907 : decode cL_law 907 = .ok (.iadd, 1) := by decide +kernel
theorem dL_law_908 : decode cL_law 908 = .ok (.iaload, 1) := by decide +kernel
theorem dL_law_909 : decode cL_law 909 = .ok (.aload_n 0, 1) := by decide +kernel
theorem dL_law_910 : decode cL_law 910 = .ok (.iload_n 3, 1) := by decide +kernel
theorem dL_law_911 : decode cL_law 911 = .ok (.iconst 3, 1) := by decide +kernel
theorem dL_law_912 : decode cL_law 912 = .ok (.iadd, 1) := by decide +kernel
theorem dL_law_913 : decode cL_law 913 = .ok (.iaload, 1) := by decide +kernel
theorem dL_law_914 : decode cL_law 914 = .ok (.invokevirtual 114, 3) := by decide +kernel
theorem dL_law_917 : decode cL_law 917 = .ok (.aload_n 2, 1) := by decide +kernel
theorem dL_law_918 : decode cL_law 918 = .ok (.aload_n 0, 1) := by decide +kernel
theorem dL_law_919 : decode cL_law 919 = .ok (.iload_n 3, 1) := by decide +kernel
theorem dL_law_920 : decode cL_law 920 = .ok (.iconst 1, 1) := by decide +kernel
theorem dL_law_921 : decode cL_law 921 = .ok (.iadd, 1) := by decide +kernel
theorem dL_law_922 : decode cL_law 922 = .ok (.iaload, 1) := by decide +kernel
theorem dL_law_923 : decode cL_law 923 = .ok (.aload_n 0, 1) := by decide +kernel
theorem dL_law_924 : decode cL_law 924 = .ok (.iload_n 3, 1) := by decide +kernel
theorem dL_law_925 : decode cL_law 925 = .ok (.iconst 2, 1) := by decide +kernel
theorem dL_law_926 : decode cL_law 926 = .ok (.iadd, 1) := by decide +kernel
theorem dL_law_927 : decode cL_law 927 = .ok (.iaload, 1) := by decide +kernel
theorem dL_law_928 : decode cL_law 928 = .ok (.aload_n 0, 1) := by decide +kernel
theorem dL_law_929 : decode cL_law 929 = .ok (.iload_n 3, 1) := by decide +kernel
theorem dL_law_930 : decode cL_law 930 = .ok (.iconst 3, 1) := by decide +kernel
theorem dL_law_931 : decode cL_law 931 = .ok (.iadd, 1) := by decide +kernel
theorem dL_law_932 : decode cL_law 932 = .ok (.iaload, 1) := by decide +kernel
theorem dL_law_933 : decode cL_law 933 = .ok (.invokevirtual 117, 3) := by decide +kernel
theorem dL_law_936 : decode cL_law 936 = .ok (.if_icmp .eq 193, 3) := by decide +kernel
theorem dL_law_939 : decode cL_law 939 = .ok (.iconst 0, 1) := by decide +kernel
theorem dL_law_940 : decode cL_law 940 = .ok (.ireturn, 1) := by decide +kernel
theorem dL_law_941 : decode cL_law 941 = .ok (.aload_n 1, 1) := by decide +kernel
theorem dL_law_942 : decode cL_law 942 = .ok (.aload_n 0, 1) := by decide +kernel
theorem dL_law_943 : decode cL_law 943 = .ok (.iload_n 3, 1) := by decide +kernel
theorem dL_law_944 : decode cL_law 944 = .ok (.iconst 1, 1) := by decide +kernel
theorem dL_law_945 : decode cL_law 945 = .ok (.iadd, 1) := by decide +kernel
theorem dL_law_946 : decode cL_law 946 = .ok (.iaload, 1) := by decide +kernel
theorem dL_law_947 : decode cL_law 947 = .ok (.aload_n 0, 1) := by decide +kernel
theorem dL_law_948 : decode cL_law 948 = .ok (.iload_n 3, 1) := by decide +kernel
theorem dL_law_949 : decode cL_law 949 = .ok (.iconst 2, 1) := by decide +kernel
theorem dL_law_950 : decode cL_law 950 = .ok (.iadd, 1) := by decide +kernel
theorem dL_law_951 : decode cL_law 951 = .ok (.iaload, 1) := by decide +kernel
theorem dL_law_952 : decode cL_law 952 = .ok (.aload_n 0, 1) := by decide +kernel
theorem dL_law_953 : decode cL_law 953 = .ok (.iload_n 3, 1) := by decide +kernel
theorem dL_law_954 : decode cL_law 954 = .ok (.iconst 3, 1) := by decide +kernel
theorem dL_law_955 : decode cL_law 955 = .ok (.iadd, 1) := by decide +kernel
theorem dL_law_956 : decode cL_law 956 = .ok (.iaload, 1) := by decide +kernel
theorem dL_law_957 : decode cL_law 957 = .ok (.aload_n 0, 1) := by decide +kernel
theorem dL_law_958 : decode cL_law 958 = .ok (.iload_n 3, 1) := by decide +kernel
theorem dL_law_959 : decode cL_law 959 = .ok (.iconst 4, 1) := by decide +kernel
theorem dL_law_960 : decode cL_law 960 = .ok (.iadd, 1) := by decide +kernel
theorem dL_law_961 : decode cL_law 961 = .ok (.iaload, 1) := by decide +kernel
theorem dL_law_962 : decode cL_law 962 = .ok (.invokevirtual 118, 3) := by decide +kernel
theorem dL_law_965 : decode cL_law 965 = .ok (.aload_n 2, 1) := by decide +kernel
theorem dL_law_966 : decode cL_law 966 = .ok (.aload_n 0, 1) := by decide +kernel
theorem dL_law_967 : decode cL_law 967 = .ok (.iload_n 3, 1) := by decide +kernel
theorem dL_law_968 : decode cL_law 968 = .ok (.iconst 1, 1) := by decide +kernel
theorem dL_law_969 : decode cL_law 969 = .ok (.iadd, 1) := by decide +kernel
theorem dL_law_970 : decode cL_law 970 = .ok (.iaload, 1) := by decide +kernel
theorem dL_law_971 : decode cL_law 971 = .ok (.aload_n 0, 1) := by decide +kernel
theorem dL_law_972 : decode cL_law 972 = .ok (.iload_n 3, 1) := by decide +kernel
theorem dL_law_973 : decode cL_law 973 = .ok (.iconst 2, 1) := by decide +kernel
theorem dL_law_974 : decode cL_law 974 = .ok (.iadd, 1) := by decide +kernel
theorem dL_law_975 : decode cL_law 975 = .ok (.iaload, 1) := by decide +kernel
theorem dL_law_976 : decode cL_law 976 = .ok (.aload_n 0, 1) := by decide +kernel
theorem dL_law_977 : decode cL_law 977 = .ok (.iload_n 3, 1) := by decide +kernel
theorem dL_law_978 : decode cL_law 978 = .ok (.iconst 3, 1) := by decide +kernel
theorem dL_law_979 : decode cL_law 979 = .ok (.iadd, 1) := by decide +kernel
theorem dL_law_980 : decode cL_law 980 = .ok (.iaload, 1) := by decide +kernel
theorem dL_law_981 : decode cL_law 981 = .ok (.aload_n 0, 1) := by decide +kernel
theorem dL_law_982 : decode cL_law 982 = .ok (.iload_n 3, 1) := by decide +kernel
theorem dL_law_983 : decode cL_law 983 = .ok (.iconst 4, 1) := by decide +kernel
theorem dL_law_984 : decode cL_law 984 = .ok (.iadd, 1) := by decide +kernel
theorem dL_law_985 : decode cL_law 985 = .ok (.iaload, 1) := by decide +kernel
theorem dL_law_986 : decode cL_law 986 = .ok (.invokevirtual 122, 3) := by decide +kernel
theorem dL_law_989 : decode cL_law 989 = .ok (.if_icmp .eq 140, 3) := by decide +kernel
theorem dL_law_992 : decode cL_law 992 = .ok (.iconst 0, 1) := by decide +kernel
theorem dL_law_993 : decode cL_law 993 = .ok (.ireturn, 1) := by decide +kernel
theorem dL_law_994 : decode cL_law 994 = .ok (.aload_n 1, 1) := by decide +kernel
theorem dL_law_995 : decode cL_law 995 = .ok (.aload_n 0, 1) := by decide +kernel
theorem dL_law_996 : decode cL_law 996 = .ok (.iload_n 3, 1) := by decide +kernel
theorem dL_law_997 : decode cL_law 997 = .ok (.iconst 1, 1) := by decide +kernel
theorem dL_law_998 : decode cL_law 998 = .ok (.iadd, 1) := by decide +kernel
theorem dL_law_999 : decode cL_law 999 = .ok (.iaload, 1) := by decide +kernel
theorem dL_law_1000 : decode cL_law 1000 = .ok (.invokevirtual 123, 3) := by decide +kernel
theorem dL_law_1003 : decode cL_law 1003 = .ok (.aload_n 2, 1) := by decide +kernel
theorem dL_law_1004 : decode cL_law 1004 = .ok (.aload_n 0, 1) := by decide +kernel
theorem dL_law_1005 : decode cL_law 1005 = .ok (.iload_n 3, 1) := by decide +kernel
theorem dL_law_1006 : decode cL_law 1006 = .ok (.iconst 1, 1) := by decide +kernel
theorem dL_law_1007 : decode cL_law 1007 = .ok (.iadd, 1) := by decide +kernel
theorem dL_law_1008 : decode cL_law 1008 = .ok (.iaload, 1) := by decide +kernel
theorem dL_law_1009 : decode cL_law 1009 = .ok (.invokevirtual 126, 3) := by decide +kernel
theorem dL_law_1012 : decode cL_law 1012 = .ok (.if_icmp .eq 117, 3) := by decide +kernel
theorem dL_law_1015 : decode cL_law 1015 = .ok (.iconst 0, 1) := by decide +kernel
theorem dL_law_1016 : decode cL_law 1016 = .ok (.ireturn, 1) := by decide +kernel
theorem dL_law_1017 : decode cL_law 1017 = .ok (.aload_n 1, 1) := by decide +kernel
theorem dL_law_1018 : decode cL_law 1018 = .ok (.aload_n 0, 1) := by decide +kernel
theorem dL_law_1019 : decode cL_law 1019 = .ok (.iload_n 3, 1) := by decide +kernel
theorem dL_law_1020 : decode cL_law 1020 = .ok (.iconst 1, 1) := by decide +kernel
theorem dL_law_1021 : decode cL_law 1021 = .ok (.iadd, 1) := by decide +kernel
theorem dL_law_1022 : decode cL_law 1022 = .ok (.iaload, 1) := by decide +kernel
theorem dL_law_1023 : decode cL_law 1023 = .ok (.aload_n 0, 1) := by decide +kernel
theorem dL_law_1024 : decode cL_law 1024 = .ok (.iload_n 3, 1) := by decide +kernel
theorem dL_law_1025 : decode cL_law 1025 = .ok (.iconst 2, 1) := by decide +kernel
theorem dL_law_1026 : decode cL_law 1026 = .ok (.iadd, 1) := by decide +kernel
theorem dL_law_1027 : decode cL_law 1027 = .ok (.iaload, 1) := by decide +kernel
theorem dL_law_1028 : decode cL_law 1028 = .ok (.aload_n 0, 1) := by decide +kernel
theorem dL_law_1029 : decode cL_law 1029 = .ok (.iload_n 3, 1) := by decide +kernel
theorem dL_law_1030 : decode cL_law 1030 = .ok (.iconst 3, 1) := by decide +kernel
theorem dL_law_1031 : decode cL_law 1031 = .ok (.iadd, 1) := by decide +kernel
theorem dL_law_1032 : decode cL_law 1032 = .ok (.iaload, 1) := by decide +kernel
theorem dL_law_1033 : decode cL_law 1033 = .ok (.invokevirtual 127, 3) := by decide +kernel
theorem dL_law_1036 : decode cL_law 1036 = .ok (.aload_n 2, 1) := by decide +kernel
theorem dL_law_1037 : decode cL_law 1037 = .ok (.aload_n 0, 1) := by decide +kernel
theorem dL_law_1038 : decode cL_law 1038 = .ok (.iload_n 3, 1) := by decide +kernel
theorem dL_law_1039 : decode cL_law 1039 = .ok (.iconst 1, 1) := by decide +kernel
theorem dL_law_1040 : decode cL_law 1040 = .ok (.iadd, 1) := by decide +kernel
theorem dL_law_1041 : decode cL_law 1041 = .ok (.iaload, 1) := by decide +kernel
theorem dL_law_1042 : decode cL_law 1042 = .ok (.aload_n 0, 1) := by decide +kernel
theorem dL_law_1043 : decode cL_law 1043 = .ok (.iload_n 3, 1) := by decide +kernel
theorem dL_law_1044 : decode cL_law 1044 = .ok (.iconst 2, 1) := by decide +kernel
theorem dL_law_1045 : decode cL_law 1045 = .ok (.iadd, 1) := by decide +kernel
theorem dL_law_1046 : decode cL_law 1046 = .ok (.iaload, 1) := by decide +kernel
theorem dL_law_1047 : decode cL_law 1047 = .ok (.aload_n 0, 1) := by decide +kernel
theorem dL_law_1048 : decode cL_law 1048 = .ok (.iload_n 3, 1) := by decide +kernel
theorem dL_law_1049 : decode cL_law 1049 = .ok (.iconst 3, 1) := by decide +kernel
theorem dL_law_1050 : decode cL_law 1050 = .ok (.iadd, 1) := by decide +kernel
theorem dL_law_1051 : decode cL_law 1051 = .ok (.iaload, 1) := by decide +kernel
theorem dL_law_1052 : decode cL_law 1052 = .ok (.invokevirtual 130, 3) := by decide +kernel
theorem dL_law_1055 : decode cL_law 1055 = .ok (.if_icmp .eq 74, 3) := by decide +kernel
theorem dL_law_1058 : decode cL_law 1058 = .ok (.iconst 0, 1) := by decide +kernel
theorem dL_law_1059 : decode cL_law 1059 = .ok (.ireturn, 1) := by decide +kernel
theorem dL_law_1060 : decode cL_law 1060 = .ok (.aload_n 1, 1) := by decide +kernel
theorem dL_law_1061 : decode cL_law 1061 = .ok (.aload_n 0, 1) := by decide +kernel
theorem dL_law_1062 : decode cL_law 1062 = .ok (.iload_n 3, 1) := by decide +kernel
theorem dL_law_1063 : decode cL_law 1063 = .ok (.iconst 1, 1) := by decide +kernel
theorem dL_law_1064 : decode cL_law 1064 = .ok (.iadd, 1) := by decide +kernel
theorem dL_law_1065 : decode cL_law 1065 = .ok (.iaload, 1) := by decide +kernel
theorem dL_law_1066 : decode cL_law 1066 = .ok (.invokevirtual 131, 3) := by decide +kernel
theorem dL_law_1069 : decode cL_law 1069 = .ok (.aload_n 2, 1) := by decide +kernel
theorem dL_law_1070 : decode cL_law 1070 = .ok (.aload_n 0, 1) := by decide +kernel
theorem dL_law_1071 : decode cL_law 1071 = .ok (.iload_n 3, 1) := by decide +kernel
theorem dL_law_1072 : decode cL_law 1072 = .ok (.iconst 1, 1) := by decide +kernel
theorem dL_law_1073 : decode cL_law 1073 = .ok (.iadd, 1) := by decide +kernel
theorem dL_law_1074 : decode cL_law 1074 = .ok (.iaload, 1) := by decide +kernel
theorem dL_law_1075 : decode cL_law 1075 = .ok (.invokevirtual 134, 3) := by decide +kernel
theorem dL_law_1078 : decode cL_law 1078 = .ok (.if_icmp .eq 51, 3) := by decide +kernel
theorem dL_law_1081 : decode cL_law 1081 = .ok (.iconst 0, 1) := by decide +kernel
theorem dL_law_1082 : decode cL_law 1082 = .ok (.ireturn, 1) := by decide +kernel
theorem dL_law_1083 : decode cL_law 1083 = .ok (.aload_n 1, 1) := by decide +kernel
theorem dL_law_1084 : decode cL_law 1084 = .ok (.aload_n 0, 1) := by decide +kernel
theorem dL_law_1085 : decode cL_law 1085 = .ok (.iload_n 3, 1) := by decide +kernel
theorem dL_law_1086 : decode cL_law 1086 = .ok (.iconst 1, 1) := by decide +kernel
theorem dL_law_1087 : decode cL_law 1087 = .ok (.iadd, 1) := by decide +kernel
theorem dL_law_1088 : decode cL_law 1088 = .ok (.iaload, 1) := by decide +kernel
theorem dL_law_1089 : decode cL_law 1089 = .ok (.invokevirtual 135, 3) := by decide +kernel
theorem dL_law_1092 : decode cL_law 1092 = .ok (.aload_n 2, 1) := by decide +kernel
theorem dL_law_1093 : decode cL_law 1093 = .ok (.aload_n 0, 1) := by decide +kernel
theorem dL_law_1094 : decode cL_law 1094 = .ok (.iload_n 3, 1) := by decide +kernel
theorem dL_law_1095 : decode cL_law 1095 = .ok (.iconst 1, 1) := by decide +kernel
theorem dL_law_1096 : decode cL_law 1096 = .ok (.iadd, 1) := by decide +kernel
theorem dL_law_1097 : decode cL_law 1097 = .ok (.iaload, 1) := by decide +kernel
theorem dL_law_1098 : decode cL_law 1098 = .ok (.invokevirtual 138, 3) := by decide +kernel
theorem dL_law_1101 : decode cL_law 1101 = .ok (.if_icmp .eq 28, 3) := by decide +kernel
theorem dL_law_1104 : decode cL_law 1104 = .ok (.iconst 0, 1) := by decide +kernel
theorem dL_law_1105 : decode cL_law 1105 = .ok (.ireturn, 1) := by decide +kernel
theorem dL_law_1106 : decode cL_law 1106 = .ok (.aload_n 1, 1) := by decide +kernel
theorem dL_law_1107 : decode cL_law 1107 = .ok (.aload_n 0, 1) := by decide +kernel
theorem dL_law_1108 : decode cL_law 1108 = .ok (.iload_n 3, 1) := by decide +kernel
theorem dL_law_1109 : decode cL_law 1109 = .ok (.iconst 1, 1) := by decide +kernel
theorem dL_law_1110 : decode cL_law 1110 = .ok (.iadd, 1) := by decide +kernel
theorem dL_law_1111 : decode cL_law 1111 = .ok (.iaload, 1) := by decide +kernel
theorem dL_law_1112 : decode cL_law 1112 = .ok (.invokevirtual 139, 3) := by decide +kernel
theorem dL_law_1115 : decode cL_law 1115 = .ok (.aload_n 2, 1) := by decide +kernel
theorem dL_law_1116 : decode cL_law 1116 = .ok (.aload_n 0, 1) := by decide +kernel
theorem dL_law_1117 : decode cL_law 1117 = .ok (.iload_n 3, 1) := by decide +kernel
theorem dL_law_1118 : decode cL_law 1118 = .ok (.iconst 1, 1) := by decide +kernel
theorem dL_law_1119 : decode cL_law 1119 = .ok (.iadd, 1) := by decide +kernel
theorem dL_law_1120 : decode cL_law 1120 = .ok (.iaload, 1) := by decide +kernel
theorem dL_law_1121 : decode cL_law 1121 = .ok (.invokevirtual 142, 3) := by decide +kernel
theorem dL_law_1124 : decode cL_law 1124 = .ok (.if_icmp .eq 5, 3) := by decide +kernel
theorem dL_law_1127 : decode cL_law 1127 = .ok (.iconst 0, 1) := by decide +kernel
theorem dL_law_1128 : decode cL_law 1128 = .ok (.ireturn, 1) := by decide +kernel
theorem dL_law_1129 : decode cL_law 1129 = .ok (.iinc 3 5, 3) := by decide +kernel
theorem dL_law_1132 : decode cL_law 1132 = .ok (.goto (-1114), 3) := by decide +kernel
theorem dL_law_1135 : decode cL_law 1135 = .ok (.iconst 1, 1) := by decide +kernel
theorem dL_law_1136 : decode cL_law 1136 = .ok (.ireturn, 1) := by decide +kernel
theorem dX0_init_0 : decode cX0_init 0 = .ok (.aload_n 0, 1) := by decide +kernel
theorem dX0_init_1 : decode cX0_init 1 = .ok (.invokespecial 3, 3) := by decide +kernel
theorem dX0_init_4 : decode cX0_init 4 = .ok (.aload_n 0, 1) := by decide +kernel
theorem dX0_init_5 : decode cX0_init 5 = .ok (.aload_n 1, 1) := by decide +kernel
theorem dX0_init_6 : decode cX0_init 6 = .ok (.putfield 9, 3) := by decide +kernel
theorem dX0_init_9 : decode cX0_init 9 = .ok (.aload_n 0, 1) := by decide +kernel
theorem dX0_init_10 : decode cX0_init 10 = .ok (.aload_n 2, 1) := by decide +kernel
theorem dX0_init_11 : decode cX0_init 11 = .ok (.putfield 15, 3) := by decide +kernel
theorem dX0_init_14 : decode cX0_init 14 = .ok (.aload_n 0, 1) := by decide +kernel
theorem dX0_init_15 : decode cX0_init 15 = .ok (.aload_n 3, 1) := by decide +kernel
theorem dX0_init_16 : decode cX0_init 16 = .ok (.putfield 19, 3) := by decide +kernel
theorem dX0_init_19 : decode cX0_init 19 = .ok (.aload_n 0, 1) := by decide +kernel
theorem dX0_init_20 : decode cX0_init 20 = .ok (.iconst 5, 1) := by decide +kernel
theorem dX0_init_21 : decode cX0_init 21 = .ok (.newarray .int, 2) := by decide +kernel
theorem dX0_init_23 : decode cX0_init 23 = .ok (.putfield 23, 3) := by decide +kernel
theorem dX0_init_26 : decode cX0_init 26 = .ok (.aload_n 0, 1) := by decide +kernel
theorem dX0_init_27 : decode cX0_init 27 = .ok (.iconst 5, 1) := by decide +kernel
theorem dX0_init_28 : decode cX0_init 28 = .ok (.newarray .int, 2) := by decide +kernel
theorem dX0_init_30 : decode cX0_init 30 = .ok (.putfield 26, 3) := by decide +kernel
theorem dX0_init_33 : decode cX0_init 33 = .ok (.aload_n 0, 1) := by decide +kernel
theorem dX0_init_34 : decode cX0_init 34 = .ok (.iconst 5, 1) := by decide +kernel
theorem dX0_init_35 : decode cX0_init 35 = .ok (.newarray .int, 2) := by decide +kernel
theorem dX0_init_37 : decode cX0_init 37 = .ok (.putfield 29, 3) := by decide +kernel
theorem dX0_init_40 : decode cX0_init 40 = .ok (.aload_n 0, 1) := by decide +kernel
theorem dX0_init_41 : decode cX0_init 41 = .ok (.bipush 6, 2) := by decide +kernel
theorem dX0_init_43 : decode cX0_init 43 = .ok (.newarray .int, 2) := by decide +kernel
theorem dX0_init_45 : decode cX0_init 45 = .ok (.putfield 32, 3) := by decide +kernel
theorem dX0_init_48 : decode cX0_init 48 = .ok (.aload_n 0, 1) := by decide +kernel
theorem dX0_init_49 : decode cX0_init 49 = .ok (.bipush 25, 2) := by decide +kernel
end
section
theorem dX0_init_51 : decode cX0_init 51 = .ok (.newarray .int, 2) := by decide +kernel
theorem dX0_init_53 : decode cX0_init 53 = .ok (.putfield 35, 3) := by decide +kernel
theorem dX0_init_56 : decode cX0_init 56 = .ok (.aload_n 0, 1) := by decide +kernel
theorem dX0_init_57 : decode cX0_init 57 = .ok (.bipush 25, 2) := by decide +kernel
theorem dX0_init_59 : decode cX0_init 59 = .ok (.newarray .int, 2) := by decide +kernel
theorem dX0_init_61 : decode cX0_init 61 = .ok (.putfield 38, 3) := by decide +kernel
theorem dX0_init_64 : decode cX0_init 64 = .ok (.return_, 1) := by decide +kernel
theorem dX0_chooseSizes_0 : decode cX0_chooseSizes 0 = .ok (.aload_n 0, 1) := by decide +kernel
theorem dX0_chooseSizes_1 : decode cX0_chooseSizes 1 = .ok (.iload_n 1, 1) := by decide +kernel
theorem dX0_chooseSizes_2 : decode cX0_chooseSizes 2 = .ok (.putfield 41, 3) := by decide +kernel
theorem dX0_chooseSizes_5 : decode cX0_chooseSizes 5 = .ok (.aload_n 0, 1) := by decide +kernel
theorem dX0_chooseSizes_6 : decode cX0_chooseSizes 6 = .ok (.iconst 0, 1) := by decide +kernel
theorem dX0_chooseSizes_7 : decode cX0_chooseSizes 7 = .ok (.putfield 45, 3) := by decide +kernel
theorem dX0_chooseSizes_10 : decode cX0_chooseSizes 10 = .ok (.aload_n 0, 1) := by decide +kernel
theorem dX0_chooseSizes_11 : decode cX0_chooseSizes 11 = .ok (.ldc 48, 2) := by decide +kernel
theorem dX0_chooseSizes_13 : decode cX0_chooseSizes 13 = .ok (.putfield 49, 3) := by decide +kernel
theorem dX0_chooseSizes_16 : decode cX0_chooseSizes 16 = .ok (.aload_n 0, 1) := by decide +kernel
theorem dX0_chooseSizes_17 : decode cX0_chooseSizes 17 = .ok (.invokevirtual 52, 3) := by decide +kernel
theorem dX0_chooseSizes_20 : decode cX0_chooseSizes 20 = .ok (.aload_n 0, 1) := by decide +kernel
theorem dX0_chooseSizes_21 : decode cX0_chooseSizes 21 = .ok (.iconst 0, 1) := by decide +kernel
theorem dX0_chooseSizes_22 : decode cX0_chooseSizes 22 = .ok (.iconst 0, 1) := by decide +kernel
theorem dX0_chooseSizes_23 : decode cX0_chooseSizes 23 = .ok (.invokestatic 55, 3) := by decide +kernel
theorem dX0_chooseSizes_26 : decode cX0_chooseSizes 26 = .ok (.aload_n 0, 1) := by decide +kernel
theorem dX0_chooseSizes_27 : decode cX0_chooseSizes 27 = .ok (.getfield 49, 3) := by decide +kernel
theorem dX0_chooseSizes_30 : decode cX0_chooseSizes 30 = .ok (.ldc 48, 2) := by decide +kernel
theorem dX0_chooseSizes_32 : decode cX0_chooseSizes 32 = .ok (.if_icmp .ne 5, 3) := by decide +kernel
theorem dX0_chooseSizes_35 : decode cX0_chooseSizes 35 = .ok (.iconst 0, 1) := by decide +kernel
theorem dX0_chooseSizes_36 : decode cX0_chooseSizes 36 = .ok (.ireturn, 1) := by decide +kernel
theorem dX0_chooseSizes_37 : decode cX0_chooseSizes 37 = .ok (.iconst 0, 1) := by decide +kernel
theorem dX0_chooseSizes_38 : decode cX0_chooseSizes 38 = .ok (.istore_n 2, 1) := by decide +kernel
theorem dX0_chooseSizes_39 : decode cX0_chooseSizes 39 = .ok (.iload_n 2, 1) := by decide +kernel
theorem dX0_chooseSizes_40 : decode cX0_chooseSizes 40 = .ok (.aload_n 0, 1) := by decide +kernel
theorem dX0_chooseSizes_41 : decode cX0_chooseSizes 41 = .ok (.getfield 59, 3) := by decide +kernel
theorem dX0_chooseSizes_44 : decode cX0_chooseSizes 44 = .ok (.if_icmp .ge 28, 3) := by decide +kernel
theorem dX0_chooseSizes_47 : decode cX0_chooseSizes 47 = .ok (.aload_n 0, 1) := by decide +kernel
theorem dX0_chooseSizes_48 : decode cX0_chooseSizes 48 = .ok (.getfield 9, 3) := by decide +kernel
theorem dX0_chooseSizes_51 : decode cX0_chooseSizes 51 = .ok (.aload_n 0, 1) := by decide +kernel
theorem dX0_chooseSizes_52 : decode cX0_chooseSizes 52 = .ok (.getfield 23, 3) := by decide +kernel
theorem dX0_chooseSizes_55 : decode cX0_chooseSizes 55 = .ok (.iload_n 2, 1) := by decide +kernel
theorem dX0_chooseSizes_56 : decode cX0_chooseSizes 56 = .ok (.iaload, 1) := by decide +kernel
theorem dX0_chooseSizes_57 : decode cX0_chooseSizes 57 = .ok (.aload_n 0, 1) := by decide +kernel
theorem dX0_chooseSizes_58 : decode cX0_chooseSizes 58 = .ok (.getfield 29, 3) := by decide +kernel
theorem dX0_chooseSizes_61 : decode cX0_chooseSizes 61 = .ok (.iload_n 2, 1) := by decide +kernel
theorem dX0_chooseSizes_62 : decode cX0_chooseSizes 62 = .ok (.iaload, 1) := by decide +kernel
theorem dX0_chooseSizes_63 : decode cX0_chooseSizes 63 = .ok (.invokevirtual 62, 3) := by decide +kernel
theorem dX0_chooseSizes_66 : decode cX0_chooseSizes 66 = .ok (.iinc 2 1, 3) := by decide +kernel
theorem dX0_chooseSizes_69 : decode cX0_chooseSizes 69 = .ok (.goto (-30), 3) := by decide +kernel
theorem dX0_chooseSizes_72 : decode cX0_chooseSizes 72 = .ok (.iconst 1, 1) := by decide +kernel
theorem dX0_chooseSizes_73 : decode cX0_chooseSizes 73 = .ok (.ireturn, 1) := by decide +kernel
theorem dX0_listFreePipes_0 : decode cX0_listFreePipes 0 = .ok (.aload_n 0, 1) := by decide +kernel
theorem dX0_listFreePipes_1 : decode cX0_listFreePipes 1 = .ok (.getfield 9, 3) := by decide +kernel
theorem dX0_listFreePipes_4 : decode cX0_listFreePipes 4 = .ok (.getfield 68, 3) := by decide +kernel
theorem dX0_listFreePipes_7 : decode cX0_listFreePipes 7 = .ok (.iconst 0, 1) := by decide +kernel
theorem dX0_listFreePipes_8 : decode cX0_listFreePipes 8 = .ok (.aload_n 0, 1) := by decide +kernel
theorem dX0_listFreePipes_9 : decode cX0_listFreePipes 9 = .ok (.getfield 35, 3) := by decide +kernel
theorem dX0_listFreePipes_12 : decode cX0_listFreePipes 12 = .ok (.iconst 0, 1) := by decide +kernel
theorem dX0_listFreePipes_13 : decode cX0_listFreePipes 13 = .ok (.bipush 25, 2) := by decide +kernel
theorem dX0_listFreePipes_15 : decode cX0_listFreePipes 15 = .ok (.invokestatic 71, 3) := by decide +kernel
theorem dX0_listFreePipes_18 : decode cX0_listFreePipes 18 = .ok (.aload_n 0, 1) := by decide +kernel
theorem dX0_listFreePipes_19 : decode cX0_listFreePipes 19 = .ok (.getfield 9, 3) := by decide +kernel
theorem dX0_listFreePipes_22 : decode cX0_listFreePipes 22 = .ok (.getfield 68, 3) := by decide +kernel
theorem dX0_listFreePipes_25 : decode cX0_listFreePipes 25 = .ok (.iconst 0, 1) := by decide +kernel
theorem dX0_listFreePipes_26 : decode cX0_listFreePipes 26 = .ok (.aload_n 0, 1) := by decide +kernel
theorem dX0_listFreePipes_27 : decode cX0_listFreePipes 27 = .ok (.getfield 38, 3) := by decide +kernel
theorem dX0_listFreePipes_30 : decode cX0_listFreePipes 30 = .ok (.iconst 0, 1) := by decide +kernel
theorem dX0_listFreePipes_31 : decode cX0_listFreePipes 31 = .ok (.bipush 25, 2) := by decide +kernel
theorem dX0_listFreePipes_33 : decode cX0_listFreePipes 33 = .ok (.invokestatic 71, 3) := by decide +kernel
theorem dX0_listFreePipes_36 : decode cX0_listFreePipes 36 = .ok (.aload_n 0, 1) := by decide +kernel
theorem dX0_listFreePipes_37 : decode cX0_listFreePipes 37 = .ok (.iconst 0, 1) := by decide +kernel
theorem dX0_listFreePipes_38 : decode cX0_listFreePipes 38 = .ok (.putfield 59, 3) := by decide +kernel
theorem dX0_listFreePipes_41 : decode cX0_listFreePipes 41 = .ok (.iconst 0, 1) := by decide +kernel
theorem dX0_listFreePipes_42 : decode cX0_listFreePipes 42 = .ok (.istore_n 1, 1) := by decide +kernel
theorem dX0_listFreePipes_43 : decode cX0_listFreePipes 43 = .ok (.iload_n 1, 1) := by decide +kernel
theorem dX0_listFreePipes_44 : decode cX0_listFreePipes 44 = .ok (.aload_n 0, 1) := by decide +kernel
theorem dX0_listFreePipes_45 : decode cX0_listFreePipes 45 = .ok (.getfield 9, 3) := by decide +kernel
theorem dX0_listFreePipes_48 : decode cX0_listFreePipes 48 = .ok (.getfield 77, 3) := by decide +kernel
theorem dX0_listFreePipes_51 : decode cX0_listFreePipes 51 = .ok (.if_icmp .ge 60, 3) := by decide +kernel
theorem dX0_listFreePipes_54 : decode cX0_listFreePipes 54 = .ok (.aload_n 0, 1) := by decide +kernel
theorem dX0_listFreePipes_55 : decode cX0_listFreePipes 55 = .ok (.getfield 59, 3) := by decide +kernel
theorem dX0_listFreePipes_58 : decode cX0_listFreePipes 58 = .ok (.iconst 5, 1) := by decide +kernel
theorem dX0_listFreePipes_59 : decode cX0_listFreePipes 59 = .ok (.if_icmp .ge 52, 3) := by decide +kernel
theorem dX0_listFreePipes_62 : decode cX0_listFreePipes 62 = .ok (.aload_n 0, 1) := by decide +kernel
theorem dX0_listFreePipes_63 : decode cX0_listFreePipes 63 = .ok (.getfield 9, 3) := by decide +kernel
theorem dX0_listFreePipes_66 : decode cX0_listFreePipes 66 = .ok (.getfield 79, 3) := by decide +kernel
theorem dX0_listFreePipes_69 : decode cX0_listFreePipes 69 = .ok (.iload_n 1, 1) := by decide +kernel
theorem dX0_listFreePipes_70 : decode cX0_listFreePipes 70 = .ok (.invokestatic 82, 3) := by decide +kernel
theorem dX0_listFreePipes_73 : decode cX0_listFreePipes 73 = .ok (.iconst 1, 1) := by decide +kernel
theorem dX0_listFreePipes_74 : decode cX0_listFreePipes 74 = .ok (.if_icmp .ne 31, 3) := by decide +kernel
theorem dX0_listFreePipes_77 : decode cX0_listFreePipes 77 = .ok (.aload_n 0, 1) := by decide +kernel
theorem dX0_listFreePipes_78 : decode cX0_listFreePipes 78 = .ok (.getfield 23, 3) := by decide +kernel
theorem dX0_listFreePipes_81 : decode cX0_listFreePipes 81 = .ok (.aload_n 0, 1) := by decide +kernel
theorem dX0_listFreePipes_82 : decode cX0_listFreePipes 82 = .ok (.getfield 59, 3) := by decide +kernel
theorem dX0_listFreePipes_85 : decode cX0_listFreePipes 85 = .ok (.iload_n 1, 1) := by decide +kernel
theorem dX0_listFreePipes_86 : decode cX0_listFreePipes 86 = .ok (.iastore, 1) := by decide +kernel
theorem dX0_listFreePipes_87 : decode cX0_listFreePipes 87 = .ok (.aload_n 0, 1) := by decide +kernel
theorem dX0_listFreePipes_88 : decode cX0_listFreePipes 88 = .ok (.aload_n 0, 1) := by decide +kernel
theorem dX0_listFreePipes_89 : decode cX0_listFreePipes 89 = .ok (.getfield 59, 3) := by decide +kernel
theorem dX0_listFreePipes_92 : decode cX0_listFreePipes 92 = .ok (.invokevirtual 86, 3) := by decide +kernel
theorem dX0_listFreePipes_95 : decode cX0_listFreePipes 95 = .ok (.aload_n 0, 1) := by decide +kernel
theorem dX0_listFreePipes_96 : decode cX0_listFreePipes 96 = .ok (.dup, 1) := by decide +kernel
theorem dX0_listFreePipes_97 : decode cX0_listFreePipes 97 = .ok (.getfield 59, 3) := by decide +kernel
theorem dX0_listFreePipes_100 : decode cX0_listFreePipes 100 = .ok (.iconst 1, 1) := by decide +kernel
theorem dX0_listFreePipes_101 : decode cX0_listFreePipes 101 = .ok (.iadd, 1) := by decide +kernel
theorem dX0_listFreePipes_102 : decode cX0_listFreePipes 102 = .ok (.putfield 59, 3) := by decide +kernel
theorem dX0_listFreePipes_105 : decode cX0_listFreePipes 105 = .ok (.iinc 1 1, 3) := by decide +kernel
theorem dX0_listFreePipes_108 : decode cX0_listFreePipes 108 = .ok (.goto (-65), 3) := by decide +kernel
theorem dX0_listFreePipes_111 : decode cX0_listFreePipes 111 = .ok (.aload_n 0, 1) := by decide +kernel
theorem dX0_listFreePipes_112 : decode cX0_listFreePipes 112 = .ok (.getfield 32, 3) := by decide +kernel
theorem dX0_listFreePipes_115 : decode cX0_listFreePipes 115 = .ok (.aload_n 0, 1) := by decide +kernel
theorem dX0_listFreePipes_116 : decode cX0_listFreePipes 116 = .ok (.getfield 59, 3) := by decide +kernel
theorem dX0_listFreePipes_119 : decode cX0_listFreePipes 119 = .ok (.iconst 0, 1) := by decide +kernel
theorem dX0_listFreePipes_120 : decode cX0_listFreePipes 120 = .ok (.iastore, 1) := by decide +kernel
theorem dX0_listFreePipes_121 : decode cX0_listFreePipes 121 = .ok (.aload_n 0, 1) := by decide +kernel
theorem dX0_listFreePipes_122 : decode cX0_listFreePipes 122 = .ok (.getfield 59, 3) := by decide +kernel
theorem dX0_listFreePipes_125 : decode cX0_listFreePipes 125 = .ok (.iconst 1, 1) := by decide +kernel
theorem dX0_listFreePipes_126 : decode cX0_listFreePipes 126 = .ok (.isub, 1) := by decide +kernel
theorem dX0_listFreePipes_127 : decode cX0_listFreePipes 127 = .ok (.istore_n 1, 1) := by decide +kernel
theorem dX0_listFreePipes_128 : decode cX0_listFreePipes 128 = .ok (.iload_n 1, 1) := by decide +kernel
theorem dX0_listFreePipes_129 : decode cX0_listFreePipes 129 = .ok (.ifCond .lt 34, 3) := by decide +kernel
theorem dX0_listFreePipes_132 : decode cX0_listFreePipes 132 = .ok (.aload_n 0, 1) := by decide +kernel
theorem dX0_listFreePipes_133 : decode cX0_listFreePipes 133 = .ok (.getfield 32, 3) := by decide +kernel
theorem dX0_listFreePipes_136 : decode cX0_listFreePipes 136 = .ok (.iload_n 1, 1) := by decide +kernel
theorem dX0_listFreePipes_137 : decode cX0_listFreePipes 137 = .ok (.aload_n 0, 1) := by decide +kernel
theorem dX0_listFreePipes_138 : decode cX0_listFreePipes 138 = .ok (.getfield 32, 3) := by decide +kernel
theorem dX0_listFreePipes_141 : decode cX0_listFreePipes 141 = .ok (.iload_n 1, 1) := by decide +kernel
theorem dX0_listFreePipes_142 : decode cX0_listFreePipes 142 = .ok (.iconst 1, 1) := by decide +kernel
theorem dX0_listFreePipes_143 : decode cX0_listFreePipes 143 = .ok (.iadd, 1) := by decide +kernel
theorem dX0_listFreePipes_144 : decode cX0_listFreePipes 144 = .ok (.iaload, 1) := by decide +kernel
theorem dX0_listFreePipes_145 : decode cX0_listFreePipes 145 = .ok (.aload_n 0, 1) := by decide +kernel
theorem dX0_listFreePipes_146 : decode cX0_listFreePipes 146 = .ok (.aload_n 0, 1) := by decide +kernel
theorem dX0_listFreePipes_147 : decode cX0_listFreePipes 147 = .ok (.getfield 23, 3) := by decide +kernel
theorem dX0_listFreePipes_150 : decode cX0_listFreePipes 150 = .ok (.iload_n 1, 1) := by decide +kernel
theorem dX0_listFreePipes_151 : decode cX0_listFreePipes 151 = .ok (.iaload, 1) := by decide +kernel
theorem dX0_listFreePipes_152 : decode cX0_listFreePipes 152 = .ok (.invokevirtual 90, 3) := by decide +kernel
theorem dX0_listFreePipes_155 : decode cX0_listFreePipes 155 = .ok (.iadd, 1) := by decide +kernel
theorem dX0_listFreePipes_156 : decode cX0_listFreePipes 156 = .ok (.iastore, 1) := by decide +kernel
theorem dX0_listFreePipes_157 : decode cX0_listFreePipes 157 = .ok (.iinc 1 (-1), 3) := by decide +kernel
theorem dX0_listFreePipes_160 : decode cX0_listFreePipes 160 = .ok (.goto (-32), 3) := by decide +kernel
theorem dX0_listFreePipes_163 : decode cX0_listFreePipes 163 = .ok (.return_, 1) := by decide +kernel
theorem dX0_leastPrice_0 : decode cX0_leastPrice 0 = .ok (.ldc 48, 2) := by decide +kernel
theorem dX0_leastPrice_2 : decode cX0_leastPrice 2 = .ok (.istore_n 2, 1) := by decide +kernel
theorem dX0_leastPrice_3 : decode cX0_leastPrice 3 = .ok (.iconst 0, 1) := by decide +kernel
theorem dX0_leastPrice_4 : decode cX0_leastPrice 4 = .ok (.istore_n 3, 1) := by decide +kernel
theorem dX0_leastPrice_5 : decode cX0_leastPrice 5 = .ok (.iload_n 3, 1) := by decide +kernel
theorem dX0_leastPrice_6 : decode cX0_leastPrice 6 = .ok (.aload_n 0, 1) := by decide +kernel
theorem dX0_leastPrice_7 : decode cX0_leastPrice 7 = .ok (.getfield 9, 3) := by decide +kernel
theorem dX0_leastPrice_10 : decode cX0_leastPrice 10 = .ok (.getfield 94, 3) := by decide +kernel
theorem dX0_leastPrice_13 : decode cX0_leastPrice 13 = .ok (.if_icmp .ge 23, 3) := by decide +kernel
theorem dX0_leastPrice_16 : decode cX0_leastPrice 16 = .ok (.iload_n 2, 1) := by decide +kernel
theorem dX0_leastPrice_17 : decode cX0_leastPrice 17 = .ok (.aload_n 0, 1) := by decide +kernel
theorem dX0_leastPrice_18 : decode cX0_leastPrice 18 = .ok (.getfield 9, 3) := by decide +kernel
theorem dX0_leastPrice_21 : decode cX0_leastPrice 21 = .ok (.iload_n 1, 1) := by decide +kernel
theorem dX0_leastPrice_22 : decode cX0_leastPrice 22 = .ok (.iload_n 3, 1) := by decide +kernel
theorem dX0_leastPrice_23 : decode cX0_leastPrice 23 = .ok (.invokevirtual 97, 3) := by decide +kernel
theorem dX0_leastPrice_26 : decode cX0_leastPrice 26 = .ok (.invokestatic 100, 3) := by decide +kernel
theorem dX0_leastPrice_29 : decode cX0_leastPrice 29 = .ok (.istore_n 2, 1) := by decide +kernel
theorem dX0_leastPrice_30 : decode cX0_leastPrice 30 = .ok (.iinc 3 1, 3) := by decide +kernel
theorem dX0_leastPrice_33 : decode cX0_leastPrice 33 = .ok (.goto (-28), 3) := by decide +kernel
theorem dX0_leastPrice_36 : decode cX0_leastPrice 36 = .ok (.iload_n 2, 1) := by decide +kernel
theorem dX0_leastPrice_37 : decode cX0_leastPrice 37 = .ok (.ireturn, 1) := by decide +kernel
theorem dX0_search_0 : decode cX0_search 0 = .ok (.iload_n 1, 1) := by decide +kernel
theorem dX0_search_1 : decode cX0_search 1 = .ok (.aload_n 0, 1) := by decide +kernel
theorem dX0_search_2 : decode cX0_search 2 = .ok (.getfield 59, 3) := by decide +kernel
theorem dX0_search_5 : decode cX0_search 5 = .ok (.if_icmp .gt 18, 3) := by decide +kernel
theorem dX0_search_8 : decode cX0_search 8 = .ok (.iload_n 2, 1) := by decide +kernel
theorem dX0_search_9 : decode cX0_search 9 = .ok (.aload_n 0, 1) := by decide +kernel
theorem dX0_search_10 : decode cX0_search 10 = .ok (.getfield 32, 3) := by decide +kernel
theorem dX0_search_13 : decode cX0_search 13 = .ok (.iload_n 1, 1) := by decide +kernel
theorem dX0_search_14 : decode cX0_search 14 = .ok (.iaload, 1) := by decide +kernel
theorem dX0_search_15 : decode cX0_search 15 = .ok (.iadd, 1) := by decide +kernel
theorem dX0_search_16 : decode cX0_search 16 = .ok (.aload_n 0, 1) := by decide +kernel
theorem dX0_search_17 : decode cX0_search 17 = .ok (.getfield 49, 3) := by decide +kernel
theorem dX0_search_20 : decode cX0_search 20 = .ok (.if_icmp .lt 4, 3) := by decide +kernel
theorem dX0_search_23 : decode cX0_search 23 = .ok (.return_, 1) := by decide +kernel
theorem dX0_search_24 : decode cX0_search 24 = .ok (.iload_n 1, 1) := by decide +kernel
theorem dX0_search_25 : decode cX0_search 25 = .ok (.aload_n 0, 1) := by decide +kernel
theorem dX0_search_26 : decode cX0_search 26 = .ok (.getfield 59, 3) := by decide +kernel
theorem dX0_search_29 : decode cX0_search 29 = .ok (.if_icmp .ne 31, 3) := by decide +kernel
theorem dX0_search_32 : decode cX0_search 32 = .ok (.aload_n 0, 1) := by decide +kernel
theorem dX0_search_33 : decode cX0_search 33 = .ok (.iconst 1, 1) := by decide +kernel
theorem dX0_search_34 : decode cX0_search 34 = .ok (.invokevirtual 105, 3) := by decide +kernel
theorem dX0_search_37 : decode cX0_search 37 = .ok (.ifCond .eq 22, 3) := by decide +kernel
theorem dX0_search_40 : decode cX0_search 40 = .ok (.aload_n 0, 1) := by decide +kernel
theorem dX0_search_41 : decode cX0_search 41 = .ok (.iload_n 2, 1) := by decide +kernel
theorem dX0_search_42 : decode cX0_search 42 = .ok (.putfield 49, 3) := by decide +kernel
theorem dX0_search_45 : decode cX0_search 45 = .ok (.aload_n 0, 1) := by decide +kernel
theorem dX0_search_46 : decode cX0_search 46 = .ok (.getfield 26, 3) := by decide +kernel
theorem dX0_search_49 : decode cX0_search 49 = .ok (.iconst 0, 1) := by decide +kernel
theorem dX0_search_50 : decode cX0_search 50 = .ok (.aload_n 0, 1) := by decide +kernel
theorem dX0_search_51 : decode cX0_search 51 = .ok (.getfield 29, 3) := by decide +kernel
theorem dX0_search_54 : decode cX0_search 54 = .ok (.iconst 0, 1) := by decide +kernel
theorem dX0_search_55 : decode cX0_search 55 = .ok (.iconst 5, 1) := by decide +kernel
theorem dX0_search_56 : decode cX0_search 56 = .ok (.invokestatic 71, 3) := by decide +kernel
theorem dX0_search_59 : decode cX0_search 59 = .ok (.return_, 1) := by decide +kernel
theorem dX0_search_60 : decode cX0_search 60 = .ok (.iload_n 1, 1) := by decide +kernel
theorem dX0_search_61 : decode cX0_search 61 = .ok (.aload_n 0, 1) := by decide +kernel
theorem dX0_search_62 : decode cX0_search 62 = .ok (.getfield 59, 3) := by decide +kernel
theorem dX0_search_65 : decode cX0_search 65 = .ok (.iconst 1, 1) := by decide +kernel
theorem dX0_search_66 : decode cX0_search 66 = .ok (.isub, 1) := by decide +kernel
theorem dX0_search_67 : decode cX0_search 67 = .ok (.if_icmp .ge 12, 3) := by decide +kernel
theorem dX0_search_70 : decode cX0_search 70 = .ok (.aload_n 0, 1) := by decide +kernel
theorem dX0_search_71 : decode cX0_search 71 = .ok (.iconst 0, 1) := by decide +kernel
theorem dX0_search_72 : decode cX0_search 72 = .ok (.invokevirtual 105, 3) := by decide +kernel
theorem dX0_search_75 : decode cX0_search 75 = .ok (.ifCond .ne 4, 3) := by decide +kernel
theorem dX0_search_78 : decode cX0_search 78 = .ok (.return_, 1) := by decide +kernel
theorem dX0_search_79 : decode cX0_search 79 = .ok (.iconst 0, 1) := by decide +kernel
theorem dX0_search_80 : decode cX0_search 80 = .ok (.istore_n 3, 1) := by decide +kernel
theorem dX0_search_81 : decode cX0_search 81 = .ok (.iload_n 3, 1) := by decide +kernel
theorem dX0_search_82 : decode cX0_search 82 = .ok (.aload_n 0, 1) := by decide +kernel
theorem dX0_search_83 : decode cX0_search 83 = .ok (.getfield 9, 3) := by decide +kernel
theorem dX0_search_86 : decode cX0_search 86 = .ok (.getfield 94, 3) := by decide +kernel
theorem dX0_search_89 : decode cX0_search 89 = .ok (.if_icmp .ge 38, 3) := by decide +kernel
theorem dX0_search_92 : decode cX0_search 92 = .ok (.aload_n 0, 1) := by decide +kernel
theorem dX0_search_93 : decode cX0_search 93 = .ok (.iload_n 1, 1) := by decide +kernel
theorem dX0_search_94 : decode cX0_search 94 = .ok (.iload_n 3, 1) := by decide +kernel
theorem dX0_search_95 : decode cX0_search 95 = .ok (.invokevirtual 109, 3) := by decide +kernel
theorem dX0_search_98 : decode cX0_search 98 = .ok (.aload_n 0, 1) := by decide +kernel
theorem dX0_search_99 : decode cX0_search 99 = .ok (.iload_n 1, 1) := by decide +kernel
theorem dX0_search_100 : decode cX0_search 100 = .ok (.iconst 1, 1) := by decide +kernel
theorem dX0_search_101 : decode cX0_search 101 = .ok (.iadd, 1) := by decide +kernel
theorem dX0_search_102 : decode cX0_search 102 = .ok (.iload_n 2, 1) := by decide +kernel
theorem dX0_search_103 : decode cX0_search 103 = .ok (.aload_n 0, 1) := by decide +kernel
theorem dX0_search_104 : decode cX0_search 104 = .ok (.getfield 9, 3) := by decide +kernel
theorem dX0_search_107 : decode cX0_search 107 = .ok (.aload_n 0, 1) := by decide +kernel
theorem dX0_search_108 : decode cX0_search 108 = .ok (.getfield 23, 3) := by decide +kernel
theorem dX0_search_111 : decode cX0_search 111 = .ok (.iload_n 1, 1) := by decide +kernel
theorem dX0_search_112 : decode cX0_search 112 = .ok (.iaload, 1) := by decide +kernel
theorem dX0_search_113 : decode cX0_search 113 = .ok (.iload_n 3, 1) := by decide +kernel
theorem dX0_search_114 : decode cX0_search 114 = .ok (.invokevirtual 97, 3) := by decide +kernel
theorem dX0_search_117 : decode cX0_search 117 = .ok (.iadd, 1) := by decide +kernel
theorem dX0_search_118 : decode cX0_search 118 = .ok (.invokestatic 55, 3) := by decide +kernel
theorem dX0_search_121 : decode cX0_search 121 = .ok (.iinc 3 1, 3) := by decide +kernel
theorem dX0_search_124 : decode cX0_search 124 = .ok (.goto (-43), 3) := by decide +kernel
theorem dX0_search_127 : decode cX0_search 127 = .ok (.aload_n 0, 1) := by decide +kernel
theorem dX0_search_128 : decode cX0_search 128 = .ok (.iload_n 1, 1) := by decide +kernel
theorem dX0_search_129 : decode cX0_search 129 = .ok (.invokevirtual 86, 3) := by decide +kernel
theorem dX0_search_132 : decode cX0_search 132 = .ok (.return_, 1) := by decide +kernel
theorem dX0_fix_0 : decode cX0_fix 0 = .ok (.aload_n 0, 1) := by decide +kernel
theorem dX0_fix_1 : decode cX0_fix 1 = .ok (.getfield 9, 3) := by decide +kernel
theorem dX0_fix_4 : decode cX0_fix 4 = .ok (.aload_n 0, 1) := by decide +kernel
theorem dX0_fix_5 : decode cX0_fix 5 = .ok (.getfield 23, 3) := by decide +kernel
theorem dX0_fix_8 : decode cX0_fix 8 = .ok (.iload_n 1, 1) := by decide +kernel
theorem dX0_fix_9 : decode cX0_fix 9 = .ok (.iaload, 1) := by decide +kernel
theorem dX0_fix_10 : decode cX0_fix 10 = .ok (.iload_n 2, 1) := by decide +kernel
theorem dX0_fix_11 : decode cX0_fix 11 = .ok (.invokevirtual 112, 3) := by decide +kernel
theorem dX0_fix_14 : decode cX0_fix 14 = .ok (.istore_n 3, 1) := by decide +kernel
theorem dX0_fix_15 : decode cX0_fix 15 = .ok (.aload_n 0, 1) := by decide +kernel
theorem dX0_fix_16 : decode cX0_fix 16 = .ok (.getfield 26, 3) := by decide +kernel
theorem dX0_fix_19 : decode cX0_fix 19 = .ok (.iload_n 1, 1) := by decide +kernel
theorem dX0_fix_20 : decode cX0_fix 20 = .ok (.iload_n 2, 1) := by decide +kernel
theorem dX0_fix_21 : decode cX0_fix 21 = .ok (.iastore, 1) := by decide +kernel
theorem dX0_fix_22 : decode cX0_fix 22 = .ok (.aload_n 0, 1) := by decide +kernel
theorem dX0_fix_23 : decode cX0_fix 23 = .ok (.getfield 35, 3) := by decide +kernel
theorem dX0_fix_26 : decode cX0_fix 26 = .ok (.aload_n 0, 1) := by decide +kernel
theorem dX0_fix_27 : decode cX0_fix 27 = .ok (.getfield 23, 3) := by decide +kernel
theorem dX0_fix_30 : decode cX0_fix 30 = .ok (.iload_n 1, 1) := by decide +kernel
theorem dX0_fix_31 : decode cX0_fix 31 = .ok (.iaload, 1) := by decide +kernel
theorem dX0_fix_32 : decode cX0_fix 32 = .ok (.iconst 1, 1) := by decide +kernel
theorem dX0_fix_33 : decode cX0_fix 33 = .ok (.iadd, 1) := by decide +kernel
theorem dX0_fix_34 : decode cX0_fix 34 = .ok (.iload_n 3, 1) := by decide +kernel
theorem dX0_fix_35 : decode cX0_fix 35 = .ok (.iastore, 1) := by decide +kernel
theorem dX0_fix_36 : decode cX0_fix 36 = .ok (.aload_n 0, 1) := by decide +kernel
theorem dX0_fix_37 : decode cX0_fix 37 = .ok (.getfield 38, 3) := by decide +kernel
theorem dX0_fix_40 : decode cX0_fix 40 = .ok (.aload_n 0, 1) := by decide +kernel
theorem dX0_fix_41 : decode cX0_fix 41 = .ok (.getfield 23, 3) := by decide +kernel
theorem dX0_fix_44 : decode cX0_fix 44 = .ok (.iload_n 1, 1) := by decide +kernel
theorem dX0_fix_45 : decode cX0_fix 45 = .ok (.iaload, 1) := by decide +kernel
theorem dX0_fix_46 : decode cX0_fix 46 = .ok (.iconst 1, 1) := by decide +kernel
theorem dX0_fix_47 : decode cX0_fix 47 = .ok (.iadd, 1) := by decide +kernel
theorem dX0_fix_48 : decode cX0_fix 48 = .ok (.iload_n 3, 1) := by decide +kernel
theorem dX0_fix_49 : decode cX0_fix 49 = .ok (.iastore, 1) := by decide +kernel
theorem dX0_fix_50 : decode cX0_fix 50 = .ok (.return_, 1) := by decide +kernel
theorem dX0_widen_0 : decode cX0_widen 0 = .ok (.ldc 48, 2) := by decide +kernel
theorem dX0_widen_2 : decode cX0_widen 2 = .ok (.istore_n 2, 1) := by decide +kernel
theorem dX0_widen_3 : decode cX0_widen 3 = .ok (.iconst 0, 1) := by decide +kernel
theorem dX0_widen_4 : decode cX0_widen 4 = .ok (.istore_n 3, 1) := by decide +kernel
theorem dX0_widen_5 : decode cX0_widen 5 = .ok (.iconst 0, 1) := by decide +kernel
theorem dX0_widen_6 : decode cX0_widen 6 = .ok (.istore 4, 2) := by decide +kernel
theorem dX0_widen_8 : decode cX0_widen 8 = .ok (.iload 4, 2) := by decide +kernel
theorem dX0_widen_10 : decode cX0_widen 10 = .ok (.aload_n 0, 1) := by decide +kernel
theorem dX0_widen_11 : decode cX0_widen 11 = .ok (.getfield 9, 3) := by decide +kernel
theorem dX0_widen_14 : decode cX0_widen 14 = .ok (.getfield 94, 3) := by decide +kernel
theorem dX0_widen_17 : decode cX0_widen 17 = .ok (.if_icmp .ge 40, 3) := by decide +kernel
theorem dX0_widen_20 : decode cX0_widen 20 = .ok (.aload_n 0, 1) := by decide +kernel
theorem dX0_widen_21 : decode cX0_widen 21 = .ok (.getfield 9, 3) := by decide +kernel
theorem dX0_widen_24 : decode cX0_widen 24 = .ok (.aload_n 0, 1) := by decide +kernel
theorem dX0_widen_25 : decode cX0_widen 25 = .ok (.getfield 23, 3) := by decide +kernel
theorem dX0_widen_28 : decode cX0_widen 28 = .ok (.iload_n 1, 1) := by decide +kernel
theorem dX0_widen_29 : decode cX0_widen 29 = .ok (.iaload, 1) := by decide +kernel
theorem dX0_widen_30 : decode cX0_widen 30 = .ok (.iload 4, 2) := by decide +kernel
theorem dX0_widen_32 : decode cX0_widen 32 = .ok (.invokevirtual 112, 3) := by decide +kernel
theorem dX0_widen_35 : decode cX0_widen 35 = .ok (.istore 5, 2) := by decide +kernel
theorem dX0_widen_37 : decode cX0_widen 37 = .ok (.iload_n 2, 1) := by decide +kernel
theorem dX0_widen_38 : decode cX0_widen 38 = .ok (.iload 5, 2) := by decide +kernel
theorem dX0_widen_40 : decode cX0_widen 40 = .ok (.invokestatic 100, 3) := by decide +kernel
theorem dX0_widen_43 : decode cX0_widen 43 = .ok (.istore_n 2, 1) := by decide +kernel
theorem dX0_widen_44 : decode cX0_widen 44 = .ok (.iload_n 3, 1) := by decide +kernel
theorem dX0_widen_45 : decode cX0_widen 45 = .ok (.iload 5, 2) := by decide +kernel
theorem dX0_widen_47 : decode cX0_widen 47 = .ok (.invokestatic 115, 3) := by decide +kernel
theorem dX0_widen_50 : decode cX0_widen 50 = .ok (.istore_n 3, 1) := by decide +kernel
theorem dX0_widen_51 : decode cX0_widen 51 = .ok (.iinc 4 1, 3) := by decide +kernel
theorem dX0_widen_54 : decode cX0_widen 54 = .ok (.goto (-46), 3) := by decide +kernel
theorem dX0_widen_57 : decode cX0_widen 57 = .ok (.aload_n 0, 1) := by decide +kernel
theorem dX0_widen_58 : decode cX0_widen 58 = .ok (.getfield 35, 3) := by decide +kernel
theorem dX0_widen_61 : decode cX0_widen 61 = .ok (.aload_n 0, 1) := by decide +kernel
theorem dX0_widen_62 : decode cX0_widen 62 = .ok (.getfield 23, 3) := by decide +kernel
theorem dX0_widen_65 : decode cX0_widen 65 = .ok (.iload_n 1, 1) := by decide +kernel
theorem dX0_widen_66 : decode cX0_widen 66 = .ok (.iaload, 1) := by decide +kernel
theorem dX0_widen_67 : decode cX0_widen 67 = .ok (.iconst 1, 1) := by decide +kernel
theorem dX0_widen_68 : decode cX0_widen 68 = .ok (.iadd, 1) := by decide +kernel
theorem dX0_widen_69 : decode cX0_widen 69 = .ok (.iload_n 2, 1) := by decide +kernel
theorem dX0_widen_70 : decode cX0_widen 70 = .ok (.iastore, 1) := by decide +kernel
theorem dX0_widen_71 : decode cX0_widen 71 = .ok (.aload_n 0, 1) := by decide +kernel
theorem dX0_widen_72 : decode cX0_widen 72 = .ok (.getfield 38, 3) := by decide +kernel
theorem dX0_widen_75 : decode cX0_widen 75 = .ok (.aload_n 0, 1) := by decide +kernel
theorem dX0_widen_76 : decode cX0_widen 76 = .ok (.getfield 23, 3) := by decide +kernel
theorem dX0_widen_79 : decode cX0_widen 79 = .ok (.iload_n 1, 1) := by decide +kernel
theorem dX0_widen_80 : decode cX0_widen 80 = .ok (.iaload, 1) := by decide +kernel
theorem dX0_widen_81 : decode cX0_widen 81 = .ok (.iconst 1, 1) := by decide +kernel
theorem dX0_widen_82 : decode cX0_widen 82 = .ok (.iadd, 1) := by decide +kernel
theorem dX0_widen_83 : decode cX0_widen 83 = .ok (.iload_n 3, 1) := by decide +kernel
theorem dX0_widen_84 : decode cX0_widen 84 = .ok (.iastore, 1) := by decide +kernel
theorem dX0_widen_85 : decode cX0_widen 85 = .ok (.return_, 1) := by decide +kernel
theorem dX0_areAllMet_0 : decode cX0_areAllMet 0 = .ok (.aload_n 0, 1) := by decide +kernel
theorem dX0_areAllMet_1 : decode cX0_areAllMet 1 = .ok (.getfield 45, 3) := by decide +kernel
theorem dX0_areAllMet_4 : decode cX0_areAllMet 4 = .ok (.istore_n 2, 1) := by decide +kernel
theorem dX0_areAllMet_5 : decode cX0_areAllMet 5 = .ok (.iconst 0, 1) := by decide +kernel
theorem dX0_areAllMet_6 : decode cX0_areAllMet 6 = .ok (.istore_n 3, 1) := by decide +kernel
theorem dX0_areAllMet_7 : decode cX0_areAllMet 7 = .ok (.iload_n 3, 1) := by decide +kernel
theorem dX0_areAllMet_8 : decode cX0_areAllMet 8 = .ok (.aload_n 0, 1) := by decide +kernel
theorem dX0_areAllMet_9 : decode cX0_areAllMet 9 = .ok (.getfield 41, 3) := by decide +kernel
theorem dX0_areAllMet_12 : decode cX0_areAllMet 12 = .ok (.if_icmp .ge 84, 3) := by decide +kernel
theorem dX0_areAllMet_15 : decode cX0_areAllMet 15 = .ok (.iload_n 2, 1) := by decide +kernel
theorem dX0_areAllMet_16 : decode cX0_areAllMet 16 = .ok (.aload_n 0, 1) := by decide +kernel
theorem dX0_areAllMet_17 : decode cX0_areAllMet 17 = .ok (.getfield 41, 3) := by decide +kernel
theorem dX0_areAllMet_20 : decode cX0_areAllMet 20 = .ok (.if_icmp .lt 5, 3) := by decide +kernel
theorem dX0_areAllMet_23 : decode cX0_areAllMet 23 = .ok (.iconst 0, 1) := by decide +kernel
theorem dX0_areAllMet_24 : decode cX0_areAllMet 24 = .ok (.istore_n 2, 1) := by decide +kernel
theorem dX0_areAllMet_25 : decode cX0_areAllMet 25 = .ok (.aload_n 0, 1) := by decide +kernel
theorem dX0_areAllMet_26 : decode cX0_areAllMet 26 = .ok (.getfield 15, 3) := by decide +kernel
theorem dX0_areAllMet_29 : decode cX0_areAllMet 29 = .ok (.iload_n 1, 1) := by decide +kernel
theorem dX0_areAllMet_30 : decode cX0_areAllMet 30 = .ok (.aload_n 0, 1) := by decide +kernel
theorem dX0_areAllMet_31 : decode cX0_areAllMet 31 = .ok (.getfield 38, 3) := by decide +kernel
theorem dX0_areAllMet_34 : decode cX0_areAllMet 34 = .ok (.aload_n 0, 1) := by decide +kernel
theorem dX0_areAllMet_35 : decode cX0_areAllMet 35 = .ok (.getfield 19, 3) := by decide +kernel
theorem dX0_areAllMet_38 : decode cX0_areAllMet 38 = .ok (.iload_n 2, 1) := by decide +kernel
theorem dX0_areAllMet_39 : decode cX0_areAllMet 39 = .ok (.iaload, 1) := by decide +kernel
theorem dX0_areAllMet_40 : decode cX0_areAllMet 40 = .ok (.invokevirtual 118, 3) := by decide +kernel
theorem dX0_areAllMet_43 : decode cX0_areAllMet 43 = .ok (.aload_n 0, 1) := by decide +kernel
theorem dX0_areAllMet_44 : decode cX0_areAllMet 44 = .ok (.getfield 15, 3) := by decide +kernel
theorem dX0_areAllMet_47 : decode cX0_areAllMet 47 = .ok (.iconst 0, 1) := by decide +kernel
theorem dX0_areAllMet_48 : decode cX0_areAllMet 48 = .ok (.aload_n 0, 1) := by decide +kernel
theorem dX0_areAllMet_49 : decode cX0_areAllMet 49 = .ok (.getfield 35, 3) := by decide +kernel
theorem dX0_areAllMet_52 : decode cX0_areAllMet 52 = .ok (.aload_n 0, 1) := by decide +kernel
theorem dX0_areAllMet_53 : decode cX0_areAllMet 53 = .ok (.getfield 9, 3) := by decide +kernel
theorem dX0_areAllMet_56 : decode cX0_areAllMet 56 = .ok (.getfield 124, 3) := by decide +kernel
theorem dX0_areAllMet_59 : decode cX0_areAllMet 59 = .ok (.invokevirtual 127, 3) := by decide +kernel
theorem dX0_areAllMet_62 : decode cX0_areAllMet 62 = .ok (.aload_n 0, 1) := by decide +kernel
theorem dX0_areAllMet_63 : decode cX0_areAllMet 63 = .ok (.getfield 15, 3) := by decide +kernel
theorem dX0_areAllMet_66 : decode cX0_areAllMet 66 = .ok (.aload_n 0, 1) := by decide +kernel
theorem dX0_areAllMet_67 : decode cX0_areAllMet 67 = .ok (.getfield 19, 3) := by decide +kernel
theorem dX0_areAllMet_70 : decode cX0_areAllMet 70 = .ok (.iload_n 2, 1) := by decide +kernel
theorem dX0_areAllMet_71 : decode cX0_areAllMet 71 = .ok (.iaload, 1) := by decide +kernel
theorem dX0_areAllMet_72 : decode cX0_areAllMet 72 = .ok (.invokevirtual 130, 3) := by decide +kernel
theorem dX0_areAllMet_75 : decode cX0_areAllMet 75 = .ok (.lconst 0, 1) := by decide +kernel
theorem dX0_areAllMet_76 : decode cX0_areAllMet 76 = .ok (.lcmp, 1) := by decide +kernel
theorem dX0_areAllMet_77 : decode cX0_areAllMet 77 = .ok (.ifCond .ge 10, 3) := by decide +kernel
theorem dX0_areAllMet_80 : decode cX0_areAllMet 80 = .ok (.aload_n 0, 1) := by decide +kernel
theorem dX0_areAllMet_81 : decode cX0_areAllMet 81 = .ok (.iload_n 2, 1) := by decide +kernel
theorem dX0_areAllMet_82 : decode cX0_areAllMet 82 = .ok (.putfield 45, 3) := by decide +kernel
theorem dX0_areAllMet_85 : decode cX0_areAllMet 85 = .ok (.iconst 0, 1) := by decide +kernel
theorem dX0_areAllMet_86 : decode cX0_areAllMet 86 = .ok (.ireturn, 1) := by decide +kernel
theorem dX0_areAllMet_87 : decode cX0_areAllMet 87 = .ok (.iinc 2 1, 3) := by decide +kernel
theorem dX0_areAllMet_90 : decode cX0_areAllMet 90 = .ok (.iinc 3 1, 3) := by decide +kernel
theorem dX0_areAllMet_93 : decode cX0_areAllMet 93 = .ok (.goto (-86), 3) := by decide +kernel
theorem dX0_areAllMet_96 : decode cX0_areAllMet 96 = .ok (.iconst 1, 1) := by decide +kernel
theorem dX0_areAllMet_97 : decode cX0_areAllMet 97 = .ok (.ireturn, 1) := by decide +kernel
theorem dX1_init_0 : decode cX1_init 0 = .ok (.aload_n 0, 1) := by decide +kernel
theorem dX1_init_1 : decode cX1_init 1 = .ok (.invokespecial 3, 3) := by decide +kernel
theorem dX1_init_4 : decode cX1_init 4 = .ok (.aload_n 0, 1) := by decide +kernel
theorem dX1_init_5 : decode cX1_init 5 = .ok (.sipush 1000, 3) := by decide +kernel
theorem dX1_init_8 : decode cX1_init 8 = .ok (.putfield 9, 3) := by decide +kernel
theorem dX1_init_11 : decode cX1_init 11 = .ok (.aload_n 0, 1) := by decide +kernel
theorem dX1_init_12 : decode cX1_init 12 = .ok (.bipush 6, 2) := by decide +kernel
theorem dX1_init_14 : decode cX1_init 14 = .ok (.newarray .int, 2) := by decide +kernel
theorem dX1_init_16 : decode cX1_init 16 = .ok (.putfield 15, 3) := by decide +kernel
theorem dX1_init_19 : decode cX1_init 19 = .ok (.aload_n 0, 1) := by decide +kernel
theorem dX1_init_20 : decode cX1_init 20 = .ok (.bipush 6, 2) := by decide +kernel
theorem dX1_init_22 : decode cX1_init 22 = .ok (.newarray .int, 2) := by decide +kernel
theorem dX1_init_24 : decode cX1_init 24 = .ok (.putfield 19, 3) := by decide +kernel
theorem dX1_init_27 : decode cX1_init 27 = .ok (.aload_n 0, 1) := by decide +kernel
theorem dX1_init_28 : decode cX1_init 28 = .ok (.bipush 24, 2) := by decide +kernel
theorem dX1_init_30 : decode cX1_init 30 = .ok (.newarray .int, 2) := by decide +kernel
theorem dX1_init_32 : decode cX1_init 32 = .ok (.putfield 22, 3) := by decide +kernel
theorem dX1_init_35 : decode cX1_init 35 = .ok (.aload_n 0, 1) := by decide +kernel
theorem dX1_init_36 : decode cX1_init 36 = .ok (.bipush 24, 2) := by decide +kernel
theorem dX1_init_38 : decode cX1_init 38 = .ok (.newarray .int, 2) := by decide +kernel
theorem dX1_init_40 : decode cX1_init 40 = .ok (.putfield 25, 3) := by decide +kernel
theorem dX1_init_43 : decode cX1_init 43 = .ok (.aload_n 0, 1) := by decide +kernel
theorem dX1_init_44 : decode cX1_init 44 = .ok (.bipush 24, 2) := by decide +kernel
theorem dX1_init_46 : decode cX1_init 46 = .ok (.newarray .int, 2) := by decide +kernel
theorem dX1_init_48 : decode cX1_init 48 = .ok (.putfield 28, 3) := by decide +kernel
theorem dX1_init_51 : decode cX1_init 51 = .ok (.aload_n 0, 1) := by decide +kernel
theorem dX1_init_52 : decode cX1_init 52 = .ok (.bipush 25, 2) := by decide +kernel
theorem dX1_init_54 : decode cX1_init 54 = .ok (.newarray .int, 2) := by decide +kernel
theorem dX1_init_56 : decode cX1_init 56 = .ok (.putfield 31, 3) := by decide +kernel
theorem dX1_init_59 : decode cX1_init 59 = .ok (.aload_n 0, 1) := by decide +kernel
theorem dX1_init_60 : decode cX1_init 60 = .ok (.bipush 25, 2) := by decide +kernel
theorem dX1_init_62 : decode cX1_init 62 = .ok (.newarray .int, 2) := by decide +kernel
theorem dX1_init_64 : decode cX1_init 64 = .ok (.putfield 34, 3) := by decide +kernel
theorem dX1_init_67 : decode cX1_init 67 = .ok (.aload_n 0, 1) := by decide +kernel
theorem dX1_init_68 : decode cX1_init 68 = .ok (.bipush 24, 2) := by decide +kernel
theorem dX1_init_70 : decode cX1_init 70 = .ok (.newarray .int, 2) := by decide +kernel
theorem dX1_init_72 : decode cX1_init 72 = .ok (.putfield 37, 3) := by decide +kernel
theorem dX1_init_75 : decode cX1_init 75 = .ok (.aload_n 0, 1) := by decide +kernel
theorem dX1_init_76 : decode cX1_init 76 = .ok (.bipush 24, 2) := by decide +kernel
theorem dX1_init_78 : decode cX1_init 78 = .ok (.newarray .int, 2) := by decide +kernel
theorem dX1_init_80 : decode cX1_init 80 = .ok (.putfield 40, 3) := by decide +kernel
theorem dX1_init_83 : decode cX1_init 83 = .ok (.aload_n 0, 1) := by decide +kernel
theorem dX1_init_84 : decode cX1_init 84 = .ok (.bipush 24, 2) := by decide +kernel
theorem dX1_init_86 : decode cX1_init 86 = .ok (.newarray .int, 2) := by decide +kernel
theorem dX1_init_88 : decode cX1_init 88 = .ok (.putfield 43, 3) := by decide +kernel
theorem dX1_init_91 : decode cX1_init 91 = .ok (.return_, 1) := by decide +kernel
theorem dX1_addSize_0 : decode cX1_addSize 0 = .ok (.aload_n 0, 1) := by decide +kernel
theorem dX1_addSize_1 : decode cX1_addSize 1 = .ok (.getfield 15, 3) := by decide +kernel
theorem dX1_addSize_4 : decode cX1_addSize 4 = .ok (.aload_n 0, 1) := by decide +kernel
theorem dX1_addSize_5 : decode cX1_addSize 5 = .ok (.getfield 46, 3) := by decide +kernel
theorem dX1_addSize_8 : decode cX1_addSize 8 = .ok (.iload_n 1, 1) := by decide +kernel
theorem dX1_addSize_9 : decode cX1_addSize 9 = .ok (.iastore, 1) := by decide +kernel
theorem dX1_addSize_10 : decode cX1_addSize 10 = .ok (.aload_n 0, 1) := by decide +kernel
theorem dX1_addSize_11 : decode cX1_addSize 11 = .ok (.getfield 19, 3) := by decide +kernel
theorem dX1_addSize_14 : decode cX1_addSize 14 = .ok (.aload_n 0, 1) := by decide +kernel
theorem dX1_addSize_15 : decode cX1_addSize 15 = .ok (.getfield 46, 3) := by decide +kernel
theorem dX1_addSize_18 : decode cX1_addSize 18 = .ok (.iload_n 2, 1) := by decide +kernel
theorem dX1_addSize_19 : decode cX1_addSize 19 = .ok (.iastore, 1) := by decide +kernel
theorem dX1_addSize_20 : decode cX1_addSize 20 = .ok (.aload_n 0, 1) := by decide +kernel
theorem dX1_addSize_21 : decode cX1_addSize 21 = .ok (.dup, 1) := by decide +kernel
theorem dX1_addSize_22 : decode cX1_addSize 22 = .ok (.getfield 46, 3) := by decide +kernel
theorem dX1_addSize_25 : decode cX1_addSize 25 = .ok (.dup_x1, 1) := by decide +kernel
theorem dX1_addSize_26 : decode cX1_addSize 26 = .ok (.iconst 1, 1) := by decide +kernel
theorem dX1_addSize_27 : decode cX1_addSize 27 = .ok (.iadd, 1) := by decide +kernel
theorem dX1_addSize_28 : decode cX1_addSize 28 = .ok (.putfield 46, 3) := by decide +kernel
theorem dX1_addSize_31 : decode cX1_addSize 31 = .ok (.ireturn, 1) := by decide +kernel
theorem dX1_addPipe_0 : decode cX1_addPipe 0 = .ok (.aload_n 0, 1) := by decide +kernel
theorem dX1_addPipe_1 : decode cX1_addPipe 1 = .ok (.getfield 22, 3) := by decide +kernel
theorem dX1_addPipe_4 : decode cX1_addPipe 4 = .ok (.aload_n 0, 1) := by decide +kernel
theorem dX1_addPipe_5 : decode cX1_addPipe 5 = .ok (.getfield 49, 3) := by decide +kernel
theorem dX1_addPipe_8 : decode cX1_addPipe 8 = .ok (.iload_n 1, 1) := by decide +kernel
theorem dX1_addPipe_9 : decode cX1_addPipe 9 = .ok (.iastore, 1) := by decide +kernel
theorem dX1_addPipe_10 : decode cX1_addPipe 10 = .ok (.aload_n 0, 1) := by decide +kernel
theorem dX1_addPipe_11 : decode cX1_addPipe 11 = .ok (.getfield 25, 3) := by decide +kernel
theorem dX1_addPipe_14 : decode cX1_addPipe 14 = .ok (.aload_n 0, 1) := by decide +kernel
theorem dX1_addPipe_15 : decode cX1_addPipe 15 = .ok (.getfield 49, 3) := by decide +kernel
theorem dX1_addPipe_18 : decode cX1_addPipe 18 = .ok (.iload_n 2, 1) := by decide +kernel
theorem dX1_addPipe_19 : decode cX1_addPipe 19 = .ok (.iastore, 1) := by decide +kernel
theorem dX1_addPipe_20 : decode cX1_addPipe 20 = .ok (.aload_n 0, 1) := by decide +kernel
theorem dX1_addPipe_21 : decode cX1_addPipe 21 = .ok (.getfield 31, 3) := by decide +kernel
theorem dX1_addPipe_24 : decode cX1_addPipe 24 = .ok (.aload_n 0, 1) := by decide +kernel
theorem dX1_addPipe_25 : decode cX1_addPipe 25 = .ok (.getfield 49, 3) := by decide +kernel
theorem dX1_addPipe_28 : decode cX1_addPipe 28 = .ok (.iconst 1, 1) := by decide +kernel
theorem dX1_addPipe_29 : decode cX1_addPipe 29 = .ok (.iadd, 1) := by decide +kernel
theorem dX1_addPipe_30 : decode cX1_addPipe 30 = .ok (.aload_n 0, 1) := by decide +kernel
theorem dX1_addPipe_31 : decode cX1_addPipe 31 = .ok (.getfield 31, 3) := by decide +kernel
theorem dX1_addPipe_34 : decode cX1_addPipe 34 = .ok (.iload_n 1, 1) := by decide +kernel
theorem dX1_addPipe_35 : decode cX1_addPipe 35 = .ok (.iconst 1, 1) := by decide +kernel
theorem dX1_addPipe_36 : decode cX1_addPipe 36 = .ok (.iadd, 1) := by decide +kernel
theorem dX1_addPipe_37 : decode cX1_addPipe 37 = .ok (.iaload, 1) := by decide +kernel
theorem dX1_addPipe_38 : decode cX1_addPipe 38 = .ok (.iconst 1, 1) := by decide +kernel
theorem dX1_addPipe_39 : decode cX1_addPipe 39 = .ok (.iadd, 1) := by decide +kernel
theorem dX1_addPipe_40 : decode cX1_addPipe 40 = .ok (.iastore, 1) := by decide +kernel
theorem dX1_addPipe_41 : decode cX1_addPipe 41 = .ok (.aload_n 0, 1) := by decide +kernel
theorem dX1_addPipe_42 : decode cX1_addPipe 42 = .ok (.aload_n 0, 1) := by decide +kernel
theorem dX1_addPipe_43 : decode cX1_addPipe 43 = .ok (.getfield 49, 3) := by decide +kernel
theorem dX1_addPipe_46 : decode cX1_addPipe 46 = .ok (.iload_n 3, 1) := by decide +kernel
theorem dX1_addPipe_47 : decode cX1_addPipe 47 = .ok (.invokevirtual 52, 3) := by decide +kernel
theorem dX1_addPipe_50 : decode cX1_addPipe 50 = .ok (.aload_n 0, 1) := by decide +kernel
theorem dX1_addPipe_51 : decode cX1_addPipe 51 = .ok (.dup, 1) := by decide +kernel
theorem dX1_addPipe_52 : decode cX1_addPipe 52 = .ok (.getfield 49, 3) := by decide +kernel
theorem dX1_addPipe_55 : decode cX1_addPipe 55 = .ok (.dup_x1, 1) := by decide +kernel
theorem dX1_addPipe_56 : decode cX1_addPipe 56 = .ok (.iconst 1, 1) := by decide +kernel
theorem dX1_addPipe_57 : decode cX1_addPipe 57 = .ok (.iadd, 1) := by decide +kernel
theorem dX1_addPipe_58 : decode cX1_addPipe 58 = .ok (.putfield 49, 3) := by decide +kernel
theorem dX1_addPipe_61 : decode cX1_addPipe 61 = .ok (.ireturn, 1) := by decide +kernel
theorem dX1_setSize_0 : decode cX1_setSize 0 = .ok (.aload_n 0, 1) := by decide +kernel
theorem dX1_setSize_1 : decode cX1_setSize 1 = .ok (.getfield 28, 3) := by decide +kernel
theorem dX1_setSize_4 : decode cX1_setSize 4 = .ok (.iload_n 1, 1) := by decide +kernel
theorem dX1_setSize_5 : decode cX1_setSize 5 = .ok (.iload_n 2, 1) := by decide +kernel
theorem dX1_setSize_6 : decode cX1_setSize 6 = .ok (.iastore, 1) := by decide +kernel
theorem dX1_setSize_7 : decode cX1_setSize 7 = .ok (.aload_n 0, 1) := by decide +kernel
theorem dX1_setSize_8 : decode cX1_setSize 8 = .ok (.getfield 34, 3) := by decide +kernel
theorem dX1_setSize_11 : decode cX1_setSize 11 = .ok (.iload_n 1, 1) := by decide +kernel
theorem dX1_setSize_12 : decode cX1_setSize 12 = .ok (.iconst 1, 1) := by decide +kernel
theorem dX1_setSize_13 : decode cX1_setSize 13 = .ok (.iadd, 1) := by decide +kernel
theorem dX1_setSize_14 : decode cX1_setSize 14 = .ok (.aload_n 0, 1) := by decide +kernel
theorem dX1_setSize_15 : decode cX1_setSize 15 = .ok (.iload_n 1, 1) := by decide +kernel
theorem dX1_setSize_16 : decode cX1_setSize 16 = .ok (.iload_n 2, 1) := by decide +kernel
theorem dX1_setSize_17 : decode cX1_setSize 17 = .ok (.invokevirtual 56, 3) := by decide +kernel
theorem dX1_setSize_20 : decode cX1_setSize 20 = .ok (.iastore, 1) := by decide +kernel
theorem dX1_setSize_21 : decode cX1_setSize 21 = .ok (.return_, 1) := by decide +kernel
theorem dX1_setHead_0 : decode cX1_setHead 0 = .ok (.aload_n 0, 1) := by decide +kernel
theorem dX1_setHead_1 : decode cX1_setHead 1 = .ok (.aload_n 0, 1) := by decide +kernel
theorem dX1_setHead_2 : decode cX1_setHead 2 = .ok (.getfield 60, 3) := by decide +kernel
theorem dX1_setHead_5 : decode cX1_setHead 5 = .ok (.iload_n 1, 1) := by decide +kernel
theorem dX1_setHead_6 : decode cX1_setHead 6 = .ok (.iconst 1, 1) := by decide +kernel
theorem dX1_setHead_7 : decode cX1_setHead 7 = .ok (.invokestatic 63, 3) := by decide +kernel
theorem dX1_setHead_10 : decode cX1_setHead 10 = .ok (.putfield 60, 3) := by decide +kernel
theorem dX1_setHead_13 : decode cX1_setHead 13 = .ok (.aload_n 0, 1) := by decide +kernel
theorem dX1_setHead_14 : decode cX1_setHead 14 = .ok (.aload_n 0, 1) := by decide +kernel
theorem dX1_setHead_15 : decode cX1_setHead 15 = .ok (.getfield 67, 3) := by decide +kernel
theorem dX1_setHead_18 : decode cX1_setHead 18 = .ok (.iload_n 1, 1) := by decide +kernel
theorem dX1_setHead_19 : decode cX1_setHead 19 = .ok (.iconst 0, 1) := by decide +kernel
theorem dX1_setHead_20 : decode cX1_setHead 20 = .ok (.invokestatic 63, 3) := by decide +kernel
theorem dX1_setHead_23 : decode cX1_setHead 23 = .ok (.putfield 67, 3) := by decide +kernel
theorem dX1_setHead_26 : decode cX1_setHead 26 = .ok (.aload_n 0, 1) := by decide +kernel
theorem dX1_setHead_27 : decode cX1_setHead 27 = .ok (.getfield 37, 3) := by decide +kernel
theorem dX1_setHead_30 : decode cX1_setHead 30 = .ok (.iload_n 1, 1) := by decide +kernel
theorem dX1_setHead_31 : decode cX1_setHead 31 = .ok (.iload_n 2, 1) := by decide +kernel
theorem dX1_setHead_32 : decode cX1_setHead 32 = .ok (.iastore, 1) := by decide +kernel
theorem dX1_setHead_33 : decode cX1_setHead 33 = .ok (.aload_n 0, 1) := by decide +kernel
theorem dX1_setHead_34 : decode cX1_setHead 34 = .ok (.getfield 40, 3) := by decide +kernel
theorem dX1_setHead_37 : decode cX1_setHead 37 = .ok (.iload_n 1, 1) := by decide +kernel
theorem dX1_setHead_38 : decode cX1_setHead 38 = .ok (.iload_n 3, 1) := by decide +kernel
theorem dX1_setHead_39 : decode cX1_setHead 39 = .ok (.iastore, 1) := by decide +kernel
theorem dX1_setHead_40 : decode cX1_setHead 40 = .ok (.aload_n 0, 1) := by decide +kernel
theorem dX1_setHead_41 : decode cX1_setHead 41 = .ok (.getfield 43, 3) := by decide +kernel
theorem dX1_setHead_44 : decode cX1_setHead 44 = .ok (.iload_n 1, 1) := by decide +kernel
theorem dX1_setHead_45 : decode cX1_setHead 45 = .ok (.iconst 0, 1) := by decide +kernel
theorem dX1_setHead_46 : decode cX1_setHead 46 = .ok (.iastore, 1) := by decide +kernel
theorem dX1_setHead_47 : decode cX1_setHead 47 = .ok (.return_, 1) := by decide +kernel
theorem dX1_dragWith_0 : decode cX1_dragWith 0 = .ok (.aload_n 0, 1) := by decide +kernel
theorem dX1_dragWith_1 : decode cX1_dragWith 1 = .ok (.getfield 25, 3) := by decide +kernel
theorem dX1_dragWith_4 : decode cX1_dragWith 4 = .ok (.iload_n 1, 1) := by decide +kernel
theorem dX1_dragWith_5 : decode cX1_dragWith 5 = .ok (.iaload, 1) := by decide +kernel
theorem dX1_dragWith_6 : decode cX1_dragWith 6 = .ok (.aload_n 0, 1) := by decide +kernel
theorem dX1_dragWith_7 : decode cX1_dragWith 7 = .ok (.getfield 15, 3) := by decide +kernel
theorem dX1_dragWith_10 : decode cX1_dragWith 10 = .ok (.iload_n 2, 1) := by decide +kernel
theorem dX1_dragWith_11 : decode cX1_dragWith 11 = .ok (.iaload, 1) := by decide +kernel
theorem dX1_dragWith_12 : decode cX1_dragWith 12 = .ok (.imul, 1) := by decide +kernel
theorem dX1_dragWith_13 : decode cX1_dragWith 13 = .ok (.ireturn, 1) := by decide +kernel
theorem dX1_priceWith_0 : decode cX1_priceWith 0 = .ok (.aload_n 0, 1) := by decide +kernel
theorem dX1_priceWith_1 : decode cX1_priceWith 1 = .ok (.getfield 25, 3) := by decide +kernel
theorem dX1_priceWith_4 : decode cX1_priceWith 4 = .ok (.iload_n 1, 1) := by decide +kernel
theorem dX1_priceWith_5 : decode cX1_priceWith 5 = .ok (.iaload, 1) := by decide +kernel
theorem dX1_priceWith_6 : decode cX1_priceWith 6 = .ok (.aload_n 0, 1) := by decide +kernel
theorem dX1_priceWith_7 : decode cX1_priceWith 7 = .ok (.getfield 19, 3) := by decide +kernel
theorem dX1_priceWith_10 : decode cX1_priceWith 10 = .ok (.iload_n 2, 1) := by decide +kernel
theorem dX1_priceWith_11 : decode cX1_priceWith 11 = .ok (.iaload, 1) := by decide +kernel
theorem dX1_priceWith_12 : decode cX1_priceWith 12 = .ok (.imul, 1) := by decide +kernel
theorem dX1_priceWith_13 : decode cX1_priceWith 13 = .ok (.ireturn, 1) := by decide +kernel
theorem dX1_priceOfAll_0 : decode cX1_priceOfAll 0 = .ok (.iconst 0, 1) := by decide +kernel
theorem dX1_priceOfAll_1 : decode cX1_priceOfAll 1 = .ok (.istore_n 1, 1) := by decide +kernel
theorem dX1_priceOfAll_2 : decode cX1_priceOfAll 2 = .ok (.iconst 0, 1) := by decide +kernel
theorem dX1_priceOfAll_3 : decode cX1_priceOfAll 3 = .ok (.istore_n 2, 1) := by decide +kernel
theorem dX1_priceOfAll_4 : decode cX1_priceOfAll 4 = .ok (.iload_n 2, 1) := by decide +kernel
theorem dX1_priceOfAll_5 : decode cX1_priceOfAll 5 = .ok (.aload_n 0, 1) := by decide +kernel
theorem dX1_priceOfAll_6 : decode cX1_priceOfAll 6 = .ok (.getfield 49, 3) := by decide +kernel
theorem dX1_priceOfAll_9 : decode cX1_priceOfAll 9 = .ok (.if_icmp .ge 23, 3) := by decide +kernel
theorem dX1_priceOfAll_12 : decode cX1_priceOfAll 12 = .ok (.iload_n 1, 1) := by decide +kernel
theorem dX1_priceOfAll_13 : decode cX1_priceOfAll 13 = .ok (.aload_n 0, 1) := by decide +kernel
theorem dX1_priceOfAll_14 : decode cX1_priceOfAll 14 = .ok (.iload_n 2, 1) := by decide +kernel
theorem dX1_priceOfAll_15 : decode cX1_priceOfAll 15 = .ok (.aload_n 0, 1) := by decide +kernel
theorem dX1_priceOfAll_16 : decode cX1_priceOfAll 16 = .ok (.getfield 28, 3) := by decide +kernel
theorem dX1_priceOfAll_19 : decode cX1_priceOfAll 19 = .ok (.iload_n 2, 1) := by decide +kernel
theorem dX1_priceOfAll_20 : decode cX1_priceOfAll 20 = .ok (.iaload, 1) := by decide +kernel
theorem dX1_priceOfAll_21 : decode cX1_priceOfAll 21 = .ok (.invokevirtual 70, 3) := by decide +kernel
theorem dX1_priceOfAll_24 : decode cX1_priceOfAll 24 = .ok (.iadd, 1) := by decide +kernel
theorem dX1_priceOfAll_25 : decode cX1_priceOfAll 25 = .ok (.istore_n 1, 1) := by decide +kernel
theorem dX1_priceOfAll_26 : decode cX1_priceOfAll 26 = .ok (.iinc 2 1, 3) := by decide +kernel
theorem dX1_priceOfAll_29 : decode cX1_priceOfAll 29 = .ok (.goto (-25), 3) := by decide +kernel
theorem dX1_priceOfAll_32 : decode cX1_priceOfAll 32 = .ok (.iload_n 1, 1) := by decide +kernel
theorem dX1_priceOfAll_33 : decode cX1_priceOfAll 33 = .ok (.ireturn, 1) := by decide +kernel
theorem dX1_factorNow_0 : decode cX1_factorNow 0 = .ok (.aload_n 0, 1) := by decide +kernel
theorem dX1_factorNow_1 : decode cX1_factorNow 1 = .ok (.getfield 37, 3) := by decide +kernel
theorem dX1_factorNow_4 : decode cX1_factorNow 4 = .ok (.iload_n 1, 1) := by decide +kernel
theorem dX1_factorNow_5 : decode cX1_factorNow 5 = .ok (.iaload, 1) := by decide +kernel
theorem dX1_factorNow_6 : decode cX1_factorNow 6 = .ok (.bipush 100, 2) := by decide +kernel
theorem dX1_factorNow_8 : decode cX1_factorNow 8 = .ok (.aload_n 0, 1) := by decide +kernel
theorem dX1_factorNow_9 : decode cX1_factorNow 9 = .ok (.getfield 43, 3) := by decide +kernel
theorem dX1_factorNow_12 : decode cX1_factorNow 12 = .ok (.iload_n 1, 1) := by decide +kernel
theorem dX1_factorNow_13 : decode cX1_factorNow 13 = .ok (.iaload, 1) := by decide +kernel
theorem dX1_factorNow_14 : decode cX1_factorNow 14 = .ok (.isub, 1) := by decide +kernel
theorem dX1_factorNow_15 : decode cX1_factorNow 15 = .ok (.imul, 1) := by decide +kernel
theorem dX1_factorNow_16 : decode cX1_factorNow 16 = .ok (.bipush 100, 2) := by decide +kernel
theorem dX1_factorNow_18 : decode cX1_factorNow 18 = .ok (.idiv, 1) := by decide +kernel
theorem dX1_factorNow_19 : decode cX1_factorNow 19 = .ok (.ireturn, 1) := by decide +kernel
theorem dX1_countFrom_0 : decode cX1_countFrom 0 = .ok (.iconst 0, 1) := by decide +kernel
theorem dX1_countFrom_1 : decode cX1_countFrom 1 = .ok (.istore_n 2, 1) := by decide +kernel
theorem dX1_countFrom_2 : decode cX1_countFrom 2 = .ok (.iload_n 1, 1) := by decide +kernel
theorem dX1_countFrom_3 : decode cX1_countFrom 3 = .ok (.iconst 1, 1) := by decide +kernel
theorem dX1_countFrom_4 : decode cX1_countFrom 4 = .ok (.iadd, 1) := by decide +kernel
theorem dX1_countFrom_5 : decode cX1_countFrom 5 = .ok (.istore_n 3, 1) := by decide +kernel
theorem dX1_countFrom_6 : decode cX1_countFrom 6 = .ok (.iload_n 3, 1) := by decide +kernel
theorem dX1_countFrom_7 : decode cX1_countFrom 7 = .ok (.aload_n 0, 1) := by decide +kernel
theorem dX1_countFrom_8 : decode cX1_countFrom 8 = .ok (.getfield 49, 3) := by decide +kernel
theorem dX1_countFrom_11 : decode cX1_countFrom 11 = .ok (.if_icmp .ge 22, 3) := by decide +kernel
theorem dX1_countFrom_14 : decode cX1_countFrom 14 = .ok (.aload_n 0, 1) := by decide +kernel
theorem dX1_countFrom_15 : decode cX1_countFrom 15 = .ok (.getfield 22, 3) := by decide +kernel
theorem dX1_countFrom_18 : decode cX1_countFrom 18 = .ok (.iload_n 3, 1) := by decide +kernel
theorem dX1_countFrom_19 : decode cX1_countFrom 19 = .ok (.iaload, 1) := by decide +kernel
theorem dX1_countFrom_20 : decode cX1_countFrom 20 = .ok (.iload_n 1, 1) := by decide +kernel
theorem dX1_countFrom_21 : decode cX1_countFrom 21 = .ok (.if_icmp .ne 6, 3) := by decide +kernel
theorem dX1_countFrom_24 : decode cX1_countFrom 24 = .ok (.iinc 2 1, 3) := by decide +kernel
theorem dX1_countFrom_27 : decode cX1_countFrom 27 = .ok (.iinc 3 1, 3) := by decide +kernel
theorem dX1_countFrom_30 : decode cX1_countFrom 30 = .ok (.goto (-24), 3) := by decide +kernel
theorem dX1_countFrom_33 : decode cX1_countFrom 33 = .ok (.iload_n 2, 1) := by decide +kernel
theorem dX1_countFrom_34 : decode cX1_countFrom 34 = .ok (.ireturn, 1) := by decide +kernel
theorem dX2_init_0 : decode cX2_init 0 = .ok (.aload_n 0, 1) := by decide +kernel
theorem dX2_init_1 : decode cX2_init 1 = .ok (.invokespecial 3, 3) := by decide +kernel
theorem dX2_init_4 : decode cX2_init 4 = .ok (.aload_n 0, 1) := by decide +kernel
theorem dX2_init_5 : decode cX2_init 5 = .ok (.iconst 2, 1) := by decide +kernel
theorem dX2_init_6 : decode cX2_init 6 = .ok (.putfield 9, 3) := by decide +kernel
theorem dX2_init_9 : decode cX2_init 9 = .ok (.aload_n 0, 1) := by decide +kernel
theorem dX2_init_10 : decode cX2_init 10 = .ok (.iconst 2, 1) := by decide +kernel
theorem dX2_init_11 : decode cX2_init 11 = .ok (.putfield 15, 3) := by decide +kernel
theorem dX2_init_14 : decode cX2_init 14 = .ok (.aload_n 0, 1) := by decide +kernel
theorem dX2_init_15 : decode cX2_init 15 = .ok (.sipush 256, 3) := by decide +kernel
theorem dX2_init_18 : decode cX2_init 18 = .ok (.newarray .int, 2) := by decide +kernel
theorem dX2_init_20 : decode cX2_init 20 = .ok (.putfield 18, 3) := by decide +kernel
theorem dX2_init_23 : decode cX2_init 23 = .ok (.aload_n 0, 1) := by decide +kernel
theorem dX2_init_24 : decode cX2_init 24 = .ok (.bipush 24, 2) := by decide +kernel
theorem dX2_init_26 : decode cX2_init 26 = .ok (.newarray .int, 2) := by decide +kernel
theorem dX2_init_28 : decode cX2_init 28 = .ok (.putfield 22, 3) := by decide +kernel
theorem dX2_init_31 : decode cX2_init 31 = .ok (.aload_n 0, 1) := by decide +kernel
theorem dX2_init_32 : decode cX2_init 32 = .ok (.bipush 24, 2) := by decide +kernel
theorem dX2_init_34 : decode cX2_init 34 = .ok (.newarray .int, 2) := by decide +kernel
theorem dX2_init_36 : decode cX2_init 36 = .ok (.putfield 25, 3) := by decide +kernel
theorem dX2_init_39 : decode cX2_init 39 = .ok (.aload_n 0, 1) := by decide +kernel
theorem dX2_init_40 : decode cX2_init 40 = .ok (.bipush 24, 2) := by decide +kernel
theorem dX2_init_42 : decode cX2_init 42 = .ok (.newarray .int, 2) := by decide +kernel
theorem dX2_init_44 : decode cX2_init 44 = .ok (.putfield 28, 3) := by decide +kernel
theorem dX2_init_47 : decode cX2_init 47 = .ok (.return_, 1) := by decide +kernel
theorem dX2_lay_0 : decode cX2_lay 0 = .ok (.aload_n 0, 1) := by decide +kernel
theorem dX2_lay_1 : decode cX2_lay 1 = .ok (.iload_n 1, 1) := by decide +kernel
theorem dX2_lay_2 : decode cX2_lay 2 = .ok (.putfield 9, 3) := by decide +kernel
theorem dX2_lay_5 : decode cX2_lay 5 = .ok (.aload_n 0, 1) := by decide +kernel
theorem dX2_lay_6 : decode cX2_lay 6 = .ok (.iload_n 2, 1) := by decide +kernel
theorem dX2_lay_7 : decode cX2_lay 7 = .ok (.putfield 15, 3) := by decide +kernel
theorem dX2_lay_10 : decode cX2_lay 10 = .ok (.aload_n 0, 1) := by decide +kernel
theorem dX2_lay_11 : decode cX2_lay 11 = .ok (.iconst 0, 1) := by decide +kernel
theorem dX2_lay_12 : decode cX2_lay 12 = .ok (.putfield 31, 3) := by decide +kernel
theorem dX2_lay_15 : decode cX2_lay 15 = .ok (.aload_n 0, 1) := by decide +kernel
theorem dX2_lay_16 : decode cX2_lay 16 = .ok (.getfield 18, 3) := by decide +kernel
theorem dX2_lay_19 : decode cX2_lay 19 = .ok (.iconst 0, 1) := by decide +kernel
theorem dX2_lay_20 : decode cX2_lay 20 = .ok (.invokestatic 34, 3) := by decide +kernel
theorem dX2_lay_23 : decode cX2_lay 23 = .ok (.return_, 1) := by decide +kernel
theorem dX2_isCell_0 : decode cX2_isCell 0 = .ok (.iload_n 1, 1) := by decide +kernel
theorem dX2_isCell_1 : decode cX2_isCell 1 = .ok (.ifCond .lt 27, 3) := by decide +kernel
theorem dX2_isCell_4 : decode cX2_isCell 4 = .ok (.iload_n 1, 1) := by decide +kernel
theorem dX2_isCell_5 : decode cX2_isCell 5 = .ok (.aload_n 0, 1) := by decide +kernel
theorem dX2_isCell_6 : decode cX2_isCell 6 = .ok (.getfield 9, 3) := by decide +kernel
theorem dX2_isCell_9 : decode cX2_isCell 9 = .ok (.if_icmp .ge 19, 3) := by decide +kernel
theorem dX2_isCell_12 : decode cX2_isCell 12 = .ok (.iload_n 2, 1) := by decide +kernel
theorem dX2_isCell_13 : decode cX2_isCell 13 = .ok (.ifCond .lt 15, 3) := by decide +kernel
theorem dX2_isCell_16 : decode cX2_isCell 16 = .ok (.iload_n 2, 1) := by decide +kernel
theorem dX2_isCell_17 : decode cX2_isCell 17 = .ok (.aload_n 0, 1) := by decide +kernel
theorem dX2_isCell_18 : decode cX2_isCell 18 = .ok (.getfield 15, 3) := by decide +kernel
theorem dX2_isCell_21 : decode cX2_isCell 21 = .ok (.if_icmp .ge 7, 3) := by decide +kernel
theorem dX2_isCell_24 : decode cX2_isCell 24 = .ok (.iconst 1, 1) := by decide +kernel
theorem dX2_isCell_25 : decode cX2_isCell 25 = .ok (.goto 4, 3) := by decide +kernel
theorem dX2_isCell_28 : decode cX2_isCell 28 = .ok (.iconst 0, 1) := by decide +kernel
theorem dX2_isCell_29 : decode cX2_isCell 29 = .ok (.ireturn, 1) := by decide +kernel
theorem dX2_kindOf_0 : decode cX2_kindOf 0 = .ok (.aload_n 0, 1) := by decide +kernel
theorem dX2_kindOf_1 : decode cX2_kindOf 1 = .ok (.getfield 18, 3) := by decide +kernel
theorem dX2_kindOf_4 : decode cX2_kindOf 4 = .ok (.iload_n 1, 1) := by decide +kernel
theorem dX2_kindOf_5 : decode cX2_kindOf 5 = .ok (.bipush 16, 2) := by decide +kernel
theorem dX2_kindOf_7 : decode cX2_kindOf 7 = .ok (.imul, 1) := by decide +kernel
theorem dX2_kindOf_8 : decode cX2_kindOf 8 = .ok (.iload_n 2, 1) := by decide +kernel
theorem dX2_kindOf_9 : decode cX2_kindOf 9 = .ok (.iadd, 1) := by decide +kernel
theorem dX2_kindOf_10 : decode cX2_kindOf 10 = .ok (.iaload, 1) := by decide +kernel
theorem dX2_kindOf_11 : decode cX2_kindOf 11 = .ok (.ireturn, 1) := by decide +kernel
theorem dX2_countOpenCells_0 : decode cX2_countOpenCells 0 = .ok (.iconst 0, 1) := by decide +kernel
theorem dX2_countOpenCells_1 : decode cX2_countOpenCells 1 = .ok (.istore_n 1, 1) := by decide +kernel
theorem dX2_countOpenCells_2 : decode cX2_countOpenCells 2 = .ok (.iconst 0, 1) := by decide +kernel
theorem dX2_countOpenCells_3 : decode cX2_countOpenCells 3 = .ok (.istore_n 2, 1) := by decide +kernel
theorem dX2_countOpenCells_4 : decode cX2_countOpenCells 4 = .ok (.iload_n 2, 1) := by decide +kernel
theorem dX2_countOpenCells_5 : decode cX2_countOpenCells 5 = .ok (.aload_n 0, 1) := by decide +kernel
theorem dX2_countOpenCells_6 : decode cX2_countOpenCells 6 = .ok (.getfield 9, 3) := by decide +kernel
theorem dX2_countOpenCells_9 : decode cX2_countOpenCells 9 = .ok (.if_icmp .ge 37, 3) := by decide +kernel
theorem dX2_countOpenCells_12 : decode cX2_countOpenCells 12 = .ok (.iconst 0, 1) := by decide +kernel
theorem dX2_countOpenCells_13 : decode cX2_countOpenCells 13 = .ok (.istore_n 3, 1) := by decide +kernel
theorem dX2_countOpenCells_14 : decode cX2_countOpenCells 14 = .ok (.iload_n 3, 1) := by decide +kernel
theorem dX2_countOpenCells_15 : decode cX2_countOpenCells 15 = .ok (.aload_n 0, 1) := by decide +kernel
theorem dX2_countOpenCells_16 : decode cX2_countOpenCells 16 = .ok (.getfield 15, 3) := by decide +kernel
theorem dX2_countOpenCells_19 : decode cX2_countOpenCells 19 = .ok (.if_icmp .ge 21, 3) := by decide +kernel
theorem dX2_countOpenCells_22 : decode cX2_countOpenCells 22 = .ok (.aload_n 0, 1) := by decide +kernel
theorem dX2_countOpenCells_23 : decode cX2_countOpenCells 23 = .ok (.iload_n 2, 1) := by decide +kernel
theorem dX2_countOpenCells_24 : decode cX2_countOpenCells 24 = .ok (.iload_n 3, 1) := by decide +kernel
theorem dX2_countOpenCells_25 : decode cX2_countOpenCells 25 = .ok (.invokevirtual 40, 3) := by decide +kernel
theorem dX2_countOpenCells_28 : decode cX2_countOpenCells 28 = .ok (.ifCond .ne 6, 3) := by decide +kernel
theorem dX2_countOpenCells_31 : decode cX2_countOpenCells 31 = .ok (.iinc 1 1, 3) := by decide +kernel
theorem dX2_countOpenCells_34 : decode cX2_countOpenCells 34 = .ok (.iinc 3 1, 3) := by decide +kernel
theorem dX2_countOpenCells_37 : decode cX2_countOpenCells 37 = .ok (.goto (-23), 3) := by decide +kernel
theorem dX2_countOpenCells_40 : decode cX2_countOpenCells 40 = .ok (.iinc 2 1, 3) := by decide +kernel
theorem dX2_countOpenCells_43 : decode cX2_countOpenCells 43 = .ok (.goto (-39), 3) := by decide +kernel
theorem dX2_countOpenCells_46 : decode cX2_countOpenCells 46 = .ok (.iload_n 1, 1) := by decide +kernel
theorem dX2_countOpenCells_47 : decode cX2_countOpenCells 47 = .ok (.ireturn, 1) := by decide +kernel
theorem dX2_whoStandsIn_0 : decode cX2_whoStandsIn 0 = .ok (.iconst 0, 1) := by decide +kernel
theorem dX2_whoStandsIn_1 : decode cX2_whoStandsIn 1 = .ok (.istore_n 3, 1) := by decide +kernel
theorem dX2_whoStandsIn_2 : decode cX2_whoStandsIn 2 = .ok (.iload_n 3, 1) := by decide +kernel
theorem dX2_whoStandsIn_3 : decode cX2_whoStandsIn 3 = .ok (.bipush 24, 2) := by decide +kernel
theorem dX2_whoStandsIn_5 : decode cX2_whoStandsIn 5 = .ok (.if_icmp .ge 43, 3) := by decide +kernel
theorem dX2_whoStandsIn_8 : decode cX2_whoStandsIn 8 = .ok (.aload_n 0, 1) := by decide +kernel
theorem dX2_whoStandsIn_9 : decode cX2_whoStandsIn 9 = .ok (.getfield 31, 3) := by decide +kernel
theorem dX2_whoStandsIn_12 : decode cX2_whoStandsIn 12 = .ok (.iload_n 3, 1) := by decide +kernel
theorem dX2_whoStandsIn_13 : decode cX2_whoStandsIn 13 = .ok (.invokestatic 44, 3) := by decide +kernel
theorem dX2_whoStandsIn_16 : decode cX2_whoStandsIn 16 = .ok (.iconst 1, 1) := by decide +kernel
theorem dX2_whoStandsIn_17 : decode cX2_whoStandsIn 17 = .ok (.if_icmp .ne 25, 3) := by decide +kernel
theorem dX2_whoStandsIn_20 : decode cX2_whoStandsIn 20 = .ok (.aload_n 0, 1) := by decide +kernel
theorem dX2_whoStandsIn_21 : decode cX2_whoStandsIn 21 = .ok (.getfield 22, 3) := by decide +kernel
theorem dX2_whoStandsIn_24 : decode cX2_whoStandsIn 24 = .ok (.iload_n 3, 1) := by decide +kernel
theorem dX2_whoStandsIn_25 : decode cX2_whoStandsIn 25 = .ok (.iaload, 1) := by decide +kernel
theorem dX2_whoStandsIn_26 : decode cX2_whoStandsIn 26 = .ok (.iload_n 1, 1) := by decide +kernel
theorem dX2_whoStandsIn_27 : decode cX2_whoStandsIn 27 = .ok (.if_icmp .ne 15, 3) := by decide +kernel
theorem dX2_whoStandsIn_30 : decode cX2_whoStandsIn 30 = .ok (.aload_n 0, 1) := by decide +kernel
theorem dX2_whoStandsIn_31 : decode cX2_whoStandsIn 31 = .ok (.getfield 25, 3) := by decide +kernel
theorem dX2_whoStandsIn_34 : decode cX2_whoStandsIn 34 = .ok (.iload_n 3, 1) := by decide +kernel
theorem dX2_whoStandsIn_35 : decode cX2_whoStandsIn 35 = .ok (.iaload, 1) := by decide +kernel
theorem dX2_whoStandsIn_36 : decode cX2_whoStandsIn 36 = .ok (.iload_n 2, 1) := by decide +kernel
theorem dX2_whoStandsIn_37 : decode cX2_whoStandsIn 37 = .ok (.if_icmp .ne 5, 3) := by decide +kernel
theorem dX2_whoStandsIn_40 : decode cX2_whoStandsIn 40 = .ok (.iload_n 3, 1) := by decide +kernel
theorem dX2_whoStandsIn_41 : decode cX2_whoStandsIn 41 = .ok (.ireturn, 1) := by decide +kernel
theorem dX2_whoStandsIn_42 : decode cX2_whoStandsIn 42 = .ok (.iinc 3 1, 3) := by decide +kernel
theorem dX2_whoStandsIn_45 : decode cX2_whoStandsIn 45 = .ok (.goto (-43), 3) := by decide +kernel
theorem dX2_whoStandsIn_48 : decode cX2_whoStandsIn 48 = .ok (.bipush (-6), 2) := by decide +kernel
theorem dX2_whoStandsIn_50 : decode cX2_whoStandsIn 50 = .ok (.ireturn, 1) := by decide +kernel
theorem dX2_place_0 : decode cX2_place 0 = .ok (.aload_n 0, 1) := by decide +kernel
theorem dX2_place_1 : decode cX2_place 1 = .ok (.aload_n 0, 1) := by decide +kernel
theorem dX2_place_2 : decode cX2_place 2 = .ok (.getfield 31, 3) := by decide +kernel
theorem dX2_place_5 : decode cX2_place 5 = .ok (.iload_n 1, 1) := by decide +kernel
theorem dX2_place_6 : decode cX2_place 6 = .ok (.iconst 1, 1) := by decide +kernel
theorem dX2_place_7 : decode cX2_place 7 = .ok (.invokestatic 47, 3) := by decide +kernel
theorem dX2_place_10 : decode cX2_place 10 = .ok (.putfield 31, 3) := by decide +kernel
theorem dX2_place_13 : decode cX2_place 13 = .ok (.aload_n 0, 1) := by decide +kernel
theorem dX2_place_14 : decode cX2_place 14 = .ok (.getfield 22, 3) := by decide +kernel
theorem dX2_place_17 : decode cX2_place 17 = .ok (.iload_n 1, 1) := by decide +kernel
theorem dX2_place_18 : decode cX2_place 18 = .ok (.iload_n 2, 1) := by decide +kernel
theorem dX2_place_19 : decode cX2_place 19 = .ok (.iastore, 1) := by decide +kernel
theorem dX2_place_20 : decode cX2_place 20 = .ok (.aload_n 0, 1) := by decide +kernel
theorem dX2_place_21 : decode cX2_place 21 = .ok (.getfield 25, 3) := by decide +kernel
theorem dX2_place_24 : decode cX2_place 24 = .ok (.iload_n 1, 1) := by decide +kernel
theorem dX2_place_25 : decode cX2_place 25 = .ok (.iload_n 3, 1) := by decide +kernel
theorem dX2_place_26 : decode cX2_place 26 = .ok (.iastore, 1) := by decide +kernel
theorem dX2_place_27 : decode cX2_place 27 = .ok (.aload_n 0, 1) := by decide +kernel
theorem dX2_place_28 : decode cX2_place 28 = .ok (.getfield 28, 3) := by decide +kernel
theorem dX2_place_31 : decode cX2_place 31 = .ok (.iload_n 1, 1) := by decide +kernel
theorem dX2_place_32 : decode cX2_place 32 = .ok (.iload 4, 2) := by decide +kernel
theorem dX2_place_34 : decode cX2_place 34 = .ok (.iastore, 1) := by decide +kernel
theorem dX2_place_35 : decode cX2_place 35 = .ok (.return_, 1) := by decide +kernel
theorem dX2_isDry_0 : decode cX2_isDry 0 = .ok (.aload_n 0, 1) := by decide +kernel
theorem dX2_isDry_1 : decode cX2_isDry 1 = .ok (.iload_n 1, 1) := by decide +kernel
theorem dX2_isDry_2 : decode cX2_isDry 2 = .ok (.iload_n 2, 1) := by decide +kernel
theorem dX2_isDry_3 : decode cX2_isDry 3 = .ok (.invokevirtual 40, 3) := by decide +kernel
theorem dX2_isDry_6 : decode cX2_isDry 6 = .ok (.ifCond .eq 5, 3) := by decide +kernel
theorem dX2_isDry_9 : decode cX2_isDry 9 = .ok (.iconst 0, 1) := by decide +kernel
theorem dX2_isDry_10 : decode cX2_isDry 10 = .ok (.ireturn, 1) := by decide +kernel
theorem dX2_isDry_11 : decode cX2_isDry 11 = .ok (.iconst 0, 1) := by decide +kernel
theorem dX2_isDry_12 : decode cX2_isDry 12 = .ok (.istore_n 3, 1) := by decide +kernel
theorem dX2_isDry_13 : decode cX2_isDry 13 = .ok (.iload_n 3, 1) := by decide +kernel
theorem dX2_isDry_14 : decode cX2_isDry 14 = .ok (.bipush 24, 2) := by decide +kernel
theorem dX2_isDry_16 : decode cX2_isDry 16 = .ok (.if_icmp .ge 33, 3) := by decide +kernel
theorem dX2_isDry_19 : decode cX2_isDry 19 = .ok (.aload_n 0, 1) := by decide +kernel
theorem dX2_isDry_20 : decode cX2_isDry 20 = .ok (.getfield 31, 3) := by decide +kernel
theorem dX2_isDry_23 : decode cX2_isDry 23 = .ok (.iload_n 3, 1) := by decide +kernel
theorem dX2_isDry_24 : decode cX2_isDry 24 = .ok (.invokestatic 44, 3) := by decide +kernel
theorem dX2_isDry_27 : decode cX2_isDry 27 = .ok (.iconst 1, 1) := by decide +kernel
theorem dX2_isDry_28 : decode cX2_isDry 28 = .ok (.if_icmp .ne 15, 3) := by decide +kernel
theorem dX2_isDry_31 : decode cX2_isDry 31 = .ok (.aload_n 0, 1) := by decide +kernel
theorem dX2_isDry_32 : decode cX2_isDry 32 = .ok (.iload_n 3, 1) := by decide +kernel
theorem dX2_isDry_33 : decode cX2_isDry 33 = .ok (.iload_n 1, 1) := by decide +kernel
theorem dX2_isDry_34 : decode cX2_isDry 34 = .ok (.iload_n 2, 1) := by decide +kernel
theorem dX2_isDry_35 : decode cX2_isDry 35 = .ok (.invokevirtual 51, 3) := by decide +kernel
theorem dX2_isDry_38 : decode cX2_isDry 38 = .ok (.ifCond .eq 5, 3) := by decide +kernel
theorem dX2_isDry_41 : decode cX2_isDry 41 = .ok (.iconst 0, 1) := by decide +kernel
theorem dX2_isDry_42 : decode cX2_isDry 42 = .ok (.ireturn, 1) := by decide +kernel
theorem dX2_isDry_43 : decode cX2_isDry 43 = .ok (.iinc 3 1, 3) := by decide +kernel
theorem dX2_isDry_46 : decode cX2_isDry 46 = .ok (.goto (-33), 3) := by decide +kernel
theorem dX2_isDry_49 : decode cX2_isDry 49 = .ok (.iconst 1, 1) := by decide +kernel
theorem dX2_isDry_50 : decode cX2_isDry 50 = .ok (.ireturn, 1) := by decide +kernel
theorem dX2_isWetBy_0 : decode cX2_isWetBy 0 = .ok (.aload_n 0, 1) := by decide +kernel
theorem dX2_isWetBy_1 : decode cX2_isWetBy 1 = .ok (.iload_n 2, 1) := by decide +kernel
theorem dX2_isWetBy_2 : decode cX2_isWetBy 2 = .ok (.iload_n 3, 1) := by decide +kernel
theorem dX2_isWetBy_3 : decode cX2_isWetBy 3 = .ok (.invokevirtual 40, 3) := by decide +kernel
theorem dX2_isWetBy_6 : decode cX2_isWetBy 6 = .ok (.ifCond .ne 40, 3) := by decide +kernel
theorem dX2_isWetBy_9 : decode cX2_isWetBy 9 = .ok (.aload_n 0, 1) := by decide +kernel
theorem dX2_isWetBy_10 : decode cX2_isWetBy 10 = .ok (.iload_n 1, 1) := by decide +kernel
theorem dX2_isWetBy_11 : decode cX2_isWetBy 11 = .ok (.iload_n 2, 1) := by decide +kernel
theorem dX2_isWetBy_12 : decode cX2_isWetBy 12 = .ok (.iload_n 3, 1) := by decide +kernel
theorem dX2_isWetBy_13 : decode cX2_isWetBy 13 = .ok (.invokevirtual 55, 3) := by decide +kernel
theorem dX2_isWetBy_16 : decode cX2_isWetBy 16 = .ok (.aload_n 0, 1) := by decide +kernel
theorem dX2_isWetBy_17 : decode cX2_isWetBy 17 = .ok (.getfield 28, 3) := by decide +kernel
theorem dX2_isWetBy_20 : decode cX2_isWetBy 20 = .ok (.iload_n 1, 1) := by decide +kernel
theorem dX2_isWetBy_21 : decode cX2_isWetBy 21 = .ok (.iaload, 1) := by decide +kernel
theorem dX2_isWetBy_22 : decode cX2_isWetBy 22 = .ok (.aload_n 0, 1) := by decide +kernel
theorem dX2_isWetBy_23 : decode cX2_isWetBy 23 = .ok (.getfield 28, 3) := by decide +kernel
theorem dX2_isWetBy_26 : decode cX2_isWetBy 26 = .ok (.iload_n 1, 1) := by decide +kernel
theorem dX2_isWetBy_27 : decode cX2_isWetBy 27 = .ok (.iaload, 1) := by decide +kernel
theorem dX2_isWetBy_28 : decode cX2_isWetBy 28 = .ok (.imul, 1) := by decide +kernel
theorem dX2_isWetBy_29 : decode cX2_isWetBy 29 = .ok (.if_icmp .gt 17, 3) := by decide +kernel
theorem dX2_isWetBy_32 : decode cX2_isWetBy 32 = .ok (.aload_n 0, 1) := by decide +kernel
theorem dX2_isWetBy_33 : decode cX2_isWetBy 33 = .ok (.iload_n 1, 1) := by decide +kernel
theorem dX2_isWetBy_34 : decode cX2_isWetBy 34 = .ok (.iload_n 2, 1) := by decide +kernel
theorem dX2_isWetBy_35 : decode cX2_isWetBy 35 = .ok (.iload_n 3, 1) := by decide +kernel
theorem dX2_isWetBy_36 : decode cX2_isWetBy 36 = .ok (.invokevirtual 59, 3) := by decide +kernel
theorem dX2_isWetBy_39 : decode cX2_isWetBy 39 = .ok (.ifCond .ne 7, 3) := by decide +kernel
theorem dX2_isWetBy_42 : decode cX2_isWetBy 42 = .ok (.iconst 1, 1) := by decide +kernel
theorem dX2_isWetBy_43 : decode cX2_isWetBy 43 = .ok (.goto 4, 3) := by decide +kernel
theorem dX2_isWetBy_46 : decode cX2_isWetBy 46 = .ok (.iconst 0, 1) := by decide +kernel
theorem dX2_isWetBy_47 : decode cX2_isWetBy 47 = .ok (.ireturn, 1) := by decide +kernel
theorem dX2_isBehindWall_0 : decode cX2_isBehindWall 0 = .ok (.aload_n 0, 1) := by decide +kernel
theorem dX2_isBehindWall_1 : decode cX2_isBehindWall 1 = .ok (.getfield 22, 3) := by decide +kernel
theorem dX2_isBehindWall_4 : decode cX2_isBehindWall 4 = .ok (.iload_n 1, 1) := by decide +kernel
theorem dX2_isBehindWall_5 : decode cX2_isBehindWall 5 = .ok (.iaload, 1) := by decide +kernel
theorem dX2_isBehindWall_6 : decode cX2_isBehindWall 6 = .ok (.iload_n 2, 1) := by decide +kernel
theorem dX2_isBehindWall_7 : decode cX2_isBehindWall 7 = .ok (.invokestatic 62, 3) := by decide +kernel
theorem dX2_isBehindWall_10 : decode cX2_isBehindWall 10 = .ok (.istore 4, 2) := by decide +kernel
theorem dX2_isBehindWall_12 : decode cX2_isBehindWall 12 = .ok (.aload_n 0, 1) := by decide +kernel
theorem dX2_isBehindWall_13 : decode cX2_isBehindWall 13 = .ok (.getfield 25, 3) := by decide +kernel
theorem dX2_isBehindWall_16 : decode cX2_isBehindWall 16 = .ok (.iload_n 1, 1) := by decide +kernel
theorem dX2_isBehindWall_17 : decode cX2_isBehindWall 17 = .ok (.iaload, 1) := by decide +kernel
theorem dX2_isBehindWall_18 : decode cX2_isBehindWall 18 = .ok (.iload_n 3, 1) := by decide +kernel
theorem dX2_isBehindWall_19 : decode cX2_isBehindWall 19 = .ok (.invokestatic 62, 3) := by decide +kernel
theorem dX2_isBehindWall_22 : decode cX2_isBehindWall 22 = .ok (.istore 5, 2) := by decide +kernel
theorem dX2_isBehindWall_24 : decode cX2_isBehindWall 24 = .ok (.aload_n 0, 1) := by decide +kernel
theorem dX2_isBehindWall_25 : decode cX2_isBehindWall 25 = .ok (.getfield 22, 3) := by decide +kernel
theorem dX2_isBehindWall_28 : decode cX2_isBehindWall 28 = .ok (.iload_n 1, 1) := by decide +kernel
theorem dX2_isBehindWall_29 : decode cX2_isBehindWall 29 = .ok (.iaload, 1) := by decide +kernel
theorem dX2_isBehindWall_30 : decode cX2_isBehindWall 30 = .ok (.iload_n 2, 1) := by decide +kernel
theorem dX2_isBehindWall_31 : decode cX2_isBehindWall 31 = .ok (.invokestatic 67, 3) := by decide +kernel
theorem dX2_isBehindWall_34 : decode cX2_isBehindWall 34 = .ok (.istore 6, 2) := by decide +kernel
theorem dX2_isBehindWall_36 : decode cX2_isBehindWall 36 = .ok (.iload 6, 2) := by decide +kernel
theorem dX2_isBehindWall_38 : decode cX2_isBehindWall 38 = .ok (.iload 4, 2) := by decide +kernel
theorem dX2_isBehindWall_40 : decode cX2_isBehindWall 40 = .ok (.if_icmp .gt 88, 3) := by decide +kernel
theorem dX2_isBehindWall_43 : decode cX2_isBehindWall 43 = .ok (.aload_n 0, 1) := by decide +kernel
theorem dX2_isBehindWall_44 : decode cX2_isBehindWall 44 = .ok (.getfield 25, 3) := by decide +kernel
theorem dX2_isBehindWall_47 : decode cX2_isBehindWall 47 = .ok (.iload_n 1, 1) := by decide +kernel
theorem dX2_isBehindWall_48 : decode cX2_isBehindWall 48 = .ok (.iaload, 1) := by decide +kernel
theorem dX2_isBehindWall_49 : decode cX2_isBehindWall 49 = .ok (.iload_n 3, 1) := by decide +kernel
theorem dX2_isBehindWall_50 : decode cX2_isBehindWall 50 = .ok (.invokestatic 67, 3) := by decide +kernel
theorem dX2_isBehindWall_53 : decode cX2_isBehindWall 53 = .ok (.istore 7, 2) := by decide +kernel
theorem dX2_isBehindWall_55 : decode cX2_isBehindWall 55 = .ok (.iload 7, 2) := by decide +kernel
theorem dX2_isBehindWall_57 : decode cX2_isBehindWall 57 = .ok (.iload 5, 2) := by decide +kernel
theorem dX2_isBehindWall_59 : decode cX2_isBehindWall 59 = .ok (.if_icmp .gt 63, 3) := by decide +kernel
theorem dX2_isBehindWall_62 : decode cX2_isBehindWall 62 = .ok (.aload_n 0, 1) := by decide +kernel
theorem dX2_isBehindWall_63 : decode cX2_isBehindWall 63 = .ok (.iload 6, 2) := by decide +kernel
theorem dX2_isBehindWall_65 : decode cX2_isBehindWall 65 = .ok (.iload 7, 2) := by decide +kernel
theorem dX2_isBehindWall_67 : decode cX2_isBehindWall 67 = .ok (.invokevirtual 40, 3) := by decide +kernel
theorem dX2_isBehindWall_70 : decode cX2_isBehindWall 70 = .ok (.iconst 1, 1) := by decide +kernel
theorem dX2_isBehindWall_71 : decode cX2_isBehindWall 71 = .ok (.if_icmp .ne 45, 3) := by decide +kernel
theorem dX2_isBehindWall_74 : decode cX2_isBehindWall 74 = .ok (.iload 6, 2) := by decide +kernel
theorem dX2_isBehindWall_76 : decode cX2_isBehindWall 76 = .ok (.aload_n 0, 1) := by decide +kernel
theorem dX2_isBehindWall_77 : decode cX2_isBehindWall 77 = .ok (.getfield 22, 3) := by decide +kernel
theorem dX2_isBehindWall_80 : decode cX2_isBehindWall 80 = .ok (.iload_n 1, 1) := by decide +kernel
theorem dX2_isBehindWall_81 : decode cX2_isBehindWall 81 = .ok (.iaload, 1) := by decide +kernel
theorem dX2_isBehindWall_82 : decode cX2_isBehindWall 82 = .ok (.isub, 1) := by decide +kernel
theorem dX2_isBehindWall_83 : decode cX2_isBehindWall 83 = .ok (.iload 7, 2) := by decide +kernel
theorem dX2_isBehindWall_85 : decode cX2_isBehindWall 85 = .ok (.aload_n 0, 1) := by decide +kernel
theorem dX2_isBehindWall_86 : decode cX2_isBehindWall 86 = .ok (.getfield 25, 3) := by decide +kernel
theorem dX2_isBehindWall_89 : decode cX2_isBehindWall 89 = .ok (.iload_n 1, 1) := by decide +kernel
theorem dX2_isBehindWall_90 : decode cX2_isBehindWall 90 = .ok (.iaload, 1) := by decide +kernel
theorem dX2_isBehindWall_91 : decode cX2_isBehindWall 91 = .ok (.isub, 1) := by decide +kernel
theorem dX2_isBehindWall_92 : decode cX2_isBehindWall 92 = .ok (.iload_n 2, 1) := by decide +kernel
theorem dX2_isBehindWall_93 : decode cX2_isBehindWall 93 = .ok (.aload_n 0, 1) := by decide +kernel
theorem dX2_isBehindWall_94 : decode cX2_isBehindWall 94 = .ok (.getfield 22, 3) := by decide +kernel
theorem dX2_isBehindWall_97 : decode cX2_isBehindWall 97 = .ok (.iload_n 1, 1) := by decide +kernel
theorem dX2_isBehindWall_98 : decode cX2_isBehindWall 98 = .ok (.iaload, 1) := by decide +kernel
theorem dX2_isBehindWall_99 : decode cX2_isBehindWall 99 = .ok (.isub, 1) := by decide +kernel
theorem dX2_isBehindWall_100 : decode cX2_isBehindWall 100 = .ok (.iload_n 3, 1) := by decide +kernel
theorem dX2_isBehindWall_101 : decode cX2_isBehindWall 101 = .ok (.aload_n 0, 1) := by decide +kernel
theorem dX2_isBehindWall_102 : decode cX2_isBehindWall 102 = .ok (.getfield 25, 3) := by decide +kernel
theorem dX2_isBehindWall_105 : decode cX2_isBehindWall 105 = .ok (.iload_n 1, 1) := by decide +kernel
theorem dX2_isBehindWall_106 : decode cX2_isBehindWall 106 = .ok (.iaload, 1) := by decide +kernel
theorem dX2_isBehindWall_107 : decode cX2_isBehindWall 107 = .ok (.isub, 1) := by decide +kernel
theorem dX2_isBehindWall_108 : decode cX2_isBehindWall 108 = .ok (.invokestatic 70, 3) := by decide +kernel
theorem dX2_isBehindWall_111 : decode cX2_isBehindWall 111 = .ok (.ifCond .eq 5, 3) := by decide +kernel
theorem dX2_isBehindWall_114 : decode cX2_isBehindWall 114 = .ok (.iconst 1, 1) := by decide +kernel
theorem dX2_isBehindWall_115 : decode cX2_isBehindWall 115 = .ok (.ireturn, 1) := by decide +kernel
theorem dX2_isBehindWall_116 : decode cX2_isBehindWall 116 = .ok (.iinc 7 1, 3) := by decide +kernel
theorem dX2_isBehindWall_119 : decode cX2_isBehindWall 119 = .ok (.goto (-64), 3) := by decide +kernel
theorem dX2_isBehindWall_122 : decode cX2_isBehindWall 122 = .ok (.iinc 6 1, 3) := by decide +kernel
theorem dX2_isBehindWall_125 : decode cX2_isBehindWall 125 = .ok (.goto (-89), 3) := by decide +kernel
theorem dX2_isBehindWall_128 : decode cX2_isBehindWall 128 = .ok (.iconst 0, 1) := by decide +kernel
theorem dX2_isBehindWall_129 : decode cX2_isBehindWall 129 = .ok (.ireturn, 1) := by decide +kernel
theorem dX2_isCut_0 : decode cX2_isCut 0 = .ok (.iload_n 2, 1) := by decide +kernel
theorem dX2_isCut_1 : decode cX2_isCut 1 = .ok (.iload_n 1, 1) := by decide +kernel
theorem dX2_isCut_2 : decode cX2_isCut 2 = .ok (.imul, 1) := by decide +kernel
theorem dX2_isCut_3 : decode cX2_isCut 3 = .ok (.iload_n 3, 1) := by decide +kernel
theorem dX2_isCut_4 : decode cX2_isCut 4 = .ok (.iload_n 0, 1) := by decide +kernel
theorem dX2_isCut_5 : decode cX2_isCut 5 = .ok (.imul, 1) := by decide +kernel
theorem dX2_isCut_6 : decode cX2_isCut 6 = .ok (.isub, 1) := by decide +kernel
theorem dX2_isCut_7 : decode cX2_isCut 7 = .ok (.istore 4, 2) := by decide +kernel
theorem dX2_isCut_9 : decode cX2_isCut 9 = .ok (.iconst 2, 1) := by decide +kernel
theorem dX2_isCut_10 : decode cX2_isCut 10 = .ok (.iload 4, 2) := by decide +kernel
theorem dX2_isCut_12 : decode cX2_isCut 12 = .ok (.invokestatic 74, 3) := by decide +kernel
theorem dX2_isCut_15 : decode cX2_isCut 15 = .ok (.imul, 1) := by decide +kernel
theorem dX2_isCut_16 : decode cX2_isCut 16 = .ok (.iload_n 2, 1) := by decide +kernel
theorem dX2_isCut_17 : decode cX2_isCut 17 = .ok (.invokestatic 74, 3) := by decide +kernel
theorem dX2_isCut_20 : decode cX2_isCut 20 = .ok (.iload_n 3, 1) := by decide +kernel
theorem dX2_isCut_21 : decode cX2_isCut 21 = .ok (.invokestatic 74, 3) := by decide +kernel
theorem dX2_isCut_24 : decode cX2_isCut 24 = .ok (.iadd, 1) := by decide +kernel
theorem dX2_isCut_25 : decode cX2_isCut 25 = .ok (.if_icmp .ge 7, 3) := by decide +kernel
theorem dX2_isCut_28 : decode cX2_isCut 28 = .ok (.iconst 1, 1) := by decide +kernel
theorem dX2_isCut_29 : decode cX2_isCut 29 = .ok (.goto 4, 3) := by decide +kernel
theorem dX2_isCut_32 : decode cX2_isCut 32 = .ok (.iconst 0, 1) := by decide +kernel
theorem dX2_isCut_33 : decode cX2_isCut 33 = .ok (.ireturn, 1) := by decide +kernel
theorem dX2_squareTo_0 : decode cX2_squareTo 0 = .ok (.iload_n 2, 1) := by decide +kernel
theorem dX2_squareTo_1 : decode cX2_squareTo 1 = .ok (.aload_n 0, 1) := by decide +kernel
theorem dX2_squareTo_2 : decode cX2_squareTo 2 = .ok (.getfield 22, 3) := by decide +kernel
theorem dX2_squareTo_5 : decode cX2_squareTo 5 = .ok (.iload_n 1, 1) := by decide +kernel
theorem dX2_squareTo_6 : decode cX2_squareTo 6 = .ok (.iaload, 1) := by decide +kernel
theorem dX2_squareTo_7 : decode cX2_squareTo 7 = .ok (.isub, 1) := by decide +kernel
theorem dX2_squareTo_8 : decode cX2_squareTo 8 = .ok (.istore 4, 2) := by decide +kernel
theorem dX2_squareTo_10 : decode cX2_squareTo 10 = .ok (.iload_n 3, 1) := by decide +kernel
theorem dX2_squareTo_11 : decode cX2_squareTo 11 = .ok (.aload_n 0, 1) := by decide +kernel
theorem dX2_squareTo_12 : decode cX2_squareTo 12 = .ok (.getfield 25, 3) := by decide +kernel
theorem dX2_squareTo_15 : decode cX2_squareTo 15 = .ok (.iload_n 1, 1) := by decide +kernel
theorem dX2_squareTo_16 : decode cX2_squareTo 16 = .ok (.iaload, 1) := by decide +kernel
theorem dX2_squareTo_17 : decode cX2_squareTo 17 = .ok (.isub, 1) := by decide +kernel
theorem dX2_squareTo_18 : decode cX2_squareTo 18 = .ok (.istore 5, 2) := by decide +kernel
theorem dX2_squareTo_20 : decode cX2_squareTo 20 = .ok (.iload 4, 2) := by decide +kernel
theorem dX2_squareTo_22 : decode cX2_squareTo 22 = .ok (.iload 4, 2) := by decide +kernel
theorem dX2_squareTo_24 : decode cX2_squareTo 24 = .ok (.imul, 1) := by decide +kernel
theorem dX2_squareTo_25 : decode cX2_squareTo 25 = .ok (.iload 5, 2) := by decide +kernel
theorem dX2_squareTo_27 : decode cX2_squareTo 27 = .ok (.iload 5, 2) := by decide +kernel
theorem dX2_squareTo_29 : decode cX2_squareTo 29 = .ok (.imul, 1) := by decide +kernel
theorem dX2_squareTo_30 : decode cX2_squareTo 30 = .ok (.iadd, 1) := by decide +kernel
theorem dX2_squareTo_31 : decode cX2_squareTo 31 = .ok (.ireturn, 1) := by decide +kernel
theorem dX2_isNearAnother_0 : decode cX2_isNearAnother 0 = .ok (.aload_n 0, 1) := by decide +kernel
theorem dX2_isNearAnother_1 : decode cX2_isNearAnother 1 = .ok (.getfield 31, 3) := by decide +kernel
theorem dX2_isNearAnother_4 : decode cX2_isNearAnother 4 = .ok (.iload_n 1, 1) := by decide +kernel
theorem dX2_isNearAnother_5 : decode cX2_isNearAnother 5 = .ok (.invokestatic 44, 3) := by decide +kernel
theorem dX2_isNearAnother_8 : decode cX2_isNearAnother 8 = .ok (.ifCond .ne 5, 3) := by decide +kernel
theorem dX2_isNearAnother_11 : decode cX2_isNearAnother 11 = .ok (.iconst 0, 1) := by decide +kernel
theorem dX2_isNearAnother_12 : decode cX2_isNearAnother 12 = .ok (.ireturn, 1) := by decide +kernel
theorem dX2_isNearAnother_13 : decode cX2_isNearAnother 13 = .ok (.iconst 0, 1) := by decide +kernel
theorem dX2_isNearAnother_14 : decode cX2_isNearAnother 14 = .ok (.istore_n 3, 1) := by decide +kernel
theorem dX2_isNearAnother_15 : decode cX2_isNearAnother 15 = .ok (.iload_n 3, 1) := by decide +kernel
theorem dX2_isNearAnother_16 : decode cX2_isNearAnother 16 = .ok (.bipush 24, 2) := by decide +kernel
theorem dX2_isNearAnother_18 : decode cX2_isNearAnother 18 = .ok (.if_icmp .ge 49, 3) := by decide +kernel
theorem dX2_isNearAnother_21 : decode cX2_isNearAnother 21 = .ok (.iload_n 3, 1) := by decide +kernel
theorem dX2_isNearAnother_22 : decode cX2_isNearAnother 22 = .ok (.iload_n 1, 1) := by decide +kernel
theorem dX2_isNearAnother_23 : decode cX2_isNearAnother 23 = .ok (.if_icmp .eq 38, 3) := by decide +kernel
theorem dX2_isNearAnother_26 : decode cX2_isNearAnother 26 = .ok (.aload_n 0, 1) := by decide +kernel
theorem dX2_isNearAnother_27 : decode cX2_isNearAnother 27 = .ok (.getfield 31, 3) := by decide +kernel
theorem dX2_isNearAnother_30 : decode cX2_isNearAnother 30 = .ok (.iload_n 3, 1) := by decide +kernel
theorem dX2_isNearAnother_31 : decode cX2_isNearAnother 31 = .ok (.invokestatic 44, 3) := by decide +kernel
theorem dX2_isNearAnother_34 : decode cX2_isNearAnother 34 = .ok (.iconst 1, 1) := by decide +kernel
theorem dX2_isNearAnother_35 : decode cX2_isNearAnother 35 = .ok (.if_icmp .ne 26, 3) := by decide +kernel
theorem dX2_isNearAnother_38 : decode cX2_isNearAnother 38 = .ok (.aload_n 0, 1) := by decide +kernel
theorem dX2_isNearAnother_39 : decode cX2_isNearAnother 39 = .ok (.iload_n 1, 1) := by decide +kernel
theorem dX2_isNearAnother_40 : decode cX2_isNearAnother 40 = .ok (.aload_n 0, 1) := by decide +kernel
theorem dX2_isNearAnother_41 : decode cX2_isNearAnother 41 = .ok (.getfield 22, 3) := by decide +kernel
theorem dX2_isNearAnother_44 : decode cX2_isNearAnother 44 = .ok (.iload_n 3, 1) := by decide +kernel
theorem dX2_isNearAnother_45 : decode cX2_isNearAnother 45 = .ok (.iaload, 1) := by decide +kernel
theorem dX2_isNearAnother_46 : decode cX2_isNearAnother 46 = .ok (.aload_n 0, 1) := by decide +kernel
theorem dX2_isNearAnother_47 : decode cX2_isNearAnother 47 = .ok (.getfield 25, 3) := by decide +kernel
theorem dX2_isNearAnother_50 : decode cX2_isNearAnother 50 = .ok (.iload_n 3, 1) := by decide +kernel
theorem dX2_isNearAnother_51 : decode cX2_isNearAnother 51 = .ok (.iaload, 1) := by decide +kernel
theorem dX2_isNearAnother_52 : decode cX2_isNearAnother 52 = .ok (.invokevirtual 55, 3) := by decide +kernel
theorem dX2_isNearAnother_55 : decode cX2_isNearAnother 55 = .ok (.iload_n 2, 1) := by decide +kernel
theorem dX2_isNearAnother_56 : decode cX2_isNearAnother 56 = .ok (.if_icmp .ge 5, 3) := by decide +kernel
theorem dX2_isNearAnother_59 : decode cX2_isNearAnother 59 = .ok (.iconst 1, 1) := by decide +kernel
theorem dX2_isNearAnother_60 : decode cX2_isNearAnother 60 = .ok (.ireturn, 1) := by decide +kernel
theorem dX2_isNearAnother_61 : decode cX2_isNearAnother 61 = .ok (.iinc 3 1, 3) := by decide +kernel
theorem dX2_isNearAnother_64 : decode cX2_isNearAnother 64 = .ok (.goto (-49), 3) := by decide +kernel
theorem dX2_isNearAnother_67 : decode cX2_isNearAnother 67 = .ok (.iconst 0, 1) := by decide +kernel
theorem dX2_isNearAnother_68 : decode cX2_isNearAnother 68 = .ok (.ireturn, 1) := by decide +kernel
theorem dX3_quotient_0 : decode cX3_quotient 0 = .ok (.lload_n 2, 1) := by decide +kernel
theorem dX3_quotient_1 : decode cX3_quotient 1 = .ok (.lconst 1, 1) := by decide +kernel
theorem dX3_quotient_2 : decode cX3_quotient 2 = .ok (.lcmp, 1) := by decide +kernel
end
section
theorem dX3_quotient_3 : decode cX3_quotient 3 = .ok (.ifCond .ge 5, 3) := by decide +kernel
theorem dX3_quotient_6 : decode cX3_quotient 6 = .ok (.lconst 0, 1) := by decide +kernel
theorem dX3_quotient_7 : decode cX3_quotient 7 = .ok (.lreturn, 1) := by decide +kernel
theorem dX3_quotient_8 : decode cX3_quotient 8 = .ok (.iload 4, 2) := by decide +kernel
theorem dX3_quotient_10 : decode cX3_quotient 10 = .ok (.ifCond .eq 13, 3) := by decide +kernel
theorem dX3_quotient_13 : decode cX3_quotient 13 = .ok (.lload_n 0, 1) := by decide +kernel
theorem dX3_quotient_14 : decode cX3_quotient 14 = .ok (.lload_n 2, 1) := by decide +kernel
theorem dX3_quotient_15 : decode cX3_quotient 15 = .ok (.ladd, 1) := by decide +kernel
theorem dX3_quotient_16 : decode cX3_quotient 16 = .ok (.lconst 1, 1) := by decide +kernel
theorem dX3_quotient_17 : decode cX3_quotient 17 = .ok (.lsub, 1) := by decide +kernel
theorem dX3_quotient_18 : decode cX3_quotient 18 = .ok (.lload_n 2, 1) := by decide +kernel
theorem dX3_quotient_19 : decode cX3_quotient 19 = .ok (.ldiv, 1) := by decide +kernel
theorem dX3_quotient_20 : decode cX3_quotient 20 = .ok (.goto 6, 3) := by decide +kernel
theorem dX3_quotient_23 : decode cX3_quotient 23 = .ok (.lload_n 0, 1) := by decide +kernel
theorem dX3_quotient_24 : decode cX3_quotient 24 = .ok (.lload_n 2, 1) := by decide +kernel
theorem dX3_quotient_25 : decode cX3_quotient 25 = .ok (.ldiv, 1) := by decide +kernel
theorem dX3_quotient_26 : decode cX3_quotient 26 = .ok (.lreturn, 1) := by decide +kernel
theorem dX3_root_0 : decode cX3_root 0 = .ok (.lload_n 0, 1) := by decide +kernel
theorem dX3_root_1 : decode cX3_root 1 = .ok (.lconst 1, 1) := by decide +kernel
theorem dX3_root_2 : decode cX3_root 2 = .ok (.lcmp, 1) := by decide +kernel
theorem dX3_root_3 : decode cX3_root 3 = .ok (.ifCond .ge 5, 3) := by decide +kernel
theorem dX3_root_6 : decode cX3_root 6 = .ok (.lconst 0, 1) := by decide +kernel
theorem dX3_root_7 : decode cX3_root 7 = .ok (.lreturn, 1) := by decide +kernel
theorem dX3_root_8 : decode cX3_root 8 = .ok (.lconst 1, 1) := by decide +kernel
theorem dX3_root_9 : decode cX3_root 9 = .ok (.bipush 65, 2) := by decide +kernel
theorem dX3_root_11 : decode cX3_root 11 = .ok (.lload_n 0, 1) := by decide +kernel
theorem dX3_root_12 : decode cX3_root 12 = .ok (.invokestatic 7, 3) := by decide +kernel
theorem dX3_root_15 : decode cX3_root 15 = .ok (.isub, 1) := by decide +kernel
theorem dX3_root_16 : decode cX3_root 16 = .ok (.iconst 2, 1) := by decide +kernel
theorem dX3_root_17 : decode cX3_root 17 = .ok (.idiv, 1) := by decide +kernel
theorem dX3_root_18 : decode cX3_root 18 = .ok (.lshl, 1) := by decide +kernel
theorem dX3_root_19 : decode cX3_root 19 = .ok (.lstore_n 3, 1) := by decide +kernel
theorem dX3_root_20 : decode cX3_root 20 = .ok (.iconst 0, 1) := by decide +kernel
theorem dX3_root_21 : decode cX3_root 21 = .ok (.istore 5, 2) := by decide +kernel
theorem dX3_root_23 : decode cX3_root 23 = .ok (.iload 5, 2) := by decide +kernel
theorem dX3_root_25 : decode cX3_root 25 = .ok (.bipush 64, 2) := by decide +kernel
theorem dX3_root_27 : decode cX3_root 27 = .ok (.if_icmp .ge 39, 3) := by decide +kernel
theorem dX3_root_30 : decode cX3_root 30 = .ok (.lload_n 3, 1) := by decide +kernel
theorem dX3_root_31 : decode cX3_root 31 = .ok (.lconst 0, 1) := by decide +kernel
theorem dX3_root_32 : decode cX3_root 32 = .ok (.lcmp, 1) := by decide +kernel
theorem dX3_root_33 : decode cX3_root 33 = .ok (.ifCond .le 33, 3) := by decide +kernel
theorem dX3_root_36 : decode cX3_root 36 = .ok (.lload_n 3, 1) := by decide +kernel
theorem dX3_root_37 : decode cX3_root 37 = .ok (.lload_n 0, 1) := by decide +kernel
theorem dX3_root_38 : decode cX3_root 38 = .ok (.lload_n 3, 1) := by decide +kernel
theorem dX3_root_39 : decode cX3_root 39 = .ok (.ldiv, 1) := by decide +kernel
theorem dX3_root_40 : decode cX3_root 40 = .ok (.ladd, 1) := by decide +kernel
theorem dX3_root_41 : decode cX3_root 41 = .ok (.ldc2_w 13, 3) := by decide +kernel
theorem dX3_root_44 : decode cX3_root 44 = .ok (.ldiv, 1) := by decide +kernel
theorem dX3_root_45 : decode cX3_root 45 = .ok (.lstore 6, 2) := by decide +kernel
theorem dX3_root_47 : decode cX3_root 47 = .ok (.lload 6, 2) := by decide +kernel
theorem dX3_root_49 : decode cX3_root 49 = .ok (.lload_n 3, 1) := by decide +kernel
theorem dX3_root_50 : decode cX3_root 50 = .ok (.lcmp, 1) := by decide +kernel
theorem dX3_root_51 : decode cX3_root 51 = .ok (.ifCond .lt 6, 3) := by decide +kernel
theorem dX3_root_54 : decode cX3_root 54 = .ok (.goto 12, 3) := by decide +kernel
theorem dX3_root_57 : decode cX3_root 57 = .ok (.lload 6, 2) := by decide +kernel
theorem dX3_root_59 : decode cX3_root 59 = .ok (.lstore_n 3, 1) := by decide +kernel
theorem dX3_root_60 : decode cX3_root 60 = .ok (.iinc 5 1, 3) := by decide +kernel
theorem dX3_root_63 : decode cX3_root 63 = .ok (.goto (-40), 3) := by decide +kernel
theorem dX3_root_66 : decode cX3_root 66 = .ok (.iload_n 2, 1) := by decide +kernel
theorem dX3_root_67 : decode cX3_root 67 = .ok (.ifCond .eq 17, 3) := by decide +kernel
theorem dX3_root_70 : decode cX3_root 70 = .ok (.lload_n 3, 1) := by decide +kernel
theorem dX3_root_71 : decode cX3_root 71 = .ok (.lload_n 3, 1) := by decide +kernel
theorem dX3_root_72 : decode cX3_root 72 = .ok (.lmul, 1) := by decide +kernel
theorem dX3_root_73 : decode cX3_root 73 = .ok (.lload_n 0, 1) := by decide +kernel
theorem dX3_root_74 : decode cX3_root 74 = .ok (.lcmp, 1) := by decide +kernel
theorem dX3_root_75 : decode cX3_root 75 = .ok (.ifCond .ge 9, 3) := by decide +kernel
theorem dX3_root_78 : decode cX3_root 78 = .ok (.lload_n 3, 1) := by decide +kernel
theorem dX3_root_79 : decode cX3_root 79 = .ok (.lconst 1, 1) := by decide +kernel
theorem dX3_root_80 : decode cX3_root 80 = .ok (.ladd, 1) := by decide +kernel
theorem dX3_root_81 : decode cX3_root 81 = .ok (.goto 4, 3) := by decide +kernel
theorem dX3_root_84 : decode cX3_root 84 = .ok (.lload_n 3, 1) := by decide +kernel
theorem dX3_root_85 : decode cX3_root 85 = .ok (.lreturn, 1) := by decide +kernel
theorem dX4_init_0 : decode cX4_init 0 = .ok (.aload_n 0, 1) := by decide +kernel
theorem dX4_init_1 : decode cX4_init 1 = .ok (.invokespecial 3, 3) := by decide +kernel
theorem dX4_init_4 : decode cX4_init 4 = .ok (.aload_n 0, 1) := by decide +kernel
theorem dX4_init_5 : decode cX4_init 5 = .ok (.aload_n 1, 1) := by decide +kernel
theorem dX4_init_6 : decode cX4_init 6 = .ok (.putfield 9, 3) := by decide +kernel
theorem dX4_init_9 : decode cX4_init 9 = .ok (.aload_n 0, 1) := by decide +kernel
theorem dX4_init_10 : decode cX4_init 10 = .ok (.bipush 25, 2) := by decide +kernel
theorem dX4_init_12 : decode cX4_init 12 = .ok (.newarray .long, 2) := by decide +kernel
theorem dX4_init_14 : decode cX4_init 14 = .ok (.putfield 15, 3) := by decide +kernel
theorem dX4_init_17 : decode cX4_init 17 = .ok (.aload_n 0, 1) := by decide +kernel
theorem dX4_init_18 : decode cX4_init 18 = .ok (.bipush 25, 2) := by decide +kernel
theorem dX4_init_20 : decode cX4_init 20 = .ok (.newarray .long, 2) := by decide +kernel
theorem dX4_init_22 : decode cX4_init 22 = .ok (.putfield 19, 3) := by decide +kernel
theorem dX4_init_25 : decode cX4_init 25 = .ok (.return_, 1) := by decide +kernel
theorem dX4_holdPressures_0 : decode cX4_holdPressures 0 = .ok (.aload_n 0, 1) := by decide +kernel
theorem dX4_holdPressures_1 : decode cX4_holdPressures 1 = .ok (.iconst 1, 1) := by decide +kernel
theorem dX4_holdPressures_2 : decode cX4_holdPressures 2 = .ok (.iload_n 1, 1) := by decide +kernel
theorem dX4_holdPressures_3 : decode cX4_holdPressures 3 = .ok (.isub, 1) := by decide +kernel
theorem dX4_holdPressures_4 : decode cX4_holdPressures 4 = .ok (.aload_n 0, 1) := by decide +kernel
theorem dX4_holdPressures_5 : decode cX4_holdPressures 5 = .ok (.getfield 9, 3) := by decide +kernel
theorem dX4_holdPressures_8 : decode cX4_holdPressures 8 = .ok (.getfield 22, 3) := by decide +kernel
theorem dX4_holdPressures_11 : decode cX4_holdPressures 11 = .ok (.iload_n 2, 1) := by decide +kernel
theorem dX4_holdPressures_12 : decode cX4_holdPressures 12 = .ok (.invokevirtual 28, 3) := by decide +kernel
theorem dX4_holdPressures_15 : decode cX4_holdPressures 15 = .ok (.aload_n 0, 1) := by decide +kernel
theorem dX4_holdPressures_16 : decode cX4_holdPressures 16 = .ok (.iload_n 1, 1) := by decide +kernel
theorem dX4_holdPressures_17 : decode cX4_holdPressures 17 = .ok (.aload_n 0, 1) := by decide +kernel
theorem dX4_holdPressures_18 : decode cX4_holdPressures 18 = .ok (.getfield 9, 3) := by decide +kernel
theorem dX4_holdPressures_21 : decode cX4_holdPressures 21 = .ok (.getfield 22, 3) := by decide +kernel
theorem dX4_holdPressures_24 : decode cX4_holdPressures 24 = .ok (.aload_n 0, 1) := by decide +kernel
theorem dX4_holdPressures_25 : decode cX4_holdPressures 25 = .ok (.getfield 9, 3) := by decide +kernel
theorem dX4_holdPressures_28 : decode cX4_holdPressures 28 = .ok (.getfield 32, 3) := by decide +kernel
theorem dX4_holdPressures_31 : decode cX4_holdPressures 31 = .ok (.invokevirtual 36, 3) := by decide +kernel
theorem dX4_holdPressures_34 : decode cX4_holdPressures 34 = .ok (.return_, 1) := by decide +kernel
theorem dX4_gather_0 : decode cX4_gather 0 = .ok (.aload_n 0, 1) := by decide +kernel
theorem dX4_gather_1 : decode cX4_gather 1 = .ok (.getfield 15, 3) := by decide +kernel
theorem dX4_gather_4 : decode cX4_gather 4 = .ok (.lconst 0, 1) := by decide +kernel
theorem dX4_gather_5 : decode cX4_gather 5 = .ok (.invokestatic 39, 3) := by decide +kernel
theorem dX4_gather_8 : decode cX4_gather 8 = .ok (.aload_n 0, 1) := by decide +kernel
theorem dX4_gather_9 : decode cX4_gather 9 = .ok (.getfield 9, 3) := by decide +kernel
theorem dX4_gather_12 : decode cX4_gather 12 = .ok (.getfield 45, 3) := by decide +kernel
theorem dX4_gather_15 : decode cX4_gather 15 = .ok (.iconst 1, 1) := by decide +kernel
theorem dX4_gather_16 : decode cX4_gather 16 = .ok (.isub, 1) := by decide +kernel
theorem dX4_gather_17 : decode cX4_gather 17 = .ok (.istore 4, 2) := by decide +kernel
theorem dX4_gather_19 : decode cX4_gather 19 = .ok (.iload 4, 2) := by decide +kernel
theorem dX4_gather_21 : decode cX4_gather 21 = .ok (.ifCond .lt 75, 3) := by decide +kernel
theorem dX4_gather_24 : decode cX4_gather 24 = .ok (.iload_n 3, 1) := by decide +kernel
theorem dX4_gather_25 : decode cX4_gather 25 = .ok (.iload 4, 2) := by decide +kernel
theorem dX4_gather_27 : decode cX4_gather 27 = .ok (.invokestatic 48, 3) := by decide +kernel
theorem dX4_gather_30 : decode cX4_gather 30 = .ok (.iconst 1, 1) := by decide +kernel
theorem dX4_gather_31 : decode cX4_gather 31 = .ok (.if_icmp .ne 29, 3) := by decide +kernel
theorem dX4_gather_34 : decode cX4_gather 34 = .ok (.aload_n 0, 1) := by decide +kernel
theorem dX4_gather_35 : decode cX4_gather 35 = .ok (.getfield 15, 3) := by decide +kernel
theorem dX4_gather_38 : decode cX4_gather 38 = .ok (.iload 4, 2) := by decide +kernel
theorem dX4_gather_40 : decode cX4_gather 40 = .ok (.iconst 1, 1) := by decide +kernel
theorem dX4_gather_41 : decode cX4_gather 41 = .ok (.iadd, 1) := by decide +kernel
theorem dX4_gather_42 : decode cX4_gather 42 = .ok (.dup2, 1) := by decide +kernel
theorem dX4_gather_43 : decode cX4_gather 43 = .ok (.laload, 1) := by decide +kernel
theorem dX4_gather_44 : decode cX4_gather 44 = .ok (.ldc2_w 52, 3) := by decide +kernel
theorem dX4_gather_47 : decode cX4_gather 47 = .ok (.aload_n 0, 1) := by decide +kernel
theorem dX4_gather_48 : decode cX4_gather 48 = .ok (.getfield 9, 3) := by decide +kernel
theorem dX4_gather_51 : decode cX4_gather 51 = .ok (.iload 4, 2) := by decide +kernel
theorem dX4_gather_53 : decode cX4_gather 53 = .ok (.invokevirtual 54, 3) := by decide +kernel
theorem dX4_gather_56 : decode cX4_gather 56 = .ok (.i2l, 1) := by decide +kernel
theorem dX4_gather_57 : decode cX4_gather 57 = .ok (.lmul, 1) := by decide +kernel
theorem dX4_gather_58 : decode cX4_gather 58 = .ok (.ladd, 1) := by decide +kernel
theorem dX4_gather_59 : decode cX4_gather 59 = .ok (.lastore, 1) := by decide +kernel
theorem dX4_gather_60 : decode cX4_gather 60 = .ok (.aload_n 0, 1) := by decide +kernel
theorem dX4_gather_61 : decode cX4_gather 61 = .ok (.getfield 15, 3) := by decide +kernel
theorem dX4_gather_64 : decode cX4_gather 64 = .ok (.aload_n 0, 1) := by decide +kernel
theorem dX4_gather_65 : decode cX4_gather 65 = .ok (.getfield 9, 3) := by decide +kernel
theorem dX4_gather_68 : decode cX4_gather 68 = .ok (.getfield 58, 3) := by decide +kernel
theorem dX4_gather_71 : decode cX4_gather 71 = .ok (.iload 4, 2) := by decide +kernel
theorem dX4_gather_73 : decode cX4_gather 73 = .ok (.iaload, 1) := by decide +kernel
theorem dX4_gather_74 : decode cX4_gather 74 = .ok (.iconst 1, 1) := by decide +kernel
theorem dX4_gather_75 : decode cX4_gather 75 = .ok (.iadd, 1) := by decide +kernel
theorem dX4_gather_76 : decode cX4_gather 76 = .ok (.dup2, 1) := by decide +kernel
theorem dX4_gather_77 : decode cX4_gather 77 = .ok (.laload, 1) := by decide +kernel
theorem dX4_gather_78 : decode cX4_gather 78 = .ok (.aload_n 0, 1) := by decide +kernel
theorem dX4_gather_79 : decode cX4_gather 79 = .ok (.iload 4, 2) := by decide +kernel
theorem dX4_gather_81 : decode cX4_gather 81 = .ok (.iconst 1, 1) := by decide +kernel
theorem dX4_gather_82 : decode cX4_gather 82 = .ok (.iadd, 1) := by decide +kernel
theorem dX4_gather_83 : decode cX4_gather 83 = .ok (.iload_n 1, 1) := by decide +kernel
theorem dX4_gather_84 : decode cX4_gather 84 = .ok (.aload_n 2, 1) := by decide +kernel
theorem dX4_gather_85 : decode cX4_gather 85 = .ok (.invokevirtual 61, 3) := by decide +kernel
theorem dX4_gather_88 : decode cX4_gather 88 = .ok (.ladd, 1) := by decide +kernel
theorem dX4_gather_89 : decode cX4_gather 89 = .ok (.lastore, 1) := by decide +kernel
theorem dX4_gather_90 : decode cX4_gather 90 = .ok (.iinc 4 (-1), 3) := by decide +kernel
theorem dX4_gather_93 : decode cX4_gather 93 = .ok (.goto (-74), 3) := by decide +kernel
theorem dX4_gather_96 : decode cX4_gather 96 = .ok (.return_, 1) := by decide +kernel
theorem dX4_conductOf_0 : decode cX4_conductOf 0 = .ok (.aload_n 0, 1) := by decide +kernel
theorem dX4_conductOf_1 : decode cX4_conductOf 1 = .ok (.getfield 15, 3) := by decide +kernel
theorem dX4_conductOf_4 : decode cX4_conductOf 4 = .ok (.iload_n 1, 1) := by decide +kernel
theorem dX4_conductOf_5 : decode cX4_conductOf 5 = .ok (.laload, 1) := by decide +kernel
theorem dX4_conductOf_6 : decode cX4_conductOf 6 = .ok (.lstore 4, 2) := by decide +kernel
theorem dX4_conductOf_8 : decode cX4_conductOf 8 = .ok (.lload 4, 2) := by decide +kernel
theorem dX4_conductOf_10 : decode cX4_conductOf 10 = .ok (.lconst 0, 1) := by decide +kernel
theorem dX4_conductOf_11 : decode cX4_conductOf 11 = .ok (.lcmp, 1) := by decide +kernel
theorem dX4_conductOf_12 : decode cX4_conductOf 12 = .ok (.ifCond .eq 11, 3) := by decide +kernel
theorem dX4_conductOf_15 : decode cX4_conductOf 15 = .ok (.aload_n 0, 1) := by decide +kernel
theorem dX4_conductOf_16 : decode cX4_conductOf 16 = .ok (.iload_n 1, 1) := by decide +kernel
theorem dX4_conductOf_17 : decode cX4_conductOf 17 = .ok (.invokevirtual 65, 3) := by decide +kernel
theorem dX4_conductOf_20 : decode cX4_conductOf 20 = .ok (.ifCond .eq 5, 3) := by decide +kernel
theorem dX4_conductOf_23 : decode cX4_conductOf 23 = .ok (.lconst 0, 1) := by decide +kernel
theorem dX4_conductOf_24 : decode cX4_conductOf 24 = .ok (.lreturn, 1) := by decide +kernel
theorem dX4_conductOf_25 : decode cX4_conductOf 25 = .ok (.ldc2_w 69, 3) := by decide +kernel
theorem dX4_conductOf_28 : decode cX4_conductOf 28 = .ok (.aload_n 3, 1) := by decide +kernel
theorem dX4_conductOf_29 : decode cX4_conductOf 29 = .ok (.iload_n 1, 1) := by decide +kernel
theorem dX4_conductOf_30 : decode cX4_conductOf 30 = .ok (.iaload, 1) := by decide +kernel
theorem dX4_conductOf_31 : decode cX4_conductOf 31 = .ok (.i2l, 1) := by decide +kernel
theorem dX4_conductOf_32 : decode cX4_conductOf 32 = .ok (.lload 4, 2) := by decide +kernel
theorem dX4_conductOf_34 : decode cX4_conductOf 34 = .ok (.lmul, 1) := by decide +kernel
theorem dX4_conductOf_35 : decode cX4_conductOf 35 = .ok (.lload 4, 2) := by decide +kernel
theorem dX4_conductOf_37 : decode cX4_conductOf 37 = .ok (.lmul, 1) := by decide +kernel
theorem dX4_conductOf_38 : decode cX4_conductOf 38 = .ok (.ladd, 1) := by decide +kernel
theorem dX4_conductOf_39 : decode cX4_conductOf 39 = .ok (.lstore 6, 2) := by decide +kernel
theorem dX4_conductOf_41 : decode cX4_conductOf 41 = .ok (.lload 4, 2) := by decide +kernel
theorem dX4_conductOf_43 : decode cX4_conductOf 43 = .ok (.bipush 25, 2) := by decide +kernel
theorem dX4_conductOf_45 : decode cX4_conductOf 45 = .ok (.lshl, 1) := by decide +kernel
theorem dX4_conductOf_46 : decode cX4_conductOf 46 = .ok (.lload 6, 2) := by decide +kernel
theorem dX4_conductOf_48 : decode cX4_conductOf 48 = .ok (.iload_n 2, 1) := by decide +kernel
theorem dX4_conductOf_49 : decode cX4_conductOf 49 = .ok (.ifCond .ne 7, 3) := by decide +kernel
theorem dX4_conductOf_52 : decode cX4_conductOf 52 = .ok (.iconst 1, 1) := by decide +kernel
theorem dX4_conductOf_53 : decode cX4_conductOf 53 = .ok (.goto 4, 3) := by decide +kernel
theorem dX4_conductOf_56 : decode cX4_conductOf 56 = .ok (.iconst 0, 1) := by decide +kernel
theorem dX4_conductOf_57 : decode cX4_conductOf 57 = .ok (.invokestatic 71, 3) := by decide +kernel
theorem dX4_conductOf_60 : decode cX4_conductOf 60 = .ok (.iload_n 2, 1) := by decide +kernel
theorem dX4_conductOf_61 : decode cX4_conductOf 61 = .ok (.iconst 1, 1) := by decide +kernel
theorem dX4_conductOf_62 : decode cX4_conductOf 62 = .ok (.if_icmp .ne 7, 3) := by decide +kernel
theorem dX4_conductOf_65 : decode cX4_conductOf 65 = .ok (.iconst 1, 1) := by decide +kernel
theorem dX4_conductOf_66 : decode cX4_conductOf 66 = .ok (.goto 4, 3) := by decide +kernel
theorem dX4_conductOf_69 : decode cX4_conductOf 69 = .ok (.iconst 0, 1) := by decide +kernel
theorem dX4_conductOf_70 : decode cX4_conductOf 70 = .ok (.invokestatic 77, 3) := by decide +kernel
theorem dX4_conductOf_73 : decode cX4_conductOf 73 = .ok (.lreturn, 1) := by decide +kernel
theorem dX4_fall_0 : decode cX4_fall 0 = .ok (.aload_n 0, 1) := by decide +kernel
theorem dX4_fall_1 : decode cX4_fall 1 = .ok (.getfield 19, 3) := by decide +kernel
theorem dX4_fall_4 : decode cX4_fall 4 = .ok (.iconst 0, 1) := by decide +kernel
theorem dX4_fall_5 : decode cX4_fall 5 = .ok (.aload_n 0, 1) := by decide +kernel
theorem dX4_fall_6 : decode cX4_fall 6 = .ok (.ldc2_w 52, 3) := by decide +kernel
theorem dX4_fall_9 : decode cX4_fall 9 = .ok (.iload_n 3, 1) := by decide +kernel
theorem dX4_fall_10 : decode cX4_fall 10 = .ok (.i2l, 1) := by decide +kernel
theorem dX4_fall_11 : decode cX4_fall 11 = .ok (.lmul, 1) := by decide +kernel
theorem dX4_fall_12 : decode cX4_fall 12 = .ok (.iconst 0, 1) := by decide +kernel
theorem dX4_fall_13 : decode cX4_fall 13 = .ok (.iload_n 1, 1) := by decide +kernel
theorem dX4_fall_14 : decode cX4_fall 14 = .ok (.aload_n 2, 1) := by decide +kernel
theorem dX4_fall_15 : decode cX4_fall 15 = .ok (.invokevirtual 81, 3) := by decide +kernel
theorem dX4_fall_18 : decode cX4_fall 18 = .ok (.lastore, 1) := by decide +kernel
theorem dX4_fall_19 : decode cX4_fall 19 = .ok (.iconst 0, 1) := by decide +kernel
theorem dX4_fall_20 : decode cX4_fall 20 = .ok (.istore 4, 2) := by decide +kernel
theorem dX4_fall_22 : decode cX4_fall 22 = .ok (.iload 4, 2) := by decide +kernel
theorem dX4_fall_24 : decode cX4_fall 24 = .ok (.aload_n 0, 1) := by decide +kernel
theorem dX4_fall_25 : decode cX4_fall 25 = .ok (.getfield 9, 3) := by decide +kernel
theorem dX4_fall_28 : decode cX4_fall 28 = .ok (.getfield 45, 3) := by decide +kernel
theorem dX4_fall_31 : decode cX4_fall 31 = .ok (.if_icmp .ge 45, 3) := by decide +kernel
theorem dX4_fall_34 : decode cX4_fall 34 = .ok (.aload_n 0, 1) := by decide +kernel
theorem dX4_fall_35 : decode cX4_fall 35 = .ok (.getfield 19, 3) := by decide +kernel
theorem dX4_fall_38 : decode cX4_fall 38 = .ok (.iload 4, 2) := by decide +kernel
theorem dX4_fall_40 : decode cX4_fall 40 = .ok (.iconst 1, 1) := by decide +kernel
theorem dX4_fall_41 : decode cX4_fall 41 = .ok (.iadd, 1) := by decide +kernel
theorem dX4_fall_42 : decode cX4_fall 42 = .ok (.aload_n 0, 1) := by decide +kernel
theorem dX4_fall_43 : decode cX4_fall 43 = .ok (.aload_n 0, 1) := by decide +kernel
theorem dX4_fall_44 : decode cX4_fall 44 = .ok (.getfield 19, 3) := by decide +kernel
theorem dX4_fall_47 : decode cX4_fall 47 = .ok (.aload_n 0, 1) := by decide +kernel
theorem dX4_fall_48 : decode cX4_fall 48 = .ok (.getfield 9, 3) := by decide +kernel
theorem dX4_fall_51 : decode cX4_fall 51 = .ok (.getfield 58, 3) := by decide +kernel
theorem dX4_fall_54 : decode cX4_fall 54 = .ok (.iload 4, 2) := by decide +kernel
theorem dX4_fall_56 : decode cX4_fall 56 = .ok (.iaload, 1) := by decide +kernel
theorem dX4_fall_57 : decode cX4_fall 57 = .ok (.iconst 1, 1) := by decide +kernel
theorem dX4_fall_58 : decode cX4_fall 58 = .ok (.iadd, 1) := by decide +kernel
theorem dX4_fall_59 : decode cX4_fall 59 = .ok (.laload, 1) := by decide +kernel
theorem dX4_fall_60 : decode cX4_fall 60 = .ok (.iload 4, 2) := by decide +kernel
theorem dX4_fall_62 : decode cX4_fall 62 = .ok (.iconst 1, 1) := by decide +kernel
theorem dX4_fall_63 : decode cX4_fall 63 = .ok (.iadd, 1) := by decide +kernel
theorem dX4_fall_64 : decode cX4_fall 64 = .ok (.iload_n 1, 1) := by decide +kernel
theorem dX4_fall_65 : decode cX4_fall 65 = .ok (.aload_n 2, 1) := by decide +kernel
theorem dX4_fall_66 : decode cX4_fall 66 = .ok (.invokevirtual 81, 3) := by decide +kernel
theorem dX4_fall_69 : decode cX4_fall 69 = .ok (.lastore, 1) := by decide +kernel
theorem dX4_fall_70 : decode cX4_fall 70 = .ok (.iinc 4 1, 3) := by decide +kernel
theorem dX4_fall_73 : decode cX4_fall 73 = .ok (.goto (-51), 3) := by decide +kernel
theorem dX4_fall_76 : decode cX4_fall 76 = .ok (.return_, 1) := by decide +kernel
theorem dX4_fallen_0 : decode cX4_fallen 0 = .ok (.aload_n 0, 1) := by decide +kernel
theorem dX4_fallen_1 : decode cX4_fallen 1 = .ok (.iload_n 3, 1) := by decide +kernel
theorem dX4_fallen_2 : decode cX4_fallen 2 = .ok (.invokevirtual 65, 3) := by decide +kernel
theorem dX4_fallen_5 : decode cX4_fallen 5 = .ok (.ifCond .eq 5, 3) := by decide +kernel
theorem dX4_fallen_8 : decode cX4_fallen 8 = .ok (.lconst 0, 1) := by decide +kernel
theorem dX4_fallen_9 : decode cX4_fallen 9 = .ok (.lreturn, 1) := by decide +kernel
theorem dX4_fallen_10 : decode cX4_fallen 10 = .ok (.ldc2_w 85, 3) := by decide +kernel
theorem dX4_fallen_13 : decode cX4_fallen 13 = .ok (.aload 5, 2) := by decide +kernel
theorem dX4_fallen_15 : decode cX4_fallen 15 = .ok (.iload_n 3, 1) := by decide +kernel
theorem dX4_fallen_16 : decode cX4_fallen 16 = .ok (.iaload, 1) := by decide +kernel
theorem dX4_fallen_17 : decode cX4_fallen 17 = .ok (.i2l, 1) := by decide +kernel
theorem dX4_fallen_18 : decode cX4_fallen 18 = .ok (.aload_n 0, 1) := by decide +kernel
theorem dX4_fallen_19 : decode cX4_fallen 19 = .ok (.getfield 15, 3) := by decide +kernel
theorem dX4_fallen_22 : decode cX4_fallen 22 = .ok (.iload_n 3, 1) := by decide +kernel
theorem dX4_fallen_23 : decode cX4_fallen 23 = .ok (.laload, 1) := by decide +kernel
theorem dX4_fallen_24 : decode cX4_fallen 24 = .ok (.lmul, 1) := by decide +kernel
theorem dX4_fallen_25 : decode cX4_fallen 25 = .ok (.aload_n 0, 1) := by decide +kernel
theorem dX4_fallen_26 : decode cX4_fallen 26 = .ok (.getfield 15, 3) := by decide +kernel
theorem dX4_fallen_29 : decode cX4_fallen 29 = .ok (.iload_n 3, 1) := by decide +kernel
theorem dX4_fallen_30 : decode cX4_fallen 30 = .ok (.laload, 1) := by decide +kernel
theorem dX4_fallen_31 : decode cX4_fallen 31 = .ok (.lmul, 1) := by decide +kernel
theorem dX4_fallen_32 : decode cX4_fallen 32 = .ok (.ldc2_w 87, 3) := by decide +kernel
theorem dX4_fallen_35 : decode cX4_fallen 35 = .ok (.iload 4, 2) := by decide +kernel
theorem dX4_fallen_37 : decode cX4_fallen 37 = .ok (.ifCond .ne 7, 3) := by decide +kernel
theorem dX4_fallen_40 : decode cX4_fallen 40 = .ok (.iconst 1, 1) := by decide +kernel
theorem dX4_fallen_41 : decode cX4_fallen 41 = .ok (.goto 4, 3) := by decide +kernel
theorem dX4_fallen_44 : decode cX4_fallen 44 = .ok (.iconst 0, 1) := by decide +kernel
theorem dX4_fallen_45 : decode cX4_fallen 45 = .ok (.invokestatic 77, 3) := by decide +kernel
theorem dX4_fallen_48 : decode cX4_fallen 48 = .ok (.ladd, 1) := by decide +kernel
theorem dX4_fallen_49 : decode cX4_fallen 49 = .ok (.lstore 6, 2) := by decide +kernel
theorem dX4_fallen_51 : decode cX4_fallen 51 = .ok (.lload_n 1, 1) := by decide +kernel
theorem dX4_fallen_52 : decode cX4_fallen 52 = .ok (.bipush 30, 2) := by decide +kernel
theorem dX4_fallen_54 : decode cX4_fallen 54 = .ok (.lshl, 1) := by decide +kernel
theorem dX4_fallen_55 : decode cX4_fallen 55 = .ok (.lload 6, 2) := by decide +kernel
theorem dX4_fallen_57 : decode cX4_fallen 57 = .ok (.iload 4, 2) := by decide +kernel
theorem dX4_fallen_59 : decode cX4_fallen 59 = .ok (.iconst 1, 1) := by decide +kernel
theorem dX4_fallen_60 : decode cX4_fallen 60 = .ok (.if_icmp .ne 7, 3) := by decide +kernel
theorem dX4_fallen_63 : decode cX4_fallen 63 = .ok (.iconst 1, 1) := by decide +kernel
theorem dX4_fallen_64 : decode cX4_fallen 64 = .ok (.goto 4, 3) := by decide +kernel
theorem dX4_fallen_67 : decode cX4_fallen 67 = .ok (.iconst 0, 1) := by decide +kernel
theorem dX4_fallen_68 : decode cX4_fallen 68 = .ok (.invokestatic 77, 3) := by decide +kernel
theorem dX4_fallen_71 : decode cX4_fallen 71 = .ok (.lreturn, 1) := by decide +kernel
theorem dX4_isClosed_0 : decode cX4_isClosed 0 = .ok (.iload_n 1, 1) := by decide +kernel
theorem dX4_isClosed_1 : decode cX4_isClosed 1 = .ok (.ifCond .le 24, 3) := by decide +kernel
theorem dX4_isClosed_4 : decode cX4_isClosed 4 = .ok (.aload_n 0, 1) := by decide +kernel
theorem dX4_isClosed_5 : decode cX4_isClosed 5 = .ok (.getfield 9, 3) := by decide +kernel
theorem dX4_isClosed_8 : decode cX4_isClosed 8 = .ok (.getfield 89, 3) := by decide +kernel
theorem dX4_isClosed_11 : decode cX4_isClosed 11 = .ok (.iload_n 1, 1) := by decide +kernel
theorem dX4_isClosed_12 : decode cX4_isClosed 12 = .ok (.iconst 1, 1) := by decide +kernel
theorem dX4_isClosed_13 : decode cX4_isClosed 13 = .ok (.isub, 1) := by decide +kernel
theorem dX4_isClosed_14 : decode cX4_isClosed 14 = .ok (.invokestatic 48, 3) := by decide +kernel
theorem dX4_isClosed_17 : decode cX4_isClosed 17 = .ok (.iconst 1, 1) := by decide +kernel
theorem dX4_isClosed_18 : decode cX4_isClosed 18 = .ok (.if_icmp .ne 7, 3) := by decide +kernel
theorem dX4_isClosed_21 : decode cX4_isClosed 21 = .ok (.iconst 1, 1) := by decide +kernel
theorem dX4_isClosed_22 : decode cX4_isClosed 22 = .ok (.goto 4, 3) := by decide +kernel
theorem dX4_isClosed_25 : decode cX4_isClosed 25 = .ok (.iconst 0, 1) := by decide +kernel
theorem dX4_isClosed_26 : decode cX4_isClosed 26 = .ok (.ireturn, 1) := by decide +kernel
theorem dX4_flowOf_0 : decode cX4_flowOf 0 = .ok (.aload_n 0, 1) := by decide +kernel
theorem dX4_flowOf_1 : decode cX4_flowOf 1 = .ok (.getfield 9, 3) := by decide +kernel
theorem dX4_flowOf_4 : decode cX4_flowOf 4 = .ok (.iload_n 1, 1) := by decide +kernel
theorem dX4_flowOf_5 : decode cX4_flowOf 5 = .ok (.invokevirtual 54, 3) := by decide +kernel
theorem dX4_flowOf_8 : decode cX4_flowOf 8 = .ok (.i2l, 1) := by decide +kernel
theorem dX4_flowOf_9 : decode cX4_flowOf 9 = .ok (.aload_n 0, 1) := by decide +kernel
theorem dX4_flowOf_10 : decode cX4_flowOf 10 = .ok (.getfield 19, 3) := by decide +kernel
theorem dX4_flowOf_13 : decode cX4_flowOf 13 = .ok (.iload_n 1, 1) := by decide +kernel
theorem dX4_flowOf_14 : decode cX4_flowOf 14 = .ok (.iconst 1, 1) := by decide +kernel
theorem dX4_flowOf_15 : decode cX4_flowOf 15 = .ok (.iadd, 1) := by decide +kernel
theorem dX4_flowOf_16 : decode cX4_flowOf 16 = .ok (.laload, 1) := by decide +kernel
theorem dX4_flowOf_17 : decode cX4_flowOf 17 = .ok (.ldc2_w 52, 3) := by decide +kernel
theorem dX4_flowOf_20 : decode cX4_flowOf 20 = .ok (.lmul, 1) := by decide +kernel
theorem dX4_flowOf_21 : decode cX4_flowOf 21 = .ok (.iload_n 2, 1) := by decide +kernel
theorem dX4_flowOf_22 : decode cX4_flowOf 22 = .ok (.iconst 1, 1) := by decide +kernel
theorem dX4_flowOf_23 : decode cX4_flowOf 23 = .ok (.if_icmp .ne 7, 3) := by decide +kernel
theorem dX4_flowOf_26 : decode cX4_flowOf 26 = .ok (.iconst 1, 1) := by decide +kernel
theorem dX4_flowOf_27 : decode cX4_flowOf 27 = .ok (.goto 4, 3) := by decide +kernel
theorem dX4_flowOf_30 : decode cX4_flowOf 30 = .ok (.iconst 0, 1) := by decide +kernel
theorem dX4_flowOf_31 : decode cX4_flowOf 31 = .ok (.invokestatic 71, 3) := by decide +kernel
theorem dX4_flowOf_34 : decode cX4_flowOf 34 = .ok (.lmul, 1) := by decide +kernel
theorem dX4_flowOf_35 : decode cX4_flowOf 35 = .ok (.lreturn, 1) := by decide +kernel
theorem dX4_spareOf_0 : decode cX4_spareOf 0 = .ok (.aload_n 0, 1) := by decide +kernel
theorem dX4_spareOf_1 : decode cX4_spareOf 1 = .ok (.iload_n 1, 1) := by decide +kernel
theorem dX4_spareOf_2 : decode cX4_spareOf 2 = .ok (.iconst 0, 1) := by decide +kernel
theorem dX4_spareOf_3 : decode cX4_spareOf 3 = .ok (.invokevirtual 92, 3) := by decide +kernel
theorem dX4_spareOf_6 : decode cX4_spareOf 6 = .ok (.ldc2_w 52, 3) := by decide +kernel
theorem dX4_spareOf_9 : decode cX4_spareOf 9 = .ok (.aload_n 0, 1) := by decide +kernel
theorem dX4_spareOf_10 : decode cX4_spareOf 10 = .ok (.getfield 9, 3) := by decide +kernel
theorem dX4_spareOf_13 : decode cX4_spareOf 13 = .ok (.getfield 96, 3) := by decide +kernel
theorem dX4_spareOf_16 : decode cX4_spareOf 16 = .ok (.iload_n 1, 1) := by decide +kernel
theorem dX4_spareOf_17 : decode cX4_spareOf 17 = .ok (.iaload, 1) := by decide +kernel
theorem dX4_spareOf_18 : decode cX4_spareOf 18 = .ok (.i2l, 1) := by decide +kernel
theorem dX4_spareOf_19 : decode cX4_spareOf 19 = .ok (.lmul, 1) := by decide +kernel
theorem dX4_spareOf_20 : decode cX4_spareOf 20 = .ok (.lsub, 1) := by decide +kernel
theorem dX4_spareOf_21 : decode cX4_spareOf 21 = .ok (.lreturn, 1) := by decide +kernel
theorem dX4_leastSpare_0 : decode cX4_leastSpare 0 = .ok (.iload_n 1, 1) := by decide +kernel
theorem dX4_leastSpare_1 : decode cX4_leastSpare 1 = .ok (.ifCond .ne 5, 3) := by decide +kernel
theorem dX4_leastSpare_4 : decode cX4_leastSpare 4 = .ok (.lconst 0, 1) := by decide +kernel
theorem dX4_leastSpare_5 : decode cX4_leastSpare 5 = .ok (.lreturn, 1) := by decide +kernel
theorem dX4_leastSpare_6 : decode cX4_leastSpare 6 = .ok (.ldc2_w 99, 3) := by decide +kernel
theorem dX4_leastSpare_9 : decode cX4_leastSpare 9 = .ok (.lstore_n 2, 1) := by decide +kernel
theorem dX4_leastSpare_10 : decode cX4_leastSpare 10 = .ok (.iconst 0, 1) := by decide +kernel
theorem dX4_leastSpare_11 : decode cX4_leastSpare 11 = .ok (.istore 4, 2) := by decide +kernel
theorem dX4_leastSpare_13 : decode cX4_leastSpare 13 = .ok (.iload 4, 2) := by decide +kernel
theorem dX4_leastSpare_15 : decode cX4_leastSpare 15 = .ok (.aload_n 0, 1) := by decide +kernel
theorem dX4_leastSpare_16 : decode cX4_leastSpare 16 = .ok (.getfield 9, 3) := by decide +kernel
theorem dX4_leastSpare_19 : decode cX4_leastSpare 19 = .ok (.getfield 45, 3) := by decide +kernel
theorem dX4_leastSpare_22 : decode cX4_leastSpare 22 = .ok (.if_icmp .ge 30, 3) := by decide +kernel
theorem dX4_leastSpare_25 : decode cX4_leastSpare 25 = .ok (.iload_n 1, 1) := by decide +kernel
theorem dX4_leastSpare_26 : decode cX4_leastSpare 26 = .ok (.iload 4, 2) := by decide +kernel
theorem dX4_leastSpare_28 : decode cX4_leastSpare 28 = .ok (.invokestatic 48, 3) := by decide +kernel
theorem dX4_leastSpare_31 : decode cX4_leastSpare 31 = .ok (.iconst 1, 1) := by decide +kernel
theorem dX4_leastSpare_32 : decode cX4_leastSpare 32 = .ok (.if_icmp .ne 14, 3) := by decide +kernel
theorem dX4_leastSpare_35 : decode cX4_leastSpare 35 = .ok (.lload_n 2, 1) := by decide +kernel
theorem dX4_leastSpare_36 : decode cX4_leastSpare 36 = .ok (.aload_n 0, 1) := by decide +kernel
theorem dX4_leastSpare_37 : decode cX4_leastSpare 37 = .ok (.iload 4, 2) := by decide +kernel
theorem dX4_leastSpare_39 : decode cX4_leastSpare 39 = .ok (.invokevirtual 101, 3) := by decide +kernel
theorem dX4_leastSpare_42 : decode cX4_leastSpare 42 = .ok (.invokestatic 105, 3) := by decide +kernel
theorem dX4_leastSpare_45 : decode cX4_leastSpare 45 = .ok (.lstore_n 2, 1) := by decide +kernel
theorem dX4_leastSpare_46 : decode cX4_leastSpare 46 = .ok (.iinc 4 1, 3) := by decide +kernel
theorem dX4_leastSpare_49 : decode cX4_leastSpare 49 = .ok (.goto (-36), 3) := by decide +kernel
theorem dX4_leastSpare_52 : decode cX4_leastSpare 52 = .ok (.lload_n 2, 1) := by decide +kernel
theorem dX4_leastSpare_53 : decode cX4_leastSpare 53 = .ok (.lreturn, 1) := by decide +kernel
theorem dX5_init_0 : decode cX5_init 0 = .ok (.aload_n 0, 1) := by decide +kernel
theorem dX5_init_1 : decode cX5_init 1 = .ok (.invokespecial 3, 3) := by decide +kernel
theorem dX5_init_4 : decode cX5_init 4 = .ok (.new 9, 3) := by decide +kernel
theorem dX5_init_7 : decode cX5_init 7 = .ok (.dup, 1) := by decide +kernel
theorem dX5_init_8 : decode cX5_init 8 = .ok (.invokespecial 11, 3) := by decide +kernel
theorem dX5_init_11 : decode cX5_init 11 = .ok (.astore_n 1, 1) := by decide +kernel
theorem dX5_init_12 : decode cX5_init 12 = .ok (.new 12, 3) := by decide +kernel
theorem dX5_init_15 : decode cX5_init 15 = .ok (.dup, 1) := by decide +kernel
theorem dX5_init_16 : decode cX5_init 16 = .ok (.aload_n 1, 1) := by decide +kernel
theorem dX5_init_17 : decode cX5_init 17 = .ok (.invokespecial 14, 3) := by decide +kernel
theorem dX5_init_20 : decode cX5_init 20 = .ok (.astore_n 2, 1) := by decide +kernel
theorem dX5_init_21 : decode cX5_init 21 = .ok (.bipush 6, 2) := by decide +kernel
theorem dX5_init_23 : decode cX5_init 23 = .ok (.newarray .int, 2) := by decide +kernel
theorem dX5_init_25 : decode cX5_init 25 = .ok (.astore_n 3, 1) := by decide +kernel
theorem dX5_init_26 : decode cX5_init 26 = .ok (.aload_n 0, 1) := by decide +kernel
theorem dX5_init_27 : decode cX5_init 27 = .ok (.aload_n 1, 1) := by decide +kernel
theorem dX5_init_28 : decode cX5_init 28 = .ok (.putfield 17, 3) := by decide +kernel
theorem dX5_init_31 : decode cX5_init 31 = .ok (.aload_n 0, 1) := by decide +kernel
theorem dX5_init_32 : decode cX5_init 32 = .ok (.aload_n 2, 1) := by decide +kernel
theorem dX5_init_33 : decode cX5_init 33 = .ok (.putfield 21, 3) := by decide +kernel
theorem dX5_init_36 : decode cX5_init 36 = .ok (.aload_n 0, 1) := by decide +kernel
theorem dX5_init_37 : decode cX5_init 37 = .ok (.aload_n 3, 1) := by decide +kernel
theorem dX5_init_38 : decode cX5_init 38 = .ok (.putfield 25, 3) := by decide +kernel
theorem dX5_init_41 : decode cX5_init 41 = .ok (.aload_n 0, 1) := by decide +kernel
theorem dX5_init_42 : decode cX5_init 42 = .ok (.new 29, 3) := by decide +kernel
theorem dX5_init_45 : decode cX5_init 45 = .ok (.dup, 1) := by decide +kernel
theorem dX5_init_46 : decode cX5_init 46 = .ok (.aload_n 1, 1) := by decide +kernel
theorem dX5_init_47 : decode cX5_init 47 = .ok (.aload_n 2, 1) := by decide +kernel
theorem dX5_init_48 : decode cX5_init 48 = .ok (.aload_n 3, 1) := by decide +kernel
theorem dX5_init_49 : decode cX5_init 49 = .ok (.invokespecial 31, 3) := by decide +kernel
theorem dX5_init_52 : decode cX5_init 52 = .ok (.putfield 34, 3) := by decide +kernel
theorem dX5_init_55 : decode cX5_init 55 = .ok (.aload_n 0, 1) := by decide +kernel
theorem dX5_init_56 : decode cX5_init 56 = .ok (.new 38, 3) := by decide +kernel
theorem dX5_init_59 : decode cX5_init 59 = .ok (.dup, 1) := by decide +kernel
theorem dX5_init_60 : decode cX5_init 60 = .ok (.invokespecial 40, 3) := by decide +kernel
theorem dX5_init_63 : decode cX5_init 63 = .ok (.putfield 41, 3) := by decide +kernel
theorem dX5_init_66 : decode cX5_init 66 = .ok (.return_, 1) := by decide +kernel
theorem dX5_supply_0 : decode cX5_supply 0 = .ok (.iload_n 1, 1) := by decide +kernel
theorem dX5_supply_1 : decode cX5_supply 1 = .ok (.iconst 1, 1) := by decide +kernel
theorem dX5_supply_2 : decode cX5_supply 2 = .ok (.ldc 45, 2) := by decide +kernel
theorem dX5_supply_4 : decode cX5_supply 4 = .ok (.invokestatic 46, 3) := by decide +kernel
theorem dX5_supply_7 : decode cX5_supply 7 = .ok (.ifCond .eq 14, 3) := by decide +kernel
theorem dX5_supply_10 : decode cX5_supply 10 = .ok (.iload_n 2, 1) := by decide +kernel
theorem dX5_supply_11 : decode cX5_supply 11 = .ok (.iconst 0, 1) := by decide +kernel
theorem dX5_supply_12 : decode cX5_supply 12 = .ok (.sipush 4000, 3) := by decide +kernel
theorem dX5_supply_15 : decode cX5_supply 15 = .ok (.invokestatic 46, 3) := by decide +kernel
theorem dX5_supply_18 : decode cX5_supply 18 = .ok (.ifCond .ne 6, 3) := by decide +kernel
theorem dX5_supply_21 : decode cX5_supply 21 = .ok (.bipush (-2), 2) := by decide +kernel
theorem dX5_supply_23 : decode cX5_supply 23 = .ok (.ireturn, 1) := by decide +kernel
theorem dX5_supply_24 : decode cX5_supply 24 = .ok (.aload_n 0, 1) := by decide +kernel
theorem dX5_supply_25 : decode cX5_supply 25 = .ok (.getfield 17, 3) := by decide +kernel
theorem dX5_supply_28 : decode cX5_supply 28 = .ok (.iload_n 1, 1) := by decide +kernel
theorem dX5_supply_29 : decode cX5_supply 29 = .ok (.putfield 50, 3) := by decide +kernel
theorem dX5_supply_32 : decode cX5_supply 32 = .ok (.aload_n 0, 1) := by decide +kernel
theorem dX5_supply_33 : decode cX5_supply 33 = .ok (.getfield 17, 3) := by decide +kernel
theorem dX5_supply_36 : decode cX5_supply 36 = .ok (.getfield 54, 3) := by decide +kernel
theorem dX5_supply_39 : decode cX5_supply 39 = .ok (.iconst 0, 1) := by decide +kernel
theorem dX5_supply_40 : decode cX5_supply 40 = .ok (.iload_n 2, 1) := by decide +kernel
theorem dX5_supply_41 : decode cX5_supply 41 = .ok (.iastore, 1) := by decide +kernel
theorem dX5_supply_42 : decode cX5_supply 42 = .ok (.iconst 1, 1) := by decide +kernel
theorem dX5_supply_43 : decode cX5_supply 43 = .ok (.ireturn, 1) := by decide +kernel
theorem dX5_size_0 : decode cX5_size 0 = .ok (.iload_n 1, 1) := by decide +kernel
theorem dX5_size_1 : decode cX5_size 1 = .ok (.iconst 1, 1) := by decide +kernel
theorem dX5_size_2 : decode cX5_size 2 = .ok (.sipush 400, 3) := by decide +kernel
theorem dX5_size_5 : decode cX5_size 5 = .ok (.invokestatic 46, 3) := by decide +kernel
theorem dX5_size_8 : decode cX5_size 8 = .ok (.ifCond .eq 14, 3) := by decide +kernel
theorem dX5_size_11 : decode cX5_size 11 = .ok (.iload_n 2, 1) := by decide +kernel
theorem dX5_size_12 : decode cX5_size 12 = .ok (.iconst 1, 1) := by decide +kernel
theorem dX5_size_13 : decode cX5_size 13 = .ok (.sipush 1000, 3) := by decide +kernel
theorem dX5_size_16 : decode cX5_size 16 = .ok (.invokestatic 46, 3) := by decide +kernel
theorem dX5_size_19 : decode cX5_size 19 = .ok (.ifCond .ne 6, 3) := by decide +kernel
theorem dX5_size_22 : decode cX5_size 22 = .ok (.bipush (-2), 2) := by decide +kernel
theorem dX5_size_24 : decode cX5_size 24 = .ok (.ireturn, 1) := by decide +kernel
theorem dX5_size_25 : decode cX5_size 25 = .ok (.aload_n 0, 1) := by decide +kernel
theorem dX5_size_26 : decode cX5_size 26 = .ok (.getfield 17, 3) := by decide +kernel
theorem dX5_size_29 : decode cX5_size 29 = .ok (.getfield 57, 3) := by decide +kernel
theorem dX5_size_32 : decode cX5_size 32 = .ok (.bipush 6, 2) := by decide +kernel
theorem dX5_size_34 : decode cX5_size 34 = .ok (.if_icmp .lt 6, 3) := by decide +kernel
theorem dX5_size_37 : decode cX5_size 37 = .ok (.bipush (-4), 2) := by decide +kernel
theorem dX5_size_39 : decode cX5_size 39 = .ok (.ireturn, 1) := by decide +kernel
theorem dX5_size_40 : decode cX5_size 40 = .ok (.aload_n 0, 1) := by decide +kernel
theorem dX5_size_41 : decode cX5_size 41 = .ok (.getfield 17, 3) := by decide +kernel
theorem dX5_size_44 : decode cX5_size 44 = .ok (.iload_n 1, 1) := by decide +kernel
theorem dX5_size_45 : decode cX5_size 45 = .ok (.iload_n 2, 1) := by decide +kernel
theorem dX5_size_46 : decode cX5_size 46 = .ok (.invokevirtual 60, 3) := by decide +kernel
theorem dX5_size_49 : decode cX5_size 49 = .ok (.ireturn, 1) := by decide +kernel
theorem dX5_pipe_0 : decode cX5_pipe 0 = .ok (.aload_n 0, 1) := by decide +kernel
theorem dX5_pipe_1 : decode cX5_pipe 1 = .ok (.iload_n 1, 1) := by decide +kernel
theorem dX5_pipe_2 : decode cX5_pipe 2 = .ok (.invokevirtual 64, 3) := by decide +kernel
theorem dX5_pipe_5 : decode cX5_pipe 5 = .ok (.ifCond .eq 11, 3) := by decide +kernel
theorem dX5_pipe_8 : decode cX5_pipe 8 = .ok (.aload_n 0, 1) := by decide +kernel
theorem dX5_pipe_9 : decode cX5_pipe 9 = .ok (.iload_n 3, 1) := by decide +kernel
theorem dX5_pipe_10 : decode cX5_pipe 10 = .ok (.invokevirtual 68, 3) := by decide +kernel
theorem dX5_pipe_13 : decode cX5_pipe 13 = .ok (.ifCond .ne 5, 3) := by decide +kernel
theorem dX5_pipe_16 : decode cX5_pipe 16 = .ok (.iconst (-1), 1) := by decide +kernel
theorem dX5_pipe_17 : decode cX5_pipe 17 = .ok (.ireturn, 1) := by decide +kernel
theorem dX5_pipe_18 : decode cX5_pipe 18 = .ok (.iload_n 2, 1) := by decide +kernel
theorem dX5_pipe_19 : decode cX5_pipe 19 = .ok (.iconst 1, 1) := by decide +kernel
theorem dX5_pipe_20 : decode cX5_pipe 20 = .ok (.bipush 10, 2) := by decide +kernel
theorem dX5_pipe_22 : decode cX5_pipe 22 = .ok (.invokestatic 46, 3) := by decide +kernel
theorem dX5_pipe_25 : decode cX5_pipe 25 = .ok (.ifCond .ne 6, 3) := by decide +kernel
theorem dX5_pipe_28 : decode cX5_pipe 28 = .ok (.bipush (-2), 2) := by decide +kernel
theorem dX5_pipe_30 : decode cX5_pipe 30 = .ok (.ireturn, 1) := by decide +kernel
theorem dX5_pipe_31 : decode cX5_pipe 31 = .ok (.aload_n 0, 1) := by decide +kernel
theorem dX5_pipe_32 : decode cX5_pipe 32 = .ok (.getfield 17, 3) := by decide +kernel
theorem dX5_pipe_35 : decode cX5_pipe 35 = .ok (.getfield 71, 3) := by decide +kernel
theorem dX5_pipe_38 : decode cX5_pipe 38 = .ok (.bipush 24, 2) := by decide +kernel
theorem dX5_pipe_40 : decode cX5_pipe 40 = .ok (.if_icmp .lt 6, 3) := by decide +kernel
theorem dX5_pipe_43 : decode cX5_pipe 43 = .ok (.bipush (-4), 2) := by decide +kernel
theorem dX5_pipe_45 : decode cX5_pipe 45 = .ok (.ireturn, 1) := by decide +kernel
theorem dX5_pipe_46 : decode cX5_pipe 46 = .ok (.aload_n 0, 1) := by decide +kernel
theorem dX5_pipe_47 : decode cX5_pipe 47 = .ok (.getfield 17, 3) := by decide +kernel
theorem dX5_pipe_50 : decode cX5_pipe 50 = .ok (.getfield 74, 3) := by decide +kernel
theorem dX5_pipe_53 : decode cX5_pipe 53 = .ok (.iload_n 1, 1) := by decide +kernel
theorem dX5_pipe_54 : decode cX5_pipe 54 = .ok (.iconst 1, 1) := by decide +kernel
theorem dX5_pipe_55 : decode cX5_pipe 55 = .ok (.iadd, 1) := by decide +kernel
theorem dX5_pipe_56 : decode cX5_pipe 56 = .ok (.iaload, 1) := by decide +kernel
theorem dX5_pipe_57 : decode cX5_pipe 57 = .ok (.bipush 8, 2) := by decide +kernel
theorem dX5_pipe_59 : decode cX5_pipe 59 = .ok (.if_icmp .lt 6, 3) := by decide +kernel
theorem dX5_pipe_62 : decode cX5_pipe 62 = .ok (.bipush (-5), 2) := by decide +kernel
theorem dX5_pipe_64 : decode cX5_pipe 64 = .ok (.ireturn, 1) := by decide +kernel
theorem dX5_pipe_65 : decode cX5_pipe 65 = .ok (.aload_n 0, 1) := by decide +kernel
theorem dX5_pipe_66 : decode cX5_pipe 66 = .ok (.getfield 17, 3) := by decide +kernel
theorem dX5_pipe_69 : decode cX5_pipe 69 = .ok (.iload_n 1, 1) := by decide +kernel
theorem dX5_pipe_70 : decode cX5_pipe 70 = .ok (.iload_n 2, 1) := by decide +kernel
theorem dX5_pipe_71 : decode cX5_pipe 71 = .ok (.iload_n 3, 1) := by decide +kernel
theorem dX5_pipe_72 : decode cX5_pipe 72 = .ok (.invokevirtual 77, 3) := by decide +kernel
theorem dX5_pipe_75 : decode cX5_pipe 75 = .ok (.ireturn, 1) := by decide +kernel
theorem dX5_head_0 : decode cX5_head 0 = .ok (.aload_n 0, 1) := by decide +kernel
theorem dX5_head_1 : decode cX5_head 1 = .ok (.iload_n 1, 1) := by decide +kernel
theorem dX5_head_2 : decode cX5_head 2 = .ok (.invokevirtual 81, 3) := by decide +kernel
theorem dX5_head_5 : decode cX5_head 5 = .ok (.ifCond .ne 5, 3) := by decide +kernel
theorem dX5_head_8 : decode cX5_head 8 = .ok (.iconst (-1), 1) := by decide +kernel
theorem dX5_head_9 : decode cX5_head 9 = .ok (.ireturn, 1) := by decide +kernel
theorem dX5_head_10 : decode cX5_head 10 = .ok (.iload_n 2, 1) := by decide +kernel
theorem dX5_head_11 : decode cX5_head 11 = .ok (.iconst 1, 1) := by decide +kernel
theorem dX5_head_12 : decode cX5_head 12 = .ok (.sipush 200, 3) := by decide +kernel
theorem dX5_head_15 : decode cX5_head 15 = .ok (.invokestatic 46, 3) := by decide +kernel
theorem dX5_head_18 : decode cX5_head 18 = .ok (.ifCond .eq 14, 3) := by decide +kernel
theorem dX5_head_21 : decode cX5_head 21 = .ok (.iload_n 3, 1) := by decide +kernel
theorem dX5_head_22 : decode cX5_head 22 = .ok (.iconst 0, 1) := by decide +kernel
theorem dX5_head_23 : decode cX5_head 23 = .ok (.sipush 30000, 3) := by decide +kernel
theorem dX5_head_26 : decode cX5_head 26 = .ok (.invokestatic 46, 3) := by decide +kernel
theorem dX5_head_29 : decode cX5_head 29 = .ok (.ifCond .ne 6, 3) := by decide +kernel
theorem dX5_head_32 : decode cX5_head 32 = .ok (.bipush (-2), 2) := by decide +kernel
theorem dX5_head_34 : decode cX5_head 34 = .ok (.ireturn, 1) := by decide +kernel
theorem dX5_head_35 : decode cX5_head 35 = .ok (.aload_n 0, 1) := by decide +kernel
theorem dX5_head_36 : decode cX5_head 36 = .ok (.getfield 17, 3) := by decide +kernel
theorem dX5_head_39 : decode cX5_head 39 = .ok (.iload_n 1, 1) := by decide +kernel
theorem dX5_head_40 : decode cX5_head 40 = .ok (.iload_n 2, 1) := by decide +kernel
theorem dX5_head_41 : decode cX5_head 41 = .ok (.iload_n 3, 1) := by decide +kernel
theorem dX5_head_42 : decode cX5_head 42 = .ok (.invokevirtual 84, 3) := by decide +kernel
theorem dX5_head_45 : decode cX5_head 45 = .ok (.iconst 1, 1) := by decide +kernel
theorem dX5_head_46 : decode cX5_head 46 = .ok (.ireturn, 1) := by decide +kernel
theorem dX5_open_0 : decode cX5_open 0 = .ok (.aload_n 0, 1) := by decide +kernel
theorem dX5_open_1 : decode cX5_open 1 = .ok (.iload_n 1, 1) := by decide +kernel
theorem dX5_open_2 : decode cX5_open 2 = .ok (.invokevirtual 88, 3) := by decide +kernel
theorem dX5_open_5 : decode cX5_open 5 = .ok (.ifCond .ne 5, 3) := by decide +kernel
theorem dX5_open_8 : decode cX5_open 8 = .ok (.iconst (-1), 1) := by decide +kernel
theorem dX5_open_9 : decode cX5_open 9 = .ok (.ireturn, 1) := by decide +kernel
theorem dX5_open_10 : decode cX5_open 10 = .ok (.aload_n 0, 1) := by decide +kernel
theorem dX5_open_11 : decode cX5_open 11 = .ok (.getfield 17, 3) := by decide +kernel
theorem dX5_open_14 : decode cX5_open 14 = .ok (.getfield 91, 3) := by decide +kernel
theorem dX5_open_17 : decode cX5_open 17 = .ok (.iload_n 1, 1) := by decide +kernel
theorem dX5_open_18 : decode cX5_open 18 = .ok (.invokestatic 94, 3) := by decide +kernel
theorem dX5_open_21 : decode cX5_open 21 = .ok (.istore_n 3, 1) := by decide +kernel
theorem dX5_open_22 : decode cX5_open 22 = .ok (.aload_n 0, 1) := by decide +kernel
theorem dX5_open_23 : decode cX5_open 23 = .ok (.getfield 17, 3) := by decide +kernel
theorem dX5_open_26 : decode cX5_open 26 = .ok (.aload_n 0, 1) := by decide +kernel
theorem dX5_open_27 : decode cX5_open 27 = .ok (.getfield 17, 3) := by decide +kernel
theorem dX5_open_30 : decode cX5_open 30 = .ok (.getfield 91, 3) := by decide +kernel
theorem dX5_open_33 : decode cX5_open 33 = .ok (.iload_n 1, 1) := by decide +kernel
theorem dX5_open_34 : decode cX5_open 34 = .ok (.iload_n 2, 1) := by decide +kernel
theorem dX5_open_35 : decode cX5_open 35 = .ok (.invokestatic 97, 3) := by decide +kernel
theorem dX5_open_38 : decode cX5_open 38 = .ok (.putfield 91, 3) := by decide +kernel
theorem dX5_open_41 : decode cX5_open 41 = .ok (.iload_n 3, 1) := by decide +kernel
theorem dX5_open_42 : decode cX5_open 42 = .ok (.ireturn, 1) := by decide +kernel
theorem dX5_shut_0 : decode cX5_shut 0 = .ok (.aload_n 0, 1) := by decide +kernel
theorem dX5_shut_1 : decode cX5_shut 1 = .ok (.iload_n 1, 1) := by decide +kernel
theorem dX5_shut_2 : decode cX5_shut 2 = .ok (.invokevirtual 81, 3) := by decide +kernel
theorem dX5_shut_5 : decode cX5_shut 5 = .ok (.ifCond .ne 5, 3) := by decide +kernel
theorem dX5_shut_8 : decode cX5_shut 8 = .ok (.iconst (-1), 1) := by decide +kernel
theorem dX5_shut_9 : decode cX5_shut 9 = .ok (.ireturn, 1) := by decide +kernel
theorem dX5_shut_10 : decode cX5_shut 10 = .ok (.aload_n 0, 1) := by decide +kernel
theorem dX5_shut_11 : decode cX5_shut 11 = .ok (.getfield 17, 3) := by decide +kernel
theorem dX5_shut_14 : decode cX5_shut 14 = .ok (.getfield 101, 3) := by decide +kernel
theorem dX5_shut_17 : decode cX5_shut 17 = .ok (.iload_n 1, 1) := by decide +kernel
theorem dX5_shut_18 : decode cX5_shut 18 = .ok (.invokestatic 94, 3) := by decide +kernel
theorem dX5_shut_21 : decode cX5_shut 21 = .ok (.istore_n 3, 1) := by decide +kernel
theorem dX5_shut_22 : decode cX5_shut 22 = .ok (.aload_n 0, 1) := by decide +kernel
theorem dX5_shut_23 : decode cX5_shut 23 = .ok (.getfield 17, 3) := by decide +kernel
theorem dX5_shut_26 : decode cX5_shut 26 = .ok (.aload_n 0, 1) := by decide +kernel
theorem dX5_shut_27 : decode cX5_shut 27 = .ok (.getfield 17, 3) := by decide +kernel
theorem dX5_shut_30 : decode cX5_shut 30 = .ok (.getfield 101, 3) := by decide +kernel
theorem dX5_shut_33 : decode cX5_shut 33 = .ok (.iload_n 1, 1) := by decide +kernel
theorem dX5_shut_34 : decode cX5_shut 34 = .ok (.iload_n 2, 1) := by decide +kernel
theorem dX5_shut_35 : decode cX5_shut 35 = .ok (.invokestatic 97, 3) := by decide +kernel
theorem dX5_shut_38 : decode cX5_shut 38 = .ok (.putfield 101, 3) := by decide +kernel
theorem dX5_shut_41 : decode cX5_shut 41 = .ok (.iload_n 3, 1) := by decide +kernel
theorem dX5_shut_42 : decode cX5_shut 42 = .ok (.ireturn, 1) := by decide +kernel
theorem dX5_clog_0 : decode cX5_clog 0 = .ok (.aload_n 0, 1) := by decide +kernel
theorem dX5_clog_1 : decode cX5_clog 1 = .ok (.iload_n 1, 1) := by decide +kernel
theorem dX5_clog_2 : decode cX5_clog 2 = .ok (.invokevirtual 88, 3) := by decide +kernel
theorem dX5_clog_5 : decode cX5_clog 5 = .ok (.ifCond .ne 5, 3) := by decide +kernel
theorem dX5_clog_8 : decode cX5_clog 8 = .ok (.iconst (-1), 1) := by decide +kernel
theorem dX5_clog_9 : decode cX5_clog 9 = .ok (.ireturn, 1) := by decide +kernel
theorem dX5_clog_10 : decode cX5_clog 10 = .ok (.iload_n 2, 1) := by decide +kernel
theorem dX5_clog_11 : decode cX5_clog 11 = .ok (.iconst 0, 1) := by decide +kernel
theorem dX5_clog_12 : decode cX5_clog 12 = .ok (.bipush 100, 2) := by decide +kernel
theorem dX5_clog_14 : decode cX5_clog 14 = .ok (.invokestatic 46, 3) := by decide +kernel
theorem dX5_clog_17 : decode cX5_clog 17 = .ok (.ifCond .ne 6, 3) := by decide +kernel
theorem dX5_clog_20 : decode cX5_clog 20 = .ok (.bipush (-2), 2) := by decide +kernel
theorem dX5_clog_22 : decode cX5_clog 22 = .ok (.ireturn, 1) := by decide +kernel
theorem dX5_clog_23 : decode cX5_clog 23 = .ok (.aload_n 0, 1) := by decide +kernel
theorem dX5_clog_24 : decode cX5_clog 24 = .ok (.getfield 17, 3) := by decide +kernel
theorem dX5_clog_27 : decode cX5_clog 27 = .ok (.getfield 104, 3) := by decide +kernel
theorem dX5_clog_30 : decode cX5_clog 30 = .ok (.iload_n 1, 1) := by decide +kernel
theorem dX5_clog_31 : decode cX5_clog 31 = .ok (.iaload, 1) := by decide +kernel
theorem dX5_clog_32 : decode cX5_clog 32 = .ok (.istore_n 3, 1) := by decide +kernel
theorem dX5_clog_33 : decode cX5_clog 33 = .ok (.aload_n 0, 1) := by decide +kernel
theorem dX5_clog_34 : decode cX5_clog 34 = .ok (.getfield 17, 3) := by decide +kernel
theorem dX5_clog_37 : decode cX5_clog 37 = .ok (.getfield 104, 3) := by decide +kernel
theorem dX5_clog_40 : decode cX5_clog 40 = .ok (.iload_n 1, 1) := by decide +kernel
theorem dX5_clog_41 : decode cX5_clog 41 = .ok (.iload_n 2, 1) := by decide +kernel
theorem dX5_clog_42 : decode cX5_clog 42 = .ok (.iastore, 1) := by decide +kernel
theorem dX5_clog_43 : decode cX5_clog 43 = .ok (.iload_n 3, 1) := by decide +kernel
theorem dX5_clog_44 : decode cX5_clog 44 = .ok (.ireturn, 1) := by decide +kernel
theorem dX5_resize_0 : decode cX5_resize 0 = .ok (.aload_n 0, 1) := by decide +kernel
theorem dX5_resize_1 : decode cX5_resize 1 = .ok (.iload_n 1, 1) := by decide +kernel
theorem dX5_resize_2 : decode cX5_resize 2 = .ok (.invokevirtual 81, 3) := by decide +kernel
theorem dX5_resize_5 : decode cX5_resize 5 = .ok (.ifCond .eq 11, 3) := by decide +kernel
theorem dX5_resize_8 : decode cX5_resize 8 = .ok (.aload_n 0, 1) := by decide +kernel
theorem dX5_resize_9 : decode cX5_resize 9 = .ok (.iload_n 2, 1) := by decide +kernel
theorem dX5_resize_10 : decode cX5_resize 10 = .ok (.invokevirtual 68, 3) := by decide +kernel
theorem dX5_resize_13 : decode cX5_resize 13 = .ok (.ifCond .ne 5, 3) := by decide +kernel
theorem dX5_resize_16 : decode cX5_resize 16 = .ok (.iconst (-1), 1) := by decide +kernel
theorem dX5_resize_17 : decode cX5_resize 17 = .ok (.ireturn, 1) := by decide +kernel
theorem dX5_resize_18 : decode cX5_resize 18 = .ok (.aload_n 0, 1) := by decide +kernel
theorem dX5_resize_19 : decode cX5_resize 19 = .ok (.getfield 17, 3) := by decide +kernel
theorem dX5_resize_22 : decode cX5_resize 22 = .ok (.getfield 107, 3) := by decide +kernel
theorem dX5_resize_25 : decode cX5_resize 25 = .ok (.iload_n 1, 1) := by decide +kernel
theorem dX5_resize_26 : decode cX5_resize 26 = .ok (.iaload, 1) := by decide +kernel
theorem dX5_resize_27 : decode cX5_resize 27 = .ok (.istore_n 3, 1) := by decide +kernel
theorem dX5_resize_28 : decode cX5_resize 28 = .ok (.aload_n 0, 1) := by decide +kernel
theorem dX5_resize_29 : decode cX5_resize 29 = .ok (.getfield 17, 3) := by decide +kernel
theorem dX5_resize_32 : decode cX5_resize 32 = .ok (.iload_n 1, 1) := by decide +kernel
theorem dX5_resize_33 : decode cX5_resize 33 = .ok (.iload_n 2, 1) := by decide +kernel
theorem dX5_resize_34 : decode cX5_resize 34 = .ok (.invokevirtual 110, 3) := by decide +kernel
theorem dX5_resize_37 : decode cX5_resize 37 = .ok (.iload_n 3, 1) := by decide +kernel
theorem dX5_resize_38 : decode cX5_resize 38 = .ok (.ireturn, 1) := by decide +kernel
theorem dX5_conduct_0 : decode cX5_conduct 0 = .ok (.aload_n 0, 1) := by decide +kernel
theorem dX5_conduct_1 : decode cX5_conduct 1 = .ok (.iload_n 1, 1) := by decide +kernel
theorem dX5_conduct_2 : decode cX5_conduct 2 = .ok (.invokevirtual 64, 3) := by decide +kernel
theorem dX5_conduct_5 : decode cX5_conduct 5 = .ok (.ifCond .ne 7, 3) := by decide +kernel
theorem dX5_conduct_8 : decode cX5_conduct 8 = .ok (.ldc2_w 114, 3) := by decide +kernel
theorem dX5_conduct_11 : decode cX5_conduct 11 = .ok (.lreturn, 1) := by decide +kernel
theorem dX5_conduct_12 : decode cX5_conduct 12 = .ok (.iload_n 2, 1) := by decide +kernel
theorem dX5_conduct_13 : decode cX5_conduct 13 = .ok (.invokestatic 116, 3) := by decide +kernel
theorem dX5_conduct_16 : decode cX5_conduct 16 = .ok (.ifCond .ne 7, 3) := by decide +kernel
theorem dX5_conduct_19 : decode cX5_conduct 19 = .ok (.ldc2_w 119, 3) := by decide +kernel
theorem dX5_conduct_22 : decode cX5_conduct 22 = .ok (.lreturn, 1) := by decide +kernel
theorem dX5_conduct_23 : decode cX5_conduct 23 = .ok (.aload_n 0, 1) := by decide +kernel
theorem dX5_conduct_24 : decode cX5_conduct 24 = .ok (.getfield 21, 3) := by decide +kernel
theorem dX5_conduct_27 : decode cX5_conduct 27 = .ok (.iload_n 2, 1) := by decide +kernel
theorem dX5_conduct_28 : decode cX5_conduct 28 = .ok (.aload_n 0, 1) := by decide +kernel
theorem dX5_conduct_29 : decode cX5_conduct 29 = .ok (.getfield 17, 3) := by decide +kernel
theorem dX5_conduct_32 : decode cX5_conduct 32 = .ok (.getfield 54, 3) := by decide +kernel
theorem dX5_conduct_35 : decode cX5_conduct 35 = .ok (.aload_n 0, 1) := by decide +kernel
theorem dX5_conduct_36 : decode cX5_conduct 36 = .ok (.getfield 17, 3) := by decide +kernel
theorem dX5_conduct_39 : decode cX5_conduct 39 = .ok (.getfield 91, 3) := by decide +kernel
theorem dX5_conduct_42 : decode cX5_conduct 42 = .ok (.invokevirtual 121, 3) := by decide +kernel
theorem dX5_conduct_45 : decode cX5_conduct 45 = .ok (.aload_n 0, 1) := by decide +kernel
theorem dX5_conduct_46 : decode cX5_conduct 46 = .ok (.getfield 21, 3) := by decide +kernel
theorem dX5_conduct_49 : decode cX5_conduct 49 = .ok (.iload_n 1, 1) := by decide +kernel
theorem dX5_conduct_50 : decode cX5_conduct 50 = .ok (.iconst 1, 1) := by decide +kernel
theorem dX5_conduct_51 : decode cX5_conduct 51 = .ok (.iadd, 1) := by decide +kernel
theorem dX5_conduct_52 : decode cX5_conduct 52 = .ok (.iload_n 2, 1) := by decide +kernel
theorem dX5_conduct_53 : decode cX5_conduct 53 = .ok (.aload_n 0, 1) := by decide +kernel
theorem dX5_conduct_54 : decode cX5_conduct 54 = .ok (.getfield 17, 3) := by decide +kernel
theorem dX5_conduct_57 : decode cX5_conduct 57 = .ok (.getfield 54, 3) := by decide +kernel
theorem dX5_conduct_60 : decode cX5_conduct 60 = .ok (.invokevirtual 125, 3) := by decide +kernel
theorem dX5_conduct_63 : decode cX5_conduct 63 = .ok (.lreturn, 1) := by decide +kernel
theorem dX5_pressure_0 : decode cX5_pressure 0 = .ok (.aload_n 0, 1) := by decide +kernel
theorem dX5_pressure_1 : decode cX5_pressure 1 = .ok (.iload_n 1, 1) := by decide +kernel
theorem dX5_pressure_2 : decode cX5_pressure 2 = .ok (.invokevirtual 64, 3) := by decide +kernel
theorem dX5_pressure_5 : decode cX5_pressure 5 = .ok (.ifCond .ne 7, 3) := by decide +kernel
theorem dX5_pressure_8 : decode cX5_pressure 8 = .ok (.ldc2_w 114, 3) := by decide +kernel
theorem dX5_pressure_11 : decode cX5_pressure 11 = .ok (.lreturn, 1) := by decide +kernel
theorem dX5_pressure_12 : decode cX5_pressure 12 = .ok (.iload_n 2, 1) := by decide +kernel
theorem dX5_pressure_13 : decode cX5_pressure 13 = .ok (.invokestatic 116, 3) := by decide +kernel
theorem dX5_pressure_16 : decode cX5_pressure 16 = .ok (.ifCond .ne 7, 3) := by decide +kernel
theorem dX5_pressure_19 : decode cX5_pressure 19 = .ok (.ldc2_w 119, 3) := by decide +kernel
theorem dX5_pressure_22 : decode cX5_pressure 22 = .ok (.lreturn, 1) := by decide +kernel
theorem dX5_pressure_23 : decode cX5_pressure 23 = .ok (.aload_n 0, 1) := by decide +kernel
theorem dX5_pressure_24 : decode cX5_pressure 24 = .ok (.getfield 21, 3) := by decide +kernel
theorem dX5_pressure_27 : decode cX5_pressure 27 = .ok (.iload_n 2, 1) := by decide +kernel
theorem dX5_pressure_28 : decode cX5_pressure 28 = .ok (.aload_n 0, 1) := by decide +kernel
theorem dX5_pressure_29 : decode cX5_pressure 29 = .ok (.getfield 17, 3) := by decide +kernel
theorem dX5_pressure_32 : decode cX5_pressure 32 = .ok (.getfield 91, 3) := by decide +kernel
theorem dX5_pressure_35 : decode cX5_pressure 35 = .ok (.invokevirtual 129, 3) := by decide +kernel
theorem dX5_pressure_38 : decode cX5_pressure 38 = .ok (.aload_n 0, 1) := by decide +kernel
theorem dX5_pressure_39 : decode cX5_pressure 39 = .ok (.getfield 21, 3) := by decide +kernel
theorem dX5_pressure_42 : decode cX5_pressure 42 = .ok (.getfield 132, 3) := by decide +kernel
theorem dX5_pressure_45 : decode cX5_pressure 45 = .ok (.iload_n 1, 1) := by decide +kernel
theorem dX5_pressure_46 : decode cX5_pressure 46 = .ok (.iconst 1, 1) := by decide +kernel
theorem dX5_pressure_47 : decode cX5_pressure 47 = .ok (.iadd, 1) := by decide +kernel
theorem dX5_pressure_48 : decode cX5_pressure 48 = .ok (.laload, 1) := by decide +kernel
theorem dX5_pressure_49 : decode cX5_pressure 49 = .ok (.lreturn, 1) := by decide +kernel
theorem dX5_flow_0 : decode cX5_flow 0 = .ok (.aload_n 0, 1) := by decide +kernel
theorem dX5_flow_1 : decode cX5_flow 1 = .ok (.iload_n 1, 1) := by decide +kernel
theorem dX5_flow_2 : decode cX5_flow 2 = .ok (.invokevirtual 88, 3) := by decide +kernel
theorem dX5_flow_5 : decode cX5_flow 5 = .ok (.ifCond .ne 7, 3) := by decide +kernel
theorem dX5_flow_8 : decode cX5_flow 8 = .ok (.ldc2_w 114, 3) := by decide +kernel
theorem dX5_flow_11 : decode cX5_flow 11 = .ok (.lreturn, 1) := by decide +kernel
theorem dX5_flow_12 : decode cX5_flow 12 = .ok (.iload_n 2, 1) := by decide +kernel
theorem dX5_flow_13 : decode cX5_flow 13 = .ok (.invokestatic 116, 3) := by decide +kernel
theorem dX5_flow_16 : decode cX5_flow 16 = .ok (.ifCond .ne 7, 3) := by decide +kernel
theorem dX5_flow_19 : decode cX5_flow 19 = .ok (.ldc2_w 119, 3) := by decide +kernel
theorem dX5_flow_22 : decode cX5_flow 22 = .ok (.lreturn, 1) := by decide +kernel
theorem dX5_flow_23 : decode cX5_flow 23 = .ok (.aload_n 0, 1) := by decide +kernel
theorem dX5_flow_24 : decode cX5_flow 24 = .ok (.getfield 17, 3) := by decide +kernel
theorem dX5_flow_27 : decode cX5_flow 27 = .ok (.getfield 91, 3) := by decide +kernel
theorem dX5_flow_30 : decode cX5_flow 30 = .ok (.iload_n 1, 1) := by decide +kernel
theorem dX5_flow_31 : decode cX5_flow 31 = .ok (.invokestatic 94, 3) := by decide +kernel
theorem dX5_flow_34 : decode cX5_flow 34 = .ok (.ifCond .ne 5, 3) := by decide +kernel
theorem dX5_flow_37 : decode cX5_flow 37 = .ok (.lconst 0, 1) := by decide +kernel
theorem dX5_flow_38 : decode cX5_flow 38 = .ok (.lreturn, 1) := by decide +kernel
theorem dX5_flow_39 : decode cX5_flow 39 = .ok (.aload_n 0, 1) := by decide +kernel
theorem dX5_flow_40 : decode cX5_flow 40 = .ok (.getfield 21, 3) := by decide +kernel
theorem dX5_flow_43 : decode cX5_flow 43 = .ok (.iload_n 2, 1) := by decide +kernel
theorem dX5_flow_44 : decode cX5_flow 44 = .ok (.aload_n 0, 1) := by decide +kernel
theorem dX5_flow_45 : decode cX5_flow 45 = .ok (.getfield 17, 3) := by decide +kernel
theorem dX5_flow_48 : decode cX5_flow 48 = .ok (.getfield 91, 3) := by decide +kernel
theorem dX5_flow_51 : decode cX5_flow 51 = .ok (.invokevirtual 129, 3) := by decide +kernel
theorem dX5_flow_54 : decode cX5_flow 54 = .ok (.aload_n 0, 1) := by decide +kernel
theorem dX5_flow_55 : decode cX5_flow 55 = .ok (.getfield 21, 3) := by decide +kernel
theorem dX5_flow_58 : decode cX5_flow 58 = .ok (.iload_n 1, 1) := by decide +kernel
theorem dX5_flow_59 : decode cX5_flow 59 = .ok (.iload_n 2, 1) := by decide +kernel
theorem dX5_flow_60 : decode cX5_flow 60 = .ok (.invokevirtual 136, 3) := by decide +kernel
theorem dX5_flow_63 : decode cX5_flow 63 = .ok (.lreturn, 1) := by decide +kernel
theorem dX5_total_0 : decode cX5_total 0 = .ok (.iload_n 1, 1) := by decide +kernel
theorem dX5_total_1 : decode cX5_total 1 = .ok (.invokestatic 116, 3) := by decide +kernel
theorem dX5_total_4 : decode cX5_total 4 = .ok (.ifCond .ne 7, 3) := by decide +kernel
theorem dX5_total_7 : decode cX5_total 7 = .ok (.ldc2_w 119, 3) := by decide +kernel
theorem dX5_total_10 : decode cX5_total 10 = .ok (.lreturn, 1) := by decide +kernel
theorem dX5_total_11 : decode cX5_total 11 = .ok (.aload_n 0, 1) := by decide +kernel
theorem dX5_total_12 : decode cX5_total 12 = .ok (.getfield 21, 3) := by decide +kernel
theorem dX5_total_15 : decode cX5_total 15 = .ok (.iload_n 1, 1) := by decide +kernel
theorem dX5_total_16 : decode cX5_total 16 = .ok (.aload_n 0, 1) := by decide +kernel
theorem dX5_total_17 : decode cX5_total 17 = .ok (.getfield 17, 3) := by decide +kernel
theorem dX5_total_20 : decode cX5_total 20 = .ok (.getfield 91, 3) := by decide +kernel
theorem dX5_total_23 : decode cX5_total 23 = .ok (.invokevirtual 129, 3) := by decide +kernel
theorem dX5_total_26 : decode cX5_total 26 = .ok (.lconst 0, 1) := by decide +kernel
theorem dX5_total_27 : decode cX5_total 27 = .ok (.lstore_n 2, 1) := by decide +kernel
theorem dX5_total_28 : decode cX5_total 28 = .ok (.iconst 0, 1) := by decide +kernel
theorem dX5_total_29 : decode cX5_total 29 = .ok (.istore 4, 2) := by decide +kernel
theorem dX5_total_31 : decode cX5_total 31 = .ok (.iload 4, 2) := by decide +kernel
theorem dX5_total_33 : decode cX5_total 33 = .ok (.aload_n 0, 1) := by decide +kernel
theorem dX5_total_34 : decode cX5_total 34 = .ok (.getfield 17, 3) := by decide +kernel
theorem dX5_total_37 : decode cX5_total 37 = .ok (.getfield 71, 3) := by decide +kernel
theorem dX5_total_40 : decode cX5_total 40 = .ok (.if_icmp .ge 38, 3) := by decide +kernel
theorem dX5_total_43 : decode cX5_total 43 = .ok (.aload_n 0, 1) := by decide +kernel
theorem dX5_total_44 : decode cX5_total 44 = .ok (.getfield 17, 3) := by decide +kernel
theorem dX5_total_47 : decode cX5_total 47 = .ok (.getfield 91, 3) := by decide +kernel
theorem dX5_total_50 : decode cX5_total 50 = .ok (.iload 4, 2) := by decide +kernel
theorem dX5_total_52 : decode cX5_total 52 = .ok (.invokestatic 94, 3) := by decide +kernel
theorem dX5_total_55 : decode cX5_total 55 = .ok (.iconst 1, 1) := by decide +kernel
theorem dX5_total_56 : decode cX5_total 56 = .ok (.if_icmp .ne 16, 3) := by decide +kernel
theorem dX5_total_59 : decode cX5_total 59 = .ok (.lload_n 2, 1) := by decide +kernel
theorem dX5_total_60 : decode cX5_total 60 = .ok (.aload_n 0, 1) := by decide +kernel
theorem dX5_total_61 : decode cX5_total 61 = .ok (.getfield 21, 3) := by decide +kernel
theorem dX5_total_64 : decode cX5_total 64 = .ok (.iload 4, 2) := by decide +kernel
theorem dX5_total_66 : decode cX5_total 66 = .ok (.iload_n 1, 1) := by decide +kernel
theorem dX5_total_67 : decode cX5_total 67 = .ok (.invokevirtual 136, 3) := by decide +kernel
theorem dX5_total_70 : decode cX5_total 70 = .ok (.ladd, 1) := by decide +kernel
theorem dX5_total_71 : decode cX5_total 71 = .ok (.lstore_n 2, 1) := by decide +kernel
theorem dX5_total_72 : decode cX5_total 72 = .ok (.iinc 4 1, 3) := by decide +kernel
theorem dX5_total_75 : decode cX5_total 75 = .ok (.goto (-44), 3) := by decide +kernel
theorem dX5_total_78 : decode cX5_total 78 = .ok (.lload_n 2, 1) := by decide +kernel
theorem dX5_total_79 : decode cX5_total 79 = .ok (.lreturn, 1) := by decide +kernel
theorem dX5_about_0 : decode cX5_about 0 = .ok (.aload_n 0, 1) := by decide +kernel
theorem dX5_about_1 : decode cX5_about 1 = .ok (.iload_n 1, 1) := by decide +kernel
theorem dX5_about_2 : decode cX5_about 2 = .ok (.invokevirtual 81, 3) := by decide +kernel
theorem dX5_about_5 : decode cX5_about 5 = .ok (.ifCond .ne 5, 3) := by decide +kernel
theorem dX5_about_8 : decode cX5_about 8 = .ok (.iconst (-1), 1) := by decide +kernel
theorem dX5_about_9 : decode cX5_about 9 = .ok (.ireturn, 1) := by decide +kernel
theorem dX5_about_10 : decode cX5_about 10 = .ok (.iload_n 2, 1) := by decide +kernel
theorem dX5_about_11 : decode cX5_about 11 = .ok (.tableswitch 173 0 10 #[57, 67, 77, 87, 99, 111, 120, 130, 142, 152, 164], 57) := by decide +kernel
theorem dX5_about_68 : decode cX5_about 68 = .ok (.aload_n 0, 1) := by decide +kernel
theorem dX5_about_69 : decode cX5_about 69 = .ok (.getfield 17, 3) := by decide +kernel
theorem dX5_about_72 : decode cX5_about 72 = .ok (.getfield 140, 3) := by decide +kernel
theorem dX5_about_75 : decode cX5_about 75 = .ok (.iload_n 1, 1) := by decide +kernel
theorem dX5_about_76 : decode cX5_about 76 = .ok (.iaload, 1) := by decide +kernel
theorem dX5_about_77 : decode cX5_about 77 = .ok (.ireturn, 1) := by decide +kernel
theorem dX5_about_78 : decode cX5_about 78 = .ok (.aload_n 0, 1) := by decide +kernel
theorem dX5_about_79 : decode cX5_about 79 = .ok (.getfield 17, 3) := by decide +kernel
theorem dX5_about_82 : decode cX5_about 82 = .ok (.getfield 143, 3) := by decide +kernel
theorem dX5_about_85 : decode cX5_about 85 = .ok (.iload_n 1, 1) := by decide +kernel
theorem dX5_about_86 : decode cX5_about 86 = .ok (.iaload, 1) := by decide +kernel
theorem dX5_about_87 : decode cX5_about 87 = .ok (.ireturn, 1) := by decide +kernel
theorem dX5_about_88 : decode cX5_about 88 = .ok (.aload_n 0, 1) := by decide +kernel
theorem dX5_about_89 : decode cX5_about 89 = .ok (.getfield 17, 3) := by decide +kernel
theorem dX5_about_92 : decode cX5_about 92 = .ok (.getfield 107, 3) := by decide +kernel
theorem dX5_about_95 : decode cX5_about 95 = .ok (.iload_n 1, 1) := by decide +kernel
theorem dX5_about_96 : decode cX5_about 96 = .ok (.iaload, 1) := by decide +kernel
theorem dX5_about_97 : decode cX5_about 97 = .ok (.ireturn, 1) := by decide +kernel
theorem dX5_about_98 : decode cX5_about 98 = .ok (.aload_n 0, 1) := by decide +kernel
theorem dX5_about_99 : decode cX5_about 99 = .ok (.getfield 17, 3) := by decide +kernel
theorem dX5_about_102 : decode cX5_about 102 = .ok (.getfield 101, 3) := by decide +kernel
theorem dX5_about_105 : decode cX5_about 105 = .ok (.iload_n 1, 1) := by decide +kernel
theorem dX5_about_106 : decode cX5_about 106 = .ok (.invokestatic 94, 3) := by decide +kernel
theorem dX5_about_109 : decode cX5_about 109 = .ok (.ireturn, 1) := by decide +kernel
theorem dX5_about_110 : decode cX5_about 110 = .ok (.aload_n 0, 1) := by decide +kernel
theorem dX5_about_111 : decode cX5_about 111 = .ok (.getfield 17, 3) := by decide +kernel
theorem dX5_about_114 : decode cX5_about 114 = .ok (.getfield 146, 3) := by decide +kernel
theorem dX5_about_117 : decode cX5_about 117 = .ok (.iload_n 1, 1) := by decide +kernel
theorem dX5_about_118 : decode cX5_about 118 = .ok (.invokestatic 94, 3) := by decide +kernel
theorem dX5_about_121 : decode cX5_about 121 = .ok (.ireturn, 1) := by decide +kernel
theorem dX5_about_122 : decode cX5_about 122 = .ok (.aload_n 0, 1) := by decide +kernel
theorem dX5_about_123 : decode cX5_about 123 = .ok (.getfield 17, 3) := by decide +kernel
theorem dX5_about_126 : decode cX5_about 126 = .ok (.iload_n 1, 1) := by decide +kernel
theorem dX5_about_127 : decode cX5_about 127 = .ok (.invokevirtual 149, 3) := by decide +kernel
theorem dX5_about_130 : decode cX5_about 130 = .ok (.ireturn, 1) := by decide +kernel
theorem dX5_about_131 : decode cX5_about 131 = .ok (.aload_n 0, 1) := by decide +kernel
theorem dX5_about_132 : decode cX5_about 132 = .ok (.getfield 17, 3) := by decide +kernel
theorem dX5_about_135 : decode cX5_about 135 = .ok (.getfield 153, 3) := by decide +kernel
theorem dX5_about_138 : decode cX5_about 138 = .ok (.iload_n 1, 1) := by decide +kernel
theorem dX5_about_139 : decode cX5_about 139 = .ok (.iaload, 1) := by decide +kernel
theorem dX5_about_140 : decode cX5_about 140 = .ok (.ireturn, 1) := by decide +kernel
theorem dX5_about_141 : decode cX5_about 141 = .ok (.aload_n 0, 1) := by decide +kernel
theorem dX5_about_142 : decode cX5_about 142 = .ok (.getfield 17, 3) := by decide +kernel
theorem dX5_about_145 : decode cX5_about 145 = .ok (.getfield 91, 3) := by decide +kernel
theorem dX5_about_148 : decode cX5_about 148 = .ok (.iload_n 1, 1) := by decide +kernel
theorem dX5_about_149 : decode cX5_about 149 = .ok (.invokestatic 94, 3) := by decide +kernel
theorem dX5_about_152 : decode cX5_about 152 = .ok (.ireturn, 1) := by decide +kernel
theorem dX5_about_153 : decode cX5_about 153 = .ok (.aload_n 0, 1) := by decide +kernel
theorem dX5_about_154 : decode cX5_about 154 = .ok (.getfield 17, 3) := by decide +kernel
theorem dX5_about_157 : decode cX5_about 157 = .ok (.getfield 104, 3) := by decide +kernel
theorem dX5_about_160 : decode cX5_about 160 = .ok (.iload_n 1, 1) := by decide +kernel
theorem dX5_about_161 : decode cX5_about 161 = .ok (.iaload, 1) := by decide +kernel
theorem dX5_about_162 : decode cX5_about 162 = .ok (.ireturn, 1) := by decide +kernel
theorem dX5_about_163 : decode cX5_about 163 = .ok (.aload_n 0, 1) := by decide +kernel
theorem dX5_about_164 : decode cX5_about 164 = .ok (.getfield 17, 3) := by decide +kernel
theorem dX5_about_167 : decode cX5_about 167 = .ok (.getfield 156, 3) := by decide +kernel
theorem dX5_about_170 : decode cX5_about 170 = .ok (.iload_n 1, 1) := by decide +kernel
theorem dX5_about_171 : decode cX5_about 171 = .ok (.invokestatic 94, 3) := by decide +kernel
theorem dX5_about_174 : decode cX5_about 174 = .ok (.ireturn, 1) := by decide +kernel
theorem dX5_about_175 : decode cX5_about 175 = .ok (.aload_n 0, 1) := by decide +kernel
theorem dX5_about_176 : decode cX5_about 176 = .ok (.getfield 17, 3) := by decide +kernel
theorem dX5_about_179 : decode cX5_about 179 = .ok (.iload_n 1, 1) := by decide +kernel
theorem dX5_about_180 : decode cX5_about 180 = .ok (.invokevirtual 159, 3) := by decide +kernel
theorem dX5_about_183 : decode cX5_about 183 = .ok (.ireturn, 1) := by decide +kernel
theorem dX5_about_184 : decode cX5_about 184 = .ok (.bipush (-2), 2) := by decide +kernel
theorem dX5_about_186 : decode cX5_about 186 = .ok (.ireturn, 1) := by decide +kernel
theorem dX5_worst_0 : decode cX5_worst 0 = .ok (.aload_n 0, 1) := by decide +kernel
theorem dX5_worst_1 : decode cX5_worst 1 = .ok (.getfield 21, 3) := by decide +kernel
theorem dX5_worst_4 : decode cX5_worst 4 = .ok (.iconst 0, 1) := by decide +kernel
theorem dX5_worst_5 : decode cX5_worst 5 = .ok (.aload_n 0, 1) := by decide +kernel
theorem dX5_worst_6 : decode cX5_worst 6 = .ok (.getfield 17, 3) := by decide +kernel
theorem dX5_worst_9 : decode cX5_worst 9 = .ok (.getfield 91, 3) := by decide +kernel
theorem dX5_worst_12 : decode cX5_worst 12 = .ok (.invokevirtual 129, 3) := by decide +kernel
theorem dX5_worst_15 : decode cX5_worst 15 = .ok (.bipush (-6), 2) := by decide +kernel
theorem dX5_worst_17 : decode cX5_worst 17 = .ok (.istore_n 1, 1) := by decide +kernel
theorem dX5_worst_18 : decode cX5_worst 18 = .ok (.lconst 0, 1) := by decide +kernel
theorem dX5_worst_19 : decode cX5_worst 19 = .ok (.lstore_n 2, 1) := by decide +kernel
theorem dX5_worst_20 : decode cX5_worst 20 = .ok (.iconst 0, 1) := by decide +kernel
theorem dX5_worst_21 : decode cX5_worst 21 = .ok (.istore 4, 2) := by decide +kernel
theorem dX5_worst_23 : decode cX5_worst 23 = .ok (.iload 4, 2) := by decide +kernel
theorem dX5_worst_25 : decode cX5_worst 25 = .ok (.aload_n 0, 1) := by decide +kernel
theorem dX5_worst_26 : decode cX5_worst 26 = .ok (.getfield 17, 3) := by decide +kernel
theorem dX5_worst_29 : decode cX5_worst 29 = .ok (.getfield 71, 3) := by decide +kernel
theorem dX5_worst_32 : decode cX5_worst 32 = .ok (.if_icmp .ge 55, 3) := by decide +kernel
theorem dX5_worst_35 : decode cX5_worst 35 = .ok (.aload_n 0, 1) := by decide +kernel
theorem dX5_worst_36 : decode cX5_worst 36 = .ok (.getfield 17, 3) := by decide +kernel
theorem dX5_worst_39 : decode cX5_worst 39 = .ok (.getfield 91, 3) := by decide +kernel
theorem dX5_worst_42 : decode cX5_worst 42 = .ok (.iload 4, 2) := by decide +kernel
theorem dX5_worst_44 : decode cX5_worst 44 = .ok (.invokestatic 94, 3) := by decide +kernel
theorem dX5_worst_47 : decode cX5_worst 47 = .ok (.iconst 1, 1) := by decide +kernel
theorem dX5_worst_48 : decode cX5_worst 48 = .ok (.if_icmp .ne 33, 3) := by decide +kernel
theorem dX5_worst_51 : decode cX5_worst 51 = .ok (.aload_n 0, 1) := by decide +kernel
theorem dX5_worst_52 : decode cX5_worst 52 = .ok (.getfield 21, 3) := by decide +kernel
theorem dX5_worst_55 : decode cX5_worst 55 = .ok (.iload 4, 2) := by decide +kernel
theorem dX5_worst_57 : decode cX5_worst 57 = .ok (.invokevirtual 162, 3) := by decide +kernel
theorem dX5_worst_60 : decode cX5_worst 60 = .ok (.lstore 5, 2) := by decide +kernel
theorem dX5_worst_62 : decode cX5_worst 62 = .ok (.iload_n 1, 1) := by decide +kernel
theorem dX5_worst_63 : decode cX5_worst 63 = .ok (.bipush (-6), 2) := by decide +kernel
theorem dX5_worst_65 : decode cX5_worst 65 = .ok (.if_icmp .eq 10, 3) := by decide +kernel
theorem dX5_worst_68 : decode cX5_worst 68 = .ok (.lload 5, 2) := by decide +kernel
theorem dX5_worst_70 : decode cX5_worst 70 = .ok (.lload_n 2, 1) := by decide +kernel
theorem dX5_worst_71 : decode cX5_worst 71 = .ok (.lcmp, 1) := by decide +kernel
theorem dX5_worst_72 : decode cX5_worst 72 = .ok (.ifCond .ge 9, 3) := by decide +kernel
theorem dX5_worst_75 : decode cX5_worst 75 = .ok (.iload 4, 2) := by decide +kernel
theorem dX5_worst_77 : decode cX5_worst 77 = .ok (.istore_n 1, 1) := by decide +kernel
theorem dX5_worst_78 : decode cX5_worst 78 = .ok (.lload 5, 2) := by decide +kernel
theorem dX5_worst_80 : decode cX5_worst 80 = .ok (.lstore_n 2, 1) := by decide +kernel
theorem dX5_worst_81 : decode cX5_worst 81 = .ok (.iinc 4 1, 3) := by decide +kernel
theorem dX5_worst_84 : decode cX5_worst 84 = .ok (.goto (-61), 3) := by decide +kernel
theorem dX5_worst_87 : decode cX5_worst 87 = .ok (.iload_n 1, 1) := by decide +kernel
theorem dX5_worst_88 : decode cX5_worst 88 = .ok (.ireturn, 1) := by decide +kernel
theorem dX5_heap_0 : decode cX5_heap 0 = .ok (.aload_n 0, 1) := by decide +kernel
theorem dX5_heap_1 : decode cX5_heap 1 = .ok (.getfield 166, 3) := by decide +kernel
theorem dX5_heap_4 : decode cX5_heap 4 = .ok (.bipush 6, 2) := by decide +kernel
theorem dX5_heap_6 : decode cX5_heap 6 = .ok (.if_icmp .lt 6, 3) := by decide +kernel
theorem dX5_heap_9 : decode cX5_heap 9 = .ok (.bipush (-4), 2) := by decide +kernel
theorem dX5_heap_11 : decode cX5_heap 11 = .ok (.ireturn, 1) := by decide +kernel
theorem dX5_heap_12 : decode cX5_heap 12 = .ok (.aload_n 0, 1) := by decide +kernel
theorem dX5_heap_13 : decode cX5_heap 13 = .ok (.dup, 1) := by decide +kernel
theorem dX5_heap_14 : decode cX5_heap 14 = .ok (.getfield 166, 3) := by decide +kernel
theorem dX5_heap_17 : decode cX5_heap 17 = .ok (.dup_x1, 1) := by decide +kernel
theorem dX5_heap_18 : decode cX5_heap 18 = .ok (.iconst 1, 1) := by decide +kernel
theorem dX5_heap_19 : decode cX5_heap 19 = .ok (.iadd, 1) := by decide +kernel
theorem dX5_heap_20 : decode cX5_heap 20 = .ok (.putfield 166, 3) := by decide +kernel
theorem dX5_heap_23 : decode cX5_heap 23 = .ok (.ireturn, 1) := by decide +kernel
theorem dX5_put_0 : decode cX5_put 0 = .ok (.aload_n 0, 1) := by decide +kernel
theorem dX5_put_1 : decode cX5_put 1 = .ok (.iload_n 1, 1) := by decide +kernel
theorem dX5_put_2 : decode cX5_put 2 = .ok (.invokevirtual 169, 3) := by decide +kernel
theorem dX5_put_5 : decode cX5_put 5 = .ok (.ifCond .eq 11, 3) := by decide +kernel
theorem dX5_put_8 : decode cX5_put 8 = .ok (.aload_n 0, 1) := by decide +kernel
theorem dX5_put_9 : decode cX5_put 9 = .ok (.iload_n 2, 1) := by decide +kernel
theorem dX5_put_10 : decode cX5_put 10 = .ok (.invokevirtual 88, 3) := by decide +kernel
theorem dX5_put_13 : decode cX5_put 13 = .ok (.ifCond .ne 5, 3) := by decide +kernel
theorem dX5_put_16 : decode cX5_put 16 = .ok (.iconst (-1), 1) := by decide +kernel
theorem dX5_put_17 : decode cX5_put 17 = .ok (.ireturn, 1) := by decide +kernel
theorem dX5_put_18 : decode cX5_put 18 = .ok (.aload_n 0, 1) := by decide +kernel
theorem dX5_put_19 : decode cX5_put 19 = .ok (.getfield 25, 3) := by decide +kernel
theorem dX5_put_22 : decode cX5_put 22 = .ok (.iload_n 1, 1) := by decide +kernel
theorem dX5_put_23 : decode cX5_put 23 = .ok (.aload_n 0, 1) := by decide +kernel
theorem dX5_put_24 : decode cX5_put 24 = .ok (.getfield 25, 3) := by decide +kernel
theorem dX5_put_27 : decode cX5_put 27 = .ok (.iload_n 1, 1) := by decide +kernel
theorem dX5_put_28 : decode cX5_put 28 = .ok (.iaload, 1) := by decide +kernel
theorem dX5_put_29 : decode cX5_put 29 = .ok (.iload_n 2, 1) := by decide +kernel
theorem dX5_put_30 : decode cX5_put 30 = .ok (.iload_n 3, 1) := by decide +kernel
theorem dX5_put_31 : decode cX5_put 31 = .ok (.invokestatic 97, 3) := by decide +kernel
theorem dX5_put_34 : decode cX5_put 34 = .ok (.iastore, 1) := by decide +kernel
theorem dX5_put_35 : decode cX5_put 35 = .ok (.aload_n 0, 1) := by decide +kernel
theorem dX5_put_36 : decode cX5_put 36 = .ok (.getfield 25, 3) := by decide +kernel
theorem dX5_put_39 : decode cX5_put 39 = .ok (.iload_n 1, 1) := by decide +kernel
theorem dX5_put_40 : decode cX5_put 40 = .ok (.iaload, 1) := by decide +kernel
theorem dX5_put_41 : decode cX5_put 41 = .ok (.invokestatic 172, 3) := by decide +kernel
theorem dX5_put_44 : decode cX5_put 44 = .ok (.ireturn, 1) := by decide +kernel
theorem dX5_least_0 : decode cX5_least 0 = .ok (.aload_n 0, 1) := by decide +kernel
theorem dX5_least_1 : decode cX5_least 1 = .ok (.iload_n 1, 1) := by decide +kernel
theorem dX5_least_2 : decode cX5_least 2 = .ok (.invokevirtual 169, 3) := by decide +kernel
theorem dX5_least_5 : decode cX5_least 5 = .ok (.ifCond .ne 7, 3) := by decide +kernel
theorem dX5_least_8 : decode cX5_least 8 = .ok (.ldc2_w 177, 3) := by decide +kernel
theorem dX5_least_11 : decode cX5_least 11 = .ok (.lreturn, 1) := by decide +kernel
theorem dX5_least_12 : decode cX5_least 12 = .ok (.aload_n 0, 1) := by decide +kernel
theorem dX5_least_13 : decode cX5_least 13 = .ok (.iload_n 1, 1) := by decide +kernel
theorem dX5_least_14 : decode cX5_least 14 = .ok (.invokevirtual 179, 3) := by decide +kernel
theorem dX5_least_17 : decode cX5_least 17 = .ok (.lreturn, 1) := by decide +kernel
theorem dX5_thinnest_0 : decode cX5_thinnest 0 = .ok (.bipush (-6), 2) := by decide +kernel
theorem dX5_thinnest_2 : decode cX5_thinnest 2 = .ok (.istore_n 1, 1) := by decide +kernel
theorem dX5_thinnest_3 : decode cX5_thinnest 3 = .ok (.lconst 0, 1) := by decide +kernel
theorem dX5_thinnest_4 : decode cX5_thinnest 4 = .ok (.lstore_n 2, 1) := by decide +kernel
theorem dX5_thinnest_5 : decode cX5_thinnest 5 = .ok (.iconst 0, 1) := by decide +kernel
theorem dX5_thinnest_6 : decode cX5_thinnest 6 = .ok (.istore 4, 2) := by decide +kernel
theorem dX5_thinnest_8 : decode cX5_thinnest 8 = .ok (.iload 4, 2) := by decide +kernel
theorem dX5_thinnest_10 : decode cX5_thinnest 10 = .ok (.aload_n 0, 1) := by decide +kernel
theorem dX5_thinnest_11 : decode cX5_thinnest 11 = .ok (.getfield 166, 3) := by decide +kernel
theorem dX5_thinnest_14 : decode cX5_thinnest 14 = .ok (.if_icmp .ge 36, 3) := by decide +kernel
theorem dX5_thinnest_17 : decode cX5_thinnest 17 = .ok (.aload_n 0, 1) := by decide +kernel
theorem dX5_thinnest_18 : decode cX5_thinnest 18 = .ok (.iload 4, 2) := by decide +kernel
theorem dX5_thinnest_20 : decode cX5_thinnest 20 = .ok (.invokevirtual 179, 3) := by decide +kernel
theorem dX5_thinnest_23 : decode cX5_thinnest 23 = .ok (.lstore 5, 2) := by decide +kernel
theorem dX5_thinnest_25 : decode cX5_thinnest 25 = .ok (.iload_n 1, 1) := by decide +kernel
theorem dX5_thinnest_26 : decode cX5_thinnest 26 = .ok (.bipush (-6), 2) := by decide +kernel
theorem dX5_thinnest_28 : decode cX5_thinnest 28 = .ok (.if_icmp .eq 10, 3) := by decide +kernel
theorem dX5_thinnest_31 : decode cX5_thinnest 31 = .ok (.lload 5, 2) := by decide +kernel
theorem dX5_thinnest_33 : decode cX5_thinnest 33 = .ok (.lload_n 2, 1) := by decide +kernel
theorem dX5_thinnest_34 : decode cX5_thinnest 34 = .ok (.lcmp, 1) := by decide +kernel
theorem dX5_thinnest_35 : decode cX5_thinnest 35 = .ok (.ifCond .ge 9, 3) := by decide +kernel
theorem dX5_thinnest_38 : decode cX5_thinnest 38 = .ok (.iload 4, 2) := by decide +kernel
theorem dX5_thinnest_40 : decode cX5_thinnest 40 = .ok (.istore_n 1, 1) := by decide +kernel
theorem dX5_thinnest_41 : decode cX5_thinnest 41 = .ok (.lload 5, 2) := by decide +kernel
theorem dX5_thinnest_43 : decode cX5_thinnest 43 = .ok (.lstore_n 2, 1) := by decide +kernel
theorem dX5_thinnest_44 : decode cX5_thinnest 44 = .ok (.iinc 4 1, 3) := by decide +kernel
theorem dX5_thinnest_47 : decode cX5_thinnest 47 = .ok (.goto (-39), 3) := by decide +kernel
theorem dX5_thinnest_50 : decode cX5_thinnest 50 = .ok (.iload_n 1, 1) := by decide +kernel
theorem dX5_thinnest_51 : decode cX5_thinnest 51 = .ok (.ireturn, 1) := by decide +kernel
theorem dX5_free_0 : decode cX5_free 0 = .ok (.aload_n 0, 1) := by decide +kernel
theorem dX5_free_1 : decode cX5_free 1 = .ok (.iload_n 1, 1) := by decide +kernel
theorem dX5_free_2 : decode cX5_free 2 = .ok (.invokevirtual 81, 3) := by decide +kernel
theorem dX5_free_5 : decode cX5_free 5 = .ok (.ifCond .ne 5, 3) := by decide +kernel
theorem dX5_free_8 : decode cX5_free 8 = .ok (.iconst (-1), 1) := by decide +kernel
theorem dX5_free_9 : decode cX5_free 9 = .ok (.ireturn, 1) := by decide +kernel
theorem dX5_free_10 : decode cX5_free 10 = .ok (.aload_n 0, 1) := by decide +kernel
theorem dX5_free_11 : decode cX5_free 11 = .ok (.getfield 17, 3) := by decide +kernel
theorem dX5_free_14 : decode cX5_free 14 = .ok (.getfield 156, 3) := by decide +kernel
theorem dX5_free_17 : decode cX5_free 17 = .ok (.iload_n 1, 1) := by decide +kernel
theorem dX5_free_18 : decode cX5_free 18 = .ok (.iload_n 2, 1) := by decide +kernel
theorem dX5_free_19 : decode cX5_free 19 = .ok (.invokestatic 97, 3) := by decide +kernel
theorem dX5_free_22 : decode cX5_free 22 = .ok (.istore_n 3, 1) := by decide +kernel
theorem dX5_free_23 : decode cX5_free 23 = .ok (.iload_n 3, 1) := by decide +kernel
theorem dX5_free_24 : decode cX5_free 24 = .ok (.invokestatic 172, 3) := by decide +kernel
theorem dX5_free_27 : decode cX5_free 27 = .ok (.iconst 5, 1) := by decide +kernel
theorem dX5_free_28 : decode cX5_free 28 = .ok (.if_icmp .le 6, 3) := by decide +kernel
theorem dX5_free_31 : decode cX5_free 31 = .ok (.bipush (-4), 2) := by decide +kernel
end
section
theorem dX5_free_33 : decode cX5_free 33 = .ok (.ireturn, 1) := by decide +kernel
theorem dX5_free_34 : decode cX5_free 34 = .ok (.aload_n 0, 1) := by decide +kernel
theorem dX5_free_35 : decode cX5_free 35 = .ok (.getfield 17, 3) := by decide +kernel
theorem dX5_free_38 : decode cX5_free 38 = .ok (.iload_n 3, 1) := by decide +kernel
theorem dX5_free_39 : decode cX5_free 39 = .ok (.putfield 156, 3) := by decide +kernel
theorem dX5_free_42 : decode cX5_free 42 = .ok (.iload_n 3, 1) := by decide +kernel
theorem dX5_free_43 : decode cX5_free 43 = .ok (.invokestatic 172, 3) := by decide +kernel
theorem dX5_free_46 : decode cX5_free 46 = .ok (.ireturn, 1) := by decide +kernel
theorem dX5_choose_0 : decode cX5_choose 0 = .ok (.aload_n 0, 1) := by decide +kernel
theorem dX5_choose_1 : decode cX5_choose 1 = .ok (.getfield 34, 3) := by decide +kernel
theorem dX5_choose_4 : decode cX5_choose 4 = .ok (.aload_n 0, 1) := by decide +kernel
theorem dX5_choose_5 : decode cX5_choose 5 = .ok (.getfield 166, 3) := by decide +kernel
theorem dX5_choose_8 : decode cX5_choose 8 = .ok (.invokevirtual 182, 3) := by decide +kernel
theorem dX5_choose_11 : decode cX5_choose 11 = .ok (.ifCond .eq 14, 3) := by decide +kernel
theorem dX5_choose_14 : decode cX5_choose 14 = .ok (.aload_n 0, 1) := by decide +kernel
theorem dX5_choose_15 : decode cX5_choose 15 = .ok (.getfield 17, 3) := by decide +kernel
theorem dX5_choose_18 : decode cX5_choose 18 = .ok (.invokevirtual 185, 3) := by decide +kernel
theorem dX5_choose_21 : decode cX5_choose 21 = .ok (.i2l, 1) := by decide +kernel
theorem dX5_choose_22 : decode cX5_choose 22 = .ok (.goto 6, 3) := by decide +kernel
theorem dX5_choose_25 : decode cX5_choose 25 = .ok (.ldc2_w 189, 3) := by decide +kernel
theorem dX5_choose_28 : decode cX5_choose 28 = .ok (.lreturn, 1) := by decide +kernel
theorem dX5_bill_0 : decode cX5_bill 0 = .ok (.aload_n 0, 1) := by decide +kernel
theorem dX5_bill_1 : decode cX5_bill 1 = .ok (.getfield 17, 3) := by decide +kernel
theorem dX5_bill_4 : decode cX5_bill 4 = .ok (.invokevirtual 185, 3) := by decide +kernel
theorem dX5_bill_7 : decode cX5_bill 7 = .ok (.i2l, 1) := by decide +kernel
theorem dX5_bill_8 : decode cX5_bill 8 = .ok (.lreturn, 1) := by decide +kernel
theorem dX5_margin_0 : decode cX5_margin 0 = .ok (.aload_n 0, 1) := by decide +kernel
theorem dX5_margin_1 : decode cX5_margin 1 = .ok (.iload_n 1, 1) := by decide +kernel
theorem dX5_margin_2 : decode cX5_margin 2 = .ok (.invokevirtual 169, 3) := by decide +kernel
theorem dX5_margin_5 : decode cX5_margin 5 = .ok (.ifCond .ne 5, 3) := by decide +kernel
theorem dX5_margin_8 : decode cX5_margin 8 = .ok (.iconst (-1), 1) := by decide +kernel
theorem dX5_margin_9 : decode cX5_margin 9 = .ok (.ireturn, 1) := by decide +kernel
theorem dX5_margin_10 : decode cX5_margin 10 = .ok (.aload_n 0, 1) := by decide +kernel
theorem dX5_margin_11 : decode cX5_margin 11 = .ok (.getfield 21, 3) := by decide +kernel
theorem dX5_margin_14 : decode cX5_margin 14 = .ok (.iconst 1, 1) := by decide +kernel
theorem dX5_margin_15 : decode cX5_margin 15 = .ok (.aload_n 0, 1) := by decide +kernel
theorem dX5_margin_16 : decode cX5_margin 16 = .ok (.getfield 17, 3) := by decide +kernel
theorem dX5_margin_19 : decode cX5_margin 19 = .ok (.getfield 54, 3) := by decide +kernel
theorem dX5_margin_22 : decode cX5_margin 22 = .ok (.aload_n 0, 1) := by decide +kernel
theorem dX5_margin_23 : decode cX5_margin 23 = .ok (.getfield 25, 3) := by decide +kernel
theorem dX5_margin_26 : decode cX5_margin 26 = .ok (.iload_n 1, 1) := by decide +kernel
theorem dX5_margin_27 : decode cX5_margin 27 = .ok (.iaload, 1) := by decide +kernel
theorem dX5_margin_28 : decode cX5_margin 28 = .ok (.invokevirtual 121, 3) := by decide +kernel
theorem dX5_margin_31 : decode cX5_margin 31 = .ok (.aload_n 0, 1) := by decide +kernel
theorem dX5_margin_32 : decode cX5_margin 32 = .ok (.iload_n 1, 1) := by decide +kernel
theorem dX5_margin_33 : decode cX5_margin 33 = .ok (.iconst 0, 1) := by decide +kernel
theorem dX5_margin_34 : decode cX5_margin 34 = .ok (.invokevirtual 191, 3) := by decide +kernel
theorem dX5_margin_37 : decode cX5_margin 37 = .ok (.ifCond .ne 6, 3) := by decide +kernel
theorem dX5_margin_40 : decode cX5_margin 40 = .ok (.bipush (-5), 2) := by decide +kernel
theorem dX5_margin_42 : decode cX5_margin 42 = .ok (.ireturn, 1) := by decide +kernel
theorem dX5_margin_43 : decode cX5_margin 43 = .ok (.aload_n 0, 1) := by decide +kernel
theorem dX5_margin_44 : decode cX5_margin 44 = .ok (.iload_n 1, 1) := by decide +kernel
theorem dX5_margin_45 : decode cX5_margin 45 = .ok (.bipush 100, 2) := by decide +kernel
theorem dX5_margin_47 : decode cX5_margin 47 = .ok (.invokevirtual 191, 3) := by decide +kernel
theorem dX5_margin_50 : decode cX5_margin 50 = .ok (.ifCond .eq 6, 3) := by decide +kernel
theorem dX5_margin_53 : decode cX5_margin 53 = .ok (.bipush (-6), 2) := by decide +kernel
theorem dX5_margin_55 : decode cX5_margin 55 = .ok (.ireturn, 1) := by decide +kernel
theorem dX5_margin_56 : decode cX5_margin 56 = .ok (.aload_n 0, 1) := by decide +kernel
theorem dX5_margin_57 : decode cX5_margin 57 = .ok (.iload_n 1, 1) := by decide +kernel
theorem dX5_margin_58 : decode cX5_margin 58 = .ok (.invokevirtual 195, 3) := by decide +kernel
theorem dX5_margin_61 : decode cX5_margin 61 = .ok (.ireturn, 1) := by decide +kernel
theorem dX5_floor_0 : decode cX5_floor 0 = .ok (.iload_n 1, 1) := by decide +kernel
theorem dX5_floor_1 : decode cX5_floor 1 = .ok (.iconst 2, 1) := by decide +kernel
theorem dX5_floor_2 : decode cX5_floor 2 = .ok (.bipush 16, 2) := by decide +kernel
theorem dX5_floor_4 : decode cX5_floor 4 = .ok (.invokestatic 46, 3) := by decide +kernel
theorem dX5_floor_7 : decode cX5_floor 7 = .ok (.ifCond .eq 13, 3) := by decide +kernel
theorem dX5_floor_10 : decode cX5_floor 10 = .ok (.iload_n 2, 1) := by decide +kernel
theorem dX5_floor_11 : decode cX5_floor 11 = .ok (.iconst 2, 1) := by decide +kernel
theorem dX5_floor_12 : decode cX5_floor 12 = .ok (.bipush 16, 2) := by decide +kernel
theorem dX5_floor_14 : decode cX5_floor 14 = .ok (.invokestatic 46, 3) := by decide +kernel
theorem dX5_floor_17 : decode cX5_floor 17 = .ok (.ifCond .ne 6, 3) := by decide +kernel
theorem dX5_floor_20 : decode cX5_floor 20 = .ok (.bipush (-2), 2) := by decide +kernel
theorem dX5_floor_22 : decode cX5_floor 22 = .ok (.ireturn, 1) := by decide +kernel
theorem dX5_floor_23 : decode cX5_floor 23 = .ok (.aload_n 0, 1) := by decide +kernel
theorem dX5_floor_24 : decode cX5_floor 24 = .ok (.getfield 41, 3) := by decide +kernel
theorem dX5_floor_27 : decode cX5_floor 27 = .ok (.iload_n 1, 1) := by decide +kernel
theorem dX5_floor_28 : decode cX5_floor 28 = .ok (.iload_n 2, 1) := by decide +kernel
theorem dX5_floor_29 : decode cX5_floor 29 = .ok (.invokevirtual 198, 3) := by decide +kernel
theorem dX5_floor_32 : decode cX5_floor 32 = .ok (.iload_n 1, 1) := by decide +kernel
theorem dX5_floor_33 : decode cX5_floor 33 = .ok (.iload_n 2, 1) := by decide +kernel
theorem dX5_floor_34 : decode cX5_floor 34 = .ok (.imul, 1) := by decide +kernel
theorem dX5_floor_35 : decode cX5_floor 35 = .ok (.ireturn, 1) := by decide +kernel
theorem dX5_cell_0 : decode cX5_cell 0 = .ok (.aload_n 0, 1) := by decide +kernel
theorem dX5_cell_1 : decode cX5_cell 1 = .ok (.getfield 41, 3) := by decide +kernel
theorem dX5_cell_4 : decode cX5_cell 4 = .ok (.iload_n 1, 1) := by decide +kernel
theorem dX5_cell_5 : decode cX5_cell 5 = .ok (.iload_n 2, 1) := by decide +kernel
theorem dX5_cell_6 : decode cX5_cell 6 = .ok (.invokevirtual 201, 3) := by decide +kernel
theorem dX5_cell_9 : decode cX5_cell 9 = .ok (.ifCond .ne 5, 3) := by decide +kernel
theorem dX5_cell_12 : decode cX5_cell 12 = .ok (.iconst (-1), 1) := by decide +kernel
theorem dX5_cell_13 : decode cX5_cell 13 = .ok (.ireturn, 1) := by decide +kernel
theorem dX5_cell_14 : decode cX5_cell 14 = .ok (.iload_n 3, 1) := by decide +kernel
theorem dX5_cell_15 : decode cX5_cell 15 = .ok (.iconst 0, 1) := by decide +kernel
theorem dX5_cell_16 : decode cX5_cell 16 = .ok (.iconst 2, 1) := by decide +kernel
theorem dX5_cell_17 : decode cX5_cell 17 = .ok (.invokestatic 46, 3) := by decide +kernel
theorem dX5_cell_20 : decode cX5_cell 20 = .ok (.ifCond .ne 6, 3) := by decide +kernel
theorem dX5_cell_23 : decode cX5_cell 23 = .ok (.bipush (-2), 2) := by decide +kernel
theorem dX5_cell_25 : decode cX5_cell 25 = .ok (.ireturn, 1) := by decide +kernel
theorem dX5_cell_26 : decode cX5_cell 26 = .ok (.aload_n 0, 1) := by decide +kernel
theorem dX5_cell_27 : decode cX5_cell 27 = .ok (.getfield 41, 3) := by decide +kernel
theorem dX5_cell_30 : decode cX5_cell 30 = .ok (.iload_n 1, 1) := by decide +kernel
theorem dX5_cell_31 : decode cX5_cell 31 = .ok (.iload_n 2, 1) := by decide +kernel
theorem dX5_cell_32 : decode cX5_cell 32 = .ok (.invokevirtual 204, 3) := by decide +kernel
theorem dX5_cell_35 : decode cX5_cell 35 = .ok (.bipush (-6), 2) := by decide +kernel
theorem dX5_cell_37 : decode cX5_cell 37 = .ok (.if_icmp .eq 6, 3) := by decide +kernel
theorem dX5_cell_40 : decode cX5_cell 40 = .ok (.bipush (-3), 2) := by decide +kernel
theorem dX5_cell_42 : decode cX5_cell 42 = .ok (.ireturn, 1) := by decide +kernel
theorem dX5_cell_43 : decode cX5_cell 43 = .ok (.aload_n 0, 1) := by decide +kernel
theorem dX5_cell_44 : decode cX5_cell 44 = .ok (.getfield 41, 3) := by decide +kernel
theorem dX5_cell_47 : decode cX5_cell 47 = .ok (.iload_n 1, 1) := by decide +kernel
theorem dX5_cell_48 : decode cX5_cell 48 = .ok (.iload_n 2, 1) := by decide +kernel
theorem dX5_cell_49 : decode cX5_cell 49 = .ok (.invokevirtual 207, 3) := by decide +kernel
theorem dX5_cell_52 : decode cX5_cell 52 = .ok (.istore 4, 2) := by decide +kernel
theorem dX5_cell_54 : decode cX5_cell 54 = .ok (.aload_n 0, 1) := by decide +kernel
theorem dX5_cell_55 : decode cX5_cell 55 = .ok (.getfield 41, 3) := by decide +kernel
theorem dX5_cell_58 : decode cX5_cell 58 = .ok (.getfield 210, 3) := by decide +kernel
theorem dX5_cell_61 : decode cX5_cell 61 = .ok (.iload_n 1, 1) := by decide +kernel
theorem dX5_cell_62 : decode cX5_cell 62 = .ok (.bipush 16, 2) := by decide +kernel
theorem dX5_cell_64 : decode cX5_cell 64 = .ok (.imul, 1) := by decide +kernel
theorem dX5_cell_65 : decode cX5_cell 65 = .ok (.iload_n 2, 1) := by decide +kernel
theorem dX5_cell_66 : decode cX5_cell 66 = .ok (.iadd, 1) := by decide +kernel
theorem dX5_cell_67 : decode cX5_cell 67 = .ok (.iload_n 3, 1) := by decide +kernel
theorem dX5_cell_68 : decode cX5_cell 68 = .ok (.iastore, 1) := by decide +kernel
theorem dX5_cell_69 : decode cX5_cell 69 = .ok (.iload 4, 2) := by decide +kernel
theorem dX5_cell_71 : decode cX5_cell 71 = .ok (.ireturn, 1) := by decide +kernel
theorem dX5_stand_0 : decode cX5_stand 0 = .ok (.aload_n 0, 1) := by decide +kernel
theorem dX5_stand_1 : decode cX5_stand 1 = .ok (.iload_n 1, 1) := by decide +kernel
theorem dX5_stand_2 : decode cX5_stand 2 = .ok (.invokevirtual 88, 3) := by decide +kernel
theorem dX5_stand_5 : decode cX5_stand 5 = .ok (.ifCond .eq 15, 3) := by decide +kernel
theorem dX5_stand_8 : decode cX5_stand 8 = .ok (.aload_n 0, 1) := by decide +kernel
theorem dX5_stand_9 : decode cX5_stand 9 = .ok (.getfield 41, 3) := by decide +kernel
theorem dX5_stand_12 : decode cX5_stand 12 = .ok (.iload_n 2, 1) := by decide +kernel
theorem dX5_stand_13 : decode cX5_stand 13 = .ok (.iload_n 3, 1) := by decide +kernel
theorem dX5_stand_14 : decode cX5_stand 14 = .ok (.invokevirtual 201, 3) := by decide +kernel
theorem dX5_stand_17 : decode cX5_stand 17 = .ok (.ifCond .ne 5, 3) := by decide +kernel
theorem dX5_stand_20 : decode cX5_stand 20 = .ok (.iconst (-1), 1) := by decide +kernel
theorem dX5_stand_21 : decode cX5_stand 21 = .ok (.ireturn, 1) := by decide +kernel
theorem dX5_stand_22 : decode cX5_stand 22 = .ok (.iload 4, 2) := by decide +kernel
theorem dX5_stand_24 : decode cX5_stand 24 = .ok (.iconst 1, 1) := by decide +kernel
theorem dX5_stand_25 : decode cX5_stand 25 = .ok (.bipush 12, 2) := by decide +kernel
theorem dX5_stand_27 : decode cX5_stand 27 = .ok (.invokestatic 46, 3) := by decide +kernel
theorem dX5_stand_30 : decode cX5_stand 30 = .ok (.ifCond .ne 6, 3) := by decide +kernel
theorem dX5_stand_33 : decode cX5_stand 33 = .ok (.bipush (-2), 2) := by decide +kernel
theorem dX5_stand_35 : decode cX5_stand 35 = .ok (.ireturn, 1) := by decide +kernel
theorem dX5_stand_36 : decode cX5_stand 36 = .ok (.aload_n 0, 1) := by decide +kernel
theorem dX5_stand_37 : decode cX5_stand 37 = .ok (.getfield 41, 3) := by decide +kernel
theorem dX5_stand_40 : decode cX5_stand 40 = .ok (.iload_n 2, 1) := by decide +kernel
theorem dX5_stand_41 : decode cX5_stand 41 = .ok (.iload_n 3, 1) := by decide +kernel
theorem dX5_stand_42 : decode cX5_stand 42 = .ok (.invokevirtual 204, 3) := by decide +kernel
theorem dX5_stand_45 : decode cX5_stand 45 = .ok (.istore 5, 2) := by decide +kernel
theorem dX5_stand_47 : decode cX5_stand 47 = .ok (.aload_n 0, 1) := by decide +kernel
theorem dX5_stand_48 : decode cX5_stand 48 = .ok (.getfield 41, 3) := by decide +kernel
theorem dX5_stand_51 : decode cX5_stand 51 = .ok (.iload_n 2, 1) := by decide +kernel
theorem dX5_stand_52 : decode cX5_stand 52 = .ok (.iload_n 3, 1) := by decide +kernel
theorem dX5_stand_53 : decode cX5_stand 53 = .ok (.invokevirtual 207, 3) := by decide +kernel
theorem dX5_stand_56 : decode cX5_stand 56 = .ok (.ifCond .ne 16, 3) := by decide +kernel
theorem dX5_stand_59 : decode cX5_stand 59 = .ok (.iload 5, 2) := by decide +kernel
theorem dX5_stand_61 : decode cX5_stand 61 = .ok (.bipush (-6), 2) := by decide +kernel
theorem dX5_stand_63 : decode cX5_stand 63 = .ok (.if_icmp .eq 12, 3) := by decide +kernel
theorem dX5_stand_66 : decode cX5_stand 66 = .ok (.iload 5, 2) := by decide +kernel
theorem dX5_stand_68 : decode cX5_stand 68 = .ok (.iload_n 1, 1) := by decide +kernel
theorem dX5_stand_69 : decode cX5_stand 69 = .ok (.if_icmp .eq 6, 3) := by decide +kernel
theorem dX5_stand_72 : decode cX5_stand 72 = .ok (.bipush (-5), 2) := by decide +kernel
theorem dX5_stand_74 : decode cX5_stand 74 = .ok (.ireturn, 1) := by decide +kernel
theorem dX5_stand_75 : decode cX5_stand 75 = .ok (.aload_n 0, 1) := by decide +kernel
theorem dX5_stand_76 : decode cX5_stand 76 = .ok (.getfield 41, 3) := by decide +kernel
theorem dX5_stand_79 : decode cX5_stand 79 = .ok (.iload_n 1, 1) := by decide +kernel
theorem dX5_stand_80 : decode cX5_stand 80 = .ok (.iload_n 2, 1) := by decide +kernel
theorem dX5_stand_81 : decode cX5_stand 81 = .ok (.iload_n 3, 1) := by decide +kernel
theorem dX5_stand_82 : decode cX5_stand 82 = .ok (.iload 4, 2) := by decide +kernel
theorem dX5_stand_84 : decode cX5_stand 84 = .ok (.invokevirtual 213, 3) := by decide +kernel
theorem dX5_stand_87 : decode cX5_stand 87 = .ok (.iconst 1, 1) := by decide +kernel
theorem dX5_stand_88 : decode cX5_stand 88 = .ok (.ireturn, 1) := by decide +kernel
theorem dX5_lift_0 : decode cX5_lift 0 = .ok (.aload_n 0, 1) := by decide +kernel
theorem dX5_lift_1 : decode cX5_lift 1 = .ok (.iload_n 1, 1) := by decide +kernel
theorem dX5_lift_2 : decode cX5_lift 2 = .ok (.invokevirtual 88, 3) := by decide +kernel
theorem dX5_lift_5 : decode cX5_lift 5 = .ok (.ifCond .ne 5, 3) := by decide +kernel
theorem dX5_lift_8 : decode cX5_lift 8 = .ok (.iconst (-1), 1) := by decide +kernel
theorem dX5_lift_9 : decode cX5_lift 9 = .ok (.ireturn, 1) := by decide +kernel
theorem dX5_lift_10 : decode cX5_lift 10 = .ok (.aload_n 0, 1) := by decide +kernel
theorem dX5_lift_11 : decode cX5_lift 11 = .ok (.getfield 41, 3) := by decide +kernel
theorem dX5_lift_14 : decode cX5_lift 14 = .ok (.getfield 217, 3) := by decide +kernel
theorem dX5_lift_17 : decode cX5_lift 17 = .ok (.iload_n 1, 1) := by decide +kernel
theorem dX5_lift_18 : decode cX5_lift 18 = .ok (.invokestatic 94, 3) := by decide +kernel
theorem dX5_lift_21 : decode cX5_lift 21 = .ok (.istore_n 2, 1) := by decide +kernel
theorem dX5_lift_22 : decode cX5_lift 22 = .ok (.aload_n 0, 1) := by decide +kernel
theorem dX5_lift_23 : decode cX5_lift 23 = .ok (.getfield 41, 3) := by decide +kernel
theorem dX5_lift_26 : decode cX5_lift 26 = .ok (.aload_n 0, 1) := by decide +kernel
theorem dX5_lift_27 : decode cX5_lift 27 = .ok (.getfield 41, 3) := by decide +kernel
theorem dX5_lift_30 : decode cX5_lift 30 = .ok (.getfield 217, 3) := by decide +kernel
theorem dX5_lift_33 : decode cX5_lift 33 = .ok (.iload_n 1, 1) := by decide +kernel
theorem dX5_lift_34 : decode cX5_lift 34 = .ok (.iconst 0, 1) := by decide +kernel
theorem dX5_lift_35 : decode cX5_lift 35 = .ok (.invokestatic 97, 3) := by decide +kernel
theorem dX5_lift_38 : decode cX5_lift 38 = .ok (.putfield 217, 3) := by decide +kernel
theorem dX5_lift_41 : decode cX5_lift 41 = .ok (.iload_n 2, 1) := by decide +kernel
theorem dX5_lift_42 : decode cX5_lift 42 = .ok (.ireturn, 1) := by decide +kernel
theorem dX5_wets_0 : decode cX5_wets 0 = .ok (.aload_n 0, 1) := by decide +kernel
theorem dX5_wets_1 : decode cX5_wets 1 = .ok (.iload_n 1, 1) := by decide +kernel
theorem dX5_wets_2 : decode cX5_wets 2 = .ok (.invokevirtual 88, 3) := by decide +kernel
theorem dX5_wets_5 : decode cX5_wets 5 = .ok (.ifCond .eq 15, 3) := by decide +kernel
theorem dX5_wets_8 : decode cX5_wets 8 = .ok (.aload_n 0, 1) := by decide +kernel
theorem dX5_wets_9 : decode cX5_wets 9 = .ok (.getfield 41, 3) := by decide +kernel
theorem dX5_wets_12 : decode cX5_wets 12 = .ok (.iload_n 2, 1) := by decide +kernel
theorem dX5_wets_13 : decode cX5_wets 13 = .ok (.iload_n 3, 1) := by decide +kernel
theorem dX5_wets_14 : decode cX5_wets 14 = .ok (.invokevirtual 201, 3) := by decide +kernel
theorem dX5_wets_17 : decode cX5_wets 17 = .ok (.ifCond .ne 5, 3) := by decide +kernel
theorem dX5_wets_20 : decode cX5_wets 20 = .ok (.iconst (-1), 1) := by decide +kernel
theorem dX5_wets_21 : decode cX5_wets 21 = .ok (.ireturn, 1) := by decide +kernel
theorem dX5_wets_22 : decode cX5_wets 22 = .ok (.aload_n 0, 1) := by decide +kernel
theorem dX5_wets_23 : decode cX5_wets 23 = .ok (.getfield 41, 3) := by decide +kernel
theorem dX5_wets_26 : decode cX5_wets 26 = .ok (.getfield 217, 3) := by decide +kernel
theorem dX5_wets_29 : decode cX5_wets 29 = .ok (.iload_n 1, 1) := by decide +kernel
theorem dX5_wets_30 : decode cX5_wets 30 = .ok (.invokestatic 94, 3) := by decide +kernel
theorem dX5_wets_33 : decode cX5_wets 33 = .ok (.ifCond .ne 6, 3) := by decide +kernel
theorem dX5_wets_36 : decode cX5_wets 36 = .ok (.bipush (-3), 2) := by decide +kernel
theorem dX5_wets_38 : decode cX5_wets 38 = .ok (.ireturn, 1) := by decide +kernel
theorem dX5_wets_39 : decode cX5_wets 39 = .ok (.aload_n 0, 1) := by decide +kernel
theorem dX5_wets_40 : decode cX5_wets 40 = .ok (.getfield 41, 3) := by decide +kernel
theorem dX5_wets_43 : decode cX5_wets 43 = .ok (.iload_n 1, 1) := by decide +kernel
theorem dX5_wets_44 : decode cX5_wets 44 = .ok (.iload_n 2, 1) := by decide +kernel
theorem dX5_wets_45 : decode cX5_wets 45 = .ok (.iload_n 3, 1) := by decide +kernel
theorem dX5_wets_46 : decode cX5_wets 46 = .ok (.invokevirtual 220, 3) := by decide +kernel
theorem dX5_wets_49 : decode cX5_wets 49 = .ok (.ifCond .eq 7, 3) := by decide +kernel
theorem dX5_wets_52 : decode cX5_wets 52 = .ok (.iconst 1, 1) := by decide +kernel
theorem dX5_wets_53 : decode cX5_wets 53 = .ok (.goto 4, 3) := by decide +kernel
theorem dX5_wets_56 : decode cX5_wets 56 = .ok (.iconst 0, 1) := by decide +kernel
theorem dX5_wets_57 : decode cX5_wets 57 = .ok (.ireturn, 1) := by decide +kernel
theorem dX5_dry_0 : decode cX5_dry 0 = .ok (.iconst 0, 1) := by decide +kernel
theorem dX5_dry_1 : decode cX5_dry 1 = .ok (.istore_n 2, 1) := by decide +kernel
theorem dX5_dry_2 : decode cX5_dry 2 = .ok (.iconst 0, 1) := by decide +kernel
theorem dX5_dry_3 : decode cX5_dry 3 = .ok (.istore_n 3, 1) := by decide +kernel
theorem dX5_dry_4 : decode cX5_dry 4 = .ok (.iload_n 3, 1) := by decide +kernel
theorem dX5_dry_5 : decode cX5_dry 5 = .ok (.aload_n 0, 1) := by decide +kernel
theorem dX5_dry_6 : decode cX5_dry 6 = .ok (.getfield 41, 3) := by decide +kernel
theorem dX5_dry_9 : decode cX5_dry 9 = .ok (.getfield 223, 3) := by decide +kernel
theorem dX5_dry_12 : decode cX5_dry 12 = .ok (.if_icmp .ge 59, 3) := by decide +kernel
theorem dX5_dry_15 : decode cX5_dry 15 = .ok (.iconst 0, 1) := by decide +kernel
theorem dX5_dry_16 : decode cX5_dry 16 = .ok (.istore 4, 2) := by decide +kernel
theorem dX5_dry_18 : decode cX5_dry 18 = .ok (.iload 4, 2) := by decide +kernel
theorem dX5_dry_20 : decode cX5_dry 20 = .ok (.aload_n 0, 1) := by decide +kernel
theorem dX5_dry_21 : decode cX5_dry 21 = .ok (.getfield 41, 3) := by decide +kernel
theorem dX5_dry_24 : decode cX5_dry 24 = .ok (.getfield 226, 3) := by decide +kernel
theorem dX5_dry_27 : decode cX5_dry 27 = .ok (.if_icmp .ge 38, 3) := by decide +kernel
theorem dX5_dry_30 : decode cX5_dry 30 = .ok (.aload_n 0, 1) := by decide +kernel
theorem dX5_dry_31 : decode cX5_dry 31 = .ok (.getfield 41, 3) := by decide +kernel
theorem dX5_dry_34 : decode cX5_dry 34 = .ok (.iload_n 3, 1) := by decide +kernel
theorem dX5_dry_35 : decode cX5_dry 35 = .ok (.iload 4, 2) := by decide +kernel
theorem dX5_dry_37 : decode cX5_dry 37 = .ok (.invokevirtual 229, 3) := by decide +kernel
theorem dX5_dry_40 : decode cX5_dry 40 = .ok (.ifCond .eq 19, 3) := by decide +kernel
theorem dX5_dry_43 : decode cX5_dry 43 = .ok (.iload_n 2, 1) := by decide +kernel
theorem dX5_dry_44 : decode cX5_dry 44 = .ok (.iload_n 1, 1) := by decide +kernel
theorem dX5_dry_45 : decode cX5_dry 45 = .ok (.if_icmp .ne 11, 3) := by decide +kernel
theorem dX5_dry_48 : decode cX5_dry 48 = .ok (.iload_n 3, 1) := by decide +kernel
theorem dX5_dry_49 : decode cX5_dry 49 = .ok (.bipush 16, 2) := by decide +kernel
theorem dX5_dry_51 : decode cX5_dry 51 = .ok (.imul, 1) := by decide +kernel
theorem dX5_dry_52 : decode cX5_dry 52 = .ok (.iload 4, 2) := by decide +kernel
theorem dX5_dry_54 : decode cX5_dry 54 = .ok (.iadd, 1) := by decide +kernel
theorem dX5_dry_55 : decode cX5_dry 55 = .ok (.ireturn, 1) := by decide +kernel
theorem dX5_dry_56 : decode cX5_dry 56 = .ok (.iinc 2 1, 3) := by decide +kernel
theorem dX5_dry_59 : decode cX5_dry 59 = .ok (.iinc 4 1, 3) := by decide +kernel
theorem dX5_dry_62 : decode cX5_dry 62 = .ok (.goto (-44), 3) := by decide +kernel
theorem dX5_dry_65 : decode cX5_dry 65 = .ok (.iinc 3 1, 3) := by decide +kernel
theorem dX5_dry_68 : decode cX5_dry 68 = .ok (.goto (-64), 3) := by decide +kernel
theorem dX5_dry_71 : decode cX5_dry 71 = .ok (.iload_n 1, 1) := by decide +kernel
theorem dX5_dry_72 : decode cX5_dry 72 = .ok (.iconst (-1), 1) := by decide +kernel
theorem dX5_dry_73 : decode cX5_dry 73 = .ok (.if_icmp .ne 7, 3) := by decide +kernel
theorem dX5_dry_76 : decode cX5_dry 76 = .ok (.iload_n 2, 1) := by decide +kernel
theorem dX5_dry_77 : decode cX5_dry 77 = .ok (.goto 5, 3) := by decide +kernel
theorem dX5_dry_80 : decode cX5_dry 80 = .ok (.bipush (-6), 2) := by decide +kernel
theorem dX5_dry_82 : decode cX5_dry 82 = .ok (.ireturn, 1) := by decide +kernel
theorem dX5_near_0 : decode cX5_near 0 = .ok (.iload_n 1, 1) := by decide +kernel
theorem dX5_near_1 : decode cX5_near 1 = .ok (.iconst 1, 1) := by decide +kernel
theorem dX5_near_2 : decode cX5_near 2 = .ok (.bipush 30, 2) := by decide +kernel
theorem dX5_near_4 : decode cX5_near 4 = .ok (.invokestatic 46, 3) := by decide +kernel
theorem dX5_near_7 : decode cX5_near 7 = .ok (.ifCond .ne 6, 3) := by decide +kernel
theorem dX5_near_10 : decode cX5_near 10 = .ok (.bipush (-2), 2) := by decide +kernel
theorem dX5_near_12 : decode cX5_near 12 = .ok (.ireturn, 1) := by decide +kernel
theorem dX5_near_13 : decode cX5_near 13 = .ok (.iconst 0, 1) := by decide +kernel
theorem dX5_near_14 : decode cX5_near 14 = .ok (.istore_n 2, 1) := by decide +kernel
theorem dX5_near_15 : decode cX5_near 15 = .ok (.iload_n 2, 1) := by decide +kernel
theorem dX5_near_16 : decode cX5_near 16 = .ok (.bipush 24, 2) := by decide +kernel
theorem dX5_near_18 : decode cX5_near 18 = .ok (.if_icmp .ge 25, 3) := by decide +kernel
theorem dX5_near_21 : decode cX5_near 21 = .ok (.aload_n 0, 1) := by decide +kernel
theorem dX5_near_22 : decode cX5_near 22 = .ok (.getfield 41, 3) := by decide +kernel
theorem dX5_near_25 : decode cX5_near 25 = .ok (.iload_n 2, 1) := by decide +kernel
theorem dX5_near_26 : decode cX5_near 26 = .ok (.iload_n 1, 1) := by decide +kernel
theorem dX5_near_27 : decode cX5_near 27 = .ok (.iload_n 1, 1) := by decide +kernel
theorem dX5_near_28 : decode cX5_near 28 = .ok (.imul, 1) := by decide +kernel
theorem dX5_near_29 : decode cX5_near 29 = .ok (.invokevirtual 232, 3) := by decide +kernel
theorem dX5_near_32 : decode cX5_near 32 = .ok (.ifCond .eq 5, 3) := by decide +kernel
theorem dX5_near_35 : decode cX5_near 35 = .ok (.iload_n 2, 1) := by decide +kernel
theorem dX5_near_36 : decode cX5_near 36 = .ok (.ireturn, 1) := by decide +kernel
theorem dX5_near_37 : decode cX5_near 37 = .ok (.iinc 2 1, 3) := by decide +kernel
theorem dX5_near_40 : decode cX5_near 40 = .ok (.goto (-25), 3) := by decide +kernel
theorem dX5_near_43 : decode cX5_near 43 = .ok (.bipush (-6), 2) := by decide +kernel
theorem dX5_near_45 : decode cX5_near 45 = .ok (.ireturn, 1) := by decide +kernel
theorem dX5_told_0 : decode cX5_told 0 = .ok (.iload_n 1, 1) := by decide +kernel
theorem dX5_told_1 : decode cX5_told 1 = .ok (.tableswitch 144 0 9 #[55, 63, 71, 82, 93, 98, 109, 120, 128, 136], 55) := by decide +kernel
theorem dX5_told_56 : decode cX5_told 56 = .ok (.aload_n 0, 1) := by decide +kernel
theorem dX5_told_57 : decode cX5_told 57 = .ok (.getfield 17, 3) := by decide +kernel
theorem dX5_told_60 : decode cX5_told 60 = .ok (.getfield 57, 3) := by decide +kernel
theorem dX5_told_63 : decode cX5_told 63 = .ok (.ireturn, 1) := by decide +kernel
theorem dX5_told_64 : decode cX5_told 64 = .ok (.aload_n 0, 1) := by decide +kernel
theorem dX5_told_65 : decode cX5_told 65 = .ok (.getfield 17, 3) := by decide +kernel
theorem dX5_told_68 : decode cX5_told 68 = .ok (.getfield 71, 3) := by decide +kernel
theorem dX5_told_71 : decode cX5_told 71 = .ok (.ireturn, 1) := by decide +kernel
theorem dX5_told_72 : decode cX5_told 72 = .ok (.aload_n 0, 1) := by decide +kernel
theorem dX5_told_73 : decode cX5_told 73 = .ok (.getfield 17, 3) := by decide +kernel
theorem dX5_told_76 : decode cX5_told 76 = .ok (.getfield 146, 3) := by decide +kernel
theorem dX5_told_79 : decode cX5_told 79 = .ok (.invokestatic 172, 3) := by decide +kernel
theorem dX5_told_82 : decode cX5_told 82 = .ok (.ireturn, 1) := by decide +kernel
theorem dX5_told_83 : decode cX5_told 83 = .ok (.aload_n 0, 1) := by decide +kernel
theorem dX5_told_84 : decode cX5_told 84 = .ok (.getfield 17, 3) := by decide +kernel
theorem dX5_told_87 : decode cX5_told 87 = .ok (.getfield 91, 3) := by decide +kernel
theorem dX5_told_90 : decode cX5_told 90 = .ok (.invokestatic 172, 3) := by decide +kernel
theorem dX5_told_93 : decode cX5_told 93 = .ok (.ireturn, 1) := by decide +kernel
theorem dX5_told_94 : decode cX5_told 94 = .ok (.aload_n 0, 1) := by decide +kernel
theorem dX5_told_95 : decode cX5_told 95 = .ok (.getfield 166, 3) := by decide +kernel
theorem dX5_told_98 : decode cX5_told 98 = .ok (.ireturn, 1) := by decide +kernel
theorem dX5_told_99 : decode cX5_told 99 = .ok (.aload_n 0, 1) := by decide +kernel
theorem dX5_told_100 : decode cX5_told 100 = .ok (.getfield 17, 3) := by decide +kernel
theorem dX5_told_103 : decode cX5_told 103 = .ok (.getfield 156, 3) := by decide +kernel
theorem dX5_told_106 : decode cX5_told 106 = .ok (.invokestatic 172, 3) := by decide +kernel
theorem dX5_told_109 : decode cX5_told 109 = .ok (.ireturn, 1) := by decide +kernel
theorem dX5_told_110 : decode cX5_told 110 = .ok (.aload_n 0, 1) := by decide +kernel
theorem dX5_told_111 : decode cX5_told 111 = .ok (.getfield 41, 3) := by decide +kernel
theorem dX5_told_114 : decode cX5_told 114 = .ok (.getfield 217, 3) := by decide +kernel
theorem dX5_told_117 : decode cX5_told 117 = .ok (.invokestatic 172, 3) := by decide +kernel
theorem dX5_told_120 : decode cX5_told 120 = .ok (.ireturn, 1) := by decide +kernel
theorem dX5_told_121 : decode cX5_told 121 = .ok (.aload_n 0, 1) := by decide +kernel
theorem dX5_told_122 : decode cX5_told 122 = .ok (.getfield 41, 3) := by decide +kernel
theorem dX5_told_125 : decode cX5_told 125 = .ok (.invokevirtual 235, 3) := by decide +kernel
theorem dX5_told_128 : decode cX5_told 128 = .ok (.ireturn, 1) := by decide +kernel
theorem dX5_told_129 : decode cX5_told 129 = .ok (.aload_n 0, 1) := by decide +kernel
theorem dX5_told_130 : decode cX5_told 130 = .ok (.getfield 41, 3) := by decide +kernel
theorem dX5_told_133 : decode cX5_told 133 = .ok (.getfield 223, 3) := by decide +kernel
theorem dX5_told_136 : decode cX5_told 136 = .ok (.ireturn, 1) := by decide +kernel
theorem dX5_told_137 : decode cX5_told 137 = .ok (.aload_n 0, 1) := by decide +kernel
theorem dX5_told_138 : decode cX5_told 138 = .ok (.getfield 41, 3) := by decide +kernel
theorem dX5_told_141 : decode cX5_told 141 = .ok (.getfield 226, 3) := by decide +kernel
theorem dX5_told_144 : decode cX5_told 144 = .ok (.ireturn, 1) := by decide +kernel
theorem dX5_told_145 : decode cX5_told 145 = .ok (.bipush (-2), 2) := by decide +kernel
theorem dX5_told_147 : decode cX5_told 147 = .ok (.ireturn, 1) := by decide +kernel
theorem dX5_isPipe_0 : decode cX5_isPipe 0 = .ok (.iload_n 1, 1) := by decide +kernel
theorem dX5_isPipe_1 : decode cX5_isPipe 1 = .ok (.ifCond .lt 18, 3) := by decide +kernel
theorem dX5_isPipe_4 : decode cX5_isPipe 4 = .ok (.iload_n 1, 1) := by decide +kernel
theorem dX5_isPipe_5 : decode cX5_isPipe 5 = .ok (.aload_n 0, 1) := by decide +kernel
theorem dX5_isPipe_6 : decode cX5_isPipe 6 = .ok (.getfield 17, 3) := by decide +kernel
theorem dX5_isPipe_9 : decode cX5_isPipe 9 = .ok (.getfield 71, 3) := by decide +kernel
theorem dX5_isPipe_12 : decode cX5_isPipe 12 = .ok (.if_icmp .ge 7, 3) := by decide +kernel
theorem dX5_isPipe_15 : decode cX5_isPipe 15 = .ok (.iconst 1, 1) := by decide +kernel
theorem dX5_isPipe_16 : decode cX5_isPipe 16 = .ok (.goto 4, 3) := by decide +kernel
theorem dX5_isPipe_19 : decode cX5_isPipe 19 = .ok (.iconst 0, 1) := by decide +kernel
theorem dX5_isPipe_20 : decode cX5_isPipe 20 = .ok (.ireturn, 1) := by decide +kernel
theorem dX5_isEnd_0 : decode cX5_isEnd 0 = .ok (.iload_n 1, 1) := by decide +kernel
theorem dX5_isEnd_1 : decode cX5_isEnd 1 = .ok (.iconst (-1), 1) := by decide +kernel
theorem dX5_isEnd_2 : decode cX5_isEnd 2 = .ok (.if_icmp .eq 11, 3) := by decide +kernel
theorem dX5_isEnd_5 : decode cX5_isEnd 5 = .ok (.aload_n 0, 1) := by decide +kernel
theorem dX5_isEnd_6 : decode cX5_isEnd 6 = .ok (.iload_n 1, 1) := by decide +kernel
theorem dX5_isEnd_7 : decode cX5_isEnd 7 = .ok (.invokevirtual 81, 3) := by decide +kernel
theorem dX5_isEnd_10 : decode cX5_isEnd 10 = .ok (.ifCond .eq 7, 3) := by decide +kernel
theorem dX5_isEnd_13 : decode cX5_isEnd 13 = .ok (.iconst 1, 1) := by decide +kernel
theorem dX5_isEnd_14 : decode cX5_isEnd 14 = .ok (.goto 4, 3) := by decide +kernel
theorem dX5_isEnd_17 : decode cX5_isEnd 17 = .ok (.iconst 0, 1) := by decide +kernel
theorem dX5_isEnd_18 : decode cX5_isEnd 18 = .ok (.ireturn, 1) := by decide +kernel
theorem dX5_isHead_0 : decode cX5_isHead 0 = .ok (.aload_n 0, 1) := by decide +kernel
theorem dX5_isHead_1 : decode cX5_isHead 1 = .ok (.iload_n 1, 1) := by decide +kernel
theorem dX5_isHead_2 : decode cX5_isHead 2 = .ok (.invokevirtual 81, 3) := by decide +kernel
theorem dX5_isHead_5 : decode cX5_isHead 5 = .ok (.ifCond .eq 22, 3) := by decide +kernel
theorem dX5_isHead_8 : decode cX5_isHead 8 = .ok (.aload_n 0, 1) := by decide +kernel
theorem dX5_isHead_9 : decode cX5_isHead 9 = .ok (.getfield 17, 3) := by decide +kernel
theorem dX5_isHead_12 : decode cX5_isHead 12 = .ok (.getfield 146, 3) := by decide +kernel
theorem dX5_isHead_15 : decode cX5_isHead 15 = .ok (.iload_n 1, 1) := by decide +kernel
theorem dX5_isHead_16 : decode cX5_isHead 16 = .ok (.invokestatic 94, 3) := by decide +kernel
theorem dX5_isHead_19 : decode cX5_isHead 19 = .ok (.iconst 1, 1) := by decide +kernel
theorem dX5_isHead_20 : decode cX5_isHead 20 = .ok (.if_icmp .ne 7, 3) := by decide +kernel
theorem dX5_isHead_23 : decode cX5_isHead 23 = .ok (.iconst 1, 1) := by decide +kernel
theorem dX5_isHead_24 : decode cX5_isHead 24 = .ok (.goto 4, 3) := by decide +kernel
theorem dX5_isHead_27 : decode cX5_isHead 27 = .ok (.iconst 0, 1) := by decide +kernel
theorem dX5_isHead_28 : decode cX5_isHead 28 = .ok (.ireturn, 1) := by decide +kernel
theorem dX5_isSize_0 : decode cX5_isSize 0 = .ok (.iload_n 1, 1) := by decide +kernel
theorem dX5_isSize_1 : decode cX5_isSize 1 = .ok (.ifCond .lt 18, 3) := by decide +kernel
theorem dX5_isSize_4 : decode cX5_isSize 4 = .ok (.iload_n 1, 1) := by decide +kernel
theorem dX5_isSize_5 : decode cX5_isSize 5 = .ok (.aload_n 0, 1) := by decide +kernel
theorem dX5_isSize_6 : decode cX5_isSize 6 = .ok (.getfield 17, 3) := by decide +kernel
theorem dX5_isSize_9 : decode cX5_isSize 9 = .ok (.getfield 57, 3) := by decide +kernel
theorem dX5_isSize_12 : decode cX5_isSize 12 = .ok (.if_icmp .ge 7, 3) := by decide +kernel
theorem dX5_isSize_15 : decode cX5_isSize 15 = .ok (.iconst 1, 1) := by decide +kernel
theorem dX5_isSize_16 : decode cX5_isSize 16 = .ok (.goto 4, 3) := by decide +kernel
theorem dX5_isSize_19 : decode cX5_isSize 19 = .ok (.iconst 0, 1) := by decide +kernel
theorem dX5_isSize_20 : decode cX5_isSize 20 = .ok (.ireturn, 1) := by decide +kernel
theorem dX5_isHeap_0 : decode cX5_isHeap 0 = .ok (.iload_n 1, 1) := by decide +kernel
theorem dX5_isHeap_1 : decode cX5_isHeap 1 = .ok (.ifCond .lt 15, 3) := by decide +kernel
theorem dX5_isHeap_4 : decode cX5_isHeap 4 = .ok (.iload_n 1, 1) := by decide +kernel
theorem dX5_isHeap_5 : decode cX5_isHeap 5 = .ok (.aload_n 0, 1) := by decide +kernel
theorem dX5_isHeap_6 : decode cX5_isHeap 6 = .ok (.getfield 166, 3) := by decide +kernel
theorem dX5_isHeap_9 : decode cX5_isHeap 9 = .ok (.if_icmp .ge 7, 3) := by decide +kernel
theorem dX5_isHeap_12 : decode cX5_isHeap 12 = .ok (.iconst 1, 1) := by decide +kernel
theorem dX5_isHeap_13 : decode cX5_isHeap 13 = .ok (.goto 4, 3) := by decide +kernel
theorem dX5_isHeap_16 : decode cX5_isHeap 16 = .ok (.iconst 0, 1) := by decide +kernel
theorem dX5_isHeap_17 : decode cX5_isHeap 17 = .ok (.ireturn, 1) := by decide +kernel
theorem dX5_leastOfHeap_0 : decode cX5_leastOfHeap 0 = .ok (.aload_n 0, 1) := by decide +kernel
theorem dX5_leastOfHeap_1 : decode cX5_leastOfHeap 1 = .ok (.getfield 21, 3) := by decide +kernel
theorem dX5_leastOfHeap_4 : decode cX5_leastOfHeap 4 = .ok (.iconst 0, 1) := by decide +kernel
theorem dX5_leastOfHeap_5 : decode cX5_leastOfHeap 5 = .ok (.aload_n 0, 1) := by decide +kernel
theorem dX5_leastOfHeap_6 : decode cX5_leastOfHeap 6 = .ok (.getfield 25, 3) := by decide +kernel
theorem dX5_leastOfHeap_9 : decode cX5_leastOfHeap 9 = .ok (.iload_n 1, 1) := by decide +kernel
theorem dX5_leastOfHeap_10 : decode cX5_leastOfHeap 10 = .ok (.iaload, 1) := by decide +kernel
theorem dX5_leastOfHeap_11 : decode cX5_leastOfHeap 11 = .ok (.invokevirtual 129, 3) := by decide +kernel
theorem dX5_leastOfHeap_14 : decode cX5_leastOfHeap 14 = .ok (.aload_n 0, 1) := by decide +kernel
theorem dX5_leastOfHeap_15 : decode cX5_leastOfHeap 15 = .ok (.getfield 21, 3) := by decide +kernel
theorem dX5_leastOfHeap_18 : decode cX5_leastOfHeap 18 = .ok (.aload_n 0, 1) := by decide +kernel
theorem dX5_leastOfHeap_19 : decode cX5_leastOfHeap 19 = .ok (.getfield 25, 3) := by decide +kernel
theorem dX5_leastOfHeap_22 : decode cX5_leastOfHeap 22 = .ok (.iload_n 1, 1) := by decide +kernel
theorem dX5_leastOfHeap_23 : decode cX5_leastOfHeap 23 = .ok (.iaload, 1) := by decide +kernel
theorem dX5_leastOfHeap_24 : decode cX5_leastOfHeap 24 = .ok (.invokevirtual 238, 3) := by decide +kernel
theorem dX5_leastOfHeap_27 : decode cX5_leastOfHeap 27 = .ok (.lreturn, 1) := by decide +kernel
theorem dX5_isMetWithLess_0 : decode cX5_isMetWithLess 0 = .ok (.iconst 1, 1) := by decide +kernel
theorem dX5_isMetWithLess_1 : decode cX5_isMetWithLess 1 = .ok (.aload_n 0, 1) := by decide +kernel
theorem dX5_isMetWithLess_2 : decode cX5_isMetWithLess 2 = .ok (.getfield 17, 3) := by decide +kernel
theorem dX5_isMetWithLess_5 : decode cX5_isMetWithLess 5 = .ok (.getfield 50, 3) := by decide +kernel
theorem dX5_isMetWithLess_8 : decode cX5_isMetWithLess 8 = .ok (.bipush 100, 2) := by decide +kernel
theorem dX5_isMetWithLess_10 : decode cX5_isMetWithLess 10 = .ok (.iload_n 2, 1) := by decide +kernel
theorem dX5_isMetWithLess_11 : decode cX5_isMetWithLess 11 = .ok (.isub, 1) := by decide +kernel
theorem dX5_isMetWithLess_12 : decode cX5_isMetWithLess 12 = .ok (.imul, 1) := by decide +kernel
theorem dX5_isMetWithLess_13 : decode cX5_isMetWithLess 13 = .ok (.bipush 100, 2) := by decide +kernel
theorem dX5_isMetWithLess_15 : decode cX5_isMetWithLess 15 = .ok (.idiv, 1) := by decide +kernel
theorem dX5_isMetWithLess_16 : decode cX5_isMetWithLess 16 = .ok (.invokestatic 241, 3) := by decide +kernel
theorem dX5_isMetWithLess_19 : decode cX5_isMetWithLess 19 = .ok (.istore_n 3, 1) := by decide +kernel
theorem dX5_isMetWithLess_20 : decode cX5_isMetWithLess 20 = .ok (.aload_n 0, 1) := by decide +kernel
theorem dX5_isMetWithLess_21 : decode cX5_isMetWithLess 21 = .ok (.getfield 21, 3) := by decide +kernel
theorem dX5_isMetWithLess_24 : decode cX5_isMetWithLess 24 = .ok (.iconst 0, 1) := by decide +kernel
theorem dX5_isMetWithLess_25 : decode cX5_isMetWithLess 25 = .ok (.aload_n 0, 1) := by decide +kernel
theorem dX5_isMetWithLess_26 : decode cX5_isMetWithLess 26 = .ok (.getfield 17, 3) := by decide +kernel
theorem dX5_isMetWithLess_29 : decode cX5_isMetWithLess 29 = .ok (.getfield 54, 3) := by decide +kernel
theorem dX5_isMetWithLess_32 : decode cX5_isMetWithLess 32 = .ok (.iload_n 3, 1) := by decide +kernel
theorem dX5_isMetWithLess_33 : decode cX5_isMetWithLess 33 = .ok (.invokevirtual 246, 3) := by decide +kernel
theorem dX5_isMetWithLess_36 : decode cX5_isMetWithLess 36 = .ok (.aload_n 0, 1) := by decide +kernel
theorem dX5_isMetWithLess_37 : decode cX5_isMetWithLess 37 = .ok (.getfield 21, 3) := by decide +kernel
theorem dX5_isMetWithLess_40 : decode cX5_isMetWithLess 40 = .ok (.aload_n 0, 1) := by decide +kernel
theorem dX5_isMetWithLess_41 : decode cX5_isMetWithLess 41 = .ok (.getfield 25, 3) := by decide +kernel
theorem dX5_isMetWithLess_44 : decode cX5_isMetWithLess 44 = .ok (.iload_n 1, 1) := by decide +kernel
theorem dX5_isMetWithLess_45 : decode cX5_isMetWithLess 45 = .ok (.iaload, 1) := by decide +kernel
theorem dX5_isMetWithLess_46 : decode cX5_isMetWithLess 46 = .ok (.invokevirtual 238, 3) := by decide +kernel
theorem dX5_isMetWithLess_49 : decode cX5_isMetWithLess 49 = .ok (.lconst 0, 1) := by decide +kernel
theorem dX5_isMetWithLess_50 : decode cX5_isMetWithLess 50 = .ok (.lcmp, 1) := by decide +kernel
theorem dX5_isMetWithLess_51 : decode cX5_isMetWithLess 51 = .ok (.ifCond .lt 7, 3) := by decide +kernel
theorem dX5_isMetWithLess_54 : decode cX5_isMetWithLess 54 = .ok (.iconst 1, 1) := by decide +kernel
theorem dX5_isMetWithLess_55 : decode cX5_isMetWithLess 55 = .ok (.goto 4, 3) := by decide +kernel
theorem dX5_isMetWithLess_58 : decode cX5_isMetWithLess 58 = .ok (.iconst 0, 1) := by decide +kernel
theorem dX5_isMetWithLess_59 : decode cX5_isMetWithLess 59 = .ok (.ireturn, 1) := by decide +kernel
theorem dX5_leastTooMuch_0 : decode cX5_leastTooMuch 0 = .ok (.iconst 0, 1) := by decide +kernel
theorem dX5_leastTooMuch_1 : decode cX5_leastTooMuch 1 = .ok (.istore_n 2, 1) := by decide +kernel
theorem dX5_leastTooMuch_2 : decode cX5_leastTooMuch 2 = .ok (.bipush 100, 2) := by decide +kernel
theorem dX5_leastTooMuch_4 : decode cX5_leastTooMuch 4 = .ok (.istore_n 3, 1) := by decide +kernel
theorem dX5_leastTooMuch_5 : decode cX5_leastTooMuch 5 = .ok (.iconst 0, 1) := by decide +kernel
theorem dX5_leastTooMuch_6 : decode cX5_leastTooMuch 6 = .ok (.istore 4, 2) := by decide +kernel
theorem dX5_leastTooMuch_8 : decode cX5_leastTooMuch 8 = .ok (.iload 4, 2) := by decide +kernel
theorem dX5_leastTooMuch_10 : decode cX5_leastTooMuch 10 = .ok (.bipush 100, 2) := by decide +kernel
theorem dX5_leastTooMuch_12 : decode cX5_leastTooMuch 12 = .ok (.if_icmp .ge 42, 3) := by decide +kernel
theorem dX5_leastTooMuch_15 : decode cX5_leastTooMuch 15 = .ok (.iload_n 3, 1) := by decide +kernel
theorem dX5_leastTooMuch_16 : decode cX5_leastTooMuch 16 = .ok (.iload_n 2, 1) := by decide +kernel
theorem dX5_leastTooMuch_17 : decode cX5_leastTooMuch 17 = .ok (.isub, 1) := by decide +kernel
theorem dX5_leastTooMuch_18 : decode cX5_leastTooMuch 18 = .ok (.iconst 1, 1) := by decide +kernel
theorem dX5_leastTooMuch_19 : decode cX5_leastTooMuch 19 = .ok (.if_icmp .le 35, 3) := by decide +kernel
theorem dX5_leastTooMuch_22 : decode cX5_leastTooMuch 22 = .ok (.iload_n 2, 1) := by decide +kernel
theorem dX5_leastTooMuch_23 : decode cX5_leastTooMuch 23 = .ok (.iload_n 3, 1) := by decide +kernel
theorem dX5_leastTooMuch_24 : decode cX5_leastTooMuch 24 = .ok (.iadd, 1) := by decide +kernel
theorem dX5_leastTooMuch_25 : decode cX5_leastTooMuch 25 = .ok (.iconst 2, 1) := by decide +kernel
theorem dX5_leastTooMuch_26 : decode cX5_leastTooMuch 26 = .ok (.idiv, 1) := by decide +kernel
theorem dX5_leastTooMuch_27 : decode cX5_leastTooMuch 27 = .ok (.istore 5, 2) := by decide +kernel
theorem dX5_leastTooMuch_29 : decode cX5_leastTooMuch 29 = .ok (.aload_n 0, 1) := by decide +kernel
theorem dX5_leastTooMuch_30 : decode cX5_leastTooMuch 30 = .ok (.iload_n 1, 1) := by decide +kernel
theorem dX5_leastTooMuch_31 : decode cX5_leastTooMuch 31 = .ok (.iload 5, 2) := by decide +kernel
theorem dX5_leastTooMuch_33 : decode cX5_leastTooMuch 33 = .ok (.invokevirtual 191, 3) := by decide +kernel
theorem dX5_leastTooMuch_36 : decode cX5_leastTooMuch 36 = .ok (.ifCond .eq 9, 3) := by decide +kernel
theorem dX5_leastTooMuch_39 : decode cX5_leastTooMuch 39 = .ok (.iload 5, 2) := by decide +kernel
theorem dX5_leastTooMuch_41 : decode cX5_leastTooMuch 41 = .ok (.istore_n 2, 1) := by decide +kernel
theorem dX5_leastTooMuch_42 : decode cX5_leastTooMuch 42 = .ok (.goto 6, 3) := by decide +kernel
theorem dX5_leastTooMuch_45 : decode cX5_leastTooMuch 45 = .ok (.iload 5, 2) := by decide +kernel
theorem dX5_leastTooMuch_47 : decode cX5_leastTooMuch 47 = .ok (.istore_n 3, 1) := by decide +kernel
theorem dX5_leastTooMuch_48 : decode cX5_leastTooMuch 48 = .ok (.iinc 4 1, 3) := by decide +kernel
theorem dX5_leastTooMuch_51 : decode cX5_leastTooMuch 51 = .ok (.goto (-43), 3) := by decide +kernel
theorem dX5_leastTooMuch_54 : decode cX5_leastTooMuch 54 = .ok (.iload_n 3, 1) := by decide +kernel
theorem dX5_leastTooMuch_55 : decode cX5_leastTooMuch 55 = .ok (.ireturn, 1) := by decide +kernel
theorem dX5_isSide_0 : decode cX5_isSide 0 = .ok (.iload_n 0, 1) := by decide +kernel
theorem dX5_isSide_1 : decode cX5_isSide 1 = .ok (.ifCond .eq 8, 3) := by decide +kernel
theorem dX5_isSide_4 : decode cX5_isSide 4 = .ok (.iload_n 0, 1) := by decide +kernel
theorem dX5_isSide_5 : decode cX5_isSide 5 = .ok (.iconst 1, 1) := by decide +kernel
theorem dX5_isSide_6 : decode cX5_isSide 6 = .ok (.if_icmp .ne 7, 3) := by decide +kernel
theorem dX5_isSide_9 : decode cX5_isSide 9 = .ok (.iconst 1, 1) := by decide +kernel
theorem dX5_isSide_10 : decode cX5_isSide 10 = .ok (.goto 4, 3) := by decide +kernel
theorem dX5_isSide_13 : decode cX5_isSide 13 = .ok (.iconst 0, 1) := by decide +kernel
theorem dX5_isSide_14 : decode cX5_isSide 14 = .ok (.ireturn, 1) := by decide +kernel
theorem dX5_isWithin_0 : decode cX5_isWithin 0 = .ok (.iload_n 0, 1) := by decide +kernel
theorem dX5_isWithin_1 : decode cX5_isWithin 1 = .ok (.iload_n 1, 1) := by decide +kernel
theorem dX5_isWithin_2 : decode cX5_isWithin 2 = .ok (.if_icmp .lt 12, 3) := by decide +kernel
theorem dX5_isWithin_5 : decode cX5_isWithin 5 = .ok (.iload_n 0, 1) := by decide +kernel
theorem dX5_isWithin_6 : decode cX5_isWithin 6 = .ok (.iload_n 2, 1) := by decide +kernel
theorem dX5_isWithin_7 : decode cX5_isWithin 7 = .ok (.if_icmp .gt 7, 3) := by decide +kernel
theorem dX5_isWithin_10 : decode cX5_isWithin 10 = .ok (.iconst 1, 1) := by decide +kernel
theorem dX5_isWithin_11 : decode cX5_isWithin 11 = .ok (.goto 4, 3) := by decide +kernel
theorem dX5_isWithin_14 : decode cX5_isWithin 14 = .ok (.iconst 0, 1) := by decide +kernel
theorem dX5_isWithin_15 : decode cX5_isWithin 15 = .ok (.ireturn, 1) := by decide +kernel
theorem dX5_bit_0 : decode cX5_bit 0 = .ok (.iload_n 0, 1) := by decide +kernel
theorem dX5_bit_1 : decode cX5_bit 1 = .ok (.iload_n 1, 1) := by decide +kernel
theorem dX5_bit_2 : decode cX5_bit 2 = .ok (.iushr, 1) := by decide +kernel
theorem dX5_bit_3 : decode cX5_bit 3 = .ok (.iconst 1, 1) := by decide +kernel
theorem dX5_bit_4 : decode cX5_bit 4 = .ok (.iand, 1) := by decide +kernel
theorem dX5_bit_5 : decode cX5_bit 5 = .ok (.ireturn, 1) := by decide +kernel
theorem dX5_withBit_0 : decode cX5_withBit 0 = .ok (.iload_n 2, 1) := by decide +kernel
theorem dX5_withBit_1 : decode cX5_withBit 1 = .ok (.ifCond .eq 11, 3) := by decide +kernel
theorem dX5_withBit_4 : decode cX5_withBit 4 = .ok (.iload_n 0, 1) := by decide +kernel
theorem dX5_withBit_5 : decode cX5_withBit 5 = .ok (.iconst 1, 1) := by decide +kernel
theorem dX5_withBit_6 : decode cX5_withBit 6 = .ok (.iload_n 1, 1) := by decide +kernel
theorem dX5_withBit_7 : decode cX5_withBit 7 = .ok (.ishl, 1) := by decide +kernel
theorem dX5_withBit_8 : decode cX5_withBit 8 = .ok (.ior, 1) := by decide +kernel
theorem dX5_withBit_9 : decode cX5_withBit 9 = .ok (.goto 10, 3) := by decide +kernel
theorem dX5_withBit_12 : decode cX5_withBit 12 = .ok (.iload_n 0, 1) := by decide +kernel
theorem dX5_withBit_13 : decode cX5_withBit 13 = .ok (.iconst 1, 1) := by decide +kernel
theorem dX5_withBit_14 : decode cX5_withBit 14 = .ok (.iload_n 1, 1) := by decide +kernel
theorem dX5_withBit_15 : decode cX5_withBit 15 = .ok (.ishl, 1) := by decide +kernel
theorem dX5_withBit_16 : decode cX5_withBit 16 = .ok (.iconst (-1), 1) := by decide +kernel
theorem dX5_withBit_17 : decode cX5_withBit 17 = .ok (.ixor, 1) := by decide +kernel
theorem dX5_withBit_18 : decode cX5_withBit 18 = .ok (.iand, 1) := by decide +kernel
theorem dX5_withBit_19 : decode cX5_withBit 19 = .ok (.ireturn, 1) := by decide +kernel
theorem dX6_init_0 : decode cX6_init 0 = .ok (.aload_n 0, 1) := by decide +kernel
theorem dX6_init_1 : decode cX6_init 1 = .ok (.invokespecial 1, 3) := by decide +kernel
theorem dX6_init_4 : decode cX6_init 4 = .ok (.aload_n 0, 1) := by decide +kernel
theorem dX6_init_5 : decode cX6_init 5 = .ok (.sipush 1000, 3) := by decide +kernel
theorem dX6_init_8 : decode cX6_init 8 = .ok (.putfield 7, 3) := by decide +kernel
theorem dX6_init_11 : decode cX6_init 11 = .ok (.aload_n 0, 1) := by decide +kernel
theorem dX6_init_12 : decode cX6_init 12 = .ok (.bipush 6, 2) := by decide +kernel
theorem dX6_init_14 : decode cX6_init 14 = .ok (.newarray .int, 2) := by decide +kernel
theorem dX6_init_16 : decode cX6_init 16 = .ok (.putfield 13, 3) := by decide +kernel
theorem dX6_init_19 : decode cX6_init 19 = .ok (.aload_n 0, 1) := by decide +kernel
theorem dX6_init_20 : decode cX6_init 20 = .ok (.bipush 6, 2) := by decide +kernel
theorem dX6_init_22 : decode cX6_init 22 = .ok (.newarray .int, 2) := by decide +kernel
theorem dX6_init_24 : decode cX6_init 24 = .ok (.putfield 17, 3) := by decide +kernel
theorem dX6_init_27 : decode cX6_init 27 = .ok (.aload_n 0, 1) := by decide +kernel
theorem dX6_init_28 : decode cX6_init 28 = .ok (.bipush 24, 2) := by decide +kernel
theorem dX6_init_30 : decode cX6_init 30 = .ok (.newarray .int, 2) := by decide +kernel
theorem dX6_init_32 : decode cX6_init 32 = .ok (.putfield 20, 3) := by decide +kernel
theorem dX6_init_35 : decode cX6_init 35 = .ok (.aload_n 0, 1) := by decide +kernel
theorem dX6_init_36 : decode cX6_init 36 = .ok (.bipush 24, 2) := by decide +kernel
theorem dX6_init_38 : decode cX6_init 38 = .ok (.newarray .int, 2) := by decide +kernel
theorem dX6_init_40 : decode cX6_init 40 = .ok (.putfield 23, 3) := by decide +kernel
theorem dX6_init_43 : decode cX6_init 43 = .ok (.aload_n 0, 1) := by decide +kernel
theorem dX6_init_44 : decode cX6_init 44 = .ok (.bipush 24, 2) := by decide +kernel
theorem dX6_init_46 : decode cX6_init 46 = .ok (.newarray .int, 2) := by decide +kernel
theorem dX6_init_48 : decode cX6_init 48 = .ok (.putfield 26, 3) := by decide +kernel
theorem dX6_init_51 : decode cX6_init 51 = .ok (.aload_n 0, 1) := by decide +kernel
theorem dX6_init_52 : decode cX6_init 52 = .ok (.bipush 24, 2) := by decide +kernel
theorem dX6_init_54 : decode cX6_init 54 = .ok (.newarray .int, 2) := by decide +kernel
theorem dX6_init_56 : decode cX6_init 56 = .ok (.putfield 29, 3) := by decide +kernel
theorem dX6_init_59 : decode cX6_init 59 = .ok (.aload_n 0, 1) := by decide +kernel
theorem dX6_init_60 : decode cX6_init 60 = .ok (.bipush 24, 2) := by decide +kernel
theorem dX6_init_62 : decode cX6_init 62 = .ok (.newarray .boolean, 2) := by decide +kernel
theorem dX6_init_64 : decode cX6_init 64 = .ok (.putfield 32, 3) := by decide +kernel
theorem dX6_init_67 : decode cX6_init 67 = .ok (.aload_n 0, 1) := by decide +kernel
theorem dX6_init_68 : decode cX6_init 68 = .ok (.bipush 24, 2) := by decide +kernel
theorem dX6_init_70 : decode cX6_init 70 = .ok (.newarray .boolean, 2) := by decide +kernel
theorem dX6_init_72 : decode cX6_init 72 = .ok (.putfield 36, 3) := by decide +kernel
theorem dX6_init_75 : decode cX6_init 75 = .ok (.aload_n 0, 1) := by decide +kernel
theorem dX6_init_76 : decode cX6_init 76 = .ok (.bipush 24, 2) := by decide +kernel
theorem dX6_init_78 : decode cX6_init 78 = .ok (.newarray .boolean, 2) := by decide +kernel
theorem dX6_init_80 : decode cX6_init 80 = .ok (.putfield 39, 3) := by decide +kernel
theorem dX6_init_83 : decode cX6_init 83 = .ok (.aload_n 0, 1) := by decide +kernel
theorem dX6_init_84 : decode cX6_init 84 = .ok (.bipush 24, 2) := by decide +kernel
theorem dX6_init_86 : decode cX6_init 86 = .ok (.newarray .int, 2) := by decide +kernel
theorem dX6_init_88 : decode cX6_init 88 = .ok (.putfield 42, 3) := by decide +kernel
theorem dX6_init_91 : decode cX6_init 91 = .ok (.aload_n 0, 1) := by decide +kernel
theorem dX6_init_92 : decode cX6_init 92 = .ok (.bipush 24, 2) := by decide +kernel
theorem dX6_init_94 : decode cX6_init 94 = .ok (.newarray .int, 2) := by decide +kernel
theorem dX6_init_96 : decode cX6_init 96 = .ok (.putfield 45, 3) := by decide +kernel
theorem dX6_init_99 : decode cX6_init 99 = .ok (.aload_n 0, 1) := by decide +kernel
theorem dX6_init_100 : decode cX6_init 100 = .ok (.bipush 24, 2) := by decide +kernel
theorem dX6_init_102 : decode cX6_init 102 = .ok (.newarray .boolean, 2) := by decide +kernel
theorem dX6_init_104 : decode cX6_init 104 = .ok (.putfield 48, 3) := by decide +kernel
theorem dX6_init_107 : decode cX6_init 107 = .ok (.aload_n 0, 1) := by decide +kernel
theorem dX6_init_108 : decode cX6_init 108 = .ok (.bipush 24, 2) := by decide +kernel
theorem dX6_init_110 : decode cX6_init 110 = .ok (.newarray .int, 2) := by decide +kernel
theorem dX6_init_112 : decode cX6_init 112 = .ok (.putfield 51, 3) := by decide +kernel
theorem dX6_init_115 : decode cX6_init 115 = .ok (.aload_n 0, 1) := by decide +kernel
theorem dX6_init_116 : decode cX6_init 116 = .ok (.bipush 24, 2) := by decide +kernel
theorem dX6_init_118 : decode cX6_init 118 = .ok (.newarray .boolean, 2) := by decide +kernel
theorem dX6_init_120 : decode cX6_init 120 = .ok (.putfield 54, 3) := by decide +kernel
theorem dX6_init_123 : decode cX6_init 123 = .ok (.aload_n 0, 1) := by decide +kernel
theorem dX6_init_124 : decode cX6_init 124 = .ok (.bipush 25, 2) := by decide +kernel
theorem dX6_init_126 : decode cX6_init 126 = .ok (.newarray .long, 2) := by decide +kernel
theorem dX6_init_128 : decode cX6_init 128 = .ok (.putfield 57, 3) := by decide +kernel
theorem dX6_init_131 : decode cX6_init 131 = .ok (.aload_n 0, 1) := by decide +kernel
theorem dX6_init_132 : decode cX6_init 132 = .ok (.bipush 25, 2) := by decide +kernel
theorem dX6_init_134 : decode cX6_init 134 = .ok (.newarray .long, 2) := by decide +kernel
theorem dX6_init_136 : decode cX6_init 136 = .ok (.putfield 61, 3) := by decide +kernel
theorem dX6_init_139 : decode cX6_init 139 = .ok (.aload_n 0, 1) := by decide +kernel
theorem dX6_init_140 : decode cX6_init 140 = .ok (.bipush 25, 2) := by decide +kernel
theorem dX6_init_142 : decode cX6_init 142 = .ok (.newarray .long, 2) := by decide +kernel
theorem dX6_init_144 : decode cX6_init 144 = .ok (.putfield 64, 3) := by decide +kernel
theorem dX6_init_147 : decode cX6_init 147 = .ok (.aload_n 0, 1) := by decide +kernel
theorem dX6_init_148 : decode cX6_init 148 = .ok (.bipush 25, 2) := by decide +kernel
theorem dX6_init_150 : decode cX6_init 150 = .ok (.newarray .long, 2) := by decide +kernel
theorem dX6_init_152 : decode cX6_init 152 = .ok (.putfield 67, 3) := by decide +kernel
theorem dX6_init_155 : decode cX6_init 155 = .ok (.aload_n 0, 1) := by decide +kernel
theorem dX6_init_156 : decode cX6_init 156 = .ok (.bipush 25, 2) := by decide +kernel
theorem dX6_init_158 : decode cX6_init 158 = .ok (.newarray .long, 2) := by decide +kernel
theorem dX6_init_160 : decode cX6_init 160 = .ok (.putfield 70, 3) := by decide +kernel
theorem dX6_init_163 : decode cX6_init 163 = .ok (.aload_n 0, 1) := by decide +kernel
theorem dX6_init_164 : decode cX6_init 164 = .ok (.bipush 25, 2) := by decide +kernel
theorem dX6_init_166 : decode cX6_init 166 = .ok (.newarray .long, 2) := by decide +kernel
theorem dX6_init_168 : decode cX6_init 168 = .ok (.putfield 73, 3) := by decide +kernel
theorem dX6_init_171 : decode cX6_init 171 = .ok (.aload_n 0, 1) := by decide +kernel
theorem dX6_init_172 : decode cX6_init 172 = .ok (.sipush 144, 3) := by decide +kernel
theorem dX6_init_175 : decode cX6_init 175 = .ok (.newarray .boolean, 2) := by decide +kernel
theorem dX6_init_177 : decode cX6_init 177 = .ok (.putfield 76, 3) := by decide +kernel
theorem dX6_init_180 : decode cX6_init 180 = .ok (.aload_n 0, 1) := by decide +kernel
theorem dX6_init_181 : decode cX6_init 181 = .ok (.iconst 5, 1) := by decide +kernel
theorem dX6_init_182 : decode cX6_init 182 = .ok (.newarray .int, 2) := by decide +kernel
theorem dX6_init_184 : decode cX6_init 184 = .ok (.putfield 79, 3) := by decide +kernel
theorem dX6_init_187 : decode cX6_init 187 = .ok (.aload_n 0, 1) := by decide +kernel
theorem dX6_init_188 : decode cX6_init 188 = .ok (.iconst 5, 1) := by decide +kernel
theorem dX6_init_189 : decode cX6_init 189 = .ok (.newarray .int, 2) := by decide +kernel
theorem dX6_init_191 : decode cX6_init 191 = .ok (.putfield 82, 3) := by decide +kernel
theorem dX6_init_194 : decode cX6_init 194 = .ok (.aload_n 0, 1) := by decide +kernel
theorem dX6_init_195 : decode cX6_init 195 = .ok (.iconst 5, 1) := by decide +kernel
theorem dX6_init_196 : decode cX6_init 196 = .ok (.newarray .int, 2) := by decide +kernel
theorem dX6_init_198 : decode cX6_init 198 = .ok (.putfield 85, 3) := by decide +kernel
theorem dX6_init_201 : decode cX6_init 201 = .ok (.aload_n 0, 1) := by decide +kernel
theorem dX6_init_202 : decode cX6_init 202 = .ok (.iconst 2, 1) := by decide +kernel
theorem dX6_init_203 : decode cX6_init 203 = .ok (.putfield 88, 3) := by decide +kernel
theorem dX6_init_206 : decode cX6_init 206 = .ok (.aload_n 0, 1) := by decide +kernel
theorem dX6_init_207 : decode cX6_init 207 = .ok (.iconst 2, 1) := by decide +kernel
theorem dX6_init_208 : decode cX6_init 208 = .ok (.putfield 91, 3) := by decide +kernel
theorem dX6_init_211 : decode cX6_init 211 = .ok (.aload_n 0, 1) := by decide +kernel
theorem dX6_init_212 : decode cX6_init 212 = .ok (.sipush 256, 3) := by decide +kernel
theorem dX6_init_215 : decode cX6_init 215 = .ok (.newarray .int, 2) := by decide +kernel
theorem dX6_init_217 : decode cX6_init 217 = .ok (.putfield 94, 3) := by decide +kernel
theorem dX6_init_220 : decode cX6_init 220 = .ok (.aload_n 0, 1) := by decide +kernel
theorem dX6_init_221 : decode cX6_init 221 = .ok (.bipush 24, 2) := by decide +kernel
theorem dX6_init_223 : decode cX6_init 223 = .ok (.newarray .boolean, 2) := by decide +kernel
theorem dX6_init_225 : decode cX6_init 225 = .ok (.putfield 97, 3) := by decide +kernel
theorem dX6_init_228 : decode cX6_init 228 = .ok (.aload_n 0, 1) := by decide +kernel
theorem dX6_init_229 : decode cX6_init 229 = .ok (.bipush 24, 2) := by decide +kernel
theorem dX6_init_231 : decode cX6_init 231 = .ok (.newarray .int, 2) := by decide +kernel
theorem dX6_init_233 : decode cX6_init 233 = .ok (.putfield 100, 3) := by decide +kernel
theorem dX6_init_236 : decode cX6_init 236 = .ok (.aload_n 0, 1) := by decide +kernel
theorem dX6_init_237 : decode cX6_init 237 = .ok (.bipush 24, 2) := by decide +kernel
theorem dX6_init_239 : decode cX6_init 239 = .ok (.newarray .int, 2) := by decide +kernel
theorem dX6_init_241 : decode cX6_init 241 = .ok (.putfield 103, 3) := by decide +kernel
theorem dX6_init_244 : decode cX6_init 244 = .ok (.aload_n 0, 1) := by decide +kernel
theorem dX6_init_245 : decode cX6_init 245 = .ok (.bipush 24, 2) := by decide +kernel
theorem dX6_init_247 : decode cX6_init 247 = .ok (.newarray .int, 2) := by decide +kernel
theorem dX6_init_249 : decode cX6_init 249 = .ok (.putfield 106, 3) := by decide +kernel
theorem dX6_init_252 : decode cX6_init 252 = .ok (.return_, 1) := by decide +kernel
theorem dX6_in_0 : decode cX6_in 0 = .ok (.lload_n 0, 1) := by decide +kernel
theorem dX6_in_1 : decode cX6_in 1 = .ok (.lload_n 2, 1) := by decide +kernel
theorem dX6_in_2 : decode cX6_in 2 = .ok (.lcmp, 1) := by decide +kernel
theorem dX6_in_3 : decode cX6_in 3 = .ok (.ifCond .lt 14, 3) := by decide +kernel
theorem dX6_in_6 : decode cX6_in 6 = .ok (.lload_n 0, 1) := by decide +kernel
theorem dX6_in_7 : decode cX6_in 7 = .ok (.lload 4, 2) := by decide +kernel
theorem dX6_in_9 : decode cX6_in 9 = .ok (.lcmp, 1) := by decide +kernel
theorem dX6_in_10 : decode cX6_in 10 = .ok (.ifCond .gt 7, 3) := by decide +kernel
theorem dX6_in_13 : decode cX6_in 13 = .ok (.iconst 1, 1) := by decide +kernel
theorem dX6_in_14 : decode cX6_in 14 = .ok (.goto 4, 3) := by decide +kernel
theorem dX6_in_17 : decode cX6_in 17 = .ok (.iconst 0, 1) := by decide +kernel
theorem dX6_in_18 : decode cX6_in 18 = .ok (.ireturn, 1) := by decide +kernel
theorem dX6_isPipe_0 : decode cX6_isPipe 0 = .ok (.iload_n 1, 1) := by decide +kernel
theorem dX6_isPipe_1 : decode cX6_isPipe 1 = .ok (.i2l, 1) := by decide +kernel
theorem dX6_isPipe_2 : decode cX6_isPipe 2 = .ok (.lconst 0, 1) := by decide +kernel
theorem dX6_isPipe_3 : decode cX6_isPipe 3 = .ok (.aload_n 0, 1) := by decide +kernel
theorem dX6_isPipe_4 : decode cX6_isPipe 4 = .ok (.getfield 109, 3) := by decide +kernel
theorem dX6_isPipe_7 : decode cX6_isPipe 7 = .ok (.iconst 1, 1) := by decide +kernel
theorem dX6_isPipe_8 : decode cX6_isPipe 8 = .ok (.isub, 1) := by decide +kernel
theorem dX6_isPipe_9 : decode cX6_isPipe 9 = .ok (.i2l, 1) := by decide +kernel
theorem dX6_isPipe_10 : decode cX6_isPipe 10 = .ok (.invokestatic 112, 3) := by decide +kernel
theorem dX6_isPipe_13 : decode cX6_isPipe 13 = .ok (.ireturn, 1) := by decide +kernel
theorem dX6_isHead_0 : decode cX6_isHead 0 = .ok (.aload_n 0, 1) := by decide +kernel
theorem dX6_isHead_1 : decode cX6_isHead 1 = .ok (.iload_n 1, 1) := by decide +kernel
theorem dX6_isHead_2 : decode cX6_isHead 2 = .ok (.invokevirtual 116, 3) := by decide +kernel
theorem dX6_isHead_5 : decode cX6_isHead 5 = .ok (.ifCond .eq 16, 3) := by decide +kernel
theorem dX6_isHead_8 : decode cX6_isHead 8 = .ok (.aload_n 0, 1) := by decide +kernel
theorem dX6_isHead_9 : decode cX6_isHead 9 = .ok (.getfield 39, 3) := by decide +kernel
theorem dX6_isHead_12 : decode cX6_isHead 12 = .ok (.iload_n 1, 1) := by decide +kernel
theorem dX6_isHead_13 : decode cX6_isHead 13 = .ok (.baload, 1) := by decide +kernel
theorem dX6_isHead_14 : decode cX6_isHead 14 = .ok (.ifCond .eq 7, 3) := by decide +kernel
theorem dX6_isHead_17 : decode cX6_isHead 17 = .ok (.iconst 1, 1) := by decide +kernel
theorem dX6_isHead_18 : decode cX6_isHead 18 = .ok (.goto 4, 3) := by decide +kernel
theorem dX6_isHead_21 : decode cX6_isHead 21 = .ok (.iconst 0, 1) := by decide +kernel
theorem dX6_isHead_22 : decode cX6_isHead 22 = .ok (.ireturn, 1) := by decide +kernel
theorem dX6_supply_0 : decode cX6_supply 0 = .ok (.iload_n 1, 1) := by decide +kernel
theorem dX6_supply_1 : decode cX6_supply 1 = .ok (.i2l, 1) := by decide +kernel
theorem dX6_supply_2 : decode cX6_supply 2 = .ok (.lconst 1, 1) := by decide +kernel
theorem dX6_supply_3 : decode cX6_supply 3 = .ok (.ldc2_w 120, 3) := by decide +kernel
theorem dX6_supply_6 : decode cX6_supply 6 = .ok (.invokestatic 112, 3) := by decide +kernel
theorem dX6_supply_9 : decode cX6_supply 9 = .ok (.ifCond .eq 15, 3) := by decide +kernel
theorem dX6_supply_12 : decode cX6_supply 12 = .ok (.iload_n 2, 1) := by decide +kernel
theorem dX6_supply_13 : decode cX6_supply 13 = .ok (.i2l, 1) := by decide +kernel
theorem dX6_supply_14 : decode cX6_supply 14 = .ok (.lconst 0, 1) := by decide +kernel
theorem dX6_supply_15 : decode cX6_supply 15 = .ok (.ldc2_w 122, 3) := by decide +kernel
theorem dX6_supply_18 : decode cX6_supply 18 = .ok (.invokestatic 112, 3) := by decide +kernel
theorem dX6_supply_21 : decode cX6_supply 21 = .ok (.ifCond .ne 6, 3) := by decide +kernel
theorem dX6_supply_24 : decode cX6_supply 24 = .ok (.bipush (-2), 2) := by decide +kernel
theorem dX6_supply_26 : decode cX6_supply 26 = .ok (.ireturn, 1) := by decide +kernel
theorem dX6_supply_27 : decode cX6_supply 27 = .ok (.aload_n 0, 1) := by decide +kernel
theorem dX6_supply_28 : decode cX6_supply 28 = .ok (.iload_n 1, 1) := by decide +kernel
theorem dX6_supply_29 : decode cX6_supply 29 = .ok (.putfield 7, 3) := by decide +kernel
theorem dX6_supply_32 : decode cX6_supply 32 = .ok (.aload_n 0, 1) := by decide +kernel
theorem dX6_supply_33 : decode cX6_supply 33 = .ok (.iload_n 2, 1) := by decide +kernel
theorem dX6_supply_34 : decode cX6_supply 34 = .ok (.putfield 124, 3) := by decide +kernel
theorem dX6_supply_37 : decode cX6_supply 37 = .ok (.iconst 1, 1) := by decide +kernel
theorem dX6_supply_38 : decode cX6_supply 38 = .ok (.ireturn, 1) := by decide +kernel
theorem dX6_size_0 : decode cX6_size 0 = .ok (.iload_n 1, 1) := by decide +kernel
theorem dX6_size_1 : decode cX6_size 1 = .ok (.i2l, 1) := by decide +kernel
theorem dX6_size_2 : decode cX6_size 2 = .ok (.lconst 1, 1) := by decide +kernel
theorem dX6_size_3 : decode cX6_size 3 = .ok (.ldc2_w 127, 3) := by decide +kernel
theorem dX6_size_6 : decode cX6_size 6 = .ok (.invokestatic 112, 3) := by decide +kernel
theorem dX6_size_9 : decode cX6_size 9 = .ok (.ifCond .eq 15, 3) := by decide +kernel
theorem dX6_size_12 : decode cX6_size 12 = .ok (.iload_n 2, 1) := by decide +kernel
theorem dX6_size_13 : decode cX6_size 13 = .ok (.i2l, 1) := by decide +kernel
theorem dX6_size_14 : decode cX6_size 14 = .ok (.lconst 1, 1) := by decide +kernel
theorem dX6_size_15 : decode cX6_size 15 = .ok (.ldc2_w 129, 3) := by decide +kernel
theorem dX6_size_18 : decode cX6_size 18 = .ok (.invokestatic 112, 3) := by decide +kernel
theorem dX6_size_21 : decode cX6_size 21 = .ok (.ifCond .ne 6, 3) := by decide +kernel
theorem dX6_size_24 : decode cX6_size 24 = .ok (.bipush (-2), 2) := by decide +kernel
theorem dX6_size_26 : decode cX6_size 26 = .ok (.ireturn, 1) := by decide +kernel
theorem dX6_size_27 : decode cX6_size 27 = .ok (.aload_n 0, 1) := by decide +kernel
theorem dX6_size_28 : decode cX6_size 28 = .ok (.getfield 131, 3) := by decide +kernel
theorem dX6_size_31 : decode cX6_size 31 = .ok (.bipush 6, 2) := by decide +kernel
theorem dX6_size_33 : decode cX6_size 33 = .ok (.if_icmp .ne 6, 3) := by decide +kernel
theorem dX6_size_36 : decode cX6_size 36 = .ok (.bipush (-4), 2) := by decide +kernel
theorem dX6_size_38 : decode cX6_size 38 = .ok (.ireturn, 1) := by decide +kernel
theorem dX6_size_39 : decode cX6_size 39 = .ok (.aload_n 0, 1) := by decide +kernel
theorem dX6_size_40 : decode cX6_size 40 = .ok (.getfield 13, 3) := by decide +kernel
theorem dX6_size_43 : decode cX6_size 43 = .ok (.aload_n 0, 1) := by decide +kernel
theorem dX6_size_44 : decode cX6_size 44 = .ok (.getfield 131, 3) := by decide +kernel
theorem dX6_size_47 : decode cX6_size 47 = .ok (.iload_n 1, 1) := by decide +kernel
theorem dX6_size_48 : decode cX6_size 48 = .ok (.iastore, 1) := by decide +kernel
theorem dX6_size_49 : decode cX6_size 49 = .ok (.aload_n 0, 1) := by decide +kernel
theorem dX6_size_50 : decode cX6_size 50 = .ok (.getfield 17, 3) := by decide +kernel
theorem dX6_size_53 : decode cX6_size 53 = .ok (.aload_n 0, 1) := by decide +kernel
theorem dX6_size_54 : decode cX6_size 54 = .ok (.getfield 131, 3) := by decide +kernel
theorem dX6_size_57 : decode cX6_size 57 = .ok (.iload_n 2, 1) := by decide +kernel
theorem dX6_size_58 : decode cX6_size 58 = .ok (.iastore, 1) := by decide +kernel
theorem dX6_size_59 : decode cX6_size 59 = .ok (.aload_n 0, 1) := by decide +kernel
theorem dX6_size_60 : decode cX6_size 60 = .ok (.dup, 1) := by decide +kernel
theorem dX6_size_61 : decode cX6_size 61 = .ok (.getfield 131, 3) := by decide +kernel
theorem dX6_size_64 : decode cX6_size 64 = .ok (.iconst 1, 1) := by decide +kernel
theorem dX6_size_65 : decode cX6_size 65 = .ok (.iadd, 1) := by decide +kernel
theorem dX6_size_66 : decode cX6_size 66 = .ok (.putfield 131, 3) := by decide +kernel
theorem dX6_size_69 : decode cX6_size 69 = .ok (.aload_n 0, 1) := by decide +kernel
theorem dX6_size_70 : decode cX6_size 70 = .ok (.getfield 131, 3) := by decide +kernel
theorem dX6_size_73 : decode cX6_size 73 = .ok (.iconst 1, 1) := by decide +kernel
theorem dX6_size_74 : decode cX6_size 74 = .ok (.isub, 1) := by decide +kernel
theorem dX6_size_75 : decode cX6_size 75 = .ok (.ireturn, 1) := by decide +kernel
theorem dX6_pipe_0 : decode cX6_pipe 0 = .ok (.iload_n 1, 1) := by decide +kernel
theorem dX6_pipe_1 : decode cX6_pipe 1 = .ok (.iconst (-1), 1) := by decide +kernel
theorem dX6_pipe_2 : decode cX6_pipe 2 = .ok (.if_icmp .eq 11, 3) := by decide +kernel
theorem dX6_pipe_5 : decode cX6_pipe 5 = .ok (.aload_n 0, 1) := by decide +kernel
theorem dX6_pipe_6 : decode cX6_pipe 6 = .ok (.iload_n 1, 1) := by decide +kernel
theorem dX6_pipe_7 : decode cX6_pipe 7 = .ok (.invokevirtual 116, 3) := by decide +kernel
theorem dX6_pipe_10 : decode cX6_pipe 10 = .ok (.ifCond .eq 19, 3) := by decide +kernel
theorem dX6_pipe_13 : decode cX6_pipe 13 = .ok (.iload_n 3, 1) := by decide +kernel
theorem dX6_pipe_14 : decode cX6_pipe 14 = .ok (.i2l, 1) := by decide +kernel
theorem dX6_pipe_15 : decode cX6_pipe 15 = .ok (.lconst 0, 1) := by decide +kernel
theorem dX6_pipe_16 : decode cX6_pipe 16 = .ok (.aload_n 0, 1) := by decide +kernel
theorem dX6_pipe_17 : decode cX6_pipe 17 = .ok (.getfield 131, 3) := by decide +kernel
theorem dX6_pipe_20 : decode cX6_pipe 20 = .ok (.iconst 1, 1) := by decide +kernel
theorem dX6_pipe_21 : decode cX6_pipe 21 = .ok (.isub, 1) := by decide +kernel
theorem dX6_pipe_22 : decode cX6_pipe 22 = .ok (.i2l, 1) := by decide +kernel
theorem dX6_pipe_23 : decode cX6_pipe 23 = .ok (.invokestatic 112, 3) := by decide +kernel
theorem dX6_pipe_26 : decode cX6_pipe 26 = .ok (.ifCond .ne 5, 3) := by decide +kernel
theorem dX6_pipe_29 : decode cX6_pipe 29 = .ok (.iconst (-1), 1) := by decide +kernel
theorem dX6_pipe_30 : decode cX6_pipe 30 = .ok (.ireturn, 1) := by decide +kernel
theorem dX6_pipe_31 : decode cX6_pipe 31 = .ok (.iload_n 2, 1) := by decide +kernel
theorem dX6_pipe_32 : decode cX6_pipe 32 = .ok (.i2l, 1) := by decide +kernel
theorem dX6_pipe_33 : decode cX6_pipe 33 = .ok (.lconst 1, 1) := by decide +kernel
theorem dX6_pipe_34 : decode cX6_pipe 34 = .ok (.ldc2_w 134, 3) := by decide +kernel
theorem dX6_pipe_37 : decode cX6_pipe 37 = .ok (.invokestatic 112, 3) := by decide +kernel
theorem dX6_pipe_40 : decode cX6_pipe 40 = .ok (.ifCond .ne 6, 3) := by decide +kernel
theorem dX6_pipe_43 : decode cX6_pipe 43 = .ok (.bipush (-2), 2) := by decide +kernel
theorem dX6_pipe_45 : decode cX6_pipe 45 = .ok (.ireturn, 1) := by decide +kernel
theorem dX6_pipe_46 : decode cX6_pipe 46 = .ok (.aload_n 0, 1) := by decide +kernel
theorem dX6_pipe_47 : decode cX6_pipe 47 = .ok (.getfield 109, 3) := by decide +kernel
theorem dX6_pipe_50 : decode cX6_pipe 50 = .ok (.bipush 24, 2) := by decide +kernel
theorem dX6_pipe_52 : decode cX6_pipe 52 = .ok (.if_icmp .ne 6, 3) := by decide +kernel
theorem dX6_pipe_55 : decode cX6_pipe 55 = .ok (.bipush (-4), 2) := by decide +kernel
theorem dX6_pipe_57 : decode cX6_pipe 57 = .ok (.ireturn, 1) := by decide +kernel
theorem dX6_pipe_58 : decode cX6_pipe 58 = .ok (.iload_n 1, 1) := by decide +kernel
theorem dX6_pipe_59 : decode cX6_pipe 59 = .ok (.ifCond .lt 17, 3) := by decide +kernel
theorem dX6_pipe_62 : decode cX6_pipe 62 = .ok (.aload_n 0, 1) := by decide +kernel
theorem dX6_pipe_63 : decode cX6_pipe 63 = .ok (.getfield 29, 3) := by decide +kernel
theorem dX6_pipe_66 : decode cX6_pipe 66 = .ok (.iload_n 1, 1) := by decide +kernel
theorem dX6_pipe_67 : decode cX6_pipe 67 = .ok (.iaload, 1) := by decide +kernel
theorem dX6_pipe_68 : decode cX6_pipe 68 = .ok (.bipush 8, 2) := by decide +kernel
theorem dX6_pipe_70 : decode cX6_pipe 70 = .ok (.if_icmp .ne 6, 3) := by decide +kernel
theorem dX6_pipe_73 : decode cX6_pipe 73 = .ok (.bipush (-5), 2) := by decide +kernel
theorem dX6_pipe_75 : decode cX6_pipe 75 = .ok (.ireturn, 1) := by decide +kernel
theorem dX6_pipe_76 : decode cX6_pipe 76 = .ok (.aload_n 0, 1) := by decide +kernel
theorem dX6_pipe_77 : decode cX6_pipe 77 = .ok (.getfield 20, 3) := by decide +kernel
theorem dX6_pipe_80 : decode cX6_pipe 80 = .ok (.aload_n 0, 1) := by decide +kernel
theorem dX6_pipe_81 : decode cX6_pipe 81 = .ok (.getfield 109, 3) := by decide +kernel
theorem dX6_pipe_84 : decode cX6_pipe 84 = .ok (.iload_n 1, 1) := by decide +kernel
theorem dX6_pipe_85 : decode cX6_pipe 85 = .ok (.iastore, 1) := by decide +kernel
theorem dX6_pipe_86 : decode cX6_pipe 86 = .ok (.aload_n 0, 1) := by decide +kernel
theorem dX6_pipe_87 : decode cX6_pipe 87 = .ok (.getfield 23, 3) := by decide +kernel
theorem dX6_pipe_90 : decode cX6_pipe 90 = .ok (.aload_n 0, 1) := by decide +kernel
theorem dX6_pipe_91 : decode cX6_pipe 91 = .ok (.getfield 109, 3) := by decide +kernel
theorem dX6_pipe_94 : decode cX6_pipe 94 = .ok (.iload_n 2, 1) := by decide +kernel
theorem dX6_pipe_95 : decode cX6_pipe 95 = .ok (.iastore, 1) := by decide +kernel
theorem dX6_pipe_96 : decode cX6_pipe 96 = .ok (.aload_n 0, 1) := by decide +kernel
theorem dX6_pipe_97 : decode cX6_pipe 97 = .ok (.getfield 26, 3) := by decide +kernel
theorem dX6_pipe_100 : decode cX6_pipe 100 = .ok (.aload_n 0, 1) := by decide +kernel
theorem dX6_pipe_101 : decode cX6_pipe 101 = .ok (.getfield 109, 3) := by decide +kernel
theorem dX6_pipe_104 : decode cX6_pipe 104 = .ok (.iload_n 3, 1) := by decide +kernel
theorem dX6_pipe_105 : decode cX6_pipe 105 = .ok (.iastore, 1) := by decide +kernel
theorem dX6_pipe_106 : decode cX6_pipe 106 = .ok (.aload_n 0, 1) := by decide +kernel
theorem dX6_pipe_107 : decode cX6_pipe 107 = .ok (.getfield 29, 3) := by decide +kernel
theorem dX6_pipe_110 : decode cX6_pipe 110 = .ok (.aload_n 0, 1) := by decide +kernel
theorem dX6_pipe_111 : decode cX6_pipe 111 = .ok (.getfield 109, 3) := by decide +kernel
theorem dX6_pipe_114 : decode cX6_pipe 114 = .ok (.iload_n 1, 1) := by decide +kernel
theorem dX6_pipe_115 : decode cX6_pipe 115 = .ok (.ifCond .ge 7, 3) := by decide +kernel
theorem dX6_pipe_118 : decode cX6_pipe 118 = .ok (.iconst 1, 1) := by decide +kernel
theorem dX6_pipe_119 : decode cX6_pipe 119 = .ok (.goto 11, 3) := by decide +kernel
theorem dX6_pipe_122 : decode cX6_pipe 122 = .ok (.aload_n 0, 1) := by decide +kernel
theorem dX6_pipe_123 : decode cX6_pipe 123 = .ok (.getfield 29, 3) := by decide +kernel
theorem dX6_pipe_126 : decode cX6_pipe 126 = .ok (.iload_n 1, 1) := by decide +kernel
theorem dX6_pipe_127 : decode cX6_pipe 127 = .ok (.iaload, 1) := by decide +kernel
theorem dX6_pipe_128 : decode cX6_pipe 128 = .ok (.iconst 1, 1) := by decide +kernel
theorem dX6_pipe_129 : decode cX6_pipe 129 = .ok (.iadd, 1) := by decide +kernel
theorem dX6_pipe_130 : decode cX6_pipe 130 = .ok (.iastore, 1) := by decide +kernel
theorem dX6_pipe_131 : decode cX6_pipe 131 = .ok (.aload_n 0, 1) := by decide +kernel
theorem dX6_pipe_132 : decode cX6_pipe 132 = .ok (.dup, 1) := by decide +kernel
theorem dX6_pipe_133 : decode cX6_pipe 133 = .ok (.getfield 109, 3) := by decide +kernel
theorem dX6_pipe_136 : decode cX6_pipe 136 = .ok (.iconst 1, 1) := by decide +kernel
theorem dX6_pipe_137 : decode cX6_pipe 137 = .ok (.iadd, 1) := by decide +kernel
theorem dX6_pipe_138 : decode cX6_pipe 138 = .ok (.putfield 109, 3) := by decide +kernel
theorem dX6_pipe_141 : decode cX6_pipe 141 = .ok (.aload_n 0, 1) := by decide +kernel
theorem dX6_pipe_142 : decode cX6_pipe 142 = .ok (.getfield 109, 3) := by decide +kernel
theorem dX6_pipe_145 : decode cX6_pipe 145 = .ok (.iconst 1, 1) := by decide +kernel
theorem dX6_pipe_146 : decode cX6_pipe 146 = .ok (.isub, 1) := by decide +kernel
theorem dX6_pipe_147 : decode cX6_pipe 147 = .ok (.ireturn, 1) := by decide +kernel
theorem dX6_head_0 : decode cX6_head 0 = .ok (.aload_n 0, 1) := by decide +kernel
theorem dX6_head_1 : decode cX6_head 1 = .ok (.iload_n 1, 1) := by decide +kernel
theorem dX6_head_2 : decode cX6_head 2 = .ok (.invokevirtual 116, 3) := by decide +kernel
theorem dX6_head_5 : decode cX6_head 5 = .ok (.ifCond .ne 5, 3) := by decide +kernel
theorem dX6_head_8 : decode cX6_head 8 = .ok (.iconst (-1), 1) := by decide +kernel
theorem dX6_head_9 : decode cX6_head 9 = .ok (.ireturn, 1) := by decide +kernel
theorem dX6_head_10 : decode cX6_head 10 = .ok (.iload_n 2, 1) := by decide +kernel
theorem dX6_head_11 : decode cX6_head 11 = .ok (.i2l, 1) := by decide +kernel
theorem dX6_head_12 : decode cX6_head 12 = .ok (.lconst 1, 1) := by decide +kernel
theorem dX6_head_13 : decode cX6_head 13 = .ok (.ldc2_w 136, 3) := by decide +kernel
theorem dX6_head_16 : decode cX6_head 16 = .ok (.invokestatic 112, 3) := by decide +kernel
theorem dX6_head_19 : decode cX6_head 19 = .ok (.ifCond .eq 15, 3) := by decide +kernel
theorem dX6_head_22 : decode cX6_head 22 = .ok (.iload_n 3, 1) := by decide +kernel
theorem dX6_head_23 : decode cX6_head 23 = .ok (.i2l, 1) := by decide +kernel
theorem dX6_head_24 : decode cX6_head 24 = .ok (.lconst 0, 1) := by decide +kernel
theorem dX6_head_25 : decode cX6_head 25 = .ok (.ldc2_w 138, 3) := by decide +kernel
theorem dX6_head_28 : decode cX6_head 28 = .ok (.invokestatic 112, 3) := by decide +kernel
theorem dX6_head_31 : decode cX6_head 31 = .ok (.ifCond .ne 6, 3) := by decide +kernel
theorem dX6_head_34 : decode cX6_head 34 = .ok (.bipush (-2), 2) := by decide +kernel
theorem dX6_head_36 : decode cX6_head 36 = .ok (.ireturn, 1) := by decide +kernel
theorem dX6_head_37 : decode cX6_head 37 = .ok (.aload_n 0, 1) := by decide +kernel
theorem dX6_head_38 : decode cX6_head 38 = .ok (.getfield 39, 3) := by decide +kernel
theorem dX6_head_41 : decode cX6_head 41 = .ok (.iload_n 1, 1) := by decide +kernel
theorem dX6_head_42 : decode cX6_head 42 = .ok (.iconst 1, 1) := by decide +kernel
theorem dX6_head_43 : decode cX6_head 43 = .ok (.bastore, 1) := by decide +kernel
theorem dX6_head_44 : decode cX6_head 44 = .ok (.aload_n 0, 1) := by decide +kernel
theorem dX6_head_45 : decode cX6_head 45 = .ok (.getfield 42, 3) := by decide +kernel
theorem dX6_head_48 : decode cX6_head 48 = .ok (.iload_n 1, 1) := by decide +kernel
theorem dX6_head_49 : decode cX6_head 49 = .ok (.iload_n 2, 1) := by decide +kernel
theorem dX6_head_50 : decode cX6_head 50 = .ok (.iastore, 1) := by decide +kernel
theorem dX6_head_51 : decode cX6_head 51 = .ok (.aload_n 0, 1) := by decide +kernel
theorem dX6_head_52 : decode cX6_head 52 = .ok (.getfield 45, 3) := by decide +kernel
theorem dX6_head_55 : decode cX6_head 55 = .ok (.iload_n 1, 1) := by decide +kernel
theorem dX6_head_56 : decode cX6_head 56 = .ok (.iload_n 3, 1) := by decide +kernel
theorem dX6_head_57 : decode cX6_head 57 = .ok (.iastore, 1) := by decide +kernel
theorem dX6_head_58 : decode cX6_head 58 = .ok (.aload_n 0, 1) := by decide +kernel
theorem dX6_head_59 : decode cX6_head 59 = .ok (.getfield 48, 3) := by decide +kernel
theorem dX6_head_62 : decode cX6_head 62 = .ok (.iload_n 1, 1) := by decide +kernel
theorem dX6_head_63 : decode cX6_head 63 = .ok (.iconst 0, 1) := by decide +kernel
theorem dX6_head_64 : decode cX6_head 64 = .ok (.bastore, 1) := by decide +kernel
theorem dX6_head_65 : decode cX6_head 65 = .ok (.aload_n 0, 1) := by decide +kernel
theorem dX6_head_66 : decode cX6_head 66 = .ok (.getfield 51, 3) := by decide +kernel
theorem dX6_head_69 : decode cX6_head 69 = .ok (.iload_n 1, 1) := by decide +kernel
theorem dX6_head_70 : decode cX6_head 70 = .ok (.iconst 0, 1) := by decide +kernel
theorem dX6_head_71 : decode cX6_head 71 = .ok (.iastore, 1) := by decide +kernel
theorem dX6_head_72 : decode cX6_head 72 = .ok (.iconst 1, 1) := by decide +kernel
theorem dX6_head_73 : decode cX6_head 73 = .ok (.ireturn, 1) := by decide +kernel
theorem dX6_open_0 : decode cX6_open 0 = .ok (.aload_n 0, 1) := by decide +kernel
theorem dX6_open_1 : decode cX6_open 1 = .ok (.iload_n 1, 1) := by decide +kernel
theorem dX6_open_2 : decode cX6_open 2 = .ok (.invokevirtual 140, 3) := by decide +kernel
theorem dX6_open_5 : decode cX6_open 5 = .ok (.ifCond .ne 5, 3) := by decide +kernel
theorem dX6_open_8 : decode cX6_open 8 = .ok (.iconst (-1), 1) := by decide +kernel
theorem dX6_open_9 : decode cX6_open 9 = .ok (.ireturn, 1) := by decide +kernel
theorem dX6_open_10 : decode cX6_open 10 = .ok (.aload_n 0, 1) := by decide +kernel
theorem dX6_open_11 : decode cX6_open 11 = .ok (.getfield 48, 3) := by decide +kernel
theorem dX6_open_14 : decode cX6_open 14 = .ok (.iload_n 1, 1) := by decide +kernel
theorem dX6_open_15 : decode cX6_open 15 = .ok (.baload, 1) := by decide +kernel
theorem dX6_open_16 : decode cX6_open 16 = .ok (.ifCond .eq 7, 3) := by decide +kernel
theorem dX6_open_19 : decode cX6_open 19 = .ok (.iconst 1, 1) := by decide +kernel
theorem dX6_open_20 : decode cX6_open 20 = .ok (.goto 4, 3) := by decide +kernel
theorem dX6_open_23 : decode cX6_open 23 = .ok (.iconst 0, 1) := by decide +kernel
theorem dX6_open_24 : decode cX6_open 24 = .ok (.istore_n 3, 1) := by decide +kernel
theorem dX6_open_25 : decode cX6_open 25 = .ok (.aload_n 0, 1) := by decide +kernel
theorem dX6_open_26 : decode cX6_open 26 = .ok (.getfield 48, 3) := by decide +kernel
theorem dX6_open_29 : decode cX6_open 29 = .ok (.iload_n 1, 1) := by decide +kernel
theorem dX6_open_30 : decode cX6_open 30 = .ok (.iload_n 2, 1) := by decide +kernel
theorem dX6_open_31 : decode cX6_open 31 = .ok (.bastore, 1) := by decide +kernel
theorem dX6_open_32 : decode cX6_open 32 = .ok (.iload_n 3, 1) := by decide +kernel
theorem dX6_open_33 : decode cX6_open 33 = .ok (.ireturn, 1) := by decide +kernel
theorem dX6_shut_0 : decode cX6_shut 0 = .ok (.aload_n 0, 1) := by decide +kernel
theorem dX6_shut_1 : decode cX6_shut 1 = .ok (.iload_n 1, 1) := by decide +kernel
theorem dX6_shut_2 : decode cX6_shut 2 = .ok (.invokevirtual 116, 3) := by decide +kernel
theorem dX6_shut_5 : decode cX6_shut 5 = .ok (.ifCond .ne 5, 3) := by decide +kernel
theorem dX6_shut_8 : decode cX6_shut 8 = .ok (.iconst (-1), 1) := by decide +kernel
theorem dX6_shut_9 : decode cX6_shut 9 = .ok (.ireturn, 1) := by decide +kernel
theorem dX6_shut_10 : decode cX6_shut 10 = .ok (.aload_n 0, 1) := by decide +kernel
theorem dX6_shut_11 : decode cX6_shut 11 = .ok (.getfield 32, 3) := by decide +kernel
theorem dX6_shut_14 : decode cX6_shut 14 = .ok (.iload_n 1, 1) := by decide +kernel
theorem dX6_shut_15 : decode cX6_shut 15 = .ok (.baload, 1) := by decide +kernel
theorem dX6_shut_16 : decode cX6_shut 16 = .ok (.ifCond .eq 7, 3) := by decide +kernel
theorem dX6_shut_19 : decode cX6_shut 19 = .ok (.iconst 1, 1) := by decide +kernel
theorem dX6_shut_20 : decode cX6_shut 20 = .ok (.goto 4, 3) := by decide +kernel
theorem dX6_shut_23 : decode cX6_shut 23 = .ok (.iconst 0, 1) := by decide +kernel
theorem dX6_shut_24 : decode cX6_shut 24 = .ok (.istore_n 3, 1) := by decide +kernel
theorem dX6_shut_25 : decode cX6_shut 25 = .ok (.aload_n 0, 1) := by decide +kernel
theorem dX6_shut_26 : decode cX6_shut 26 = .ok (.getfield 32, 3) := by decide +kernel
theorem dX6_shut_29 : decode cX6_shut 29 = .ok (.iload_n 1, 1) := by decide +kernel
theorem dX6_shut_30 : decode cX6_shut 30 = .ok (.iload_n 2, 1) := by decide +kernel
theorem dX6_shut_31 : decode cX6_shut 31 = .ok (.bastore, 1) := by decide +kernel
theorem dX6_shut_32 : decode cX6_shut 32 = .ok (.iload_n 3, 1) := by decide +kernel
theorem dX6_shut_33 : decode cX6_shut 33 = .ok (.ireturn, 1) := by decide +kernel
theorem dX6_clog_0 : decode cX6_clog 0 = .ok (.aload_n 0, 1) := by decide +kernel
theorem dX6_clog_1 : decode cX6_clog 1 = .ok (.iload_n 1, 1) := by decide +kernel
theorem dX6_clog_2 : decode cX6_clog 2 = .ok (.invokevirtual 140, 3) := by decide +kernel
theorem dX6_clog_5 : decode cX6_clog 5 = .ok (.ifCond .ne 5, 3) := by decide +kernel
theorem dX6_clog_8 : decode cX6_clog 8 = .ok (.iconst (-1), 1) := by decide +kernel
theorem dX6_clog_9 : decode cX6_clog 9 = .ok (.ireturn, 1) := by decide +kernel
theorem dX6_clog_10 : decode cX6_clog 10 = .ok (.iload_n 2, 1) := by decide +kernel
theorem dX6_clog_11 : decode cX6_clog 11 = .ok (.i2l, 1) := by decide +kernel
theorem dX6_clog_12 : decode cX6_clog 12 = .ok (.lconst 0, 1) := by decide +kernel
theorem dX6_clog_13 : decode cX6_clog 13 = .ok (.ldc2_w 143, 3) := by decide +kernel
theorem dX6_clog_16 : decode cX6_clog 16 = .ok (.invokestatic 112, 3) := by decide +kernel
theorem dX6_clog_19 : decode cX6_clog 19 = .ok (.ifCond .ne 6, 3) := by decide +kernel
theorem dX6_clog_22 : decode cX6_clog 22 = .ok (.bipush (-2), 2) := by decide +kernel
theorem dX6_clog_24 : decode cX6_clog 24 = .ok (.ireturn, 1) := by decide +kernel
theorem dX6_clog_25 : decode cX6_clog 25 = .ok (.aload_n 0, 1) := by decide +kernel
theorem dX6_clog_26 : decode cX6_clog 26 = .ok (.getfield 51, 3) := by decide +kernel
theorem dX6_clog_29 : decode cX6_clog 29 = .ok (.iload_n 1, 1) := by decide +kernel
theorem dX6_clog_30 : decode cX6_clog 30 = .ok (.iaload, 1) := by decide +kernel
theorem dX6_clog_31 : decode cX6_clog 31 = .ok (.istore_n 3, 1) := by decide +kernel
theorem dX6_clog_32 : decode cX6_clog 32 = .ok (.aload_n 0, 1) := by decide +kernel
theorem dX6_clog_33 : decode cX6_clog 33 = .ok (.getfield 51, 3) := by decide +kernel
theorem dX6_clog_36 : decode cX6_clog 36 = .ok (.iload_n 1, 1) := by decide +kernel
theorem dX6_clog_37 : decode cX6_clog 37 = .ok (.iload_n 2, 1) := by decide +kernel
theorem dX6_clog_38 : decode cX6_clog 38 = .ok (.iastore, 1) := by decide +kernel
theorem dX6_clog_39 : decode cX6_clog 39 = .ok (.iload_n 3, 1) := by decide +kernel
theorem dX6_clog_40 : decode cX6_clog 40 = .ok (.ireturn, 1) := by decide +kernel
theorem dX6_resize_0 : decode cX6_resize 0 = .ok (.aload_n 0, 1) := by decide +kernel
theorem dX6_resize_1 : decode cX6_resize 1 = .ok (.iload_n 1, 1) := by decide +kernel
theorem dX6_resize_2 : decode cX6_resize 2 = .ok (.invokevirtual 116, 3) := by decide +kernel
theorem dX6_resize_5 : decode cX6_resize 5 = .ok (.ifCond .eq 19, 3) := by decide +kernel
theorem dX6_resize_8 : decode cX6_resize 8 = .ok (.iload_n 2, 1) := by decide +kernel
theorem dX6_resize_9 : decode cX6_resize 9 = .ok (.i2l, 1) := by decide +kernel
theorem dX6_resize_10 : decode cX6_resize 10 = .ok (.lconst 0, 1) := by decide +kernel
theorem dX6_resize_11 : decode cX6_resize 11 = .ok (.aload_n 0, 1) := by decide +kernel
theorem dX6_resize_12 : decode cX6_resize 12 = .ok (.getfield 131, 3) := by decide +kernel
theorem dX6_resize_15 : decode cX6_resize 15 = .ok (.iconst 1, 1) := by decide +kernel
theorem dX6_resize_16 : decode cX6_resize 16 = .ok (.isub, 1) := by decide +kernel
theorem dX6_resize_17 : decode cX6_resize 17 = .ok (.i2l, 1) := by decide +kernel
end
section
theorem dX6_resize_18 : decode cX6_resize 18 = .ok (.invokestatic 112, 3) := by decide +kernel
theorem dX6_resize_21 : decode cX6_resize 21 = .ok (.ifCond .ne 5, 3) := by decide +kernel
theorem dX6_resize_24 : decode cX6_resize 24 = .ok (.iconst (-1), 1) := by decide +kernel
theorem dX6_resize_25 : decode cX6_resize 25 = .ok (.ireturn, 1) := by decide +kernel
theorem dX6_resize_26 : decode cX6_resize 26 = .ok (.aload_n 0, 1) := by decide +kernel
theorem dX6_resize_27 : decode cX6_resize 27 = .ok (.getfield 26, 3) := by decide +kernel
theorem dX6_resize_30 : decode cX6_resize 30 = .ok (.iload_n 1, 1) := by decide +kernel
theorem dX6_resize_31 : decode cX6_resize 31 = .ok (.iaload, 1) := by decide +kernel
theorem dX6_resize_32 : decode cX6_resize 32 = .ok (.istore_n 3, 1) := by decide +kernel
theorem dX6_resize_33 : decode cX6_resize 33 = .ok (.aload_n 0, 1) := by decide +kernel
theorem dX6_resize_34 : decode cX6_resize 34 = .ok (.getfield 26, 3) := by decide +kernel
theorem dX6_resize_37 : decode cX6_resize 37 = .ok (.iload_n 1, 1) := by decide +kernel
theorem dX6_resize_38 : decode cX6_resize 38 = .ok (.iload_n 2, 1) := by decide +kernel
theorem dX6_resize_39 : decode cX6_resize 39 = .ok (.iastore, 1) := by decide +kernel
theorem dX6_resize_40 : decode cX6_resize 40 = .ok (.iload_n 3, 1) := by decide +kernel
theorem dX6_resize_41 : decode cX6_resize 41 = .ok (.ireturn, 1) := by decide +kernel
theorem dX6_factorNow_0 : decode cX6_factorNow 0 = .ok (.aload_n 0, 1) := by decide +kernel
theorem dX6_factorNow_1 : decode cX6_factorNow 1 = .ok (.getfield 39, 3) := by decide +kernel
theorem dX6_factorNow_4 : decode cX6_factorNow 4 = .ok (.iload_n 1, 1) := by decide +kernel
theorem dX6_factorNow_5 : decode cX6_factorNow 5 = .ok (.baload, 1) := by decide +kernel
theorem dX6_factorNow_6 : decode cX6_factorNow 6 = .ok (.ifCond .eq 25, 3) := by decide +kernel
theorem dX6_factorNow_9 : decode cX6_factorNow 9 = .ok (.aload_n 0, 1) := by decide +kernel
theorem dX6_factorNow_10 : decode cX6_factorNow 10 = .ok (.getfield 42, 3) := by decide +kernel
theorem dX6_factorNow_13 : decode cX6_factorNow 13 = .ok (.iload_n 1, 1) := by decide +kernel
theorem dX6_factorNow_14 : decode cX6_factorNow 14 = .ok (.iaload, 1) := by decide +kernel
theorem dX6_factorNow_15 : decode cX6_factorNow 15 = .ok (.bipush 100, 2) := by decide +kernel
theorem dX6_factorNow_17 : decode cX6_factorNow 17 = .ok (.aload_n 0, 1) := by decide +kernel
theorem dX6_factorNow_18 : decode cX6_factorNow 18 = .ok (.getfield 51, 3) := by decide +kernel
theorem dX6_factorNow_21 : decode cX6_factorNow 21 = .ok (.iload_n 1, 1) := by decide +kernel
theorem dX6_factorNow_22 : decode cX6_factorNow 22 = .ok (.iaload, 1) := by decide +kernel
theorem dX6_factorNow_23 : decode cX6_factorNow 23 = .ok (.isub, 1) := by decide +kernel
theorem dX6_factorNow_24 : decode cX6_factorNow 24 = .ok (.imul, 1) := by decide +kernel
theorem dX6_factorNow_25 : decode cX6_factorNow 25 = .ok (.bipush 100, 2) := by decide +kernel
theorem dX6_factorNow_27 : decode cX6_factorNow 27 = .ok (.idiv, 1) := by decide +kernel
theorem dX6_factorNow_28 : decode cX6_factorNow 28 = .ok (.goto 4, 3) := by decide +kernel
theorem dX6_factorNow_31 : decode cX6_factorNow 31 = .ok (.iconst 0, 1) := by decide +kernel
theorem dX6_factorNow_32 : decode cX6_factorNow 32 = .ok (.ireturn, 1) := by decide +kernel
theorem dX6_root_0 : decode cX6_root 0 = .ok (.lconst 0, 1) := by decide +kernel
theorem dX6_root_1 : decode cX6_root 1 = .ok (.lstore_n 2, 1) := by decide +kernel
theorem dX6_root_2 : decode cX6_root 2 = .ok (.ldc2_w 145, 3) := by decide +kernel
theorem dX6_root_5 : decode cX6_root 5 = .ok (.lstore 4, 2) := by decide +kernel
theorem dX6_root_7 : decode cX6_root 7 = .ok (.lload 4, 2) := by decide +kernel
theorem dX6_root_9 : decode cX6_root 9 = .ok (.lconst 0, 1) := by decide +kernel
theorem dX6_root_10 : decode cX6_root 10 = .ok (.lcmp, 1) := by decide +kernel
theorem dX6_root_11 : decode cX6_root 11 = .ok (.ifCond .le 40, 3) := by decide +kernel
theorem dX6_root_14 : decode cX6_root 14 = .ok (.lload_n 2, 1) := by decide +kernel
theorem dX6_root_15 : decode cX6_root 15 = .ok (.lload 4, 2) := by decide +kernel
theorem dX6_root_17 : decode cX6_root 17 = .ok (.ladd, 1) := by decide +kernel
theorem dX6_root_18 : decode cX6_root 18 = .ok (.lstore 6, 2) := by decide +kernel
theorem dX6_root_20 : decode cX6_root 20 = .ok (.lload 6, 2) := by decide +kernel
theorem dX6_root_22 : decode cX6_root 22 = .ok (.ldc2_w 147, 3) := by decide +kernel
theorem dX6_root_25 : decode cX6_root 25 = .ok (.lcmp, 1) := by decide +kernel
theorem dX6_root_26 : decode cX6_root 26 = .ok (.ifCond .gt 16, 3) := by decide +kernel
theorem dX6_root_29 : decode cX6_root 29 = .ok (.lload 6, 2) := by decide +kernel
theorem dX6_root_31 : decode cX6_root 31 = .ok (.lload 6, 2) := by decide +kernel
theorem dX6_root_33 : decode cX6_root 33 = .ok (.lmul, 1) := by decide +kernel
theorem dX6_root_34 : decode cX6_root 34 = .ok (.lload_n 0, 1) := by decide +kernel
theorem dX6_root_35 : decode cX6_root 35 = .ok (.lcmp, 1) := by decide +kernel
theorem dX6_root_36 : decode cX6_root 36 = .ok (.ifCond .gt 6, 3) := by decide +kernel
theorem dX6_root_39 : decode cX6_root 39 = .ok (.lload 6, 2) := by decide +kernel
theorem dX6_root_41 : decode cX6_root 41 = .ok (.lstore_n 2, 1) := by decide +kernel
theorem dX6_root_42 : decode cX6_root 42 = .ok (.lload 4, 2) := by decide +kernel
theorem dX6_root_44 : decode cX6_root 44 = .ok (.iconst 1, 1) := by decide +kernel
theorem dX6_root_45 : decode cX6_root 45 = .ok (.lshr, 1) := by decide +kernel
theorem dX6_root_46 : decode cX6_root 46 = .ok (.lstore 4, 2) := by decide +kernel
theorem dX6_root_48 : decode cX6_root 48 = .ok (.goto (-41), 3) := by decide +kernel
theorem dX6_root_51 : decode cX6_root 51 = .ok (.lload_n 2, 1) := by decide +kernel
theorem dX6_root_52 : decode cX6_root 52 = .ok (.lreturn, 1) := by decide +kernel
theorem dX6_rootUp_0 : decode cX6_rootUp 0 = .ok (.lload_n 0, 1) := by decide +kernel
theorem dX6_rootUp_1 : decode cX6_rootUp 1 = .ok (.invokestatic 149, 3) := by decide +kernel
theorem dX6_rootUp_4 : decode cX6_rootUp 4 = .ok (.lstore_n 2, 1) := by decide +kernel
theorem dX6_rootUp_5 : decode cX6_rootUp 5 = .ok (.lload_n 2, 1) := by decide +kernel
theorem dX6_rootUp_6 : decode cX6_rootUp 6 = .ok (.lload_n 2, 1) := by decide +kernel
theorem dX6_rootUp_7 : decode cX6_rootUp 7 = .ok (.lmul, 1) := by decide +kernel
theorem dX6_rootUp_8 : decode cX6_rootUp 8 = .ok (.lload_n 0, 1) := by decide +kernel
theorem dX6_rootUp_9 : decode cX6_rootUp 9 = .ok (.lcmp, 1) := by decide +kernel
theorem dX6_rootUp_10 : decode cX6_rootUp 10 = .ok (.ifCond .ge 9, 3) := by decide +kernel
theorem dX6_rootUp_13 : decode cX6_rootUp 13 = .ok (.lload_n 2, 1) := by decide +kernel
theorem dX6_rootUp_14 : decode cX6_rootUp 14 = .ok (.lconst 1, 1) := by decide +kernel
theorem dX6_rootUp_15 : decode cX6_rootUp 15 = .ok (.ladd, 1) := by decide +kernel
theorem dX6_rootUp_16 : decode cX6_rootUp 16 = .ok (.goto 4, 3) := by decide +kernel
theorem dX6_rootUp_19 : decode cX6_rootUp 19 = .ok (.lload_n 2, 1) := by decide +kernel
theorem dX6_rootUp_20 : decode cX6_rootUp 20 = .ok (.lreturn, 1) := by decide +kernel
theorem dX6_up_0 : decode cX6_up 0 = .ok (.lload_n 0, 1) := by decide +kernel
theorem dX6_up_1 : decode cX6_up 1 = .ok (.lload_n 2, 1) := by decide +kernel
theorem dX6_up_2 : decode cX6_up 2 = .ok (.ldiv, 1) := by decide +kernel
theorem dX6_up_3 : decode cX6_up 3 = .ok (.lload_n 0, 1) := by decide +kernel
theorem dX6_up_4 : decode cX6_up 4 = .ok (.lload_n 2, 1) := by decide +kernel
theorem dX6_up_5 : decode cX6_up 5 = .ok (.lrem, 1) := by decide +kernel
theorem dX6_up_6 : decode cX6_up 6 = .ok (.lconst 0, 1) := by decide +kernel
theorem dX6_up_7 : decode cX6_up 7 = .ok (.lcmp, 1) := by decide +kernel
theorem dX6_up_8 : decode cX6_up 8 = .ok (.ifCond .le 7, 3) := by decide +kernel
theorem dX6_up_11 : decode cX6_up 11 = .ok (.lconst 1, 1) := by decide +kernel
theorem dX6_up_12 : decode cX6_up 12 = .ok (.goto 4, 3) := by decide +kernel
theorem dX6_up_15 : decode cX6_up 15 = .ok (.lconst 0, 1) := by decide +kernel
theorem dX6_up_16 : decode cX6_up 16 = .ok (.ladd, 1) := by decide +kernel
theorem dX6_up_17 : decode cX6_up 17 = .ok (.lreturn, 1) := by decide +kernel
theorem dX6_drag_0 : decode cX6_drag 0 = .ok (.iload_n 1, 1) := by decide +kernel
theorem dX6_drag_1 : decode cX6_drag 1 = .ok (.bipush 24, 2) := by decide +kernel
theorem dX6_drag_3 : decode cX6_drag 3 = .ok (.if_icmp .ne 10, 3) := by decide +kernel
theorem dX6_drag_6 : decode cX6_drag 6 = .ok (.aload_n 0, 1) := by decide +kernel
theorem dX6_drag_7 : decode cX6_drag 7 = .ok (.getfield 124, 3) := by decide +kernel
theorem dX6_drag_10 : decode cX6_drag 10 = .ok (.goto 21, 3) := by decide +kernel
theorem dX6_drag_13 : decode cX6_drag 13 = .ok (.aload_n 0, 1) := by decide +kernel
theorem dX6_drag_14 : decode cX6_drag 14 = .ok (.getfield 23, 3) := by decide +kernel
theorem dX6_drag_17 : decode cX6_drag 17 = .ok (.iload_n 1, 1) := by decide +kernel
theorem dX6_drag_18 : decode cX6_drag 18 = .ok (.iaload, 1) := by decide +kernel
theorem dX6_drag_19 : decode cX6_drag 19 = .ok (.aload_n 0, 1) := by decide +kernel
theorem dX6_drag_20 : decode cX6_drag 20 = .ok (.getfield 13, 3) := by decide +kernel
theorem dX6_drag_23 : decode cX6_drag 23 = .ok (.aload_n 0, 1) := by decide +kernel
theorem dX6_drag_24 : decode cX6_drag 24 = .ok (.getfield 26, 3) := by decide +kernel
theorem dX6_drag_27 : decode cX6_drag 27 = .ok (.iload_n 1, 1) := by decide +kernel
theorem dX6_drag_28 : decode cX6_drag 28 = .ok (.iaload, 1) := by decide +kernel
theorem dX6_drag_29 : decode cX6_drag 29 = .ok (.iaload, 1) := by decide +kernel
theorem dX6_drag_30 : decode cX6_drag 30 = .ok (.imul, 1) := by decide +kernel
theorem dX6_drag_31 : decode cX6_drag 31 = .ok (.ireturn, 1) := by decide +kernel
theorem dX6_openAsTold_0 : decode cX6_openAsTold 0 = .ok (.iconst 0, 1) := by decide +kernel
theorem dX6_openAsTold_1 : decode cX6_openAsTold 1 = .ok (.istore_n 1, 1) := by decide +kernel
theorem dX6_openAsTold_2 : decode cX6_openAsTold 2 = .ok (.iload_n 1, 1) := by decide +kernel
theorem dX6_openAsTold_3 : decode cX6_openAsTold 3 = .ok (.aload_n 0, 1) := by decide +kernel
theorem dX6_openAsTold_4 : decode cX6_openAsTold 4 = .ok (.getfield 109, 3) := by decide +kernel
theorem dX6_openAsTold_7 : decode cX6_openAsTold 7 = .ok (.if_icmp .ge 38, 3) := by decide +kernel
theorem dX6_openAsTold_10 : decode cX6_openAsTold 10 = .ok (.aload_n 0, 1) := by decide +kernel
theorem dX6_openAsTold_11 : decode cX6_openAsTold 11 = .ok (.getfield 54, 3) := by decide +kernel
theorem dX6_openAsTold_14 : decode cX6_openAsTold 14 = .ok (.iload_n 1, 1) := by decide +kernel
theorem dX6_openAsTold_15 : decode cX6_openAsTold 15 = .ok (.aload_n 0, 1) := by decide +kernel
theorem dX6_openAsTold_16 : decode cX6_openAsTold 16 = .ok (.getfield 39, 3) := by decide +kernel
theorem dX6_openAsTold_19 : decode cX6_openAsTold 19 = .ok (.iload_n 1, 1) := by decide +kernel
theorem dX6_openAsTold_20 : decode cX6_openAsTold 20 = .ok (.baload, 1) := by decide +kernel
theorem dX6_openAsTold_21 : decode cX6_openAsTold 21 = .ok (.ifCond .eq 16, 3) := by decide +kernel
theorem dX6_openAsTold_24 : decode cX6_openAsTold 24 = .ok (.aload_n 0, 1) := by decide +kernel
theorem dX6_openAsTold_25 : decode cX6_openAsTold 25 = .ok (.getfield 48, 3) := by decide +kernel
theorem dX6_openAsTold_28 : decode cX6_openAsTold 28 = .ok (.iload_n 1, 1) := by decide +kernel
theorem dX6_openAsTold_29 : decode cX6_openAsTold 29 = .ok (.baload, 1) := by decide +kernel
theorem dX6_openAsTold_30 : decode cX6_openAsTold 30 = .ok (.ifCond .eq 7, 3) := by decide +kernel
theorem dX6_openAsTold_33 : decode cX6_openAsTold 33 = .ok (.iconst 1, 1) := by decide +kernel
theorem dX6_openAsTold_34 : decode cX6_openAsTold 34 = .ok (.goto 4, 3) := by decide +kernel
theorem dX6_openAsTold_37 : decode cX6_openAsTold 37 = .ok (.iconst 0, 1) := by decide +kernel
theorem dX6_openAsTold_38 : decode cX6_openAsTold 38 = .ok (.bastore, 1) := by decide +kernel
theorem dX6_openAsTold_39 : decode cX6_openAsTold 39 = .ok (.iinc 1 1, 3) := by decide +kernel
theorem dX6_openAsTold_42 : decode cX6_openAsTold 42 = .ok (.goto (-40), 3) := by decide +kernel
theorem dX6_openAsTold_45 : decode cX6_openAsTold 45 = .ok (.return_, 1) := by decide +kernel
theorem dX6_conductOf_0 : decode cX6_conductOf 0 = .ok (.aload_n 0, 1) := by decide +kernel
theorem dX6_conductOf_1 : decode cX6_conductOf 1 = .ok (.iload_n 1, 1) := by decide +kernel
theorem dX6_conductOf_2 : decode cX6_conductOf 2 = .ok (.invokevirtual 153, 3) := by decide +kernel
theorem dX6_conductOf_5 : decode cX6_conductOf 5 = .ok (.i2l, 1) := by decide +kernel
theorem dX6_conductOf_6 : decode cX6_conductOf 6 = .ok (.lstore_n 2, 1) := by decide +kernel
theorem dX6_conductOf_7 : decode cX6_conductOf 7 = .ok (.aload_n 0, 1) := by decide +kernel
theorem dX6_conductOf_8 : decode cX6_conductOf 8 = .ok (.getfield 57, 3) := by decide +kernel
theorem dX6_conductOf_11 : decode cX6_conductOf 11 = .ok (.iload_n 1, 1) := by decide +kernel
theorem dX6_conductOf_12 : decode cX6_conductOf 12 = .ok (.laload, 1) := by decide +kernel
theorem dX6_conductOf_13 : decode cX6_conductOf 13 = .ok (.lstore 4, 2) := by decide +kernel
theorem dX6_conductOf_15 : decode cX6_conductOf 15 = .ok (.aload_n 0, 1) := by decide +kernel
theorem dX6_conductOf_16 : decode cX6_conductOf 16 = .ok (.getfield 61, 3) := by decide +kernel
theorem dX6_conductOf_19 : decode cX6_conductOf 19 = .ok (.iload_n 1, 1) := by decide +kernel
theorem dX6_conductOf_20 : decode cX6_conductOf 20 = .ok (.laload, 1) := by decide +kernel
theorem dX6_conductOf_21 : decode cX6_conductOf 21 = .ok (.lstore 6, 2) := by decide +kernel
theorem dX6_conductOf_23 : decode cX6_conductOf 23 = .ok (.iload_n 1, 1) := by decide +kernel
theorem dX6_conductOf_24 : decode cX6_conductOf 24 = .ok (.bipush 24, 2) := by decide +kernel
theorem dX6_conductOf_26 : decode cX6_conductOf 26 = .ok (.if_icmp .ge 16, 3) := by decide +kernel
theorem dX6_conductOf_29 : decode cX6_conductOf 29 = .ok (.aload_n 0, 1) := by decide +kernel
theorem dX6_conductOf_30 : decode cX6_conductOf 30 = .ok (.getfield 32, 3) := by decide +kernel
theorem dX6_conductOf_33 : decode cX6_conductOf 33 = .ok (.iload_n 1, 1) := by decide +kernel
theorem dX6_conductOf_34 : decode cX6_conductOf 34 = .ok (.baload, 1) := by decide +kernel
theorem dX6_conductOf_35 : decode cX6_conductOf 35 = .ok (.ifCond .eq 7, 3) := by decide +kernel
theorem dX6_conductOf_38 : decode cX6_conductOf 38 = .ok (.iconst 1, 1) := by decide +kernel
theorem dX6_conductOf_39 : decode cX6_conductOf 39 = .ok (.goto 4, 3) := by decide +kernel
theorem dX6_conductOf_42 : decode cX6_conductOf 42 = .ok (.iconst 0, 1) := by decide +kernel
theorem dX6_conductOf_43 : decode cX6_conductOf 43 = .ok (.istore 8, 2) := by decide +kernel
theorem dX6_conductOf_45 : decode cX6_conductOf 45 = .ok (.aload_n 0, 1) := by decide +kernel
theorem dX6_conductOf_46 : decode cX6_conductOf 46 = .ok (.getfield 64, 3) := by decide +kernel
theorem dX6_conductOf_49 : decode cX6_conductOf 49 = .ok (.iload_n 1, 1) := by decide +kernel
theorem dX6_conductOf_50 : decode cX6_conductOf 50 = .ok (.iload 8, 2) := by decide +kernel
theorem dX6_conductOf_52 : decode cX6_conductOf 52 = .ok (.ifCond .eq 7, 3) := by decide +kernel
theorem dX6_conductOf_55 : decode cX6_conductOf 55 = .ok (.lconst 0, 1) := by decide +kernel
theorem dX6_conductOf_56 : decode cX6_conductOf 56 = .ok (.goto 23, 3) := by decide +kernel
theorem dX6_conductOf_59 : decode cX6_conductOf 59 = .ok (.lload 4, 2) := by decide +kernel
theorem dX6_conductOf_61 : decode cX6_conductOf 61 = .ok (.bipush 25, 2) := by decide +kernel
theorem dX6_conductOf_63 : decode cX6_conductOf 63 = .ok (.lshl, 1) := by decide +kernel
theorem dX6_conductOf_64 : decode cX6_conductOf 64 = .ok (.ldc2_w 157, 3) := by decide +kernel
theorem dX6_conductOf_67 : decode cX6_conductOf 67 = .ok (.lload_n 2, 1) := by decide +kernel
theorem dX6_conductOf_68 : decode cX6_conductOf 68 = .ok (.lload 4, 2) := by decide +kernel
theorem dX6_conductOf_70 : decode cX6_conductOf 70 = .ok (.lmul, 1) := by decide +kernel
theorem dX6_conductOf_71 : decode cX6_conductOf 71 = .ok (.lload 4, 2) := by decide +kernel
theorem dX6_conductOf_73 : decode cX6_conductOf 73 = .ok (.lmul, 1) := by decide +kernel
theorem dX6_conductOf_74 : decode cX6_conductOf 74 = .ok (.ladd, 1) := by decide +kernel
theorem dX6_conductOf_75 : decode cX6_conductOf 75 = .ok (.invokestatic 159, 3) := by decide +kernel
theorem dX6_conductOf_78 : decode cX6_conductOf 78 = .ok (.ldiv, 1) := by decide +kernel
theorem dX6_conductOf_79 : decode cX6_conductOf 79 = .ok (.lastore, 1) := by decide +kernel
theorem dX6_conductOf_80 : decode cX6_conductOf 80 = .ok (.aload_n 0, 1) := by decide +kernel
theorem dX6_conductOf_81 : decode cX6_conductOf 81 = .ok (.getfield 67, 3) := by decide +kernel
theorem dX6_conductOf_84 : decode cX6_conductOf 84 = .ok (.iload_n 1, 1) := by decide +kernel
theorem dX6_conductOf_85 : decode cX6_conductOf 85 = .ok (.iload 8, 2) := by decide +kernel
theorem dX6_conductOf_87 : decode cX6_conductOf 87 = .ok (.ifCond .eq 7, 3) := by decide +kernel
theorem dX6_conductOf_90 : decode cX6_conductOf 90 = .ok (.lconst 0, 1) := by decide +kernel
theorem dX6_conductOf_91 : decode cX6_conductOf 91 = .ok (.goto 25, 3) := by decide +kernel
theorem dX6_conductOf_94 : decode cX6_conductOf 94 = .ok (.lload 6, 2) := by decide +kernel
theorem dX6_conductOf_96 : decode cX6_conductOf 96 = .ok (.bipush 25, 2) := by decide +kernel
theorem dX6_conductOf_98 : decode cX6_conductOf 98 = .ok (.lshl, 1) := by decide +kernel
theorem dX6_conductOf_99 : decode cX6_conductOf 99 = .ok (.ldc2_w 157, 3) := by decide +kernel
theorem dX6_conductOf_102 : decode cX6_conductOf 102 = .ok (.lload_n 2, 1) := by decide +kernel
theorem dX6_conductOf_103 : decode cX6_conductOf 103 = .ok (.lload 6, 2) := by decide +kernel
theorem dX6_conductOf_105 : decode cX6_conductOf 105 = .ok (.lmul, 1) := by decide +kernel
theorem dX6_conductOf_106 : decode cX6_conductOf 106 = .ok (.lload 6, 2) := by decide +kernel
theorem dX6_conductOf_108 : decode cX6_conductOf 108 = .ok (.lmul, 1) := by decide +kernel
theorem dX6_conductOf_109 : decode cX6_conductOf 109 = .ok (.ladd, 1) := by decide +kernel
theorem dX6_conductOf_110 : decode cX6_conductOf 110 = .ok (.invokestatic 149, 3) := by decide +kernel
theorem dX6_conductOf_113 : decode cX6_conductOf 113 = .ok (.invokestatic 162, 3) := by decide +kernel
theorem dX6_conductOf_116 : decode cX6_conductOf 116 = .ok (.lastore, 1) := by decide +kernel
theorem dX6_conductOf_117 : decode cX6_conductOf 117 = .ok (.return_, 1) := by decide +kernel
theorem dX6_pressureOf_0 : decode cX6_pressureOf 0 = .ok (.aload_n 0, 1) := by decide +kernel
theorem dX6_pressureOf_1 : decode cX6_pressureOf 1 = .ok (.iload_n 1, 1) := by decide +kernel
theorem dX6_pressureOf_2 : decode cX6_pressureOf 2 = .ok (.invokevirtual 153, 3) := by decide +kernel
theorem dX6_pressureOf_5 : decode cX6_pressureOf 5 = .ok (.i2l, 1) := by decide +kernel
theorem dX6_pressureOf_6 : decode cX6_pressureOf 6 = .ok (.lstore 6, 2) := by decide +kernel
theorem dX6_pressureOf_8 : decode cX6_pressureOf 8 = .ok (.ldc2_w 166, 3) := by decide +kernel
theorem dX6_pressureOf_11 : decode cX6_pressureOf 11 = .ok (.lload 6, 2) := by decide +kernel
theorem dX6_pressureOf_13 : decode cX6_pressureOf 13 = .ok (.aload_n 0, 1) := by decide +kernel
theorem dX6_pressureOf_14 : decode cX6_pressureOf 14 = .ok (.getfield 61, 3) := by decide +kernel
theorem dX6_pressureOf_17 : decode cX6_pressureOf 17 = .ok (.iload_n 1, 1) := by decide +kernel
theorem dX6_pressureOf_18 : decode cX6_pressureOf 18 = .ok (.laload, 1) := by decide +kernel
theorem dX6_pressureOf_19 : decode cX6_pressureOf 19 = .ok (.lmul, 1) := by decide +kernel
theorem dX6_pressureOf_20 : decode cX6_pressureOf 20 = .ok (.aload_n 0, 1) := by decide +kernel
theorem dX6_pressureOf_21 : decode cX6_pressureOf 21 = .ok (.getfield 61, 3) := by decide +kernel
theorem dX6_pressureOf_24 : decode cX6_pressureOf 24 = .ok (.iload_n 1, 1) := by decide +kernel
theorem dX6_pressureOf_25 : decode cX6_pressureOf 25 = .ok (.laload, 1) := by decide +kernel
theorem dX6_pressureOf_26 : decode cX6_pressureOf 26 = .ok (.lmul, 1) := by decide +kernel
theorem dX6_pressureOf_27 : decode cX6_pressureOf 27 = .ok (.ldc2_w 168, 3) := by decide +kernel
theorem dX6_pressureOf_30 : decode cX6_pressureOf 30 = .ok (.invokestatic 162, 3) := by decide +kernel
theorem dX6_pressureOf_33 : decode cX6_pressureOf 33 = .ok (.ladd, 1) := by decide +kernel
theorem dX6_pressureOf_34 : decode cX6_pressureOf 34 = .ok (.lstore 8, 2) := by decide +kernel
theorem dX6_pressureOf_36 : decode cX6_pressureOf 36 = .ok (.ldc2_w 166, 3) := by decide +kernel
theorem dX6_pressureOf_39 : decode cX6_pressureOf 39 = .ok (.lload 6, 2) := by decide +kernel
theorem dX6_pressureOf_41 : decode cX6_pressureOf 41 = .ok (.aload_n 0, 1) := by decide +kernel
theorem dX6_pressureOf_42 : decode cX6_pressureOf 42 = .ok (.getfield 57, 3) := by decide +kernel
theorem dX6_pressureOf_45 : decode cX6_pressureOf 45 = .ok (.iload_n 1, 1) := by decide +kernel
theorem dX6_pressureOf_46 : decode cX6_pressureOf 46 = .ok (.laload, 1) := by decide +kernel
theorem dX6_pressureOf_47 : decode cX6_pressureOf 47 = .ok (.lmul, 1) := by decide +kernel
theorem dX6_pressureOf_48 : decode cX6_pressureOf 48 = .ok (.aload_n 0, 1) := by decide +kernel
theorem dX6_pressureOf_49 : decode cX6_pressureOf 49 = .ok (.getfield 57, 3) := by decide +kernel
theorem dX6_pressureOf_52 : decode cX6_pressureOf 52 = .ok (.iload_n 1, 1) := by decide +kernel
theorem dX6_pressureOf_53 : decode cX6_pressureOf 53 = .ok (.laload, 1) := by decide +kernel
theorem dX6_pressureOf_54 : decode cX6_pressureOf 54 = .ok (.lmul, 1) := by decide +kernel
theorem dX6_pressureOf_55 : decode cX6_pressureOf 55 = .ok (.bipush 20, 2) := by decide +kernel
theorem dX6_pressureOf_57 : decode cX6_pressureOf 57 = .ok (.lshr, 1) := by decide +kernel
theorem dX6_pressureOf_58 : decode cX6_pressureOf 58 = .ok (.ladd, 1) := by decide +kernel
theorem dX6_pressureOf_59 : decode cX6_pressureOf 59 = .ok (.lstore 10, 2) := by decide +kernel
theorem dX6_pressureOf_61 : decode cX6_pressureOf 61 = .ok (.aload_n 0, 1) := by decide +kernel
theorem dX6_pressureOf_62 : decode cX6_pressureOf 62 = .ok (.getfield 70, 3) := by decide +kernel
theorem dX6_pressureOf_65 : decode cX6_pressureOf 65 = .ok (.iload_n 1, 1) := by decide +kernel
theorem dX6_pressureOf_66 : decode cX6_pressureOf 66 = .ok (.lload_n 2, 1) := by decide +kernel
theorem dX6_pressureOf_67 : decode cX6_pressureOf 67 = .ok (.bipush 30, 2) := by decide +kernel
theorem dX6_pressureOf_69 : decode cX6_pressureOf 69 = .ok (.lshl, 1) := by decide +kernel
theorem dX6_pressureOf_70 : decode cX6_pressureOf 70 = .ok (.lload 8, 2) := by decide +kernel
theorem dX6_pressureOf_72 : decode cX6_pressureOf 72 = .ok (.ldiv, 1) := by decide +kernel
theorem dX6_pressureOf_73 : decode cX6_pressureOf 73 = .ok (.lastore, 1) := by decide +kernel
theorem dX6_pressureOf_74 : decode cX6_pressureOf 74 = .ok (.aload_n 0, 1) := by decide +kernel
theorem dX6_pressureOf_75 : decode cX6_pressureOf 75 = .ok (.getfield 73, 3) := by decide +kernel
theorem dX6_pressureOf_78 : decode cX6_pressureOf 78 = .ok (.iload_n 1, 1) := by decide +kernel
theorem dX6_pressureOf_79 : decode cX6_pressureOf 79 = .ok (.lload 4, 2) := by decide +kernel
theorem dX6_pressureOf_81 : decode cX6_pressureOf 81 = .ok (.bipush 30, 2) := by decide +kernel
theorem dX6_pressureOf_83 : decode cX6_pressureOf 83 = .ok (.lshl, 1) := by decide +kernel
theorem dX6_pressureOf_84 : decode cX6_pressureOf 84 = .ok (.lload 10, 2) := by decide +kernel
theorem dX6_pressureOf_86 : decode cX6_pressureOf 86 = .ok (.invokestatic 162, 3) := by decide +kernel
theorem dX6_pressureOf_89 : decode cX6_pressureOf 89 = .ok (.lastore, 1) := by decide +kernel
theorem dX6_pressureOf_90 : decode cX6_pressureOf 90 = .ok (.iload_n 1, 1) := by decide +kernel
theorem dX6_pressureOf_91 : decode cX6_pressureOf 91 = .ok (.bipush 24, 2) := by decide +kernel
theorem dX6_pressureOf_93 : decode cX6_pressureOf 93 = .ok (.if_icmp .ge 26, 3) := by decide +kernel
theorem dX6_pressureOf_96 : decode cX6_pressureOf 96 = .ok (.aload_n 0, 1) := by decide +kernel
theorem dX6_pressureOf_97 : decode cX6_pressureOf 97 = .ok (.getfield 32, 3) := by decide +kernel
theorem dX6_pressureOf_100 : decode cX6_pressureOf 100 = .ok (.iload_n 1, 1) := by decide +kernel
theorem dX6_pressureOf_101 : decode cX6_pressureOf 101 = .ok (.baload, 1) := by decide +kernel
theorem dX6_pressureOf_102 : decode cX6_pressureOf 102 = .ok (.ifCond .eq 17, 3) := by decide +kernel
theorem dX6_pressureOf_105 : decode cX6_pressureOf 105 = .ok (.aload_n 0, 1) := by decide +kernel
theorem dX6_pressureOf_106 : decode cX6_pressureOf 106 = .ok (.getfield 70, 3) := by decide +kernel
theorem dX6_pressureOf_109 : decode cX6_pressureOf 109 = .ok (.iload_n 1, 1) := by decide +kernel
theorem dX6_pressureOf_110 : decode cX6_pressureOf 110 = .ok (.lconst 0, 1) := by decide +kernel
theorem dX6_pressureOf_111 : decode cX6_pressureOf 111 = .ok (.lastore, 1) := by decide +kernel
theorem dX6_pressureOf_112 : decode cX6_pressureOf 112 = .ok (.aload_n 0, 1) := by decide +kernel
theorem dX6_pressureOf_113 : decode cX6_pressureOf 113 = .ok (.getfield 73, 3) := by decide +kernel
theorem dX6_pressureOf_116 : decode cX6_pressureOf 116 = .ok (.iload_n 1, 1) := by decide +kernel
theorem dX6_pressureOf_117 : decode cX6_pressureOf 117 = .ok (.lconst 0, 1) := by decide +kernel
theorem dX6_pressureOf_118 : decode cX6_pressureOf 118 = .ok (.lastore, 1) := by decide +kernel
theorem dX6_pressureOf_119 : decode cX6_pressureOf 119 = .ok (.return_, 1) := by decide +kernel
theorem dX6_work_0 : decode cX6_work 0 = .ok (.iconst 0, 1) := by decide +kernel
theorem dX6_work_1 : decode cX6_work 1 = .ok (.istore_n 2, 1) := by decide +kernel
theorem dX6_work_2 : decode cX6_work 2 = .ok (.iload_n 2, 1) := by decide +kernel
theorem dX6_work_3 : decode cX6_work 3 = .ok (.bipush 24, 2) := by decide +kernel
theorem dX6_work_5 : decode cX6_work 5 = .ok (.if_icmp .gt 58, 3) := by decide +kernel
theorem dX6_work_8 : decode cX6_work 8 = .ok (.aload_n 0, 1) := by decide +kernel
theorem dX6_work_9 : decode cX6_work 9 = .ok (.getfield 57, 3) := by decide +kernel
theorem dX6_work_12 : decode cX6_work 12 = .ok (.iload_n 2, 1) := by decide +kernel
theorem dX6_work_13 : decode cX6_work 13 = .ok (.iload_n 2, 1) := by decide +kernel
theorem dX6_work_14 : decode cX6_work 14 = .ok (.aload_n 0, 1) := by decide +kernel
theorem dX6_work_15 : decode cX6_work 15 = .ok (.getfield 109, 3) := by decide +kernel
theorem dX6_work_18 : decode cX6_work 18 = .ok (.if_icmp .ge 25, 3) := by decide +kernel
theorem dX6_work_21 : decode cX6_work 21 = .ok (.aload_n 0, 1) := by decide +kernel
theorem dX6_work_22 : decode cX6_work 22 = .ok (.getfield 54, 3) := by decide +kernel
theorem dX6_work_25 : decode cX6_work 25 = .ok (.iload_n 2, 1) := by decide +kernel
theorem dX6_work_26 : decode cX6_work 26 = .ok (.baload, 1) := by decide +kernel
theorem dX6_work_27 : decode cX6_work 27 = .ok (.ifCond .eq 16, 3) := by decide +kernel
theorem dX6_work_30 : decode cX6_work 30 = .ok (.ldc2_w 170, 3) := by decide +kernel
theorem dX6_work_33 : decode cX6_work 33 = .ok (.aload_n 0, 1) := by decide +kernel
theorem dX6_work_34 : decode cX6_work 34 = .ok (.iload_n 2, 1) := by decide +kernel
theorem dX6_work_35 : decode cX6_work 35 = .ok (.invokevirtual 172, 3) := by decide +kernel
theorem dX6_work_38 : decode cX6_work 38 = .ok (.i2l, 1) := by decide +kernel
theorem dX6_work_39 : decode cX6_work 39 = .ok (.lmul, 1) := by decide +kernel
theorem dX6_work_40 : decode cX6_work 40 = .ok (.goto 4, 3) := by decide +kernel
theorem dX6_work_43 : decode cX6_work 43 = .ok (.lconst 0, 1) := by decide +kernel
theorem dX6_work_44 : decode cX6_work 44 = .ok (.lastore, 1) := by decide +kernel
theorem dX6_work_45 : decode cX6_work 45 = .ok (.aload_n 0, 1) := by decide +kernel
theorem dX6_work_46 : decode cX6_work 46 = .ok (.getfield 61, 3) := by decide +kernel
theorem dX6_work_49 : decode cX6_work 49 = .ok (.iload_n 2, 1) := by decide +kernel
theorem dX6_work_50 : decode cX6_work 50 = .ok (.aload_n 0, 1) := by decide +kernel
theorem dX6_work_51 : decode cX6_work 51 = .ok (.getfield 57, 3) := by decide +kernel
theorem dX6_work_54 : decode cX6_work 54 = .ok (.iload_n 2, 1) := by decide +kernel
theorem dX6_work_55 : decode cX6_work 55 = .ok (.laload, 1) := by decide +kernel
theorem dX6_work_56 : decode cX6_work 56 = .ok (.lastore, 1) := by decide +kernel
theorem dX6_work_57 : decode cX6_work 57 = .ok (.iinc 2 1, 3) := by decide +kernel
theorem dX6_work_60 : decode cX6_work 60 = .ok (.goto (-58), 3) := by decide +kernel
theorem dX6_work_63 : decode cX6_work 63 = .ok (.aload_n 0, 1) := by decide +kernel
theorem dX6_work_64 : decode cX6_work 64 = .ok (.getfield 109, 3) := by decide +kernel
theorem dX6_work_67 : decode cX6_work 67 = .ok (.iconst 1, 1) := by decide +kernel
theorem dX6_work_68 : decode cX6_work 68 = .ok (.isub, 1) := by decide +kernel
theorem dX6_work_69 : decode cX6_work 69 = .ok (.istore_n 2, 1) := by decide +kernel
theorem dX6_work_70 : decode cX6_work 70 = .ok (.iload_n 2, 1) := by decide +kernel
theorem dX6_work_71 : decode cX6_work 71 = .ok (.ifCond .lt 65, 3) := by decide +kernel
theorem dX6_work_74 : decode cX6_work 74 = .ok (.aload_n 0, 1) := by decide +kernel
theorem dX6_work_75 : decode cX6_work 75 = .ok (.iload_n 2, 1) := by decide +kernel
theorem dX6_work_76 : decode cX6_work 76 = .ok (.invokevirtual 175, 3) := by decide +kernel
theorem dX6_work_79 : decode cX6_work 79 = .ok (.aload_n 0, 1) := by decide +kernel
theorem dX6_work_80 : decode cX6_work 80 = .ok (.getfield 20, 3) := by decide +kernel
theorem dX6_work_83 : decode cX6_work 83 = .ok (.iload_n 2, 1) := by decide +kernel
theorem dX6_work_84 : decode cX6_work 84 = .ok (.iaload, 1) := by decide +kernel
theorem dX6_work_85 : decode cX6_work 85 = .ok (.ifCond .ge 8, 3) := by decide +kernel
theorem dX6_work_88 : decode cX6_work 88 = .ok (.bipush 24, 2) := by decide +kernel
theorem dX6_work_90 : decode cX6_work 90 = .ok (.goto 9, 3) := by decide +kernel
theorem dX6_work_93 : decode cX6_work 93 = .ok (.aload_n 0, 1) := by decide +kernel
theorem dX6_work_94 : decode cX6_work 94 = .ok (.getfield 20, 3) := by decide +kernel
theorem dX6_work_97 : decode cX6_work 97 = .ok (.iload_n 2, 1) := by decide +kernel
theorem dX6_work_98 : decode cX6_work 98 = .ok (.iaload, 1) := by decide +kernel
theorem dX6_work_99 : decode cX6_work 99 = .ok (.istore_n 3, 1) := by decide +kernel
theorem dX6_work_100 : decode cX6_work 100 = .ok (.aload_n 0, 1) := by decide +kernel
theorem dX6_work_101 : decode cX6_work 101 = .ok (.getfield 57, 3) := by decide +kernel
theorem dX6_work_104 : decode cX6_work 104 = .ok (.iload_n 3, 1) := by decide +kernel
theorem dX6_work_105 : decode cX6_work 105 = .ok (.dup2, 1) := by decide +kernel
theorem dX6_work_106 : decode cX6_work 106 = .ok (.laload, 1) := by decide +kernel
theorem dX6_work_107 : decode cX6_work 107 = .ok (.aload_n 0, 1) := by decide +kernel
theorem dX6_work_108 : decode cX6_work 108 = .ok (.getfield 64, 3) := by decide +kernel
theorem dX6_work_111 : decode cX6_work 111 = .ok (.iload_n 2, 1) := by decide +kernel
theorem dX6_work_112 : decode cX6_work 112 = .ok (.laload, 1) := by decide +kernel
theorem dX6_work_113 : decode cX6_work 113 = .ok (.ladd, 1) := by decide +kernel
theorem dX6_work_114 : decode cX6_work 114 = .ok (.lastore, 1) := by decide +kernel
theorem dX6_work_115 : decode cX6_work 115 = .ok (.aload_n 0, 1) := by decide +kernel
theorem dX6_work_116 : decode cX6_work 116 = .ok (.getfield 61, 3) := by decide +kernel
theorem dX6_work_119 : decode cX6_work 119 = .ok (.iload_n 3, 1) := by decide +kernel
theorem dX6_work_120 : decode cX6_work 120 = .ok (.dup2, 1) := by decide +kernel
theorem dX6_work_121 : decode cX6_work 121 = .ok (.laload, 1) := by decide +kernel
theorem dX6_work_122 : decode cX6_work 122 = .ok (.aload_n 0, 1) := by decide +kernel
theorem dX6_work_123 : decode cX6_work 123 = .ok (.getfield 67, 3) := by decide +kernel
theorem dX6_work_126 : decode cX6_work 126 = .ok (.iload_n 2, 1) := by decide +kernel
theorem dX6_work_127 : decode cX6_work 127 = .ok (.laload, 1) := by decide +kernel
theorem dX6_work_128 : decode cX6_work 128 = .ok (.ladd, 1) := by decide +kernel
theorem dX6_work_129 : decode cX6_work 129 = .ok (.lastore, 1) := by decide +kernel
theorem dX6_work_130 : decode cX6_work 130 = .ok (.iinc 2 (-1), 3) := by decide +kernel
theorem dX6_work_133 : decode cX6_work 133 = .ok (.goto (-63), 3) := by decide +kernel
theorem dX6_work_136 : decode cX6_work 136 = .ok (.aload_n 0, 1) := by decide +kernel
theorem dX6_work_137 : decode cX6_work 137 = .ok (.bipush 24, 2) := by decide +kernel
theorem dX6_work_139 : decode cX6_work 139 = .ok (.invokevirtual 175, 3) := by decide +kernel
theorem dX6_work_142 : decode cX6_work 142 = .ok (.aload_n 0, 1) := by decide +kernel
theorem dX6_work_143 : decode cX6_work 143 = .ok (.bipush 24, 2) := by decide +kernel
theorem dX6_work_145 : decode cX6_work 145 = .ok (.ldc2_w 170, 3) := by decide +kernel
theorem dX6_work_148 : decode cX6_work 148 = .ok (.iload_n 1, 1) := by decide +kernel
theorem dX6_work_149 : decode cX6_work 149 = .ok (.i2l, 1) := by decide +kernel
theorem dX6_work_150 : decode cX6_work 150 = .ok (.lmul, 1) := by decide +kernel
theorem dX6_work_151 : decode cX6_work 151 = .ok (.ldc2_w 170, 3) := by decide +kernel
theorem dX6_work_154 : decode cX6_work 154 = .ok (.iload_n 1, 1) := by decide +kernel
theorem dX6_work_155 : decode cX6_work 155 = .ok (.i2l, 1) := by decide +kernel
theorem dX6_work_156 : decode cX6_work 156 = .ok (.lmul, 1) := by decide +kernel
theorem dX6_work_157 : decode cX6_work 157 = .ok (.invokevirtual 179, 3) := by decide +kernel
theorem dX6_work_160 : decode cX6_work 160 = .ok (.iconst 0, 1) := by decide +kernel
theorem dX6_work_161 : decode cX6_work 161 = .ok (.istore_n 2, 1) := by decide +kernel
theorem dX6_work_162 : decode cX6_work 162 = .ok (.iload_n 2, 1) := by decide +kernel
theorem dX6_work_163 : decode cX6_work 163 = .ok (.aload_n 0, 1) := by decide +kernel
theorem dX6_work_164 : decode cX6_work 164 = .ok (.getfield 109, 3) := by decide +kernel
theorem dX6_work_167 : decode cX6_work 167 = .ok (.if_icmp .ge 47, 3) := by decide +kernel
theorem dX6_work_170 : decode cX6_work 170 = .ok (.aload_n 0, 1) := by decide +kernel
theorem dX6_work_171 : decode cX6_work 171 = .ok (.getfield 20, 3) := by decide +kernel
theorem dX6_work_174 : decode cX6_work 174 = .ok (.iload_n 2, 1) := by decide +kernel
theorem dX6_work_175 : decode cX6_work 175 = .ok (.iaload, 1) := by decide +kernel
theorem dX6_work_176 : decode cX6_work 176 = .ok (.ifCond .ge 8, 3) := by decide +kernel
theorem dX6_work_179 : decode cX6_work 179 = .ok (.bipush 24, 2) := by decide +kernel
theorem dX6_work_181 : decode cX6_work 181 = .ok (.goto 9, 3) := by decide +kernel
theorem dX6_work_184 : decode cX6_work 184 = .ok (.aload_n 0, 1) := by decide +kernel
theorem dX6_work_185 : decode cX6_work 185 = .ok (.getfield 20, 3) := by decide +kernel
theorem dX6_work_188 : decode cX6_work 188 = .ok (.iload_n 2, 1) := by decide +kernel
theorem dX6_work_189 : decode cX6_work 189 = .ok (.iaload, 1) := by decide +kernel
theorem dX6_work_190 : decode cX6_work 190 = .ok (.istore_n 3, 1) := by decide +kernel
theorem dX6_work_191 : decode cX6_work 191 = .ok (.aload_n 0, 1) := by decide +kernel
theorem dX6_work_192 : decode cX6_work 192 = .ok (.iload_n 2, 1) := by decide +kernel
theorem dX6_work_193 : decode cX6_work 193 = .ok (.aload_n 0, 1) := by decide +kernel
theorem dX6_work_194 : decode cX6_work 194 = .ok (.getfield 70, 3) := by decide +kernel
theorem dX6_work_197 : decode cX6_work 197 = .ok (.iload_n 3, 1) := by decide +kernel
theorem dX6_work_198 : decode cX6_work 198 = .ok (.laload, 1) := by decide +kernel
theorem dX6_work_199 : decode cX6_work 199 = .ok (.aload_n 0, 1) := by decide +kernel
theorem dX6_work_200 : decode cX6_work 200 = .ok (.getfield 73, 3) := by decide +kernel
theorem dX6_work_203 : decode cX6_work 203 = .ok (.iload_n 3, 1) := by decide +kernel
theorem dX6_work_204 : decode cX6_work 204 = .ok (.laload, 1) := by decide +kernel
theorem dX6_work_205 : decode cX6_work 205 = .ok (.invokevirtual 179, 3) := by decide +kernel
theorem dX6_work_208 : decode cX6_work 208 = .ok (.iinc 2 1, 3) := by decide +kernel
theorem dX6_work_211 : decode cX6_work 211 = .ok (.goto (-49), 3) := by decide +kernel
theorem dX6_work_214 : decode cX6_work 214 = .ok (.return_, 1) := by decide +kernel
theorem dX6_workNow_0 : decode cX6_workNow 0 = .ok (.aload_n 0, 1) := by decide +kernel
theorem dX6_workNow_1 : decode cX6_workNow 1 = .ok (.invokevirtual 183, 3) := by decide +kernel
theorem dX6_workNow_4 : decode cX6_workNow 4 = .ok (.aload_n 0, 1) := by decide +kernel
theorem dX6_workNow_5 : decode cX6_workNow 5 = .ok (.aload_n 0, 1) := by decide +kernel
theorem dX6_workNow_6 : decode cX6_workNow 6 = .ok (.getfield 7, 3) := by decide +kernel
theorem dX6_workNow_9 : decode cX6_workNow 9 = .ok (.invokevirtual 186, 3) := by decide +kernel
theorem dX6_workNow_12 : decode cX6_workNow 12 = .ok (.return_, 1) := by decide +kernel
theorem dX6_flowOf_0 : decode cX6_flowOf 0 = .ok (.aload_n 0, 1) := by decide +kernel
theorem dX6_flowOf_1 : decode cX6_flowOf 1 = .ok (.getfield 54, 3) := by decide +kernel
theorem dX6_flowOf_4 : decode cX6_flowOf 4 = .ok (.iload_n 1, 1) := by decide +kernel
theorem dX6_flowOf_5 : decode cX6_flowOf 5 = .ok (.baload, 1) := by decide +kernel
theorem dX6_flowOf_6 : decode cX6_flowOf 6 = .ok (.ifCond .ne 5, 3) := by decide +kernel
theorem dX6_flowOf_9 : decode cX6_flowOf 9 = .ok (.lconst 0, 1) := by decide +kernel
theorem dX6_flowOf_10 : decode cX6_flowOf 10 = .ok (.lreturn, 1) := by decide +kernel
theorem dX6_flowOf_11 : decode cX6_flowOf 11 = .ok (.aload_n 0, 1) := by decide +kernel
theorem dX6_flowOf_12 : decode cX6_flowOf 12 = .ok (.iload_n 1, 1) := by decide +kernel
theorem dX6_flowOf_13 : decode cX6_flowOf 13 = .ok (.invokevirtual 172, 3) := by decide +kernel
theorem dX6_flowOf_16 : decode cX6_flowOf 16 = .ok (.i2l, 1) := by decide +kernel
theorem dX6_flowOf_17 : decode cX6_flowOf 17 = .ok (.lstore_n 3, 1) := by decide +kernel
theorem dX6_flowOf_18 : decode cX6_flowOf 18 = .ok (.iload_n 2, 1) := by decide +kernel
theorem dX6_flowOf_19 : decode cX6_flowOf 19 = .ok (.ifCond .ne 21, 3) := by decide +kernel
theorem dX6_flowOf_22 : decode cX6_flowOf 22 = .ok (.lload_n 3, 1) := by decide +kernel
theorem dX6_flowOf_23 : decode cX6_flowOf 23 = .ok (.aload_n 0, 1) := by decide +kernel
theorem dX6_flowOf_24 : decode cX6_flowOf 24 = .ok (.getfield 70, 3) := by decide +kernel
theorem dX6_flowOf_27 : decode cX6_flowOf 27 = .ok (.iload_n 1, 1) := by decide +kernel
theorem dX6_flowOf_28 : decode cX6_flowOf 28 = .ok (.laload, 1) := by decide +kernel
theorem dX6_flowOf_29 : decode cX6_flowOf 29 = .ok (.ldc2_w 170, 3) := by decide +kernel
theorem dX6_flowOf_32 : decode cX6_flowOf 32 = .ok (.lmul, 1) := by decide +kernel
theorem dX6_flowOf_33 : decode cX6_flowOf 33 = .ok (.invokestatic 149, 3) := by decide +kernel
theorem dX6_flowOf_36 : decode cX6_flowOf 36 = .ok (.lmul, 1) := by decide +kernel
theorem dX6_flowOf_37 : decode cX6_flowOf 37 = .ok (.goto 18, 3) := by decide +kernel
theorem dX6_flowOf_40 : decode cX6_flowOf 40 = .ok (.lload_n 3, 1) := by decide +kernel
theorem dX6_flowOf_41 : decode cX6_flowOf 41 = .ok (.aload_n 0, 1) := by decide +kernel
theorem dX6_flowOf_42 : decode cX6_flowOf 42 = .ok (.getfield 73, 3) := by decide +kernel
theorem dX6_flowOf_45 : decode cX6_flowOf 45 = .ok (.iload_n 1, 1) := by decide +kernel
theorem dX6_flowOf_46 : decode cX6_flowOf 46 = .ok (.laload, 1) := by decide +kernel
theorem dX6_flowOf_47 : decode cX6_flowOf 47 = .ok (.ldc2_w 170, 3) := by decide +kernel
theorem dX6_flowOf_50 : decode cX6_flowOf 50 = .ok (.lmul, 1) := by decide +kernel
theorem dX6_flowOf_51 : decode cX6_flowOf 51 = .ok (.invokestatic 159, 3) := by decide +kernel
theorem dX6_flowOf_54 : decode cX6_flowOf 54 = .ok (.lmul, 1) := by decide +kernel
theorem dX6_flowOf_55 : decode cX6_flowOf 55 = .ok (.lreturn, 1) := by decide +kernel
theorem dX6_conduct_0 : decode cX6_conduct 0 = .ok (.iload_n 1, 1) := by decide +kernel
theorem dX6_conduct_1 : decode cX6_conduct 1 = .ok (.iconst (-1), 1) := by decide +kernel
theorem dX6_conduct_2 : decode cX6_conduct 2 = .ok (.if_icmp .eq 15, 3) := by decide +kernel
theorem dX6_conduct_5 : decode cX6_conduct 5 = .ok (.aload_n 0, 1) := by decide +kernel
theorem dX6_conduct_6 : decode cX6_conduct 6 = .ok (.iload_n 1, 1) := by decide +kernel
theorem dX6_conduct_7 : decode cX6_conduct 7 = .ok (.invokevirtual 116, 3) := by decide +kernel
theorem dX6_conduct_10 : decode cX6_conduct 10 = .ok (.ifCond .ne 7, 3) := by decide +kernel
theorem dX6_conduct_13 : decode cX6_conduct 13 = .ok (.ldc2_w 189, 3) := by decide +kernel
theorem dX6_conduct_16 : decode cX6_conduct 16 = .ok (.lreturn, 1) := by decide +kernel
theorem dX6_conduct_17 : decode cX6_conduct 17 = .ok (.iload_n 2, 1) := by decide +kernel
theorem dX6_conduct_18 : decode cX6_conduct 18 = .ok (.i2l, 1) := by decide +kernel
theorem dX6_conduct_19 : decode cX6_conduct 19 = .ok (.lconst 0, 1) := by decide +kernel
theorem dX6_conduct_20 : decode cX6_conduct 20 = .ok (.lconst 1, 1) := by decide +kernel
theorem dX6_conduct_21 : decode cX6_conduct 21 = .ok (.invokestatic 112, 3) := by decide +kernel
theorem dX6_conduct_24 : decode cX6_conduct 24 = .ok (.ifCond .ne 7, 3) := by decide +kernel
theorem dX6_conduct_27 : decode cX6_conduct 27 = .ok (.ldc2_w 191, 3) := by decide +kernel
theorem dX6_conduct_30 : decode cX6_conduct 30 = .ok (.lreturn, 1) := by decide +kernel
theorem dX6_conduct_31 : decode cX6_conduct 31 = .ok (.aload_n 0, 1) := by decide +kernel
theorem dX6_conduct_32 : decode cX6_conduct 32 = .ok (.invokevirtual 193, 3) := by decide +kernel
theorem dX6_conduct_35 : decode cX6_conduct 35 = .ok (.iload_n 1, 1) := by decide +kernel
theorem dX6_conduct_36 : decode cX6_conduct 36 = .ok (.ifCond .ge 8, 3) := by decide +kernel
theorem dX6_conduct_39 : decode cX6_conduct 39 = .ok (.bipush 24, 2) := by decide +kernel
theorem dX6_conduct_41 : decode cX6_conduct 41 = .ok (.goto 4, 3) := by decide +kernel
theorem dX6_conduct_44 : decode cX6_conduct 44 = .ok (.iload_n 1, 1) := by decide +kernel
theorem dX6_conduct_45 : decode cX6_conduct 45 = .ok (.istore_n 3, 1) := by decide +kernel
theorem dX6_conduct_46 : decode cX6_conduct 46 = .ok (.iload_n 2, 1) := by decide +kernel
theorem dX6_conduct_47 : decode cX6_conduct 47 = .ok (.ifCond .ne 12, 3) := by decide +kernel
theorem dX6_conduct_50 : decode cX6_conduct 50 = .ok (.aload_n 0, 1) := by decide +kernel
theorem dX6_conduct_51 : decode cX6_conduct 51 = .ok (.getfield 64, 3) := by decide +kernel
theorem dX6_conduct_54 : decode cX6_conduct 54 = .ok (.iload_n 3, 1) := by decide +kernel
theorem dX6_conduct_55 : decode cX6_conduct 55 = .ok (.laload, 1) := by decide +kernel
theorem dX6_conduct_56 : decode cX6_conduct 56 = .ok (.goto 9, 3) := by decide +kernel
theorem dX6_conduct_59 : decode cX6_conduct 59 = .ok (.aload_n 0, 1) := by decide +kernel
theorem dX6_conduct_60 : decode cX6_conduct 60 = .ok (.getfield 67, 3) := by decide +kernel
theorem dX6_conduct_63 : decode cX6_conduct 63 = .ok (.iload_n 3, 1) := by decide +kernel
theorem dX6_conduct_64 : decode cX6_conduct 64 = .ok (.laload, 1) := by decide +kernel
theorem dX6_conduct_65 : decode cX6_conduct 65 = .ok (.lreturn, 1) := by decide +kernel
theorem dX6_pressure_0 : decode cX6_pressure 0 = .ok (.iload_n 1, 1) := by decide +kernel
theorem dX6_pressure_1 : decode cX6_pressure 1 = .ok (.iconst (-1), 1) := by decide +kernel
theorem dX6_pressure_2 : decode cX6_pressure 2 = .ok (.if_icmp .eq 15, 3) := by decide +kernel
theorem dX6_pressure_5 : decode cX6_pressure 5 = .ok (.aload_n 0, 1) := by decide +kernel
theorem dX6_pressure_6 : decode cX6_pressure 6 = .ok (.iload_n 1, 1) := by decide +kernel
theorem dX6_pressure_7 : decode cX6_pressure 7 = .ok (.invokevirtual 116, 3) := by decide +kernel
theorem dX6_pressure_10 : decode cX6_pressure 10 = .ok (.ifCond .ne 7, 3) := by decide +kernel
theorem dX6_pressure_13 : decode cX6_pressure 13 = .ok (.ldc2_w 189, 3) := by decide +kernel
theorem dX6_pressure_16 : decode cX6_pressure 16 = .ok (.lreturn, 1) := by decide +kernel
theorem dX6_pressure_17 : decode cX6_pressure 17 = .ok (.iload_n 2, 1) := by decide +kernel
theorem dX6_pressure_18 : decode cX6_pressure 18 = .ok (.i2l, 1) := by decide +kernel
theorem dX6_pressure_19 : decode cX6_pressure 19 = .ok (.lconst 0, 1) := by decide +kernel
theorem dX6_pressure_20 : decode cX6_pressure 20 = .ok (.lconst 1, 1) := by decide +kernel
theorem dX6_pressure_21 : decode cX6_pressure 21 = .ok (.invokestatic 112, 3) := by decide +kernel
theorem dX6_pressure_24 : decode cX6_pressure 24 = .ok (.ifCond .ne 7, 3) := by decide +kernel
theorem dX6_pressure_27 : decode cX6_pressure 27 = .ok (.ldc2_w 191, 3) := by decide +kernel
theorem dX6_pressure_30 : decode cX6_pressure 30 = .ok (.lreturn, 1) := by decide +kernel
theorem dX6_pressure_31 : decode cX6_pressure 31 = .ok (.aload_n 0, 1) := by decide +kernel
theorem dX6_pressure_32 : decode cX6_pressure 32 = .ok (.invokevirtual 193, 3) := by decide +kernel
theorem dX6_pressure_35 : decode cX6_pressure 35 = .ok (.iload_n 1, 1) := by decide +kernel
theorem dX6_pressure_36 : decode cX6_pressure 36 = .ok (.ifCond .ge 8, 3) := by decide +kernel
theorem dX6_pressure_39 : decode cX6_pressure 39 = .ok (.bipush 24, 2) := by decide +kernel
theorem dX6_pressure_41 : decode cX6_pressure 41 = .ok (.goto 4, 3) := by decide +kernel
theorem dX6_pressure_44 : decode cX6_pressure 44 = .ok (.iload_n 1, 1) := by decide +kernel
theorem dX6_pressure_45 : decode cX6_pressure 45 = .ok (.istore_n 3, 1) := by decide +kernel
theorem dX6_pressure_46 : decode cX6_pressure 46 = .ok (.iload_n 2, 1) := by decide +kernel
theorem dX6_pressure_47 : decode cX6_pressure 47 = .ok (.ifCond .ne 12, 3) := by decide +kernel
theorem dX6_pressure_50 : decode cX6_pressure 50 = .ok (.aload_n 0, 1) := by decide +kernel
theorem dX6_pressure_51 : decode cX6_pressure 51 = .ok (.getfield 70, 3) := by decide +kernel
theorem dX6_pressure_54 : decode cX6_pressure 54 = .ok (.iload_n 3, 1) := by decide +kernel
theorem dX6_pressure_55 : decode cX6_pressure 55 = .ok (.laload, 1) := by decide +kernel
theorem dX6_pressure_56 : decode cX6_pressure 56 = .ok (.goto 9, 3) := by decide +kernel
theorem dX6_pressure_59 : decode cX6_pressure 59 = .ok (.aload_n 0, 1) := by decide +kernel
theorem dX6_pressure_60 : decode cX6_pressure 60 = .ok (.getfield 73, 3) := by decide +kernel
theorem dX6_pressure_63 : decode cX6_pressure 63 = .ok (.iload_n 3, 1) := by decide +kernel
theorem dX6_pressure_64 : decode cX6_pressure 64 = .ok (.laload, 1) := by decide +kernel
theorem dX6_pressure_65 : decode cX6_pressure 65 = .ok (.lreturn, 1) := by decide +kernel
theorem dX6_flow_0 : decode cX6_flow 0 = .ok (.aload_n 0, 1) := by decide +kernel
theorem dX6_flow_1 : decode cX6_flow 1 = .ok (.iload_n 1, 1) := by decide +kernel
theorem dX6_flow_2 : decode cX6_flow 2 = .ok (.invokevirtual 140, 3) := by decide +kernel
theorem dX6_flow_5 : decode cX6_flow 5 = .ok (.ifCond .ne 7, 3) := by decide +kernel
theorem dX6_flow_8 : decode cX6_flow 8 = .ok (.ldc2_w 189, 3) := by decide +kernel
theorem dX6_flow_11 : decode cX6_flow 11 = .ok (.lreturn, 1) := by decide +kernel
theorem dX6_flow_12 : decode cX6_flow 12 = .ok (.iload_n 2, 1) := by decide +kernel
theorem dX6_flow_13 : decode cX6_flow 13 = .ok (.i2l, 1) := by decide +kernel
theorem dX6_flow_14 : decode cX6_flow 14 = .ok (.lconst 0, 1) := by decide +kernel
theorem dX6_flow_15 : decode cX6_flow 15 = .ok (.lconst 1, 1) := by decide +kernel
theorem dX6_flow_16 : decode cX6_flow 16 = .ok (.invokestatic 112, 3) := by decide +kernel
theorem dX6_flow_19 : decode cX6_flow 19 = .ok (.ifCond .ne 7, 3) := by decide +kernel
theorem dX6_flow_22 : decode cX6_flow 22 = .ok (.ldc2_w 191, 3) := by decide +kernel
theorem dX6_flow_25 : decode cX6_flow 25 = .ok (.lreturn, 1) := by decide +kernel
theorem dX6_flow_26 : decode cX6_flow 26 = .ok (.aload_n 0, 1) := by decide +kernel
theorem dX6_flow_27 : decode cX6_flow 27 = .ok (.invokevirtual 193, 3) := by decide +kernel
theorem dX6_flow_30 : decode cX6_flow 30 = .ok (.aload_n 0, 1) := by decide +kernel
theorem dX6_flow_31 : decode cX6_flow 31 = .ok (.iload_n 1, 1) := by decide +kernel
theorem dX6_flow_32 : decode cX6_flow 32 = .ok (.iload_n 2, 1) := by decide +kernel
theorem dX6_flow_33 : decode cX6_flow 33 = .ok (.invokevirtual 196, 3) := by decide +kernel
theorem dX6_flow_36 : decode cX6_flow 36 = .ok (.lreturn, 1) := by decide +kernel
theorem dX6_total_0 : decode cX6_total 0 = .ok (.iload_n 1, 1) := by decide +kernel
theorem dX6_total_1 : decode cX6_total 1 = .ok (.i2l, 1) := by decide +kernel
theorem dX6_total_2 : decode cX6_total 2 = .ok (.lconst 0, 1) := by decide +kernel
theorem dX6_total_3 : decode cX6_total 3 = .ok (.lconst 1, 1) := by decide +kernel
theorem dX6_total_4 : decode cX6_total 4 = .ok (.invokestatic 112, 3) := by decide +kernel
theorem dX6_total_7 : decode cX6_total 7 = .ok (.ifCond .ne 7, 3) := by decide +kernel
theorem dX6_total_10 : decode cX6_total 10 = .ok (.ldc2_w 191, 3) := by decide +kernel
theorem dX6_total_13 : decode cX6_total 13 = .ok (.lreturn, 1) := by decide +kernel
theorem dX6_total_14 : decode cX6_total 14 = .ok (.aload_n 0, 1) := by decide +kernel
theorem dX6_total_15 : decode cX6_total 15 = .ok (.invokevirtual 193, 3) := by decide +kernel
theorem dX6_total_18 : decode cX6_total 18 = .ok (.lconst 0, 1) := by decide +kernel
theorem dX6_total_19 : decode cX6_total 19 = .ok (.lstore_n 2, 1) := by decide +kernel
theorem dX6_total_20 : decode cX6_total 20 = .ok (.iconst 0, 1) := by decide +kernel
theorem dX6_total_21 : decode cX6_total 21 = .ok (.istore 4, 2) := by decide +kernel
theorem dX6_total_23 : decode cX6_total 23 = .ok (.iload 4, 2) := by decide +kernel
theorem dX6_total_25 : decode cX6_total 25 = .ok (.aload_n 0, 1) := by decide +kernel
theorem dX6_total_26 : decode cX6_total 26 = .ok (.getfield 109, 3) := by decide +kernel
theorem dX6_total_29 : decode cX6_total 29 = .ok (.if_icmp .ge 19, 3) := by decide +kernel
theorem dX6_total_32 : decode cX6_total 32 = .ok (.lload_n 2, 1) := by decide +kernel
theorem dX6_total_33 : decode cX6_total 33 = .ok (.aload_n 0, 1) := by decide +kernel
theorem dX6_total_34 : decode cX6_total 34 = .ok (.iload 4, 2) := by decide +kernel
theorem dX6_total_36 : decode cX6_total 36 = .ok (.iload_n 1, 1) := by decide +kernel
theorem dX6_total_37 : decode cX6_total 37 = .ok (.invokevirtual 196, 3) := by decide +kernel
theorem dX6_total_40 : decode cX6_total 40 = .ok (.ladd, 1) := by decide +kernel
theorem dX6_total_41 : decode cX6_total 41 = .ok (.lstore_n 2, 1) := by decide +kernel
theorem dX6_total_42 : decode cX6_total 42 = .ok (.iinc 4 1, 3) := by decide +kernel
theorem dX6_total_45 : decode cX6_total 45 = .ok (.goto (-22), 3) := by decide +kernel
theorem dX6_total_48 : decode cX6_total 48 = .ok (.lload_n 2, 1) := by decide +kernel
theorem dX6_total_49 : decode cX6_total 49 = .ok (.lreturn, 1) := by decide +kernel
theorem dX6_asInt_0 : decode cX6_asInt 0 = .ok (.iload_n 0, 1) := by decide +kernel
theorem dX6_asInt_1 : decode cX6_asInt 1 = .ok (.ifCond .eq 7, 3) := by decide +kernel
theorem dX6_asInt_4 : decode cX6_asInt 4 = .ok (.iconst 1, 1) := by decide +kernel
theorem dX6_asInt_5 : decode cX6_asInt 5 = .ok (.goto 4, 3) := by decide +kernel
theorem dX6_asInt_8 : decode cX6_asInt 8 = .ok (.iconst 0, 1) := by decide +kernel
theorem dX6_asInt_9 : decode cX6_asInt 9 = .ok (.ireturn, 1) := by decide +kernel
theorem dX6_about_0 : decode cX6_about 0 = .ok (.aload_n 0, 1) := by decide +kernel
theorem dX6_about_1 : decode cX6_about 1 = .ok (.iload_n 1, 1) := by decide +kernel
theorem dX6_about_2 : decode cX6_about 2 = .ok (.invokevirtual 116, 3) := by decide +kernel
theorem dX6_about_5 : decode cX6_about 5 = .ok (.ifCond .ne 5, 3) := by decide +kernel
theorem dX6_about_8 : decode cX6_about 8 = .ok (.iconst (-1), 1) := by decide +kernel
theorem dX6_about_9 : decode cX6_about 9 = .ok (.ireturn, 1) := by decide +kernel
theorem dX6_about_10 : decode cX6_about 10 = .ok (.aload_n 0, 1) := by decide +kernel
theorem dX6_about_11 : decode cX6_about 11 = .ok (.getfield 39, 3) := by decide +kernel
theorem dX6_about_14 : decode cX6_about 14 = .ok (.iload_n 1, 1) := by decide +kernel
theorem dX6_about_15 : decode cX6_about 15 = .ok (.baload, 1) := by decide +kernel
theorem dX6_about_16 : decode cX6_about 16 = .ok (.istore_n 3, 1) := by decide +kernel
theorem dX6_about_17 : decode cX6_about 17 = .ok (.iload_n 2, 1) := by decide +kernel
theorem dX6_about_18 : decode cX6_about 18 = .ok (.tableswitch 207 0 10 #[58, 65, 72, 79, 89, 94, 100, 115, 137, 152, 162], 58) := by decide +kernel
theorem dX6_about_76 : decode cX6_about 76 = .ok (.aload_n 0, 1) := by decide +kernel
theorem dX6_about_77 : decode cX6_about 77 = .ok (.getfield 20, 3) := by decide +kernel
theorem dX6_about_80 : decode cX6_about 80 = .ok (.iload_n 1, 1) := by decide +kernel
theorem dX6_about_81 : decode cX6_about 81 = .ok (.iaload, 1) := by decide +kernel
theorem dX6_about_82 : decode cX6_about 82 = .ok (.ireturn, 1) := by decide +kernel
theorem dX6_about_83 : decode cX6_about 83 = .ok (.aload_n 0, 1) := by decide +kernel
theorem dX6_about_84 : decode cX6_about 84 = .ok (.getfield 23, 3) := by decide +kernel
theorem dX6_about_87 : decode cX6_about 87 = .ok (.iload_n 1, 1) := by decide +kernel
theorem dX6_about_88 : decode cX6_about 88 = .ok (.iaload, 1) := by decide +kernel
theorem dX6_about_89 : decode cX6_about 89 = .ok (.ireturn, 1) := by decide +kernel
theorem dX6_about_90 : decode cX6_about 90 = .ok (.aload_n 0, 1) := by decide +kernel
theorem dX6_about_91 : decode cX6_about 91 = .ok (.getfield 26, 3) := by decide +kernel
theorem dX6_about_94 : decode cX6_about 94 = .ok (.iload_n 1, 1) := by decide +kernel
theorem dX6_about_95 : decode cX6_about 95 = .ok (.iaload, 1) := by decide +kernel
theorem dX6_about_96 : decode cX6_about 96 = .ok (.ireturn, 1) := by decide +kernel
theorem dX6_about_97 : decode cX6_about 97 = .ok (.aload_n 0, 1) := by decide +kernel
theorem dX6_about_98 : decode cX6_about 98 = .ok (.getfield 32, 3) := by decide +kernel
theorem dX6_about_101 : decode cX6_about 101 = .ok (.iload_n 1, 1) := by decide +kernel
theorem dX6_about_102 : decode cX6_about 102 = .ok (.baload, 1) := by decide +kernel
theorem dX6_about_103 : decode cX6_about 103 = .ok (.invokestatic 200, 3) := by decide +kernel
theorem dX6_about_106 : decode cX6_about 106 = .ok (.ireturn, 1) := by decide +kernel
theorem dX6_about_107 : decode cX6_about 107 = .ok (.iload_n 3, 1) := by decide +kernel
theorem dX6_about_108 : decode cX6_about 108 = .ok (.invokestatic 200, 3) := by decide +kernel
theorem dX6_about_111 : decode cX6_about 111 = .ok (.ireturn, 1) := by decide +kernel
theorem dX6_about_112 : decode cX6_about 112 = .ok (.aload_n 0, 1) := by decide +kernel
theorem dX6_about_113 : decode cX6_about 113 = .ok (.iload_n 1, 1) := by decide +kernel
theorem dX6_about_114 : decode cX6_about 114 = .ok (.invokevirtual 172, 3) := by decide +kernel
theorem dX6_about_117 : decode cX6_about 117 = .ok (.ireturn, 1) := by decide +kernel
theorem dX6_about_118 : decode cX6_about 118 = .ok (.iload_n 3, 1) := by decide +kernel
theorem dX6_about_119 : decode cX6_about 119 = .ok (.ifCond .eq 12, 3) := by decide +kernel
theorem dX6_about_122 : decode cX6_about 122 = .ok (.aload_n 0, 1) := by decide +kernel
theorem dX6_about_123 : decode cX6_about 123 = .ok (.getfield 45, 3) := by decide +kernel
theorem dX6_about_126 : decode cX6_about 126 = .ok (.iload_n 1, 1) := by decide +kernel
theorem dX6_about_127 : decode cX6_about 127 = .ok (.iaload, 1) := by decide +kernel
theorem dX6_about_128 : decode cX6_about 128 = .ok (.goto 4, 3) := by decide +kernel
theorem dX6_about_131 : decode cX6_about 131 = .ok (.iconst 0, 1) := by decide +kernel
theorem dX6_about_132 : decode cX6_about 132 = .ok (.ireturn, 1) := by decide +kernel
theorem dX6_about_133 : decode cX6_about 133 = .ok (.iload_n 3, 1) := by decide +kernel
theorem dX6_about_134 : decode cX6_about 134 = .ok (.ifCond .eq 16, 3) := by decide +kernel
theorem dX6_about_137 : decode cX6_about 137 = .ok (.aload_n 0, 1) := by decide +kernel
theorem dX6_about_138 : decode cX6_about 138 = .ok (.getfield 48, 3) := by decide +kernel
theorem dX6_about_141 : decode cX6_about 141 = .ok (.iload_n 1, 1) := by decide +kernel
theorem dX6_about_142 : decode cX6_about 142 = .ok (.baload, 1) := by decide +kernel
theorem dX6_about_143 : decode cX6_about 143 = .ok (.ifCond .eq 7, 3) := by decide +kernel
theorem dX6_about_146 : decode cX6_about 146 = .ok (.iconst 1, 1) := by decide +kernel
theorem dX6_about_147 : decode cX6_about 147 = .ok (.goto 4, 3) := by decide +kernel
theorem dX6_about_150 : decode cX6_about 150 = .ok (.iconst 0, 1) := by decide +kernel
theorem dX6_about_151 : decode cX6_about 151 = .ok (.invokestatic 200, 3) := by decide +kernel
theorem dX6_about_154 : decode cX6_about 154 = .ok (.ireturn, 1) := by decide +kernel
theorem dX6_about_155 : decode cX6_about 155 = .ok (.iload_n 3, 1) := by decide +kernel
theorem dX6_about_156 : decode cX6_about 156 = .ok (.ifCond .eq 12, 3) := by decide +kernel
theorem dX6_about_159 : decode cX6_about 159 = .ok (.aload_n 0, 1) := by decide +kernel
theorem dX6_about_160 : decode cX6_about 160 = .ok (.getfield 51, 3) := by decide +kernel
theorem dX6_about_163 : decode cX6_about 163 = .ok (.iload_n 1, 1) := by decide +kernel
theorem dX6_about_164 : decode cX6_about 164 = .ok (.iaload, 1) := by decide +kernel
theorem dX6_about_165 : decode cX6_about 165 = .ok (.goto 4, 3) := by decide +kernel
theorem dX6_about_168 : decode cX6_about 168 = .ok (.iconst 0, 1) := by decide +kernel
theorem dX6_about_169 : decode cX6_about 169 = .ok (.ireturn, 1) := by decide +kernel
theorem dX6_about_170 : decode cX6_about 170 = .ok (.aload_n 0, 1) := by decide +kernel
theorem dX6_about_171 : decode cX6_about 171 = .ok (.getfield 36, 3) := by decide +kernel
theorem dX6_about_174 : decode cX6_about 174 = .ok (.iload_n 1, 1) := by decide +kernel
theorem dX6_about_175 : decode cX6_about 175 = .ok (.baload, 1) := by decide +kernel
theorem dX6_about_176 : decode cX6_about 176 = .ok (.invokestatic 200, 3) := by decide +kernel
theorem dX6_about_179 : decode cX6_about 179 = .ok (.ireturn, 1) := by decide +kernel
theorem dX6_about_180 : decode cX6_about 180 = .ok (.iconst 0, 1) := by decide +kernel
theorem dX6_about_181 : decode cX6_about 181 = .ok (.istore 4, 2) := by decide +kernel
theorem dX6_about_183 : decode cX6_about 183 = .ok (.iconst 0, 1) := by decide +kernel
theorem dX6_about_184 : decode cX6_about 184 = .ok (.istore 5, 2) := by decide +kernel
theorem dX6_about_186 : decode cX6_about 186 = .ok (.iload 5, 2) := by decide +kernel
theorem dX6_about_188 : decode cX6_about 188 = .ok (.aload_n 0, 1) := by decide +kernel
theorem dX6_about_189 : decode cX6_about 189 = .ok (.getfield 109, 3) := by decide +kernel
theorem dX6_about_192 : decode cX6_about 192 = .ok (.if_icmp .ge 30, 3) := by decide +kernel
theorem dX6_about_195 : decode cX6_about 195 = .ok (.iload 4, 2) := by decide +kernel
theorem dX6_about_197 : decode cX6_about 197 = .ok (.aload_n 0, 1) := by decide +kernel
theorem dX6_about_198 : decode cX6_about 198 = .ok (.getfield 20, 3) := by decide +kernel
theorem dX6_about_201 : decode cX6_about 201 = .ok (.iload 5, 2) := by decide +kernel
theorem dX6_about_203 : decode cX6_about 203 = .ok (.iaload, 1) := by decide +kernel
theorem dX6_about_204 : decode cX6_about 204 = .ok (.iload_n 1, 1) := by decide +kernel
theorem dX6_about_205 : decode cX6_about 205 = .ok (.if_icmp .ne 7, 3) := by decide +kernel
theorem dX6_about_208 : decode cX6_about 208 = .ok (.iconst 1, 1) := by decide +kernel
theorem dX6_about_209 : decode cX6_about 209 = .ok (.goto 4, 3) := by decide +kernel
theorem dX6_about_212 : decode cX6_about 212 = .ok (.iconst 0, 1) := by decide +kernel
theorem dX6_about_213 : decode cX6_about 213 = .ok (.iadd, 1) := by decide +kernel
theorem dX6_about_214 : decode cX6_about 214 = .ok (.istore 4, 2) := by decide +kernel
theorem dX6_about_216 : decode cX6_about 216 = .ok (.iinc 5 1, 3) := by decide +kernel
theorem dX6_about_219 : decode cX6_about 219 = .ok (.goto (-33), 3) := by decide +kernel
theorem dX6_about_222 : decode cX6_about 222 = .ok (.iload 4, 2) := by decide +kernel
theorem dX6_about_224 : decode cX6_about 224 = .ok (.ireturn, 1) := by decide +kernel
theorem dX6_about_225 : decode cX6_about 225 = .ok (.bipush (-2), 2) := by decide +kernel
theorem dX6_about_227 : decode cX6_about 227 = .ok (.ireturn, 1) := by decide +kernel
theorem dX6_spare_0 : decode cX6_spare 0 = .ok (.aload_n 0, 1) := by decide +kernel
theorem dX6_spare_1 : decode cX6_spare 1 = .ok (.iload_n 1, 1) := by decide +kernel
theorem dX6_spare_2 : decode cX6_spare 2 = .ok (.iconst 0, 1) := by decide +kernel
theorem dX6_spare_3 : decode cX6_spare 3 = .ok (.invokevirtual 196, 3) := by decide +kernel
theorem dX6_spare_6 : decode cX6_spare 6 = .ok (.ldc2_w 170, 3) := by decide +kernel
theorem dX6_spare_9 : decode cX6_spare 9 = .ok (.aload_n 0, 1) := by decide +kernel
theorem dX6_spare_10 : decode cX6_spare 10 = .ok (.getfield 45, 3) := by decide +kernel
theorem dX6_spare_13 : decode cX6_spare 13 = .ok (.iload_n 1, 1) := by decide +kernel
theorem dX6_spare_14 : decode cX6_spare 14 = .ok (.iaload, 1) := by decide +kernel
theorem dX6_spare_15 : decode cX6_spare 15 = .ok (.i2l, 1) := by decide +kernel
theorem dX6_spare_16 : decode cX6_spare 16 = .ok (.lmul, 1) := by decide +kernel
theorem dX6_spare_17 : decode cX6_spare 17 = .ok (.lsub, 1) := by decide +kernel
theorem dX6_spare_18 : decode cX6_spare 18 = .ok (.lreturn, 1) := by decide +kernel
theorem dX6_worst_0 : decode cX6_worst 0 = .ok (.aload_n 0, 1) := by decide +kernel
theorem dX6_worst_1 : decode cX6_worst 1 = .ok (.invokevirtual 193, 3) := by decide +kernel
theorem dX6_worst_4 : decode cX6_worst 4 = .ok (.bipush (-6), 2) := by decide +kernel
theorem dX6_worst_6 : decode cX6_worst 6 = .ok (.istore_n 1, 1) := by decide +kernel
theorem dX6_worst_7 : decode cX6_worst 7 = .ok (.iconst 0, 1) := by decide +kernel
theorem dX6_worst_8 : decode cX6_worst 8 = .ok (.istore_n 2, 1) := by decide +kernel
theorem dX6_worst_9 : decode cX6_worst 9 = .ok (.iload_n 2, 1) := by decide +kernel
theorem dX6_worst_10 : decode cX6_worst 10 = .ok (.aload_n 0, 1) := by decide +kernel
theorem dX6_worst_11 : decode cX6_worst 11 = .ok (.getfield 109, 3) := by decide +kernel
theorem dX6_worst_14 : decode cX6_worst 14 = .ok (.if_icmp .ge 38, 3) := by decide +kernel
theorem dX6_worst_17 : decode cX6_worst 17 = .ok (.aload_n 0, 1) := by decide +kernel
theorem dX6_worst_18 : decode cX6_worst 18 = .ok (.getfield 54, 3) := by decide +kernel
theorem dX6_worst_21 : decode cX6_worst 21 = .ok (.iload_n 2, 1) := by decide +kernel
theorem dX6_worst_22 : decode cX6_worst 22 = .ok (.baload, 1) := by decide +kernel
theorem dX6_worst_23 : decode cX6_worst 23 = .ok (.ifCond .eq 23, 3) := by decide +kernel
theorem dX6_worst_26 : decode cX6_worst 26 = .ok (.iload_n 1, 1) := by decide +kernel
theorem dX6_worst_27 : decode cX6_worst 27 = .ok (.ifCond .lt 17, 3) := by decide +kernel
theorem dX6_worst_30 : decode cX6_worst 30 = .ok (.aload_n 0, 1) := by decide +kernel
theorem dX6_worst_31 : decode cX6_worst 31 = .ok (.iload_n 2, 1) := by decide +kernel
theorem dX6_worst_32 : decode cX6_worst 32 = .ok (.invokevirtual 204, 3) := by decide +kernel
theorem dX6_worst_35 : decode cX6_worst 35 = .ok (.aload_n 0, 1) := by decide +kernel
theorem dX6_worst_36 : decode cX6_worst 36 = .ok (.iload_n 1, 1) := by decide +kernel
theorem dX6_worst_37 : decode cX6_worst 37 = .ok (.invokevirtual 204, 3) := by decide +kernel
theorem dX6_worst_40 : decode cX6_worst 40 = .ok (.lcmp, 1) := by decide +kernel
theorem dX6_worst_41 : decode cX6_worst 41 = .ok (.ifCond .ge 5, 3) := by decide +kernel
theorem dX6_worst_44 : decode cX6_worst 44 = .ok (.iload_n 2, 1) := by decide +kernel
theorem dX6_worst_45 : decode cX6_worst 45 = .ok (.istore_n 1, 1) := by decide +kernel
theorem dX6_worst_46 : decode cX6_worst 46 = .ok (.iinc 2 1, 3) := by decide +kernel
theorem dX6_worst_49 : decode cX6_worst 49 = .ok (.goto (-40), 3) := by decide +kernel
theorem dX6_worst_52 : decode cX6_worst 52 = .ok (.iload_n 1, 1) := by decide +kernel
theorem dX6_worst_53 : decode cX6_worst 53 = .ok (.ireturn, 1) := by decide +kernel
theorem dX6_heap_0 : decode cX6_heap 0 = .ok (.aload_n 0, 1) := by decide +kernel
theorem dX6_heap_1 : decode cX6_heap 1 = .ok (.getfield 208, 3) := by decide +kernel
theorem dX6_heap_4 : decode cX6_heap 4 = .ok (.bipush 6, 2) := by decide +kernel
theorem dX6_heap_6 : decode cX6_heap 6 = .ok (.if_icmp .ne 6, 3) := by decide +kernel
theorem dX6_heap_9 : decode cX6_heap 9 = .ok (.bipush (-4), 2) := by decide +kernel
theorem dX6_heap_11 : decode cX6_heap 11 = .ok (.ireturn, 1) := by decide +kernel
theorem dX6_heap_12 : decode cX6_heap 12 = .ok (.aload_n 0, 1) := by decide +kernel
theorem dX6_heap_13 : decode cX6_heap 13 = .ok (.dup, 1) := by decide +kernel
theorem dX6_heap_14 : decode cX6_heap 14 = .ok (.getfield 208, 3) := by decide +kernel
theorem dX6_heap_17 : decode cX6_heap 17 = .ok (.iconst 1, 1) := by decide +kernel
theorem dX6_heap_18 : decode cX6_heap 18 = .ok (.iadd, 1) := by decide +kernel
theorem dX6_heap_19 : decode cX6_heap 19 = .ok (.putfield 208, 3) := by decide +kernel
theorem dX6_heap_22 : decode cX6_heap 22 = .ok (.aload_n 0, 1) := by decide +kernel
theorem dX6_heap_23 : decode cX6_heap 23 = .ok (.getfield 208, 3) := by decide +kernel
theorem dX6_heap_26 : decode cX6_heap 26 = .ok (.iconst 1, 1) := by decide +kernel
theorem dX6_heap_27 : decode cX6_heap 27 = .ok (.isub, 1) := by decide +kernel
theorem dX6_heap_28 : decode cX6_heap 28 = .ok (.ireturn, 1) := by decide +kernel
theorem dX6_isHeap_0 : decode cX6_isHeap 0 = .ok (.iload_n 1, 1) := by decide +kernel
theorem dX6_isHeap_1 : decode cX6_isHeap 1 = .ok (.i2l, 1) := by decide +kernel
theorem dX6_isHeap_2 : decode cX6_isHeap 2 = .ok (.lconst 0, 1) := by decide +kernel
theorem dX6_isHeap_3 : decode cX6_isHeap 3 = .ok (.aload_n 0, 1) := by decide +kernel
theorem dX6_isHeap_4 : decode cX6_isHeap 4 = .ok (.getfield 208, 3) := by decide +kernel
theorem dX6_isHeap_7 : decode cX6_isHeap 7 = .ok (.iconst 1, 1) := by decide +kernel
theorem dX6_isHeap_8 : decode cX6_isHeap 8 = .ok (.isub, 1) := by decide +kernel
theorem dX6_isHeap_9 : decode cX6_isHeap 9 = .ok (.i2l, 1) := by decide +kernel
theorem dX6_isHeap_10 : decode cX6_isHeap 10 = .ok (.invokestatic 112, 3) := by decide +kernel
theorem dX6_isHeap_13 : decode cX6_isHeap 13 = .ok (.ireturn, 1) := by decide +kernel
theorem dX6_put_0 : decode cX6_put 0 = .ok (.aload_n 0, 1) := by decide +kernel
theorem dX6_put_1 : decode cX6_put 1 = .ok (.iload_n 1, 1) := by decide +kernel
theorem dX6_put_2 : decode cX6_put 2 = .ok (.invokevirtual 211, 3) := by decide +kernel
theorem dX6_put_5 : decode cX6_put 5 = .ok (.ifCond .eq 11, 3) := by decide +kernel
theorem dX6_put_8 : decode cX6_put 8 = .ok (.aload_n 0, 1) := by decide +kernel
theorem dX6_put_9 : decode cX6_put 9 = .ok (.iload_n 2, 1) := by decide +kernel
theorem dX6_put_10 : decode cX6_put 10 = .ok (.invokevirtual 140, 3) := by decide +kernel
theorem dX6_put_13 : decode cX6_put 13 = .ok (.ifCond .ne 5, 3) := by decide +kernel
theorem dX6_put_16 : decode cX6_put 16 = .ok (.iconst (-1), 1) := by decide +kernel
theorem dX6_put_17 : decode cX6_put 17 = .ok (.ireturn, 1) := by decide +kernel
theorem dX6_put_18 : decode cX6_put 18 = .ok (.aload_n 0, 1) := by decide +kernel
theorem dX6_put_19 : decode cX6_put 19 = .ok (.getfield 76, 3) := by decide +kernel
theorem dX6_put_22 : decode cX6_put 22 = .ok (.bipush 24, 2) := by decide +kernel
theorem dX6_put_24 : decode cX6_put 24 = .ok (.iload_n 1, 1) := by decide +kernel
theorem dX6_put_25 : decode cX6_put 25 = .ok (.imul, 1) := by decide +kernel
theorem dX6_put_26 : decode cX6_put 26 = .ok (.iload_n 2, 1) := by decide +kernel
theorem dX6_put_27 : decode cX6_put 27 = .ok (.iadd, 1) := by decide +kernel
theorem dX6_put_28 : decode cX6_put 28 = .ok (.iload_n 3, 1) := by decide +kernel
theorem dX6_put_29 : decode cX6_put 29 = .ok (.bastore, 1) := by decide +kernel
theorem dX6_put_30 : decode cX6_put 30 = .ok (.iconst 0, 1) := by decide +kernel
theorem dX6_put_31 : decode cX6_put 31 = .ok (.istore 4, 2) := by decide +kernel
theorem dX6_put_33 : decode cX6_put 33 = .ok (.iconst 0, 1) := by decide +kernel
theorem dX6_put_34 : decode cX6_put 34 = .ok (.istore 5, 2) := by decide +kernel
theorem dX6_put_36 : decode cX6_put 36 = .ok (.iload 5, 2) := by decide +kernel
theorem dX6_put_38 : decode cX6_put 38 = .ok (.aload_n 0, 1) := by decide +kernel
theorem dX6_put_39 : decode cX6_put 39 = .ok (.getfield 109, 3) := by decide +kernel
theorem dX6_put_42 : decode cX6_put 42 = .ok (.if_icmp .ge 34, 3) := by decide +kernel
theorem dX6_put_45 : decode cX6_put 45 = .ok (.iload 4, 2) := by decide +kernel
theorem dX6_put_47 : decode cX6_put 47 = .ok (.aload_n 0, 1) := by decide +kernel
theorem dX6_put_48 : decode cX6_put 48 = .ok (.getfield 76, 3) := by decide +kernel
theorem dX6_put_51 : decode cX6_put 51 = .ok (.bipush 24, 2) := by decide +kernel
theorem dX6_put_53 : decode cX6_put 53 = .ok (.iload_n 1, 1) := by decide +kernel
theorem dX6_put_54 : decode cX6_put 54 = .ok (.imul, 1) := by decide +kernel
theorem dX6_put_55 : decode cX6_put 55 = .ok (.iload 5, 2) := by decide +kernel
theorem dX6_put_57 : decode cX6_put 57 = .ok (.iadd, 1) := by decide +kernel
theorem dX6_put_58 : decode cX6_put 58 = .ok (.baload, 1) := by decide +kernel
theorem dX6_put_59 : decode cX6_put 59 = .ok (.ifCond .eq 7, 3) := by decide +kernel
theorem dX6_put_62 : decode cX6_put 62 = .ok (.iconst 1, 1) := by decide +kernel
theorem dX6_put_63 : decode cX6_put 63 = .ok (.goto 4, 3) := by decide +kernel
theorem dX6_put_66 : decode cX6_put 66 = .ok (.iconst 0, 1) := by decide +kernel
theorem dX6_put_67 : decode cX6_put 67 = .ok (.iadd, 1) := by decide +kernel
theorem dX6_put_68 : decode cX6_put 68 = .ok (.istore 4, 2) := by decide +kernel
theorem dX6_put_70 : decode cX6_put 70 = .ok (.iinc 5 1, 3) := by decide +kernel
theorem dX6_put_73 : decode cX6_put 73 = .ok (.goto (-37), 3) := by decide +kernel
theorem dX6_put_76 : decode cX6_put 76 = .ok (.iload 4, 2) := by decide +kernel
theorem dX6_put_78 : decode cX6_put 78 = .ok (.ireturn, 1) := by decide +kernel
theorem dX6_leastOf_0 : decode cX6_leastOf 0 = .ok (.iconst 0, 1) := by decide +kernel
theorem dX6_leastOf_1 : decode cX6_leastOf 1 = .ok (.istore_n 3, 1) := by decide +kernel
theorem dX6_leastOf_2 : decode cX6_leastOf 2 = .ok (.iload_n 3, 1) := by decide +kernel
theorem dX6_leastOf_3 : decode cX6_leastOf 3 = .ok (.aload_n 0, 1) := by decide +kernel
theorem dX6_leastOf_4 : decode cX6_leastOf 4 = .ok (.getfield 109, 3) := by decide +kernel
theorem dX6_leastOf_7 : decode cX6_leastOf 7 = .ok (.if_icmp .ge 43, 3) := by decide +kernel
theorem dX6_leastOf_10 : decode cX6_leastOf 10 = .ok (.aload_n 0, 1) := by decide +kernel
theorem dX6_leastOf_11 : decode cX6_leastOf 11 = .ok (.getfield 54, 3) := by decide +kernel
theorem dX6_leastOf_14 : decode cX6_leastOf 14 = .ok (.iload_n 3, 1) := by decide +kernel
theorem dX6_leastOf_15 : decode cX6_leastOf 15 = .ok (.aload_n 0, 1) := by decide +kernel
theorem dX6_leastOf_16 : decode cX6_leastOf 16 = .ok (.getfield 39, 3) := by decide +kernel
theorem dX6_leastOf_19 : decode cX6_leastOf 19 = .ok (.iload_n 3, 1) := by decide +kernel
theorem dX6_leastOf_20 : decode cX6_leastOf 20 = .ok (.baload, 1) := by decide +kernel
theorem dX6_leastOf_21 : decode cX6_leastOf 21 = .ok (.ifCond .eq 21, 3) := by decide +kernel
theorem dX6_leastOf_24 : decode cX6_leastOf 24 = .ok (.aload_n 0, 1) := by decide +kernel
theorem dX6_leastOf_25 : decode cX6_leastOf 25 = .ok (.getfield 76, 3) := by decide +kernel
theorem dX6_leastOf_28 : decode cX6_leastOf 28 = .ok (.bipush 24, 2) := by decide +kernel
theorem dX6_leastOf_30 : decode cX6_leastOf 30 = .ok (.iload_n 1, 1) := by decide +kernel
theorem dX6_leastOf_31 : decode cX6_leastOf 31 = .ok (.imul, 1) := by decide +kernel
theorem dX6_leastOf_32 : decode cX6_leastOf 32 = .ok (.iload_n 3, 1) := by decide +kernel
theorem dX6_leastOf_33 : decode cX6_leastOf 33 = .ok (.iadd, 1) := by decide +kernel
theorem dX6_leastOf_34 : decode cX6_leastOf 34 = .ok (.baload, 1) := by decide +kernel
theorem dX6_leastOf_35 : decode cX6_leastOf 35 = .ok (.ifCond .eq 7, 3) := by decide +kernel
theorem dX6_leastOf_38 : decode cX6_leastOf 38 = .ok (.iconst 1, 1) := by decide +kernel
theorem dX6_leastOf_39 : decode cX6_leastOf 39 = .ok (.goto 4, 3) := by decide +kernel
theorem dX6_leastOf_42 : decode cX6_leastOf 42 = .ok (.iconst 0, 1) := by decide +kernel
theorem dX6_leastOf_43 : decode cX6_leastOf 43 = .ok (.bastore, 1) := by decide +kernel
theorem dX6_leastOf_44 : decode cX6_leastOf 44 = .ok (.iinc 3 1, 3) := by decide +kernel
theorem dX6_leastOf_47 : decode cX6_leastOf 47 = .ok (.goto (-45), 3) := by decide +kernel
theorem dX6_leastOf_50 : decode cX6_leastOf 50 = .ok (.aload_n 0, 1) := by decide +kernel
theorem dX6_leastOf_51 : decode cX6_leastOf 51 = .ok (.iload_n 2, 1) := by decide +kernel
theorem dX6_leastOf_52 : decode cX6_leastOf 52 = .ok (.invokevirtual 186, 3) := by decide +kernel
theorem dX6_leastOf_55 : decode cX6_leastOf 55 = .ok (.iconst 0, 1) := by decide +kernel
theorem dX6_leastOf_56 : decode cX6_leastOf 56 = .ok (.istore_n 3, 1) := by decide +kernel
theorem dX6_leastOf_57 : decode cX6_leastOf 57 = .ok (.lconst 0, 1) := by decide +kernel
theorem dX6_leastOf_58 : decode cX6_leastOf 58 = .ok (.lstore 4, 2) := by decide +kernel
theorem dX6_leastOf_60 : decode cX6_leastOf 60 = .ok (.iconst 0, 1) := by decide +kernel
theorem dX6_leastOf_61 : decode cX6_leastOf 61 = .ok (.istore 6, 2) := by decide +kernel
theorem dX6_leastOf_63 : decode cX6_leastOf 63 = .ok (.iload 6, 2) := by decide +kernel
theorem dX6_leastOf_65 : decode cX6_leastOf 65 = .ok (.aload_n 0, 1) := by decide +kernel
theorem dX6_leastOf_66 : decode cX6_leastOf 66 = .ok (.getfield 109, 3) := by decide +kernel
theorem dX6_leastOf_69 : decode cX6_leastOf 69 = .ok (.if_icmp .ge 50, 3) := by decide +kernel
theorem dX6_leastOf_72 : decode cX6_leastOf 72 = .ok (.aload_n 0, 1) := by decide +kernel
theorem dX6_leastOf_73 : decode cX6_leastOf 73 = .ok (.getfield 54, 3) := by decide +kernel
theorem dX6_leastOf_76 : decode cX6_leastOf 76 = .ok (.iload 6, 2) := by decide +kernel
theorem dX6_leastOf_78 : decode cX6_leastOf 78 = .ok (.baload, 1) := by decide +kernel
theorem dX6_leastOf_79 : decode cX6_leastOf 79 = .ok (.ifCond .eq 34, 3) := by decide +kernel
theorem dX6_leastOf_82 : decode cX6_leastOf 82 = .ok (.aload_n 0, 1) := by decide +kernel
theorem dX6_leastOf_83 : decode cX6_leastOf 83 = .ok (.iload 6, 2) := by decide +kernel
theorem dX6_leastOf_85 : decode cX6_leastOf 85 = .ok (.invokevirtual 204, 3) := by decide +kernel
theorem dX6_leastOf_88 : decode cX6_leastOf 88 = .ok (.lstore 7, 2) := by decide +kernel
theorem dX6_leastOf_90 : decode cX6_leastOf 90 = .ok (.iload_n 3, 1) := by decide +kernel
theorem dX6_leastOf_91 : decode cX6_leastOf 91 = .ok (.ifCond .eq 11, 3) := by decide +kernel
theorem dX6_leastOf_94 : decode cX6_leastOf 94 = .ok (.lload 7, 2) := by decide +kernel
theorem dX6_leastOf_96 : decode cX6_leastOf 96 = .ok (.lload 4, 2) := by decide +kernel
theorem dX6_leastOf_98 : decode cX6_leastOf 98 = .ok (.lcmp, 1) := by decide +kernel
theorem dX6_leastOf_99 : decode cX6_leastOf 99 = .ok (.ifCond .ge 8, 3) := by decide +kernel
theorem dX6_leastOf_102 : decode cX6_leastOf 102 = .ok (.lload 7, 2) := by decide +kernel
theorem dX6_leastOf_104 : decode cX6_leastOf 104 = .ok (.goto 5, 3) := by decide +kernel
theorem dX6_leastOf_107 : decode cX6_leastOf 107 = .ok (.lload 4, 2) := by decide +kernel
theorem dX6_leastOf_109 : decode cX6_leastOf 109 = .ok (.lstore 4, 2) := by decide +kernel
theorem dX6_leastOf_111 : decode cX6_leastOf 111 = .ok (.iconst 1, 1) := by decide +kernel
theorem dX6_leastOf_112 : decode cX6_leastOf 112 = .ok (.istore_n 3, 1) := by decide +kernel
theorem dX6_leastOf_113 : decode cX6_leastOf 113 = .ok (.iinc 6 1, 3) := by decide +kernel
theorem dX6_leastOf_116 : decode cX6_leastOf 116 = .ok (.goto (-53), 3) := by decide +kernel
theorem dX6_leastOf_119 : decode cX6_leastOf 119 = .ok (.lload 4, 2) := by decide +kernel
theorem dX6_leastOf_121 : decode cX6_leastOf 121 = .ok (.lreturn, 1) := by decide +kernel
theorem dX6_least_0 : decode cX6_least 0 = .ok (.aload_n 0, 1) := by decide +kernel
theorem dX6_least_1 : decode cX6_least 1 = .ok (.iload_n 1, 1) := by decide +kernel
theorem dX6_least_2 : decode cX6_least 2 = .ok (.invokevirtual 211, 3) := by decide +kernel
theorem dX6_least_5 : decode cX6_least 5 = .ok (.ifCond .eq 15, 3) := by decide +kernel
theorem dX6_least_8 : decode cX6_least 8 = .ok (.aload_n 0, 1) := by decide +kernel
theorem dX6_least_9 : decode cX6_least 9 = .ok (.iload_n 1, 1) := by decide +kernel
theorem dX6_least_10 : decode cX6_least 10 = .ok (.aload_n 0, 1) := by decide +kernel
theorem dX6_least_11 : decode cX6_least 11 = .ok (.getfield 7, 3) := by decide +kernel
theorem dX6_least_14 : decode cX6_least 14 = .ok (.invokevirtual 214, 3) := by decide +kernel
theorem dX6_least_17 : decode cX6_least 17 = .ok (.goto 6, 3) := by decide +kernel
theorem dX6_least_20 : decode cX6_least 20 = .ok (.ldc2_w 217, 3) := by decide +kernel
theorem dX6_least_23 : decode cX6_least 23 = .ok (.lreturn, 1) := by decide +kernel
theorem dX6_thinnest_0 : decode cX6_thinnest 0 = .ok (.bipush (-6), 2) := by decide +kernel
theorem dX6_thinnest_2 : decode cX6_thinnest 2 = .ok (.istore_n 1, 1) := by decide +kernel
theorem dX6_thinnest_3 : decode cX6_thinnest 3 = .ok (.lconst 0, 1) := by decide +kernel
theorem dX6_thinnest_4 : decode cX6_thinnest 4 = .ok (.lstore_n 2, 1) := by decide +kernel
theorem dX6_thinnest_5 : decode cX6_thinnest 5 = .ok (.iconst 0, 1) := by decide +kernel
theorem dX6_thinnest_6 : decode cX6_thinnest 6 = .ok (.istore 4, 2) := by decide +kernel
theorem dX6_thinnest_8 : decode cX6_thinnest 8 = .ok (.iload 4, 2) := by decide +kernel
theorem dX6_thinnest_10 : decode cX6_thinnest 10 = .ok (.aload_n 0, 1) := by decide +kernel
theorem dX6_thinnest_11 : decode cX6_thinnest 11 = .ok (.getfield 208, 3) := by decide +kernel
theorem dX6_thinnest_14 : decode cX6_thinnest 14 = .ok (.if_icmp .ge 38, 3) := by decide +kernel
theorem dX6_thinnest_17 : decode cX6_thinnest 17 = .ok (.aload_n 0, 1) := by decide +kernel
theorem dX6_thinnest_18 : decode cX6_thinnest 18 = .ok (.iload 4, 2) := by decide +kernel
theorem dX6_thinnest_20 : decode cX6_thinnest 20 = .ok (.aload_n 0, 1) := by decide +kernel
theorem dX6_thinnest_21 : decode cX6_thinnest 21 = .ok (.getfield 7, 3) := by decide +kernel
theorem dX6_thinnest_24 : decode cX6_thinnest 24 = .ok (.invokevirtual 214, 3) := by decide +kernel
theorem dX6_thinnest_27 : decode cX6_thinnest 27 = .ok (.lstore 5, 2) := by decide +kernel
theorem dX6_thinnest_29 : decode cX6_thinnest 29 = .ok (.iload_n 1, 1) := by decide +kernel
theorem dX6_thinnest_30 : decode cX6_thinnest 30 = .ok (.ifCond .lt 10, 3) := by decide +kernel
theorem dX6_thinnest_33 : decode cX6_thinnest 33 = .ok (.lload 5, 2) := by decide +kernel
theorem dX6_thinnest_35 : decode cX6_thinnest 35 = .ok (.lload_n 2, 1) := by decide +kernel
theorem dX6_thinnest_36 : decode cX6_thinnest 36 = .ok (.lcmp, 1) := by decide +kernel
theorem dX6_thinnest_37 : decode cX6_thinnest 37 = .ok (.ifCond .ge 9, 3) := by decide +kernel
theorem dX6_thinnest_40 : decode cX6_thinnest 40 = .ok (.iload 4, 2) := by decide +kernel
theorem dX6_thinnest_42 : decode cX6_thinnest 42 = .ok (.istore_n 1, 1) := by decide +kernel
theorem dX6_thinnest_43 : decode cX6_thinnest 43 = .ok (.lload 5, 2) := by decide +kernel
theorem dX6_thinnest_45 : decode cX6_thinnest 45 = .ok (.lstore_n 2, 1) := by decide +kernel
theorem dX6_thinnest_46 : decode cX6_thinnest 46 = .ok (.iinc 4 1, 3) := by decide +kernel
theorem dX6_thinnest_49 : decode cX6_thinnest 49 = .ok (.goto (-41), 3) := by decide +kernel
theorem dX6_thinnest_52 : decode cX6_thinnest 52 = .ok (.iload_n 1, 1) := by decide +kernel
theorem dX6_thinnest_53 : decode cX6_thinnest 53 = .ok (.ireturn, 1) := by decide +kernel
theorem dX6_freeMany_0 : decode cX6_freeMany 0 = .ok (.iconst 0, 1) := by decide +kernel
theorem dX6_freeMany_1 : decode cX6_freeMany 1 = .ok (.istore_n 1, 1) := by decide +kernel
theorem dX6_freeMany_2 : decode cX6_freeMany 2 = .ok (.iconst 0, 1) := by decide +kernel
theorem dX6_freeMany_3 : decode cX6_freeMany 3 = .ok (.istore_n 2, 1) := by decide +kernel
theorem dX6_freeMany_4 : decode cX6_freeMany 4 = .ok (.iload_n 2, 1) := by decide +kernel
theorem dX6_freeMany_5 : decode cX6_freeMany 5 = .ok (.aload_n 0, 1) := by decide +kernel
theorem dX6_freeMany_6 : decode cX6_freeMany 6 = .ok (.getfield 109, 3) := by decide +kernel
theorem dX6_freeMany_9 : decode cX6_freeMany 9 = .ok (.if_icmp .ge 26, 3) := by decide +kernel
theorem dX6_freeMany_12 : decode cX6_freeMany 12 = .ok (.iload_n 1, 1) := by decide +kernel
theorem dX6_freeMany_13 : decode cX6_freeMany 13 = .ok (.aload_n 0, 1) := by decide +kernel
theorem dX6_freeMany_14 : decode cX6_freeMany 14 = .ok (.getfield 36, 3) := by decide +kernel
theorem dX6_freeMany_17 : decode cX6_freeMany 17 = .ok (.iload_n 2, 1) := by decide +kernel
theorem dX6_freeMany_18 : decode cX6_freeMany 18 = .ok (.baload, 1) := by decide +kernel
theorem dX6_freeMany_19 : decode cX6_freeMany 19 = .ok (.ifCond .eq 7, 3) := by decide +kernel
theorem dX6_freeMany_22 : decode cX6_freeMany 22 = .ok (.iconst 1, 1) := by decide +kernel
theorem dX6_freeMany_23 : decode cX6_freeMany 23 = .ok (.goto 4, 3) := by decide +kernel
theorem dX6_freeMany_26 : decode cX6_freeMany 26 = .ok (.iconst 0, 1) := by decide +kernel
theorem dX6_freeMany_27 : decode cX6_freeMany 27 = .ok (.iadd, 1) := by decide +kernel
theorem dX6_freeMany_28 : decode cX6_freeMany 28 = .ok (.istore_n 1, 1) := by decide +kernel
theorem dX6_freeMany_29 : decode cX6_freeMany 29 = .ok (.iinc 2 1, 3) := by decide +kernel
theorem dX6_freeMany_32 : decode cX6_freeMany 32 = .ok (.goto (-28), 3) := by decide +kernel
theorem dX6_freeMany_35 : decode cX6_freeMany 35 = .ok (.iload_n 1, 1) := by decide +kernel
theorem dX6_freeMany_36 : decode cX6_freeMany 36 = .ok (.ireturn, 1) := by decide +kernel
theorem dX6_free_0 : decode cX6_free 0 = .ok (.aload_n 0, 1) := by decide +kernel
theorem dX6_free_1 : decode cX6_free 1 = .ok (.iload_n 1, 1) := by decide +kernel
theorem dX6_free_2 : decode cX6_free 2 = .ok (.invokevirtual 116, 3) := by decide +kernel
theorem dX6_free_5 : decode cX6_free 5 = .ok (.ifCond .ne 5, 3) := by decide +kernel
theorem dX6_free_8 : decode cX6_free 8 = .ok (.iconst (-1), 1) := by decide +kernel
theorem dX6_free_9 : decode cX6_free 9 = .ok (.ireturn, 1) := by decide +kernel
theorem dX6_free_10 : decode cX6_free 10 = .ok (.iload_n 2, 1) := by decide +kernel
theorem dX6_free_11 : decode cX6_free 11 = .ok (.ifCond .eq 23, 3) := by decide +kernel
theorem dX6_free_14 : decode cX6_free 14 = .ok (.aload_n 0, 1) := by decide +kernel
theorem dX6_free_15 : decode cX6_free 15 = .ok (.getfield 36, 3) := by decide +kernel
theorem dX6_free_18 : decode cX6_free 18 = .ok (.iload_n 1, 1) := by decide +kernel
theorem dX6_free_19 : decode cX6_free 19 = .ok (.baload, 1) := by decide +kernel
theorem dX6_free_20 : decode cX6_free 20 = .ok (.ifCond .ne 14, 3) := by decide +kernel
theorem dX6_free_23 : decode cX6_free 23 = .ok (.aload_n 0, 1) := by decide +kernel
theorem dX6_free_24 : decode cX6_free 24 = .ok (.invokevirtual 219, 3) := by decide +kernel
theorem dX6_free_27 : decode cX6_free 27 = .ok (.iconst 5, 1) := by decide +kernel
theorem dX6_free_28 : decode cX6_free 28 = .ok (.if_icmp .ne 6, 3) := by decide +kernel
theorem dX6_free_31 : decode cX6_free 31 = .ok (.bipush (-4), 2) := by decide +kernel
theorem dX6_free_33 : decode cX6_free 33 = .ok (.ireturn, 1) := by decide +kernel
theorem dX6_free_34 : decode cX6_free 34 = .ok (.aload_n 0, 1) := by decide +kernel
theorem dX6_free_35 : decode cX6_free 35 = .ok (.getfield 36, 3) := by decide +kernel
theorem dX6_free_38 : decode cX6_free 38 = .ok (.iload_n 1, 1) := by decide +kernel
theorem dX6_free_39 : decode cX6_free 39 = .ok (.iload_n 2, 1) := by decide +kernel
theorem dX6_free_40 : decode cX6_free 40 = .ok (.bastore, 1) := by decide +kernel
theorem dX6_free_41 : decode cX6_free 41 = .ok (.aload_n 0, 1) := by decide +kernel
theorem dX6_free_42 : decode cX6_free 42 = .ok (.invokevirtual 219, 3) := by decide +kernel
theorem dX6_free_45 : decode cX6_free 45 = .ok (.ireturn, 1) := by decide +kernel
theorem dX6_price_0 : decode cX6_price 0 = .ok (.lconst 0, 1) := by decide +kernel
theorem dX6_price_1 : decode cX6_price 1 = .ok (.lstore_n 1, 1) := by decide +kernel
theorem dX6_price_2 : decode cX6_price 2 = .ok (.iconst 0, 1) := by decide +kernel
theorem dX6_price_3 : decode cX6_price 3 = .ok (.istore_n 3, 1) := by decide +kernel
theorem dX6_price_4 : decode cX6_price 4 = .ok (.iload_n 3, 1) := by decide +kernel
theorem dX6_price_5 : decode cX6_price 5 = .ok (.aload_n 0, 1) := by decide +kernel
theorem dX6_price_6 : decode cX6_price 6 = .ok (.getfield 109, 3) := by decide +kernel
end
section
theorem dX6_price_9 : decode cX6_price 9 = .ok (.if_icmp .ge 32, 3) := by decide +kernel
theorem dX6_price_12 : decode cX6_price 12 = .ok (.lload_n 1, 1) := by decide +kernel
theorem dX6_price_13 : decode cX6_price 13 = .ok (.aload_n 0, 1) := by decide +kernel
theorem dX6_price_14 : decode cX6_price 14 = .ok (.getfield 23, 3) := by decide +kernel
theorem dX6_price_17 : decode cX6_price 17 = .ok (.iload_n 3, 1) := by decide +kernel
theorem dX6_price_18 : decode cX6_price 18 = .ok (.iaload, 1) := by decide +kernel
theorem dX6_price_19 : decode cX6_price 19 = .ok (.i2l, 1) := by decide +kernel
theorem dX6_price_20 : decode cX6_price 20 = .ok (.aload_n 0, 1) := by decide +kernel
theorem dX6_price_21 : decode cX6_price 21 = .ok (.getfield 17, 3) := by decide +kernel
theorem dX6_price_24 : decode cX6_price 24 = .ok (.aload_n 0, 1) := by decide +kernel
theorem dX6_price_25 : decode cX6_price 25 = .ok (.getfield 26, 3) := by decide +kernel
theorem dX6_price_28 : decode cX6_price 28 = .ok (.iload_n 3, 1) := by decide +kernel
theorem dX6_price_29 : decode cX6_price 29 = .ok (.iaload, 1) := by decide +kernel
theorem dX6_price_30 : decode cX6_price 30 = .ok (.iaload, 1) := by decide +kernel
theorem dX6_price_31 : decode cX6_price 31 = .ok (.i2l, 1) := by decide +kernel
theorem dX6_price_32 : decode cX6_price 32 = .ok (.lmul, 1) := by decide +kernel
theorem dX6_price_33 : decode cX6_price 33 = .ok (.ladd, 1) := by decide +kernel
theorem dX6_price_34 : decode cX6_price 34 = .ok (.lstore_n 1, 1) := by decide +kernel
theorem dX6_price_35 : decode cX6_price 35 = .ok (.iinc 3 1, 3) := by decide +kernel
theorem dX6_price_38 : decode cX6_price 38 = .ok (.goto (-34), 3) := by decide +kernel
theorem dX6_price_41 : decode cX6_price 41 = .ok (.lload_n 1, 1) := by decide +kernel
theorem dX6_price_42 : decode cX6_price 42 = .ok (.lreturn, 1) := by decide +kernel
theorem dX6_areMet_0 : decode cX6_areMet 0 = .ok (.iconst 1, 1) := by decide +kernel
theorem dX6_areMet_1 : decode cX6_areMet 1 = .ok (.istore_n 1, 1) := by decide +kernel
theorem dX6_areMet_2 : decode cX6_areMet 2 = .ok (.iconst 0, 1) := by decide +kernel
theorem dX6_areMet_3 : decode cX6_areMet 3 = .ok (.istore_n 2, 1) := by decide +kernel
theorem dX6_areMet_4 : decode cX6_areMet 4 = .ok (.iload_n 2, 1) := by decide +kernel
theorem dX6_areMet_5 : decode cX6_areMet 5 = .ok (.aload_n 0, 1) := by decide +kernel
theorem dX6_areMet_6 : decode cX6_areMet 6 = .ok (.getfield 208, 3) := by decide +kernel
theorem dX6_areMet_9 : decode cX6_areMet 9 = .ok (.if_icmp .ge 33, 3) := by decide +kernel
theorem dX6_areMet_12 : decode cX6_areMet 12 = .ok (.iload_n 1, 1) := by decide +kernel
theorem dX6_areMet_13 : decode cX6_areMet 13 = .ok (.ifCond .eq 29, 3) := by decide +kernel
theorem dX6_areMet_16 : decode cX6_areMet 16 = .ok (.aload_n 0, 1) := by decide +kernel
theorem dX6_areMet_17 : decode cX6_areMet 17 = .ok (.iload_n 2, 1) := by decide +kernel
theorem dX6_areMet_18 : decode cX6_areMet 18 = .ok (.aload_n 0, 1) := by decide +kernel
theorem dX6_areMet_19 : decode cX6_areMet 19 = .ok (.getfield 7, 3) := by decide +kernel
theorem dX6_areMet_22 : decode cX6_areMet 22 = .ok (.invokevirtual 214, 3) := by decide +kernel
theorem dX6_areMet_25 : decode cX6_areMet 25 = .ok (.lconst 0, 1) := by decide +kernel
theorem dX6_areMet_26 : decode cX6_areMet 26 = .ok (.lcmp, 1) := by decide +kernel
theorem dX6_areMet_27 : decode cX6_areMet 27 = .ok (.ifCond .lt 7, 3) := by decide +kernel
theorem dX6_areMet_30 : decode cX6_areMet 30 = .ok (.iconst 1, 1) := by decide +kernel
theorem dX6_areMet_31 : decode cX6_areMet 31 = .ok (.goto 4, 3) := by decide +kernel
theorem dX6_areMet_34 : decode cX6_areMet 34 = .ok (.iconst 0, 1) := by decide +kernel
theorem dX6_areMet_35 : decode cX6_areMet 35 = .ok (.istore_n 1, 1) := by decide +kernel
theorem dX6_areMet_36 : decode cX6_areMet 36 = .ok (.iinc 2 1, 3) := by decide +kernel
theorem dX6_areMet_39 : decode cX6_areMet 39 = .ok (.goto (-35), 3) := by decide +kernel
theorem dX6_areMet_42 : decode cX6_areMet 42 = .ok (.iload_n 1, 1) := by decide +kernel
theorem dX6_areMet_43 : decode cX6_areMet 43 = .ok (.ireturn, 1) := by decide +kernel
theorem dX6_choose_0 : decode cX6_choose 0 = .ok (.iconst 0, 1) := by decide +kernel
theorem dX6_choose_1 : decode cX6_choose 1 = .ok (.istore_n 1, 1) := by decide +kernel
theorem dX6_choose_2 : decode cX6_choose 2 = .ok (.iconst 0, 1) := by decide +kernel
theorem dX6_choose_3 : decode cX6_choose 3 = .ok (.istore_n 2, 1) := by decide +kernel
theorem dX6_choose_4 : decode cX6_choose 4 = .ok (.iload_n 2, 1) := by decide +kernel
theorem dX6_choose_5 : decode cX6_choose 5 = .ok (.aload_n 0, 1) := by decide +kernel
theorem dX6_choose_6 : decode cX6_choose 6 = .ok (.getfield 109, 3) := by decide +kernel
theorem dX6_choose_9 : decode cX6_choose 9 = .ok (.if_icmp .ge 47, 3) := by decide +kernel
theorem dX6_choose_12 : decode cX6_choose 12 = .ok (.aload_n 0, 1) := by decide +kernel
theorem dX6_choose_13 : decode cX6_choose 13 = .ok (.getfield 36, 3) := by decide +kernel
theorem dX6_choose_16 : decode cX6_choose 16 = .ok (.iload_n 2, 1) := by decide +kernel
theorem dX6_choose_17 : decode cX6_choose 17 = .ok (.baload, 1) := by decide +kernel
theorem dX6_choose_18 : decode cX6_choose 18 = .ok (.ifCond .eq 32, 3) := by decide +kernel
theorem dX6_choose_21 : decode cX6_choose 21 = .ok (.aload_n 0, 1) := by decide +kernel
theorem dX6_choose_22 : decode cX6_choose 22 = .ok (.getfield 79, 3) := by decide +kernel
theorem dX6_choose_25 : decode cX6_choose 25 = .ok (.iload_n 1, 1) := by decide +kernel
theorem dX6_choose_26 : decode cX6_choose 26 = .ok (.iload_n 2, 1) := by decide +kernel
theorem dX6_choose_27 : decode cX6_choose 27 = .ok (.iastore, 1) := by decide +kernel
theorem dX6_choose_28 : decode cX6_choose 28 = .ok (.aload_n 0, 1) := by decide +kernel
theorem dX6_choose_29 : decode cX6_choose 29 = .ok (.getfield 82, 3) := by decide +kernel
theorem dX6_choose_32 : decode cX6_choose 32 = .ok (.iload_n 1, 1) := by decide +kernel
theorem dX6_choose_33 : decode cX6_choose 33 = .ok (.aload_n 0, 1) := by decide +kernel
theorem dX6_choose_34 : decode cX6_choose 34 = .ok (.getfield 26, 3) := by decide +kernel
theorem dX6_choose_37 : decode cX6_choose 37 = .ok (.iload_n 2, 1) := by decide +kernel
theorem dX6_choose_38 : decode cX6_choose 38 = .ok (.iaload, 1) := by decide +kernel
theorem dX6_choose_39 : decode cX6_choose 39 = .ok (.iastore, 1) := by decide +kernel
theorem dX6_choose_40 : decode cX6_choose 40 = .ok (.aload_n 0, 1) := by decide +kernel
theorem dX6_choose_41 : decode cX6_choose 41 = .ok (.getfield 26, 3) := by decide +kernel
theorem dX6_choose_44 : decode cX6_choose 44 = .ok (.iload_n 2, 1) := by decide +kernel
theorem dX6_choose_45 : decode cX6_choose 45 = .ok (.iconst 0, 1) := by decide +kernel
theorem dX6_choose_46 : decode cX6_choose 46 = .ok (.iastore, 1) := by decide +kernel
theorem dX6_choose_47 : decode cX6_choose 47 = .ok (.iinc 1 1, 3) := by decide +kernel
theorem dX6_choose_50 : decode cX6_choose 50 = .ok (.iinc 2 1, 3) := by decide +kernel
theorem dX6_choose_53 : decode cX6_choose 53 = .ok (.goto (-49), 3) := by decide +kernel
theorem dX6_choose_56 : decode cX6_choose 56 = .ok (.ldc2_w 189, 3) := by decide +kernel
theorem dX6_choose_59 : decode cX6_choose 59 = .ok (.lstore_n 2, 1) := by decide +kernel
theorem dX6_choose_60 : decode cX6_choose 60 = .ok (.iconst 1, 1) := by decide +kernel
theorem dX6_choose_61 : decode cX6_choose 61 = .ok (.istore 4, 2) := by decide +kernel
theorem dX6_choose_63 : decode cX6_choose 63 = .ok (.iload 4, 2) := by decide +kernel
theorem dX6_choose_65 : decode cX6_choose 65 = .ok (.ifCond .eq 152, 3) := by decide +kernel
theorem dX6_choose_68 : decode cX6_choose 68 = .ok (.aload_n 0, 1) := by decide +kernel
theorem dX6_choose_69 : decode cX6_choose 69 = .ok (.invokevirtual 223, 3) := by decide +kernel
theorem dX6_choose_72 : decode cX6_choose 72 = .ok (.lstore 5, 2) := by decide +kernel
theorem dX6_choose_74 : decode cX6_choose 74 = .ok (.lload_n 2, 1) := by decide +kernel
theorem dX6_choose_75 : decode cX6_choose 75 = .ok (.lconst 0, 1) := by decide +kernel
theorem dX6_choose_76 : decode cX6_choose 76 = .ok (.lcmp, 1) := by decide +kernel
theorem dX6_choose_77 : decode cX6_choose 77 = .ok (.ifCond .lt 10, 3) := by decide +kernel
theorem dX6_choose_80 : decode cX6_choose 80 = .ok (.lload 5, 2) := by decide +kernel
theorem dX6_choose_82 : decode cX6_choose 82 = .ok (.lload_n 2, 1) := by decide +kernel
theorem dX6_choose_83 : decode cX6_choose 83 = .ok (.lcmp, 1) := by decide +kernel
theorem dX6_choose_84 : decode cX6_choose 84 = .ok (.ifCond .ge 47, 3) := by decide +kernel
theorem dX6_choose_87 : decode cX6_choose 87 = .ok (.aload_n 0, 1) := by decide +kernel
theorem dX6_choose_88 : decode cX6_choose 88 = .ok (.invokevirtual 227, 3) := by decide +kernel
theorem dX6_choose_91 : decode cX6_choose 91 = .ok (.ifCond .eq 40, 3) := by decide +kernel
theorem dX6_choose_94 : decode cX6_choose 94 = .ok (.lload 5, 2) := by decide +kernel
theorem dX6_choose_96 : decode cX6_choose 96 = .ok (.lstore_n 2, 1) := by decide +kernel
theorem dX6_choose_97 : decode cX6_choose 97 = .ok (.iconst 0, 1) := by decide +kernel
theorem dX6_choose_98 : decode cX6_choose 98 = .ok (.istore 7, 2) := by decide +kernel
theorem dX6_choose_100 : decode cX6_choose 100 = .ok (.iload 7, 2) := by decide +kernel
theorem dX6_choose_102 : decode cX6_choose 102 = .ok (.iload_n 1, 1) := by decide +kernel
theorem dX6_choose_103 : decode cX6_choose 103 = .ok (.if_icmp .ge 28, 3) := by decide +kernel
theorem dX6_choose_106 : decode cX6_choose 106 = .ok (.aload_n 0, 1) := by decide +kernel
theorem dX6_choose_107 : decode cX6_choose 107 = .ok (.getfield 85, 3) := by decide +kernel
theorem dX6_choose_110 : decode cX6_choose 110 = .ok (.iload 7, 2) := by decide +kernel
theorem dX6_choose_112 : decode cX6_choose 112 = .ok (.aload_n 0, 1) := by decide +kernel
theorem dX6_choose_113 : decode cX6_choose 113 = .ok (.getfield 26, 3) := by decide +kernel
theorem dX6_choose_116 : decode cX6_choose 116 = .ok (.aload_n 0, 1) := by decide +kernel
theorem dX6_choose_117 : decode cX6_choose 117 = .ok (.getfield 79, 3) := by decide +kernel
theorem dX6_choose_120 : decode cX6_choose 120 = .ok (.iload 7, 2) := by decide +kernel
theorem dX6_choose_122 : decode cX6_choose 122 = .ok (.iaload, 1) := by decide +kernel
theorem dX6_choose_123 : decode cX6_choose 123 = .ok (.iaload, 1) := by decide +kernel
theorem dX6_choose_124 : decode cX6_choose 124 = .ok (.iastore, 1) := by decide +kernel
theorem dX6_choose_125 : decode cX6_choose 125 = .ok (.iinc 7 1, 3) := by decide +kernel
theorem dX6_choose_128 : decode cX6_choose 128 = .ok (.goto (-28), 3) := by decide +kernel
theorem dX6_choose_131 : decode cX6_choose 131 = .ok (.iload_n 1, 1) := by decide +kernel
theorem dX6_choose_132 : decode cX6_choose 132 = .ok (.iconst 1, 1) := by decide +kernel
theorem dX6_choose_133 : decode cX6_choose 133 = .ok (.isub, 1) := by decide +kernel
theorem dX6_choose_134 : decode cX6_choose 134 = .ok (.istore 7, 2) := by decide +kernel
theorem dX6_choose_136 : decode cX6_choose 136 = .ok (.iload 7, 2) := by decide +kernel
theorem dX6_choose_138 : decode cX6_choose 138 = .ok (.ifCond .lt 43, 3) := by decide +kernel
theorem dX6_choose_141 : decode cX6_choose 141 = .ok (.aload_n 0, 1) := by decide +kernel
theorem dX6_choose_142 : decode cX6_choose 142 = .ok (.getfield 26, 3) := by decide +kernel
theorem dX6_choose_145 : decode cX6_choose 145 = .ok (.aload_n 0, 1) := by decide +kernel
theorem dX6_choose_146 : decode cX6_choose 146 = .ok (.getfield 79, 3) := by decide +kernel
theorem dX6_choose_149 : decode cX6_choose 149 = .ok (.iload 7, 2) := by decide +kernel
theorem dX6_choose_151 : decode cX6_choose 151 = .ok (.iaload, 1) := by decide +kernel
theorem dX6_choose_152 : decode cX6_choose 152 = .ok (.iaload, 1) := by decide +kernel
theorem dX6_choose_153 : decode cX6_choose 153 = .ok (.aload_n 0, 1) := by decide +kernel
theorem dX6_choose_154 : decode cX6_choose 154 = .ok (.getfield 131, 3) := by decide +kernel
theorem dX6_choose_157 : decode cX6_choose 157 = .ok (.iconst 1, 1) := by decide +kernel
theorem dX6_choose_158 : decode cX6_choose 158 = .ok (.isub, 1) := by decide +kernel
theorem dX6_choose_159 : decode cX6_choose 159 = .ok (.if_icmp .ne 22, 3) := by decide +kernel
theorem dX6_choose_162 : decode cX6_choose 162 = .ok (.aload_n 0, 1) := by decide +kernel
theorem dX6_choose_163 : decode cX6_choose 163 = .ok (.getfield 26, 3) := by decide +kernel
theorem dX6_choose_166 : decode cX6_choose 166 = .ok (.aload_n 0, 1) := by decide +kernel
theorem dX6_choose_167 : decode cX6_choose 167 = .ok (.getfield 79, 3) := by decide +kernel
theorem dX6_choose_170 : decode cX6_choose 170 = .ok (.iload 7, 2) := by decide +kernel
theorem dX6_choose_172 : decode cX6_choose 172 = .ok (.iaload, 1) := by decide +kernel
theorem dX6_choose_173 : decode cX6_choose 173 = .ok (.iconst 0, 1) := by decide +kernel
theorem dX6_choose_174 : decode cX6_choose 174 = .ok (.iastore, 1) := by decide +kernel
theorem dX6_choose_175 : decode cX6_choose 175 = .ok (.iinc 7 (-1), 3) := by decide +kernel
theorem dX6_choose_178 : decode cX6_choose 178 = .ok (.goto (-42), 3) := by decide +kernel
theorem dX6_choose_181 : decode cX6_choose 181 = .ok (.iload 7, 2) := by decide +kernel
theorem dX6_choose_183 : decode cX6_choose 183 = .ok (.ifCond .lt 7, 3) := by decide +kernel
theorem dX6_choose_186 : decode cX6_choose 186 = .ok (.iconst 1, 1) := by decide +kernel
theorem dX6_choose_187 : decode cX6_choose 187 = .ok (.goto 4, 3) := by decide +kernel
theorem dX6_choose_190 : decode cX6_choose 190 = .ok (.iconst 0, 1) := by decide +kernel
theorem dX6_choose_191 : decode cX6_choose 191 = .ok (.istore 4, 2) := by decide +kernel
theorem dX6_choose_193 : decode cX6_choose 193 = .ok (.iload 4, 2) := by decide +kernel
theorem dX6_choose_195 : decode cX6_choose 195 = .ok (.ifCond .eq 19, 3) := by decide +kernel
theorem dX6_choose_198 : decode cX6_choose 198 = .ok (.aload_n 0, 1) := by decide +kernel
theorem dX6_choose_199 : decode cX6_choose 199 = .ok (.getfield 26, 3) := by decide +kernel
theorem dX6_choose_202 : decode cX6_choose 202 = .ok (.aload_n 0, 1) := by decide +kernel
theorem dX6_choose_203 : decode cX6_choose 203 = .ok (.getfield 79, 3) := by decide +kernel
theorem dX6_choose_206 : decode cX6_choose 206 = .ok (.iload 7, 2) := by decide +kernel
theorem dX6_choose_208 : decode cX6_choose 208 = .ok (.iaload, 1) := by decide +kernel
theorem dX6_choose_209 : decode cX6_choose 209 = .ok (.dup2, 1) := by decide +kernel
theorem dX6_choose_210 : decode cX6_choose 210 = .ok (.iaload, 1) := by decide +kernel
theorem dX6_choose_211 : decode cX6_choose 211 = .ok (.iconst 1, 1) := by decide +kernel
theorem dX6_choose_212 : decode cX6_choose 212 = .ok (.iadd, 1) := by decide +kernel
theorem dX6_choose_213 : decode cX6_choose 213 = .ok (.iastore, 1) := by decide +kernel
theorem dX6_choose_214 : decode cX6_choose 214 = .ok (.goto (-151), 3) := by decide +kernel
theorem dX6_choose_217 : decode cX6_choose 217 = .ok (.iconst 0, 1) := by decide +kernel
theorem dX6_choose_218 : decode cX6_choose 218 = .ok (.istore 5, 2) := by decide +kernel
theorem dX6_choose_220 : decode cX6_choose 220 = .ok (.iload 5, 2) := by decide +kernel
theorem dX6_choose_222 : decode cX6_choose 222 = .ok (.iload_n 1, 1) := by decide +kernel
theorem dX6_choose_223 : decode cX6_choose 223 = .ok (.if_icmp .ge 44, 3) := by decide +kernel
theorem dX6_choose_226 : decode cX6_choose 226 = .ok (.aload_n 0, 1) := by decide +kernel
theorem dX6_choose_227 : decode cX6_choose 227 = .ok (.getfield 26, 3) := by decide +kernel
theorem dX6_choose_230 : decode cX6_choose 230 = .ok (.aload_n 0, 1) := by decide +kernel
theorem dX6_choose_231 : decode cX6_choose 231 = .ok (.getfield 79, 3) := by decide +kernel
theorem dX6_choose_234 : decode cX6_choose 234 = .ok (.iload 5, 2) := by decide +kernel
theorem dX6_choose_236 : decode cX6_choose 236 = .ok (.iaload, 1) := by decide +kernel
theorem dX6_choose_237 : decode cX6_choose 237 = .ok (.lload_n 2, 1) := by decide +kernel
theorem dX6_choose_238 : decode cX6_choose 238 = .ok (.lconst 0, 1) := by decide +kernel
theorem dX6_choose_239 : decode cX6_choose 239 = .ok (.lcmp, 1) := by decide +kernel
theorem dX6_choose_240 : decode cX6_choose 240 = .ok (.ifCond .ge 13, 3) := by decide +kernel
theorem dX6_choose_243 : decode cX6_choose 243 = .ok (.aload_n 0, 1) := by decide +kernel
theorem dX6_choose_244 : decode cX6_choose 244 = .ok (.getfield 82, 3) := by decide +kernel
theorem dX6_choose_247 : decode cX6_choose 247 = .ok (.iload 5, 2) := by decide +kernel
theorem dX6_choose_249 : decode cX6_choose 249 = .ok (.iaload, 1) := by decide +kernel
theorem dX6_choose_250 : decode cX6_choose 250 = .ok (.goto 10, 3) := by decide +kernel
theorem dX6_choose_253 : decode cX6_choose 253 = .ok (.aload_n 0, 1) := by decide +kernel
theorem dX6_choose_254 : decode cX6_choose 254 = .ok (.getfield 85, 3) := by decide +kernel
theorem dX6_choose_257 : decode cX6_choose 257 = .ok (.iload 5, 2) := by decide +kernel
theorem dX6_choose_259 : decode cX6_choose 259 = .ok (.iaload, 1) := by decide +kernel
theorem dX6_choose_260 : decode cX6_choose 260 = .ok (.iastore, 1) := by decide +kernel
theorem dX6_choose_261 : decode cX6_choose 261 = .ok (.iinc 5 1, 3) := by decide +kernel
theorem dX6_choose_264 : decode cX6_choose 264 = .ok (.goto (-44), 3) := by decide +kernel
theorem dX6_choose_267 : decode cX6_choose 267 = .ok (.lload_n 2, 1) := by decide +kernel
theorem dX6_choose_268 : decode cX6_choose 268 = .ok (.lconst 0, 1) := by decide +kernel
theorem dX6_choose_269 : decode cX6_choose 269 = .ok (.lcmp, 1) := by decide +kernel
theorem dX6_choose_270 : decode cX6_choose 270 = .ok (.ifCond .ge 9, 3) := by decide +kernel
theorem dX6_choose_273 : decode cX6_choose 273 = .ok (.ldc2_w 231, 3) := by decide +kernel
theorem dX6_choose_276 : decode cX6_choose 276 = .ok (.goto 4, 3) := by decide +kernel
theorem dX6_choose_279 : decode cX6_choose 279 = .ok (.lload_n 2, 1) := by decide +kernel
theorem dX6_choose_280 : decode cX6_choose 280 = .ok (.lreturn, 1) := by decide +kernel
theorem dX6_bill_0 : decode cX6_bill 0 = .ok (.aload_n 0, 1) := by decide +kernel
theorem dX6_bill_1 : decode cX6_bill 1 = .ok (.invokevirtual 223, 3) := by decide +kernel
theorem dX6_bill_4 : decode cX6_bill 4 = .ok (.lreturn, 1) := by decide +kernel
theorem dX6_margin_0 : decode cX6_margin 0 = .ok (.aload_n 0, 1) := by decide +kernel
theorem dX6_margin_1 : decode cX6_margin 1 = .ok (.iload_n 1, 1) := by decide +kernel
theorem dX6_margin_2 : decode cX6_margin 2 = .ok (.invokevirtual 211, 3) := by decide +kernel
theorem dX6_margin_5 : decode cX6_margin 5 = .ok (.ifCond .ne 5, 3) := by decide +kernel
theorem dX6_margin_8 : decode cX6_margin 8 = .ok (.iconst (-1), 1) := by decide +kernel
theorem dX6_margin_9 : decode cX6_margin 9 = .ok (.ireturn, 1) := by decide +kernel
theorem dX6_margin_10 : decode cX6_margin 10 = .ok (.aload_n 0, 1) := by decide +kernel
theorem dX6_margin_11 : decode cX6_margin 11 = .ok (.iload_n 1, 1) := by decide +kernel
theorem dX6_margin_12 : decode cX6_margin 12 = .ok (.aload_n 0, 1) := by decide +kernel
theorem dX6_margin_13 : decode cX6_margin 13 = .ok (.getfield 7, 3) := by decide +kernel
theorem dX6_margin_16 : decode cX6_margin 16 = .ok (.invokevirtual 214, 3) := by decide +kernel
theorem dX6_margin_19 : decode cX6_margin 19 = .ok (.lconst 0, 1) := by decide +kernel
theorem dX6_margin_20 : decode cX6_margin 20 = .ok (.lcmp, 1) := by decide +kernel
theorem dX6_margin_21 : decode cX6_margin 21 = .ok (.ifCond .ge 6, 3) := by decide +kernel
theorem dX6_margin_24 : decode cX6_margin 24 = .ok (.bipush (-5), 2) := by decide +kernel
theorem dX6_margin_26 : decode cX6_margin 26 = .ok (.ireturn, 1) := by decide +kernel
theorem dX6_margin_27 : decode cX6_margin 27 = .ok (.iconst 1, 1) := by decide +kernel
theorem dX6_margin_28 : decode cX6_margin 28 = .ok (.istore_n 2, 1) := by decide +kernel
theorem dX6_margin_29 : decode cX6_margin 29 = .ok (.iload_n 2, 1) := by decide +kernel
theorem dX6_margin_30 : decode cX6_margin 30 = .ok (.bipush 100, 2) := by decide +kernel
theorem dX6_margin_32 : decode cX6_margin 32 = .ok (.if_icmp .gt 44, 3) := by decide +kernel
theorem dX6_margin_35 : decode cX6_margin 35 = .ok (.aload_n 0, 1) := by decide +kernel
theorem dX6_margin_36 : decode cX6_margin 36 = .ok (.getfield 7, 3) := by decide +kernel
theorem dX6_margin_39 : decode cX6_margin 39 = .ok (.bipush 100, 2) := by decide +kernel
theorem dX6_margin_41 : decode cX6_margin 41 = .ok (.iload_n 2, 1) := by decide +kernel
theorem dX6_margin_42 : decode cX6_margin 42 = .ok (.isub, 1) := by decide +kernel
theorem dX6_margin_43 : decode cX6_margin 43 = .ok (.imul, 1) := by decide +kernel
theorem dX6_margin_44 : decode cX6_margin 44 = .ok (.bipush 100, 2) := by decide +kernel
theorem dX6_margin_46 : decode cX6_margin 46 = .ok (.idiv, 1) := by decide +kernel
theorem dX6_margin_47 : decode cX6_margin 47 = .ok (.istore_n 3, 1) := by decide +kernel
theorem dX6_margin_48 : decode cX6_margin 48 = .ok (.aload_n 0, 1) := by decide +kernel
theorem dX6_margin_49 : decode cX6_margin 49 = .ok (.iload_n 1, 1) := by decide +kernel
theorem dX6_margin_50 : decode cX6_margin 50 = .ok (.iload_n 3, 1) := by decide +kernel
theorem dX6_margin_51 : decode cX6_margin 51 = .ok (.iconst 1, 1) := by decide +kernel
theorem dX6_margin_52 : decode cX6_margin 52 = .ok (.if_icmp .ge 7, 3) := by decide +kernel
theorem dX6_margin_55 : decode cX6_margin 55 = .ok (.iconst 1, 1) := by decide +kernel
theorem dX6_margin_56 : decode cX6_margin 56 = .ok (.goto 4, 3) := by decide +kernel
theorem dX6_margin_59 : decode cX6_margin 59 = .ok (.iload_n 3, 1) := by decide +kernel
theorem dX6_margin_60 : decode cX6_margin 60 = .ok (.invokevirtual 214, 3) := by decide +kernel
theorem dX6_margin_63 : decode cX6_margin 63 = .ok (.lconst 0, 1) := by decide +kernel
theorem dX6_margin_64 : decode cX6_margin 64 = .ok (.lcmp, 1) := by decide +kernel
theorem dX6_margin_65 : decode cX6_margin 65 = .ok (.ifCond .ge 5, 3) := by decide +kernel
theorem dX6_margin_68 : decode cX6_margin 68 = .ok (.iload_n 2, 1) := by decide +kernel
theorem dX6_margin_69 : decode cX6_margin 69 = .ok (.ireturn, 1) := by decide +kernel
theorem dX6_margin_70 : decode cX6_margin 70 = .ok (.iinc 2 1, 3) := by decide +kernel
theorem dX6_margin_73 : decode cX6_margin 73 = .ok (.goto (-44), 3) := by decide +kernel
theorem dX6_margin_76 : decode cX6_margin 76 = .ok (.bipush (-6), 2) := by decide +kernel
theorem dX6_margin_78 : decode cX6_margin 78 = .ok (.ireturn, 1) := by decide +kernel
theorem dX6_isCell_0 : decode cX6_isCell 0 = .ok (.iload_n 1, 1) := by decide +kernel
theorem dX6_isCell_1 : decode cX6_isCell 1 = .ok (.i2l, 1) := by decide +kernel
theorem dX6_isCell_2 : decode cX6_isCell 2 = .ok (.lconst 0, 1) := by decide +kernel
theorem dX6_isCell_3 : decode cX6_isCell 3 = .ok (.aload_n 0, 1) := by decide +kernel
theorem dX6_isCell_4 : decode cX6_isCell 4 = .ok (.getfield 88, 3) := by decide +kernel
theorem dX6_isCell_7 : decode cX6_isCell 7 = .ok (.iconst 1, 1) := by decide +kernel
theorem dX6_isCell_8 : decode cX6_isCell 8 = .ok (.isub, 1) := by decide +kernel
theorem dX6_isCell_9 : decode cX6_isCell 9 = .ok (.i2l, 1) := by decide +kernel
theorem dX6_isCell_10 : decode cX6_isCell 10 = .ok (.invokestatic 112, 3) := by decide +kernel
theorem dX6_isCell_13 : decode cX6_isCell 13 = .ok (.ifCond .eq 23, 3) := by decide +kernel
theorem dX6_isCell_16 : decode cX6_isCell 16 = .ok (.iload_n 2, 1) := by decide +kernel
theorem dX6_isCell_17 : decode cX6_isCell 17 = .ok (.i2l, 1) := by decide +kernel
theorem dX6_isCell_18 : decode cX6_isCell 18 = .ok (.lconst 0, 1) := by decide +kernel
theorem dX6_isCell_19 : decode cX6_isCell 19 = .ok (.aload_n 0, 1) := by decide +kernel
theorem dX6_isCell_20 : decode cX6_isCell 20 = .ok (.getfield 91, 3) := by decide +kernel
theorem dX6_isCell_23 : decode cX6_isCell 23 = .ok (.iconst 1, 1) := by decide +kernel
theorem dX6_isCell_24 : decode cX6_isCell 24 = .ok (.isub, 1) := by decide +kernel
theorem dX6_isCell_25 : decode cX6_isCell 25 = .ok (.i2l, 1) := by decide +kernel
theorem dX6_isCell_26 : decode cX6_isCell 26 = .ok (.invokestatic 112, 3) := by decide +kernel
theorem dX6_isCell_29 : decode cX6_isCell 29 = .ok (.ifCond .eq 7, 3) := by decide +kernel
theorem dX6_isCell_32 : decode cX6_isCell 32 = .ok (.iconst 1, 1) := by decide +kernel
theorem dX6_isCell_33 : decode cX6_isCell 33 = .ok (.goto 4, 3) := by decide +kernel
theorem dX6_isCell_36 : decode cX6_isCell 36 = .ok (.iconst 0, 1) := by decide +kernel
theorem dX6_isCell_37 : decode cX6_isCell 37 = .ok (.ireturn, 1) := by decide +kernel
theorem dX6_floor_0 : decode cX6_floor 0 = .ok (.iload_n 1, 1) := by decide +kernel
theorem dX6_floor_1 : decode cX6_floor 1 = .ok (.i2l, 1) := by decide +kernel
theorem dX6_floor_2 : decode cX6_floor 2 = .ok (.ldc2_w 233, 3) := by decide +kernel
theorem dX6_floor_5 : decode cX6_floor 5 = .ok (.ldc2_w 235, 3) := by decide +kernel
theorem dX6_floor_8 : decode cX6_floor 8 = .ok (.invokestatic 112, 3) := by decide +kernel
theorem dX6_floor_11 : decode cX6_floor 11 = .ok (.ifCond .eq 17, 3) := by decide +kernel
theorem dX6_floor_14 : decode cX6_floor 14 = .ok (.iload_n 2, 1) := by decide +kernel
theorem dX6_floor_15 : decode cX6_floor 15 = .ok (.i2l, 1) := by decide +kernel
theorem dX6_floor_16 : decode cX6_floor 16 = .ok (.ldc2_w 233, 3) := by decide +kernel
theorem dX6_floor_19 : decode cX6_floor 19 = .ok (.ldc2_w 235, 3) := by decide +kernel
theorem dX6_floor_22 : decode cX6_floor 22 = .ok (.invokestatic 112, 3) := by decide +kernel
theorem dX6_floor_25 : decode cX6_floor 25 = .ok (.ifCond .ne 6, 3) := by decide +kernel
theorem dX6_floor_28 : decode cX6_floor 28 = .ok (.bipush (-2), 2) := by decide +kernel
theorem dX6_floor_30 : decode cX6_floor 30 = .ok (.ireturn, 1) := by decide +kernel
theorem dX6_floor_31 : decode cX6_floor 31 = .ok (.aload_n 0, 1) := by decide +kernel
theorem dX6_floor_32 : decode cX6_floor 32 = .ok (.iload_n 1, 1) := by decide +kernel
theorem dX6_floor_33 : decode cX6_floor 33 = .ok (.putfield 88, 3) := by decide +kernel
theorem dX6_floor_36 : decode cX6_floor 36 = .ok (.aload_n 0, 1) := by decide +kernel
theorem dX6_floor_37 : decode cX6_floor 37 = .ok (.iload_n 2, 1) := by decide +kernel
theorem dX6_floor_38 : decode cX6_floor 38 = .ok (.putfield 91, 3) := by decide +kernel
theorem dX6_floor_41 : decode cX6_floor 41 = .ok (.iconst 0, 1) := by decide +kernel
theorem dX6_floor_42 : decode cX6_floor 42 = .ok (.istore_n 3, 1) := by decide +kernel
theorem dX6_floor_43 : decode cX6_floor 43 = .ok (.iload_n 3, 1) := by decide +kernel
theorem dX6_floor_44 : decode cX6_floor 44 = .ok (.sipush 256, 3) := by decide +kernel
theorem dX6_floor_47 : decode cX6_floor 47 = .ok (.if_icmp .ge 16, 3) := by decide +kernel
theorem dX6_floor_50 : decode cX6_floor 50 = .ok (.aload_n 0, 1) := by decide +kernel
theorem dX6_floor_51 : decode cX6_floor 51 = .ok (.getfield 94, 3) := by decide +kernel
theorem dX6_floor_54 : decode cX6_floor 54 = .ok (.iload_n 3, 1) := by decide +kernel
theorem dX6_floor_55 : decode cX6_floor 55 = .ok (.iconst 0, 1) := by decide +kernel
theorem dX6_floor_56 : decode cX6_floor 56 = .ok (.iastore, 1) := by decide +kernel
theorem dX6_floor_57 : decode cX6_floor 57 = .ok (.iinc 3 1, 3) := by decide +kernel
theorem dX6_floor_60 : decode cX6_floor 60 = .ok (.goto (-17), 3) := by decide +kernel
theorem dX6_floor_63 : decode cX6_floor 63 = .ok (.iconst 0, 1) := by decide +kernel
theorem dX6_floor_64 : decode cX6_floor 64 = .ok (.istore_n 3, 1) := by decide +kernel
theorem dX6_floor_65 : decode cX6_floor 65 = .ok (.iload_n 3, 1) := by decide +kernel
theorem dX6_floor_66 : decode cX6_floor 66 = .ok (.bipush 24, 2) := by decide +kernel
theorem dX6_floor_68 : decode cX6_floor 68 = .ok (.if_icmp .ge 16, 3) := by decide +kernel
theorem dX6_floor_71 : decode cX6_floor 71 = .ok (.aload_n 0, 1) := by decide +kernel
theorem dX6_floor_72 : decode cX6_floor 72 = .ok (.getfield 97, 3) := by decide +kernel
theorem dX6_floor_75 : decode cX6_floor 75 = .ok (.iload_n 3, 1) := by decide +kernel
theorem dX6_floor_76 : decode cX6_floor 76 = .ok (.iconst 0, 1) := by decide +kernel
theorem dX6_floor_77 : decode cX6_floor 77 = .ok (.bastore, 1) := by decide +kernel
theorem dX6_floor_78 : decode cX6_floor 78 = .ok (.iinc 3 1, 3) := by decide +kernel
theorem dX6_floor_81 : decode cX6_floor 81 = .ok (.goto (-16), 3) := by decide +kernel
theorem dX6_floor_84 : decode cX6_floor 84 = .ok (.iload_n 1, 1) := by decide +kernel
theorem dX6_floor_85 : decode cX6_floor 85 = .ok (.iload_n 2, 1) := by decide +kernel
theorem dX6_floor_86 : decode cX6_floor 86 = .ok (.imul, 1) := by decide +kernel
theorem dX6_floor_87 : decode cX6_floor 87 = .ok (.ireturn, 1) := by decide +kernel
theorem dX6_standsAt_0 : decode cX6_standsAt 0 = .ok (.iconst 0, 1) := by decide +kernel
theorem dX6_standsAt_1 : decode cX6_standsAt 1 = .ok (.istore_n 3, 1) := by decide +kernel
theorem dX6_standsAt_2 : decode cX6_standsAt 2 = .ok (.iload_n 3, 1) := by decide +kernel
theorem dX6_standsAt_3 : decode cX6_standsAt 3 = .ok (.aload_n 0, 1) := by decide +kernel
theorem dX6_standsAt_4 : decode cX6_standsAt 4 = .ok (.getfield 109, 3) := by decide +kernel
theorem dX6_standsAt_7 : decode cX6_standsAt 7 = .ok (.if_icmp .ge 40, 3) := by decide +kernel
theorem dX6_standsAt_10 : decode cX6_standsAt 10 = .ok (.aload_n 0, 1) := by decide +kernel
theorem dX6_standsAt_11 : decode cX6_standsAt 11 = .ok (.getfield 97, 3) := by decide +kernel
theorem dX6_standsAt_14 : decode cX6_standsAt 14 = .ok (.iload_n 3, 1) := by decide +kernel
theorem dX6_standsAt_15 : decode cX6_standsAt 15 = .ok (.baload, 1) := by decide +kernel
theorem dX6_standsAt_16 : decode cX6_standsAt 16 = .ok (.ifCond .eq 25, 3) := by decide +kernel
theorem dX6_standsAt_19 : decode cX6_standsAt 19 = .ok (.aload_n 0, 1) := by decide +kernel
theorem dX6_standsAt_20 : decode cX6_standsAt 20 = .ok (.getfield 100, 3) := by decide +kernel
theorem dX6_standsAt_23 : decode cX6_standsAt 23 = .ok (.iload_n 3, 1) := by decide +kernel
theorem dX6_standsAt_24 : decode cX6_standsAt 24 = .ok (.iaload, 1) := by decide +kernel
theorem dX6_standsAt_25 : decode cX6_standsAt 25 = .ok (.iload_n 1, 1) := by decide +kernel
theorem dX6_standsAt_26 : decode cX6_standsAt 26 = .ok (.if_icmp .ne 15, 3) := by decide +kernel
theorem dX6_standsAt_29 : decode cX6_standsAt 29 = .ok (.aload_n 0, 1) := by decide +kernel
theorem dX6_standsAt_30 : decode cX6_standsAt 30 = .ok (.getfield 103, 3) := by decide +kernel
theorem dX6_standsAt_33 : decode cX6_standsAt 33 = .ok (.iload_n 3, 1) := by decide +kernel
theorem dX6_standsAt_34 : decode cX6_standsAt 34 = .ok (.iaload, 1) := by decide +kernel
theorem dX6_standsAt_35 : decode cX6_standsAt 35 = .ok (.iload_n 2, 1) := by decide +kernel
theorem dX6_standsAt_36 : decode cX6_standsAt 36 = .ok (.if_icmp .ne 5, 3) := by decide +kernel
theorem dX6_standsAt_39 : decode cX6_standsAt 39 = .ok (.iload_n 3, 1) := by decide +kernel
theorem dX6_standsAt_40 : decode cX6_standsAt 40 = .ok (.ireturn, 1) := by decide +kernel
theorem dX6_standsAt_41 : decode cX6_standsAt 41 = .ok (.iinc 3 1, 3) := by decide +kernel
theorem dX6_standsAt_44 : decode cX6_standsAt 44 = .ok (.goto (-42), 3) := by decide +kernel
theorem dX6_standsAt_47 : decode cX6_standsAt 47 = .ok (.bipush (-6), 2) := by decide +kernel
theorem dX6_standsAt_49 : decode cX6_standsAt 49 = .ok (.ireturn, 1) := by decide +kernel
theorem dX6_cell_0 : decode cX6_cell 0 = .ok (.aload_n 0, 1) := by decide +kernel
theorem dX6_cell_1 : decode cX6_cell 1 = .ok (.iload_n 1, 1) := by decide +kernel
theorem dX6_cell_2 : decode cX6_cell 2 = .ok (.iload_n 2, 1) := by decide +kernel
theorem dX6_cell_3 : decode cX6_cell 3 = .ok (.invokevirtual 237, 3) := by decide +kernel
theorem dX6_cell_6 : decode cX6_cell 6 = .ok (.ifCond .ne 5, 3) := by decide +kernel
theorem dX6_cell_9 : decode cX6_cell 9 = .ok (.iconst (-1), 1) := by decide +kernel
theorem dX6_cell_10 : decode cX6_cell 10 = .ok (.ireturn, 1) := by decide +kernel
theorem dX6_cell_11 : decode cX6_cell 11 = .ok (.iload_n 3, 1) := by decide +kernel
theorem dX6_cell_12 : decode cX6_cell 12 = .ok (.i2l, 1) := by decide +kernel
theorem dX6_cell_13 : decode cX6_cell 13 = .ok (.lconst 0, 1) := by decide +kernel
theorem dX6_cell_14 : decode cX6_cell 14 = .ok (.ldc2_w 233, 3) := by decide +kernel
theorem dX6_cell_17 : decode cX6_cell 17 = .ok (.invokestatic 112, 3) := by decide +kernel
theorem dX6_cell_20 : decode cX6_cell 20 = .ok (.ifCond .ne 6, 3) := by decide +kernel
theorem dX6_cell_23 : decode cX6_cell 23 = .ok (.bipush (-2), 2) := by decide +kernel
theorem dX6_cell_25 : decode cX6_cell 25 = .ok (.ireturn, 1) := by decide +kernel
theorem dX6_cell_26 : decode cX6_cell 26 = .ok (.aload_n 0, 1) := by decide +kernel
theorem dX6_cell_27 : decode cX6_cell 27 = .ok (.iload_n 1, 1) := by decide +kernel
theorem dX6_cell_28 : decode cX6_cell 28 = .ok (.iload_n 2, 1) := by decide +kernel
theorem dX6_cell_29 : decode cX6_cell 29 = .ok (.invokevirtual 241, 3) := by decide +kernel
theorem dX6_cell_32 : decode cX6_cell 32 = .ok (.ifCond .lt 6, 3) := by decide +kernel
theorem dX6_cell_35 : decode cX6_cell 35 = .ok (.bipush (-3), 2) := by decide +kernel
theorem dX6_cell_37 : decode cX6_cell 37 = .ok (.ireturn, 1) := by decide +kernel
theorem dX6_cell_38 : decode cX6_cell 38 = .ok (.aload_n 0, 1) := by decide +kernel
theorem dX6_cell_39 : decode cX6_cell 39 = .ok (.getfield 94, 3) := by decide +kernel
theorem dX6_cell_42 : decode cX6_cell 42 = .ok (.bipush 16, 2) := by decide +kernel
theorem dX6_cell_44 : decode cX6_cell 44 = .ok (.iload_n 1, 1) := by decide +kernel
theorem dX6_cell_45 : decode cX6_cell 45 = .ok (.imul, 1) := by decide +kernel
theorem dX6_cell_46 : decode cX6_cell 46 = .ok (.iload_n 2, 1) := by decide +kernel
theorem dX6_cell_47 : decode cX6_cell 47 = .ok (.iadd, 1) := by decide +kernel
theorem dX6_cell_48 : decode cX6_cell 48 = .ok (.iaload, 1) := by decide +kernel
theorem dX6_cell_49 : decode cX6_cell 49 = .ok (.istore 4, 2) := by decide +kernel
theorem dX6_cell_51 : decode cX6_cell 51 = .ok (.aload_n 0, 1) := by decide +kernel
theorem dX6_cell_52 : decode cX6_cell 52 = .ok (.getfield 94, 3) := by decide +kernel
theorem dX6_cell_55 : decode cX6_cell 55 = .ok (.bipush 16, 2) := by decide +kernel
theorem dX6_cell_57 : decode cX6_cell 57 = .ok (.iload_n 1, 1) := by decide +kernel
theorem dX6_cell_58 : decode cX6_cell 58 = .ok (.imul, 1) := by decide +kernel
theorem dX6_cell_59 : decode cX6_cell 59 = .ok (.iload_n 2, 1) := by decide +kernel
theorem dX6_cell_60 : decode cX6_cell 60 = .ok (.iadd, 1) := by decide +kernel
theorem dX6_cell_61 : decode cX6_cell 61 = .ok (.iload_n 3, 1) := by decide +kernel
theorem dX6_cell_62 : decode cX6_cell 62 = .ok (.iastore, 1) := by decide +kernel
theorem dX6_cell_63 : decode cX6_cell 63 = .ok (.iload 4, 2) := by decide +kernel
theorem dX6_cell_65 : decode cX6_cell 65 = .ok (.ireturn, 1) := by decide +kernel
theorem dX6_stand_0 : decode cX6_stand 0 = .ok (.aload_n 0, 1) := by decide +kernel
theorem dX6_stand_1 : decode cX6_stand 1 = .ok (.iload_n 1, 1) := by decide +kernel
theorem dX6_stand_2 : decode cX6_stand 2 = .ok (.invokevirtual 140, 3) := by decide +kernel
theorem dX6_stand_5 : decode cX6_stand 5 = .ok (.ifCond .eq 12, 3) := by decide +kernel
theorem dX6_stand_8 : decode cX6_stand 8 = .ok (.aload_n 0, 1) := by decide +kernel
theorem dX6_stand_9 : decode cX6_stand 9 = .ok (.iload_n 2, 1) := by decide +kernel
theorem dX6_stand_10 : decode cX6_stand 10 = .ok (.iload_n 3, 1) := by decide +kernel
theorem dX6_stand_11 : decode cX6_stand 11 = .ok (.invokevirtual 237, 3) := by decide +kernel
theorem dX6_stand_14 : decode cX6_stand 14 = .ok (.ifCond .ne 5, 3) := by decide +kernel
theorem dX6_stand_17 : decode cX6_stand 17 = .ok (.iconst (-1), 1) := by decide +kernel
theorem dX6_stand_18 : decode cX6_stand 18 = .ok (.ireturn, 1) := by decide +kernel
theorem dX6_stand_19 : decode cX6_stand 19 = .ok (.iload 4, 2) := by decide +kernel
theorem dX6_stand_21 : decode cX6_stand 21 = .ok (.i2l, 1) := by decide +kernel
theorem dX6_stand_22 : decode cX6_stand 22 = .ok (.lconst 1, 1) := by decide +kernel
theorem dX6_stand_23 : decode cX6_stand 23 = .ok (.ldc2_w 245, 3) := by decide +kernel
theorem dX6_stand_26 : decode cX6_stand 26 = .ok (.invokestatic 112, 3) := by decide +kernel
theorem dX6_stand_29 : decode cX6_stand 29 = .ok (.ifCond .ne 6, 3) := by decide +kernel
theorem dX6_stand_32 : decode cX6_stand 32 = .ok (.bipush (-2), 2) := by decide +kernel
theorem dX6_stand_34 : decode cX6_stand 34 = .ok (.ireturn, 1) := by decide +kernel
theorem dX6_stand_35 : decode cX6_stand 35 = .ok (.aload_n 0, 1) := by decide +kernel
theorem dX6_stand_36 : decode cX6_stand 36 = .ok (.iload_n 2, 1) := by decide +kernel
theorem dX6_stand_37 : decode cX6_stand 37 = .ok (.iload_n 3, 1) := by decide +kernel
theorem dX6_stand_38 : decode cX6_stand 38 = .ok (.invokevirtual 241, 3) := by decide +kernel
theorem dX6_stand_41 : decode cX6_stand 41 = .ok (.istore 5, 2) := by decide +kernel
theorem dX6_stand_43 : decode cX6_stand 43 = .ok (.aload_n 0, 1) := by decide +kernel
theorem dX6_stand_44 : decode cX6_stand 44 = .ok (.getfield 94, 3) := by decide +kernel
theorem dX6_stand_47 : decode cX6_stand 47 = .ok (.bipush 16, 2) := by decide +kernel
theorem dX6_stand_49 : decode cX6_stand 49 = .ok (.iload_n 2, 1) := by decide +kernel
theorem dX6_stand_50 : decode cX6_stand 50 = .ok (.imul, 1) := by decide +kernel
theorem dX6_stand_51 : decode cX6_stand 51 = .ok (.iload_n 3, 1) := by decide +kernel
theorem dX6_stand_52 : decode cX6_stand 52 = .ok (.iadd, 1) := by decide +kernel
theorem dX6_stand_53 : decode cX6_stand 53 = .ok (.iaload, 1) := by decide +kernel
theorem dX6_stand_54 : decode cX6_stand 54 = .ok (.ifCond .ne 14, 3) := by decide +kernel
theorem dX6_stand_57 : decode cX6_stand 57 = .ok (.iload 5, 2) := by decide +kernel
theorem dX6_stand_59 : decode cX6_stand 59 = .ok (.ifCond .lt 12, 3) := by decide +kernel
theorem dX6_stand_62 : decode cX6_stand 62 = .ok (.iload 5, 2) := by decide +kernel
theorem dX6_stand_64 : decode cX6_stand 64 = .ok (.iload_n 1, 1) := by decide +kernel
theorem dX6_stand_65 : decode cX6_stand 65 = .ok (.if_icmp .eq 6, 3) := by decide +kernel
theorem dX6_stand_68 : decode cX6_stand 68 = .ok (.bipush (-5), 2) := by decide +kernel
theorem dX6_stand_70 : decode cX6_stand 70 = .ok (.ireturn, 1) := by decide +kernel
theorem dX6_stand_71 : decode cX6_stand 71 = .ok (.aload_n 0, 1) := by decide +kernel
theorem dX6_stand_72 : decode cX6_stand 72 = .ok (.getfield 97, 3) := by decide +kernel
theorem dX6_stand_75 : decode cX6_stand 75 = .ok (.iload_n 1, 1) := by decide +kernel
theorem dX6_stand_76 : decode cX6_stand 76 = .ok (.iconst 1, 1) := by decide +kernel
theorem dX6_stand_77 : decode cX6_stand 77 = .ok (.bastore, 1) := by decide +kernel
theorem dX6_stand_78 : decode cX6_stand 78 = .ok (.aload_n 0, 1) := by decide +kernel
theorem dX6_stand_79 : decode cX6_stand 79 = .ok (.getfield 100, 3) := by decide +kernel
theorem dX6_stand_82 : decode cX6_stand 82 = .ok (.iload_n 1, 1) := by decide +kernel
theorem dX6_stand_83 : decode cX6_stand 83 = .ok (.iload_n 2, 1) := by decide +kernel
theorem dX6_stand_84 : decode cX6_stand 84 = .ok (.iastore, 1) := by decide +kernel
theorem dX6_stand_85 : decode cX6_stand 85 = .ok (.aload_n 0, 1) := by decide +kernel
theorem dX6_stand_86 : decode cX6_stand 86 = .ok (.getfield 103, 3) := by decide +kernel
theorem dX6_stand_89 : decode cX6_stand 89 = .ok (.iload_n 1, 1) := by decide +kernel
theorem dX6_stand_90 : decode cX6_stand 90 = .ok (.iload_n 3, 1) := by decide +kernel
theorem dX6_stand_91 : decode cX6_stand 91 = .ok (.iastore, 1) := by decide +kernel
theorem dX6_stand_92 : decode cX6_stand 92 = .ok (.aload_n 0, 1) := by decide +kernel
theorem dX6_stand_93 : decode cX6_stand 93 = .ok (.getfield 106, 3) := by decide +kernel
theorem dX6_stand_96 : decode cX6_stand 96 = .ok (.iload_n 1, 1) := by decide +kernel
theorem dX6_stand_97 : decode cX6_stand 97 = .ok (.iload 4, 2) := by decide +kernel
theorem dX6_stand_99 : decode cX6_stand 99 = .ok (.iastore, 1) := by decide +kernel
theorem dX6_stand_100 : decode cX6_stand 100 = .ok (.iconst 1, 1) := by decide +kernel
theorem dX6_stand_101 : decode cX6_stand 101 = .ok (.ireturn, 1) := by decide +kernel
theorem dX6_lift_0 : decode cX6_lift 0 = .ok (.aload_n 0, 1) := by decide +kernel
theorem dX6_lift_1 : decode cX6_lift 1 = .ok (.iload_n 1, 1) := by decide +kernel
theorem dX6_lift_2 : decode cX6_lift 2 = .ok (.invokevirtual 140, 3) := by decide +kernel
theorem dX6_lift_5 : decode cX6_lift 5 = .ok (.ifCond .ne 5, 3) := by decide +kernel
theorem dX6_lift_8 : decode cX6_lift 8 = .ok (.iconst (-1), 1) := by decide +kernel
theorem dX6_lift_9 : decode cX6_lift 9 = .ok (.ireturn, 1) := by decide +kernel
theorem dX6_lift_10 : decode cX6_lift 10 = .ok (.aload_n 0, 1) := by decide +kernel
theorem dX6_lift_11 : decode cX6_lift 11 = .ok (.getfield 97, 3) := by decide +kernel
theorem dX6_lift_14 : decode cX6_lift 14 = .ok (.iload_n 1, 1) := by decide +kernel
theorem dX6_lift_15 : decode cX6_lift 15 = .ok (.baload, 1) := by decide +kernel
theorem dX6_lift_16 : decode cX6_lift 16 = .ok (.invokestatic 200, 3) := by decide +kernel
theorem dX6_lift_19 : decode cX6_lift 19 = .ok (.istore_n 2, 1) := by decide +kernel
theorem dX6_lift_20 : decode cX6_lift 20 = .ok (.aload_n 0, 1) := by decide +kernel
theorem dX6_lift_21 : decode cX6_lift 21 = .ok (.getfield 97, 3) := by decide +kernel
theorem dX6_lift_24 : decode cX6_lift 24 = .ok (.iload_n 1, 1) := by decide +kernel
theorem dX6_lift_25 : decode cX6_lift 25 = .ok (.iconst 0, 1) := by decide +kernel
theorem dX6_lift_26 : decode cX6_lift 26 = .ok (.bastore, 1) := by decide +kernel
theorem dX6_lift_27 : decode cX6_lift 27 = .ok (.iload_n 2, 1) := by decide +kernel
theorem dX6_lift_28 : decode cX6_lift 28 = .ok (.ireturn, 1) := by decide +kernel
theorem dX6_square_0 : decode cX6_square 0 = .ok (.iload_n 0, 1) := by decide +kernel
theorem dX6_square_1 : decode cX6_square 1 = .ok (.iload_n 0, 1) := by decide +kernel
theorem dX6_square_2 : decode cX6_square 2 = .ok (.imul, 1) := by decide +kernel
theorem dX6_square_3 : decode cX6_square 3 = .ok (.iload_n 1, 1) := by decide +kernel
theorem dX6_square_4 : decode cX6_square 4 = .ok (.iload_n 1, 1) := by decide +kernel
theorem dX6_square_5 : decode cX6_square 5 = .ok (.imul, 1) := by decide +kernel
theorem dX6_square_6 : decode cX6_square 6 = .ok (.iadd, 1) := by decide +kernel
theorem dX6_square_7 : decode cX6_square 7 = .ok (.ireturn, 1) := by decide +kernel
theorem dX6_side_0 : decode cX6_side 0 = .ok (.iload_n 2, 1) := by decide +kernel
theorem dX6_side_1 : decode cX6_side 1 = .ok (.iload_n 0, 1) := by decide +kernel
theorem dX6_side_2 : decode cX6_side 2 = .ok (.isub, 1) := by decide +kernel
theorem dX6_side_3 : decode cX6_side 3 = .ok (.iconst 2, 1) := by decide +kernel
theorem dX6_side_4 : decode cX6_side 4 = .ok (.iload 5, 2) := by decide +kernel
theorem dX6_side_6 : decode cX6_side 6 = .ok (.imul, 1) := by decide +kernel
theorem dX6_side_7 : decode cX6_side 7 = .ok (.iconst 2, 1) := by decide +kernel
theorem dX6_side_8 : decode cX6_side 8 = .ok (.iload_n 1, 1) := by decide +kernel
theorem dX6_side_9 : decode cX6_side 9 = .ok (.imul, 1) := by decide +kernel
theorem dX6_side_10 : decode cX6_side 10 = .ok (.isub, 1) := by decide +kernel
theorem dX6_side_11 : decode cX6_side 11 = .ok (.iconst 1, 1) := by decide +kernel
theorem dX6_side_12 : decode cX6_side 12 = .ok (.isub, 1) := by decide +kernel
theorem dX6_side_13 : decode cX6_side 13 = .ok (.imul, 1) := by decide +kernel
theorem dX6_side_14 : decode cX6_side 14 = .ok (.iload_n 3, 1) := by decide +kernel
theorem dX6_side_15 : decode cX6_side 15 = .ok (.iload_n 1, 1) := by decide +kernel
theorem dX6_side_16 : decode cX6_side 16 = .ok (.isub, 1) := by decide +kernel
theorem dX6_side_17 : decode cX6_side 17 = .ok (.iconst 2, 1) := by decide +kernel
theorem dX6_side_18 : decode cX6_side 18 = .ok (.iload 4, 2) := by decide +kernel
theorem dX6_side_20 : decode cX6_side 20 = .ok (.imul, 1) := by decide +kernel
theorem dX6_side_21 : decode cX6_side 21 = .ok (.iconst 2, 1) := by decide +kernel
theorem dX6_side_22 : decode cX6_side 22 = .ok (.iload_n 0, 1) := by decide +kernel
theorem dX6_side_23 : decode cX6_side 23 = .ok (.imul, 1) := by decide +kernel
theorem dX6_side_24 : decode cX6_side 24 = .ok (.isub, 1) := by decide +kernel
theorem dX6_side_25 : decode cX6_side 25 = .ok (.iconst 1, 1) := by decide +kernel
theorem dX6_side_26 : decode cX6_side 26 = .ok (.isub, 1) := by decide +kernel
theorem dX6_side_27 : decode cX6_side 27 = .ok (.imul, 1) := by decide +kernel
theorem dX6_side_28 : decode cX6_side 28 = .ok (.isub, 1) := by decide +kernel
theorem dX6_side_29 : decode cX6_side 29 = .ok (.istore 6, 2) := by decide +kernel
theorem dX6_side_31 : decode cX6_side 31 = .ok (.iload 6, 2) := by decide +kernel
theorem dX6_side_33 : decode cX6_side 33 = .ok (.ifCond .ge 7, 3) := by decide +kernel
theorem dX6_side_36 : decode cX6_side 36 = .ok (.iconst (-1), 1) := by decide +kernel
theorem dX6_side_37 : decode cX6_side 37 = .ok (.goto 13, 3) := by decide +kernel
theorem dX6_side_40 : decode cX6_side 40 = .ok (.iload 6, 2) := by decide +kernel
theorem dX6_side_42 : decode cX6_side 42 = .ok (.ifCond .le 7, 3) := by decide +kernel
theorem dX6_side_45 : decode cX6_side 45 = .ok (.iconst 1, 1) := by decide +kernel
theorem dX6_side_46 : decode cX6_side 46 = .ok (.goto 4, 3) := by decide +kernel
theorem dX6_side_49 : decode cX6_side 49 = .ok (.iconst 0, 1) := by decide +kernel
theorem dX6_side_50 : decode cX6_side 50 = .ok (.ireturn, 1) := by decide +kernel
theorem dX6_goesThrough_0 : decode cX6_goesThrough 0 = .ok (.iload_n 0, 1) := by decide +kernel
theorem dX6_goesThrough_1 : decode cX6_goesThrough 1 = .ok (.iload_n 1, 1) := by decide +kernel
theorem dX6_goesThrough_2 : decode cX6_goesThrough 2 = .ok (.iload_n 2, 1) := by decide +kernel
theorem dX6_goesThrough_3 : decode cX6_goesThrough 3 = .ok (.iload_n 3, 1) := by decide +kernel
theorem dX6_goesThrough_4 : decode cX6_goesThrough 4 = .ok (.iload 4, 2) := by decide +kernel
theorem dX6_goesThrough_6 : decode cX6_goesThrough 6 = .ok (.iload 5, 2) := by decide +kernel
theorem dX6_goesThrough_8 : decode cX6_goesThrough 8 = .ok (.invokestatic 247, 3) := by decide +kernel
theorem dX6_goesThrough_11 : decode cX6_goesThrough 11 = .ok (.istore 6, 2) := by decide +kernel
theorem dX6_goesThrough_13 : decode cX6_goesThrough 13 = .ok (.iload_n 0, 1) := by decide +kernel
theorem dX6_goesThrough_14 : decode cX6_goesThrough 14 = .ok (.iload_n 1, 1) := by decide +kernel
theorem dX6_goesThrough_15 : decode cX6_goesThrough 15 = .ok (.iload_n 2, 1) := by decide +kernel
theorem dX6_goesThrough_16 : decode cX6_goesThrough 16 = .ok (.iload_n 3, 1) := by decide +kernel
theorem dX6_goesThrough_17 : decode cX6_goesThrough 17 = .ok (.iload 4, 2) := by decide +kernel
theorem dX6_goesThrough_19 : decode cX6_goesThrough 19 = .ok (.iconst 1, 1) := by decide +kernel
theorem dX6_goesThrough_20 : decode cX6_goesThrough 20 = .ok (.iadd, 1) := by decide +kernel
theorem dX6_goesThrough_21 : decode cX6_goesThrough 21 = .ok (.iload 5, 2) := by decide +kernel
theorem dX6_goesThrough_23 : decode cX6_goesThrough 23 = .ok (.invokestatic 247, 3) := by decide +kernel
theorem dX6_goesThrough_26 : decode cX6_goesThrough 26 = .ok (.istore 7, 2) := by decide +kernel
theorem dX6_goesThrough_28 : decode cX6_goesThrough 28 = .ok (.iload_n 0, 1) := by decide +kernel
theorem dX6_goesThrough_29 : decode cX6_goesThrough 29 = .ok (.iload_n 1, 1) := by decide +kernel
theorem dX6_goesThrough_30 : decode cX6_goesThrough 30 = .ok (.iload_n 2, 1) := by decide +kernel
theorem dX6_goesThrough_31 : decode cX6_goesThrough 31 = .ok (.iload_n 3, 1) := by decide +kernel
theorem dX6_goesThrough_32 : decode cX6_goesThrough 32 = .ok (.iload 4, 2) := by decide +kernel
theorem dX6_goesThrough_34 : decode cX6_goesThrough 34 = .ok (.iload 5, 2) := by decide +kernel
theorem dX6_goesThrough_36 : decode cX6_goesThrough 36 = .ok (.iconst 1, 1) := by decide +kernel
theorem dX6_goesThrough_37 : decode cX6_goesThrough 37 = .ok (.iadd, 1) := by decide +kernel
theorem dX6_goesThrough_38 : decode cX6_goesThrough 38 = .ok (.invokestatic 247, 3) := by decide +kernel
theorem dX6_goesThrough_41 : decode cX6_goesThrough 41 = .ok (.istore 8, 2) := by decide +kernel
theorem dX6_goesThrough_43 : decode cX6_goesThrough 43 = .ok (.iload_n 0, 1) := by decide +kernel
theorem dX6_goesThrough_44 : decode cX6_goesThrough 44 = .ok (.iload_n 1, 1) := by decide +kernel
theorem dX6_goesThrough_45 : decode cX6_goesThrough 45 = .ok (.iload_n 2, 1) := by decide +kernel
theorem dX6_goesThrough_46 : decode cX6_goesThrough 46 = .ok (.iload_n 3, 1) := by decide +kernel
theorem dX6_goesThrough_47 : decode cX6_goesThrough 47 = .ok (.iload 4, 2) := by decide +kernel
theorem dX6_goesThrough_49 : decode cX6_goesThrough 49 = .ok (.iconst 1, 1) := by decide +kernel
theorem dX6_goesThrough_50 : decode cX6_goesThrough 50 = .ok (.iadd, 1) := by decide +kernel
theorem dX6_goesThrough_51 : decode cX6_goesThrough 51 = .ok (.iload 5, 2) := by decide +kernel
theorem dX6_goesThrough_53 : decode cX6_goesThrough 53 = .ok (.iconst 1, 1) := by decide +kernel
theorem dX6_goesThrough_54 : decode cX6_goesThrough 54 = .ok (.iadd, 1) := by decide +kernel
theorem dX6_goesThrough_55 : decode cX6_goesThrough 55 = .ok (.invokestatic 247, 3) := by decide +kernel
theorem dX6_goesThrough_58 : decode cX6_goesThrough 58 = .ok (.istore 9, 2) := by decide +kernel
theorem dX6_goesThrough_60 : decode cX6_goesThrough 60 = .ok (.iload 6, 2) := by decide +kernel
theorem dX6_goesThrough_62 : decode cX6_goesThrough 62 = .ok (.ifCond .lt 18, 3) := by decide +kernel
theorem dX6_goesThrough_65 : decode cX6_goesThrough 65 = .ok (.iload 7, 2) := by decide +kernel
theorem dX6_goesThrough_67 : decode cX6_goesThrough 67 = .ok (.ifCond .lt 13, 3) := by decide +kernel
theorem dX6_goesThrough_70 : decode cX6_goesThrough 70 = .ok (.iload 8, 2) := by decide +kernel
theorem dX6_goesThrough_72 : decode cX6_goesThrough 72 = .ok (.ifCond .lt 8, 3) := by decide +kernel
theorem dX6_goesThrough_75 : decode cX6_goesThrough 75 = .ok (.iload 9, 2) := by decide +kernel
theorem dX6_goesThrough_77 : decode cX6_goesThrough 77 = .ok (.ifCond .ge 7, 3) := by decide +kernel
theorem dX6_goesThrough_80 : decode cX6_goesThrough 80 = .ok (.iconst 1, 1) := by decide +kernel
theorem dX6_goesThrough_81 : decode cX6_goesThrough 81 = .ok (.goto 4, 3) := by decide +kernel
theorem dX6_goesThrough_84 : decode cX6_goesThrough 84 = .ok (.iconst 0, 1) := by decide +kernel
theorem dX6_goesThrough_85 : decode cX6_goesThrough 85 = .ok (.istore 10, 2) := by decide +kernel
theorem dX6_goesThrough_87 : decode cX6_goesThrough 87 = .ok (.iload 6, 2) := by decide +kernel
theorem dX6_goesThrough_89 : decode cX6_goesThrough 89 = .ok (.ifCond .gt 18, 3) := by decide +kernel
theorem dX6_goesThrough_92 : decode cX6_goesThrough 92 = .ok (.iload 7, 2) := by decide +kernel
theorem dX6_goesThrough_94 : decode cX6_goesThrough 94 = .ok (.ifCond .gt 13, 3) := by decide +kernel
theorem dX6_goesThrough_97 : decode cX6_goesThrough 97 = .ok (.iload 8, 2) := by decide +kernel
theorem dX6_goesThrough_99 : decode cX6_goesThrough 99 = .ok (.ifCond .gt 8, 3) := by decide +kernel
theorem dX6_goesThrough_102 : decode cX6_goesThrough 102 = .ok (.iload 9, 2) := by decide +kernel
theorem dX6_goesThrough_104 : decode cX6_goesThrough 104 = .ok (.ifCond .le 7, 3) := by decide +kernel
theorem dX6_goesThrough_107 : decode cX6_goesThrough 107 = .ok (.iconst 1, 1) := by decide +kernel
theorem dX6_goesThrough_108 : decode cX6_goesThrough 108 = .ok (.goto 4, 3) := by decide +kernel
theorem dX6_goesThrough_111 : decode cX6_goesThrough 111 = .ok (.iconst 0, 1) := by decide +kernel
theorem dX6_goesThrough_112 : decode cX6_goesThrough 112 = .ok (.istore 11, 2) := by decide +kernel
theorem dX6_goesThrough_114 : decode cX6_goesThrough 114 = .ok (.iload 10, 2) := by decide +kernel
theorem dX6_goesThrough_116 : decode cX6_goesThrough 116 = .ok (.ifCond .eq 12, 3) := by decide +kernel
theorem dX6_goesThrough_119 : decode cX6_goesThrough 119 = .ok (.iload 11, 2) := by decide +kernel
theorem dX6_goesThrough_121 : decode cX6_goesThrough 121 = .ok (.ifCond .eq 7, 3) := by decide +kernel
theorem dX6_goesThrough_124 : decode cX6_goesThrough 124 = .ok (.iconst 1, 1) := by decide +kernel
theorem dX6_goesThrough_125 : decode cX6_goesThrough 125 = .ok (.goto 4, 3) := by decide +kernel
theorem dX6_goesThrough_128 : decode cX6_goesThrough 128 = .ok (.iconst 0, 1) := by decide +kernel
theorem dX6_goesThrough_129 : decode cX6_goesThrough 129 = .ok (.ireturn, 1) := by decide +kernel
theorem dX6_wetsCell_0 : decode cX6_wetsCell 0 = .ok (.aload_n 0, 1) := by decide +kernel
theorem dX6_wetsCell_1 : decode cX6_wetsCell 1 = .ok (.getfield 100, 3) := by decide +kernel
theorem dX6_wetsCell_4 : decode cX6_wetsCell 4 = .ok (.iload_n 1, 1) := by decide +kernel
theorem dX6_wetsCell_5 : decode cX6_wetsCell 5 = .ok (.iaload, 1) := by decide +kernel
theorem dX6_wetsCell_6 : decode cX6_wetsCell 6 = .ok (.istore 4, 2) := by decide +kernel
theorem dX6_wetsCell_8 : decode cX6_wetsCell 8 = .ok (.aload_n 0, 1) := by decide +kernel
theorem dX6_wetsCell_9 : decode cX6_wetsCell 9 = .ok (.getfield 103, 3) := by decide +kernel
theorem dX6_wetsCell_12 : decode cX6_wetsCell 12 = .ok (.iload_n 1, 1) := by decide +kernel
theorem dX6_wetsCell_13 : decode cX6_wetsCell 13 = .ok (.iaload, 1) := by decide +kernel
theorem dX6_wetsCell_14 : decode cX6_wetsCell 14 = .ok (.istore 5, 2) := by decide +kernel
theorem dX6_wetsCell_16 : decode cX6_wetsCell 16 = .ok (.aload_n 0, 1) := by decide +kernel
theorem dX6_wetsCell_17 : decode cX6_wetsCell 17 = .ok (.getfield 94, 3) := by decide +kernel
theorem dX6_wetsCell_20 : decode cX6_wetsCell 20 = .ok (.bipush 16, 2) := by decide +kernel
theorem dX6_wetsCell_22 : decode cX6_wetsCell 22 = .ok (.iload_n 2, 1) := by decide +kernel
theorem dX6_wetsCell_23 : decode cX6_wetsCell 23 = .ok (.imul, 1) := by decide +kernel
theorem dX6_wetsCell_24 : decode cX6_wetsCell 24 = .ok (.iload_n 3, 1) := by decide +kernel
theorem dX6_wetsCell_25 : decode cX6_wetsCell 25 = .ok (.iadd, 1) := by decide +kernel
theorem dX6_wetsCell_26 : decode cX6_wetsCell 26 = .ok (.iaload, 1) := by decide +kernel
theorem dX6_wetsCell_27 : decode cX6_wetsCell 27 = .ok (.ifCond .ne 30, 3) := by decide +kernel
theorem dX6_wetsCell_30 : decode cX6_wetsCell 30 = .ok (.iload_n 2, 1) := by decide +kernel
theorem dX6_wetsCell_31 : decode cX6_wetsCell 31 = .ok (.iload 4, 2) := by decide +kernel
theorem dX6_wetsCell_33 : decode cX6_wetsCell 33 = .ok (.isub, 1) := by decide +kernel
theorem dX6_wetsCell_34 : decode cX6_wetsCell 34 = .ok (.iload_n 3, 1) := by decide +kernel
theorem dX6_wetsCell_35 : decode cX6_wetsCell 35 = .ok (.iload 5, 2) := by decide +kernel
theorem dX6_wetsCell_37 : decode cX6_wetsCell 37 = .ok (.isub, 1) := by decide +kernel
theorem dX6_wetsCell_38 : decode cX6_wetsCell 38 = .ok (.invokestatic 251, 3) := by decide +kernel
theorem dX6_wetsCell_41 : decode cX6_wetsCell 41 = .ok (.aload_n 0, 1) := by decide +kernel
theorem dX6_wetsCell_42 : decode cX6_wetsCell 42 = .ok (.getfield 106, 3) := by decide +kernel
theorem dX6_wetsCell_45 : decode cX6_wetsCell 45 = .ok (.iload_n 1, 1) := by decide +kernel
theorem dX6_wetsCell_46 : decode cX6_wetsCell 46 = .ok (.iaload, 1) := by decide +kernel
theorem dX6_wetsCell_47 : decode cX6_wetsCell 47 = .ok (.aload_n 0, 1) := by decide +kernel
theorem dX6_wetsCell_48 : decode cX6_wetsCell 48 = .ok (.getfield 106, 3) := by decide +kernel
theorem dX6_wetsCell_51 : decode cX6_wetsCell 51 = .ok (.iload_n 1, 1) := by decide +kernel
theorem dX6_wetsCell_52 : decode cX6_wetsCell 52 = .ok (.iaload, 1) := by decide +kernel
theorem dX6_wetsCell_53 : decode cX6_wetsCell 53 = .ok (.imul, 1) := by decide +kernel
theorem dX6_wetsCell_54 : decode cX6_wetsCell 54 = .ok (.if_icmp .le 5, 3) := by decide +kernel
theorem dX6_wetsCell_57 : decode cX6_wetsCell 57 = .ok (.iconst 0, 1) := by decide +kernel
theorem dX6_wetsCell_58 : decode cX6_wetsCell 58 = .ok (.ireturn, 1) := by decide +kernel
theorem dX6_wetsCell_59 : decode cX6_wetsCell 59 = .ok (.iconst 1, 1) := by decide +kernel
theorem dX6_wetsCell_60 : decode cX6_wetsCell 60 = .ok (.istore 6, 2) := by decide +kernel
theorem dX6_wetsCell_62 : decode cX6_wetsCell 62 = .ok (.iload_n 2, 1) := by decide +kernel
theorem dX6_wetsCell_63 : decode cX6_wetsCell 63 = .ok (.iload 4, 2) := by decide +kernel
theorem dX6_wetsCell_65 : decode cX6_wetsCell 65 = .ok (.if_icmp .ge 7, 3) := by decide +kernel
theorem dX6_wetsCell_68 : decode cX6_wetsCell 68 = .ok (.iload_n 2, 1) := by decide +kernel
theorem dX6_wetsCell_69 : decode cX6_wetsCell 69 = .ok (.goto 5, 3) := by decide +kernel
theorem dX6_wetsCell_72 : decode cX6_wetsCell 72 = .ok (.iload 4, 2) := by decide +kernel
theorem dX6_wetsCell_74 : decode cX6_wetsCell 74 = .ok (.istore 7, 2) := by decide +kernel
theorem dX6_wetsCell_76 : decode cX6_wetsCell 76 = .ok (.iload 7, 2) := by decide +kernel
theorem dX6_wetsCell_78 : decode cX6_wetsCell 78 = .ok (.iload_n 2, 1) := by decide +kernel
theorem dX6_wetsCell_79 : decode cX6_wetsCell 79 = .ok (.iload 4, 2) := by decide +kernel
theorem dX6_wetsCell_81 : decode cX6_wetsCell 81 = .ok (.if_icmp .ge 8, 3) := by decide +kernel
theorem dX6_wetsCell_84 : decode cX6_wetsCell 84 = .ok (.iload 4, 2) := by decide +kernel
theorem dX6_wetsCell_86 : decode cX6_wetsCell 86 = .ok (.goto 4, 3) := by decide +kernel
theorem dX6_wetsCell_89 : decode cX6_wetsCell 89 = .ok (.iload_n 2, 1) := by decide +kernel
theorem dX6_wetsCell_90 : decode cX6_wetsCell 90 = .ok (.if_icmp .gt 91, 3) := by decide +kernel
theorem dX6_wetsCell_93 : decode cX6_wetsCell 93 = .ok (.iload_n 3, 1) := by decide +kernel
theorem dX6_wetsCell_94 : decode cX6_wetsCell 94 = .ok (.iload 5, 2) := by decide +kernel
theorem dX6_wetsCell_96 : decode cX6_wetsCell 96 = .ok (.if_icmp .ge 7, 3) := by decide +kernel
theorem dX6_wetsCell_99 : decode cX6_wetsCell 99 = .ok (.iload_n 3, 1) := by decide +kernel
theorem dX6_wetsCell_100 : decode cX6_wetsCell 100 = .ok (.goto 5, 3) := by decide +kernel
theorem dX6_wetsCell_103 : decode cX6_wetsCell 103 = .ok (.iload 5, 2) := by decide +kernel
theorem dX6_wetsCell_105 : decode cX6_wetsCell 105 = .ok (.istore 8, 2) := by decide +kernel
theorem dX6_wetsCell_107 : decode cX6_wetsCell 107 = .ok (.iload 8, 2) := by decide +kernel
theorem dX6_wetsCell_109 : decode cX6_wetsCell 109 = .ok (.iload_n 3, 1) := by decide +kernel
theorem dX6_wetsCell_110 : decode cX6_wetsCell 110 = .ok (.iload 5, 2) := by decide +kernel
theorem dX6_wetsCell_112 : decode cX6_wetsCell 112 = .ok (.if_icmp .ge 8, 3) := by decide +kernel
theorem dX6_wetsCell_115 : decode cX6_wetsCell 115 = .ok (.iload 5, 2) := by decide +kernel
theorem dX6_wetsCell_117 : decode cX6_wetsCell 117 = .ok (.goto 4, 3) := by decide +kernel
theorem dX6_wetsCell_120 : decode cX6_wetsCell 120 = .ok (.iload_n 3, 1) := by decide +kernel
theorem dX6_wetsCell_121 : decode cX6_wetsCell 121 = .ok (.if_icmp .gt 54, 3) := by decide +kernel
theorem dX6_wetsCell_124 : decode cX6_wetsCell 124 = .ok (.iload 6, 2) := by decide +kernel
theorem dX6_wetsCell_126 : decode cX6_wetsCell 126 = .ok (.ifCond .eq 40, 3) := by decide +kernel
theorem dX6_wetsCell_129 : decode cX6_wetsCell 129 = .ok (.aload_n 0, 1) := by decide +kernel
theorem dX6_wetsCell_130 : decode cX6_wetsCell 130 = .ok (.getfield 94, 3) := by decide +kernel
theorem dX6_wetsCell_133 : decode cX6_wetsCell 133 = .ok (.bipush 16, 2) := by decide +kernel
theorem dX6_wetsCell_135 : decode cX6_wetsCell 135 = .ok (.iload 7, 2) := by decide +kernel
theorem dX6_wetsCell_137 : decode cX6_wetsCell 137 = .ok (.imul, 1) := by decide +kernel
theorem dX6_wetsCell_138 : decode cX6_wetsCell 138 = .ok (.iload 8, 2) := by decide +kernel
theorem dX6_wetsCell_140 : decode cX6_wetsCell 140 = .ok (.iadd, 1) := by decide +kernel
theorem dX6_wetsCell_141 : decode cX6_wetsCell 141 = .ok (.iaload, 1) := by decide +kernel
theorem dX6_wetsCell_142 : decode cX6_wetsCell 142 = .ok (.iconst 1, 1) := by decide +kernel
theorem dX6_wetsCell_143 : decode cX6_wetsCell 143 = .ok (.if_icmp .ne 19, 3) := by decide +kernel
theorem dX6_wetsCell_146 : decode cX6_wetsCell 146 = .ok (.iload 4, 2) := by decide +kernel
theorem dX6_wetsCell_148 : decode cX6_wetsCell 148 = .ok (.iload 5, 2) := by decide +kernel
theorem dX6_wetsCell_150 : decode cX6_wetsCell 150 = .ok (.iload_n 2, 1) := by decide +kernel
theorem dX6_wetsCell_151 : decode cX6_wetsCell 151 = .ok (.iload_n 3, 1) := by decide +kernel
theorem dX6_wetsCell_152 : decode cX6_wetsCell 152 = .ok (.iload 7, 2) := by decide +kernel
theorem dX6_wetsCell_154 : decode cX6_wetsCell 154 = .ok (.iload 8, 2) := by decide +kernel
theorem dX6_wetsCell_156 : decode cX6_wetsCell 156 = .ok (.invokestatic 254, 3) := by decide +kernel
theorem dX6_wetsCell_159 : decode cX6_wetsCell 159 = .ok (.ifCond .ne 7, 3) := by decide +kernel
theorem dX6_wetsCell_162 : decode cX6_wetsCell 162 = .ok (.iconst 1, 1) := by decide +kernel
theorem dX6_wetsCell_163 : decode cX6_wetsCell 163 = .ok (.goto 4, 3) := by decide +kernel
theorem dX6_wetsCell_166 : decode cX6_wetsCell 166 = .ok (.iconst 0, 1) := by decide +kernel
theorem dX6_wetsCell_167 : decode cX6_wetsCell 167 = .ok (.istore 6, 2) := by decide +kernel
theorem dX6_wetsCell_169 : decode cX6_wetsCell 169 = .ok (.iinc 8 1, 3) := by decide +kernel
theorem dX6_wetsCell_172 : decode cX6_wetsCell 172 = .ok (.goto (-65), 3) := by decide +kernel
theorem dX6_wetsCell_175 : decode cX6_wetsCell 175 = .ok (.iinc 7 1, 3) := by decide +kernel
theorem dX6_wetsCell_178 : decode cX6_wetsCell 178 = .ok (.goto (-102), 3) := by decide +kernel
theorem dX6_wetsCell_181 : decode cX6_wetsCell 181 = .ok (.iload 6, 2) := by decide +kernel
theorem dX6_wetsCell_183 : decode cX6_wetsCell 183 = .ok (.ireturn, 1) := by decide +kernel
theorem dX6_wets_0 : decode cX6_wets 0 = .ok (.aload_n 0, 1) := by decide +kernel
theorem dX6_wets_1 : decode cX6_wets 1 = .ok (.iload_n 1, 1) := by decide +kernel
theorem dX6_wets_2 : decode cX6_wets 2 = .ok (.invokevirtual 140, 3) := by decide +kernel
theorem dX6_wets_5 : decode cX6_wets 5 = .ok (.ifCond .eq 12, 3) := by decide +kernel
theorem dX6_wets_8 : decode cX6_wets 8 = .ok (.aload_n 0, 1) := by decide +kernel
theorem dX6_wets_9 : decode cX6_wets 9 = .ok (.iload_n 2, 1) := by decide +kernel
theorem dX6_wets_10 : decode cX6_wets 10 = .ok (.iload_n 3, 1) := by decide +kernel
theorem dX6_wets_11 : decode cX6_wets 11 = .ok (.invokevirtual 237, 3) := by decide +kernel
theorem dX6_wets_14 : decode cX6_wets 14 = .ok (.ifCond .ne 5, 3) := by decide +kernel
theorem dX6_wets_17 : decode cX6_wets 17 = .ok (.iconst (-1), 1) := by decide +kernel
theorem dX6_wets_18 : decode cX6_wets 18 = .ok (.ireturn, 1) := by decide +kernel
theorem dX6_wets_19 : decode cX6_wets 19 = .ok (.aload_n 0, 1) := by decide +kernel
theorem dX6_wets_20 : decode cX6_wets 20 = .ok (.getfield 97, 3) := by decide +kernel
theorem dX6_wets_23 : decode cX6_wets 23 = .ok (.iload_n 1, 1) := by decide +kernel
theorem dX6_wets_24 : decode cX6_wets 24 = .ok (.baload, 1) := by decide +kernel
theorem dX6_wets_25 : decode cX6_wets 25 = .ok (.ifCond .ne 8, 3) := by decide +kernel
theorem dX6_wets_28 : decode cX6_wets 28 = .ok (.bipush (-3), 2) := by decide +kernel
theorem dX6_wets_30 : decode cX6_wets 30 = .ok (.goto 13, 3) := by decide +kernel
theorem dX6_wets_33 : decode cX6_wets 33 = .ok (.aload_n 0, 1) := by decide +kernel
theorem dX6_wets_34 : decode cX6_wets 34 = .ok (.iload_n 1, 1) := by decide +kernel
theorem dX6_wets_35 : decode cX6_wets 35 = .ok (.iload_n 2, 1) := by decide +kernel
theorem dX6_wets_36 : decode cX6_wets 36 = .ok (.iload_n 3, 1) := by decide +kernel
theorem dX6_wets_37 : decode cX6_wets 37 = .ok (.invokevirtual 258, 3) := by decide +kernel
theorem dX6_wets_40 : decode cX6_wets 40 = .ok (.invokestatic 200, 3) := by decide +kernel
theorem dX6_wets_43 : decode cX6_wets 43 = .ok (.ireturn, 1) := by decide +kernel
theorem dX6_dry_0 : decode cX6_dry 0 = .ok (.iconst 0, 1) := by decide +kernel
theorem dX6_dry_1 : decode cX6_dry 1 = .ok (.istore_n 2, 1) := by decide +kernel
theorem dX6_dry_2 : decode cX6_dry 2 = .ok (.iconst 0, 1) := by decide +kernel
theorem dX6_dry_3 : decode cX6_dry 3 = .ok (.istore_n 3, 1) := by decide +kernel
theorem dX6_dry_4 : decode cX6_dry 4 = .ok (.iload_n 3, 1) := by decide +kernel
theorem dX6_dry_5 : decode cX6_dry 5 = .ok (.aload_n 0, 1) := by decide +kernel
theorem dX6_dry_6 : decode cX6_dry 6 = .ok (.getfield 88, 3) := by decide +kernel
theorem dX6_dry_9 : decode cX6_dry 9 = .ok (.if_icmp .ge 122, 3) := by decide +kernel
theorem dX6_dry_12 : decode cX6_dry 12 = .ok (.iconst 0, 1) := by decide +kernel
theorem dX6_dry_13 : decode cX6_dry 13 = .ok (.istore 4, 2) := by decide +kernel
theorem dX6_dry_15 : decode cX6_dry 15 = .ok (.iload 4, 2) := by decide +kernel
theorem dX6_dry_17 : decode cX6_dry 17 = .ok (.aload_n 0, 1) := by decide +kernel
theorem dX6_dry_18 : decode cX6_dry 18 = .ok (.getfield 91, 3) := by decide +kernel
theorem dX6_dry_21 : decode cX6_dry 21 = .ok (.if_icmp .ge 104, 3) := by decide +kernel
theorem dX6_dry_24 : decode cX6_dry 24 = .ok (.aload_n 0, 1) := by decide +kernel
theorem dX6_dry_25 : decode cX6_dry 25 = .ok (.getfield 94, 3) := by decide +kernel
theorem dX6_dry_28 : decode cX6_dry 28 = .ok (.bipush 16, 2) := by decide +kernel
theorem dX6_dry_30 : decode cX6_dry 30 = .ok (.iload_n 3, 1) := by decide +kernel
theorem dX6_dry_31 : decode cX6_dry 31 = .ok (.imul, 1) := by decide +kernel
theorem dX6_dry_32 : decode cX6_dry 32 = .ok (.iload 4, 2) := by decide +kernel
theorem dX6_dry_34 : decode cX6_dry 34 = .ok (.iadd, 1) := by decide +kernel
theorem dX6_dry_35 : decode cX6_dry 35 = .ok (.iaload, 1) := by decide +kernel
theorem dX6_dry_36 : decode cX6_dry 36 = .ok (.ifCond .ne 7, 3) := by decide +kernel
theorem dX6_dry_39 : decode cX6_dry 39 = .ok (.iconst 1, 1) := by decide +kernel
theorem dX6_dry_40 : decode cX6_dry 40 = .ok (.goto 4, 3) := by decide +kernel
theorem dX6_dry_43 : decode cX6_dry 43 = .ok (.iconst 0, 1) := by decide +kernel
theorem dX6_dry_44 : decode cX6_dry 44 = .ok (.istore 5, 2) := by decide +kernel
theorem dX6_dry_46 : decode cX6_dry 46 = .ok (.iconst 0, 1) := by decide +kernel
theorem dX6_dry_47 : decode cX6_dry 47 = .ok (.istore 6, 2) := by decide +kernel
theorem dX6_dry_49 : decode cX6_dry 49 = .ok (.iload 6, 2) := by decide +kernel
theorem dX6_dry_51 : decode cX6_dry 51 = .ok (.aload_n 0, 1) := by decide +kernel
theorem dX6_dry_52 : decode cX6_dry 52 = .ok (.getfield 109, 3) := by decide +kernel
theorem dX6_dry_55 : decode cX6_dry 55 = .ok (.if_icmp .ge 43, 3) := by decide +kernel
theorem dX6_dry_58 : decode cX6_dry 58 = .ok (.iload 5, 2) := by decide +kernel
theorem dX6_dry_60 : decode cX6_dry 60 = .ok (.ifCond .eq 38, 3) := by decide +kernel
theorem dX6_dry_63 : decode cX6_dry 63 = .ok (.aload_n 0, 1) := by decide +kernel
theorem dX6_dry_64 : decode cX6_dry 64 = .ok (.getfield 97, 3) := by decide +kernel
theorem dX6_dry_67 : decode cX6_dry 67 = .ok (.iload 6, 2) := by decide +kernel
theorem dX6_dry_69 : decode cX6_dry 69 = .ok (.baload, 1) := by decide +kernel
theorem dX6_dry_70 : decode cX6_dry 70 = .ok (.ifCond .eq 15, 3) := by decide +kernel
theorem dX6_dry_73 : decode cX6_dry 73 = .ok (.aload_n 0, 1) := by decide +kernel
theorem dX6_dry_74 : decode cX6_dry 74 = .ok (.iload 6, 2) := by decide +kernel
theorem dX6_dry_76 : decode cX6_dry 76 = .ok (.iload_n 3, 1) := by decide +kernel
theorem dX6_dry_77 : decode cX6_dry 77 = .ok (.iload 4, 2) := by decide +kernel
theorem dX6_dry_79 : decode cX6_dry 79 = .ok (.invokevirtual 258, 3) := by decide +kernel
theorem dX6_dry_82 : decode cX6_dry 82 = .ok (.ifCond .ne 7, 3) := by decide +kernel
theorem dX6_dry_85 : decode cX6_dry 85 = .ok (.iconst 1, 1) := by decide +kernel
theorem dX6_dry_86 : decode cX6_dry 86 = .ok (.goto 4, 3) := by decide +kernel
theorem dX6_dry_89 : decode cX6_dry 89 = .ok (.iconst 0, 1) := by decide +kernel
theorem dX6_dry_90 : decode cX6_dry 90 = .ok (.istore 5, 2) := by decide +kernel
theorem dX6_dry_92 : decode cX6_dry 92 = .ok (.iinc 6 1, 3) := by decide +kernel
theorem dX6_dry_95 : decode cX6_dry 95 = .ok (.goto (-46), 3) := by decide +kernel
theorem dX6_dry_98 : decode cX6_dry 98 = .ok (.iload 5, 2) := by decide +kernel
theorem dX6_dry_100 : decode cX6_dry 100 = .ok (.ifCond .eq 19, 3) := by decide +kernel
theorem dX6_dry_103 : decode cX6_dry 103 = .ok (.iload_n 2, 1) := by decide +kernel
theorem dX6_dry_104 : decode cX6_dry 104 = .ok (.iload_n 1, 1) := by decide +kernel
theorem dX6_dry_105 : decode cX6_dry 105 = .ok (.if_icmp .ne 11, 3) := by decide +kernel
theorem dX6_dry_108 : decode cX6_dry 108 = .ok (.bipush 16, 2) := by decide +kernel
theorem dX6_dry_110 : decode cX6_dry 110 = .ok (.iload_n 3, 1) := by decide +kernel
theorem dX6_dry_111 : decode cX6_dry 111 = .ok (.imul, 1) := by decide +kernel
theorem dX6_dry_112 : decode cX6_dry 112 = .ok (.iload 4, 2) := by decide +kernel
theorem dX6_dry_114 : decode cX6_dry 114 = .ok (.iadd, 1) := by decide +kernel
theorem dX6_dry_115 : decode cX6_dry 115 = .ok (.ireturn, 1) := by decide +kernel
theorem dX6_dry_116 : decode cX6_dry 116 = .ok (.iinc 2 1, 3) := by decide +kernel
theorem dX6_dry_119 : decode cX6_dry 119 = .ok (.iinc 4 1, 3) := by decide +kernel
theorem dX6_dry_122 : decode cX6_dry 122 = .ok (.goto (-107), 3) := by decide +kernel
theorem dX6_dry_125 : decode cX6_dry 125 = .ok (.iinc 3 1, 3) := by decide +kernel
theorem dX6_dry_128 : decode cX6_dry 128 = .ok (.goto (-124), 3) := by decide +kernel
theorem dX6_dry_131 : decode cX6_dry 131 = .ok (.iload_n 1, 1) := by decide +kernel
theorem dX6_dry_132 : decode cX6_dry 132 = .ok (.iconst (-1), 1) := by decide +kernel
theorem dX6_dry_133 : decode cX6_dry 133 = .ok (.if_icmp .ne 7, 3) := by decide +kernel
theorem dX6_dry_136 : decode cX6_dry 136 = .ok (.iload_n 2, 1) := by decide +kernel
theorem dX6_dry_137 : decode cX6_dry 137 = .ok (.goto 5, 3) := by decide +kernel
theorem dX6_dry_140 : decode cX6_dry 140 = .ok (.bipush (-6), 2) := by decide +kernel
theorem dX6_dry_142 : decode cX6_dry 142 = .ok (.ireturn, 1) := by decide +kernel
theorem dX6_near_0 : decode cX6_near 0 = .ok (.iload_n 1, 1) := by decide +kernel
theorem dX6_near_1 : decode cX6_near 1 = .ok (.i2l, 1) := by decide +kernel
theorem dX6_near_2 : decode cX6_near 2 = .ok (.lconst 1, 1) := by decide +kernel
theorem dX6_near_3 : decode cX6_near 3 = .ok (.ldc2_w 262, 3) := by decide +kernel
theorem dX6_near_6 : decode cX6_near 6 = .ok (.invokestatic 112, 3) := by decide +kernel
theorem dX6_near_9 : decode cX6_near 9 = .ok (.ifCond .ne 6, 3) := by decide +kernel
theorem dX6_near_12 : decode cX6_near 12 = .ok (.bipush (-2), 2) := by decide +kernel
theorem dX6_near_14 : decode cX6_near 14 = .ok (.ireturn, 1) := by decide +kernel
theorem dX6_near_15 : decode cX6_near 15 = .ok (.iconst 0, 1) := by decide +kernel
theorem dX6_near_16 : decode cX6_near 16 = .ok (.istore_n 2, 1) := by decide +kernel
theorem dX6_near_17 : decode cX6_near 17 = .ok (.iload_n 2, 1) := by decide +kernel
theorem dX6_near_18 : decode cX6_near 18 = .ok (.aload_n 0, 1) := by decide +kernel
theorem dX6_near_19 : decode cX6_near 19 = .ok (.getfield 109, 3) := by decide +kernel
theorem dX6_near_22 : decode cX6_near 22 = .ok (.if_icmp .ge 85, 3) := by decide +kernel
theorem dX6_near_25 : decode cX6_near 25 = .ok (.iconst 0, 1) := by decide +kernel
theorem dX6_near_26 : decode cX6_near 26 = .ok (.istore_n 3, 1) := by decide +kernel
theorem dX6_near_27 : decode cX6_near 27 = .ok (.iload_n 3, 1) := by decide +kernel
theorem dX6_near_28 : decode cX6_near 28 = .ok (.aload_n 0, 1) := by decide +kernel
theorem dX6_near_29 : decode cX6_near 29 = .ok (.getfield 109, 3) := by decide +kernel
theorem dX6_near_32 : decode cX6_near 32 = .ok (.if_icmp .ge 69, 3) := by decide +kernel
theorem dX6_near_35 : decode cX6_near 35 = .ok (.aload_n 0, 1) := by decide +kernel
theorem dX6_near_36 : decode cX6_near 36 = .ok (.getfield 97, 3) := by decide +kernel
theorem dX6_near_39 : decode cX6_near 39 = .ok (.iload_n 2, 1) := by decide +kernel
theorem dX6_near_40 : decode cX6_near 40 = .ok (.baload, 1) := by decide +kernel
theorem dX6_near_41 : decode cX6_near 41 = .ok (.ifCond .eq 60, 3) := by decide +kernel
theorem dX6_near_44 : decode cX6_near 44 = .ok (.iload_n 3, 1) := by decide +kernel
theorem dX6_near_45 : decode cX6_near 45 = .ok (.iload_n 2, 1) := by decide +kernel
theorem dX6_near_46 : decode cX6_near 46 = .ok (.if_icmp .eq 49, 3) := by decide +kernel
theorem dX6_near_49 : decode cX6_near 49 = .ok (.aload_n 0, 1) := by decide +kernel
theorem dX6_near_50 : decode cX6_near 50 = .ok (.getfield 97, 3) := by decide +kernel
theorem dX6_near_53 : decode cX6_near 53 = .ok (.iload_n 3, 1) := by decide +kernel
theorem dX6_near_54 : decode cX6_near 54 = .ok (.baload, 1) := by decide +kernel
theorem dX6_near_55 : decode cX6_near 55 = .ok (.ifCond .eq 40, 3) := by decide +kernel
theorem dX6_near_58 : decode cX6_near 58 = .ok (.aload_n 0, 1) := by decide +kernel
theorem dX6_near_59 : decode cX6_near 59 = .ok (.getfield 100, 3) := by decide +kernel
theorem dX6_near_62 : decode cX6_near 62 = .ok (.iload_n 2, 1) := by decide +kernel
theorem dX6_near_63 : decode cX6_near 63 = .ok (.iaload, 1) := by decide +kernel
theorem dX6_near_64 : decode cX6_near 64 = .ok (.aload_n 0, 1) := by decide +kernel
theorem dX6_near_65 : decode cX6_near 65 = .ok (.getfield 100, 3) := by decide +kernel
theorem dX6_near_68 : decode cX6_near 68 = .ok (.iload_n 3, 1) := by decide +kernel
theorem dX6_near_69 : decode cX6_near 69 = .ok (.iaload, 1) := by decide +kernel
theorem dX6_near_70 : decode cX6_near 70 = .ok (.isub, 1) := by decide +kernel
theorem dX6_near_71 : decode cX6_near 71 = .ok (.aload_n 0, 1) := by decide +kernel
theorem dX6_near_72 : decode cX6_near 72 = .ok (.getfield 103, 3) := by decide +kernel
theorem dX6_near_75 : decode cX6_near 75 = .ok (.iload_n 2, 1) := by decide +kernel
theorem dX6_near_76 : decode cX6_near 76 = .ok (.iaload, 1) := by decide +kernel
theorem dX6_near_77 : decode cX6_near 77 = .ok (.aload_n 0, 1) := by decide +kernel
theorem dX6_near_78 : decode cX6_near 78 = .ok (.getfield 103, 3) := by decide +kernel
theorem dX6_near_81 : decode cX6_near 81 = .ok (.iload_n 3, 1) := by decide +kernel
theorem dX6_near_82 : decode cX6_near 82 = .ok (.iaload, 1) := by decide +kernel
theorem dX6_near_83 : decode cX6_near 83 = .ok (.isub, 1) := by decide +kernel
theorem dX6_near_84 : decode cX6_near 84 = .ok (.invokestatic 251, 3) := by decide +kernel
theorem dX6_near_87 : decode cX6_near 87 = .ok (.iload_n 1, 1) := by decide +kernel
theorem dX6_near_88 : decode cX6_near 88 = .ok (.iload_n 1, 1) := by decide +kernel
theorem dX6_near_89 : decode cX6_near 89 = .ok (.imul, 1) := by decide +kernel
theorem dX6_near_90 : decode cX6_near 90 = .ok (.if_icmp .ge 5, 3) := by decide +kernel
theorem dX6_near_93 : decode cX6_near 93 = .ok (.iload_n 2, 1) := by decide +kernel
theorem dX6_near_94 : decode cX6_near 94 = .ok (.ireturn, 1) := by decide +kernel
theorem dX6_near_95 : decode cX6_near 95 = .ok (.iinc 3 1, 3) := by decide +kernel
theorem dX6_near_98 : decode cX6_near 98 = .ok (.goto (-71), 3) := by decide +kernel
theorem dX6_near_101 : decode cX6_near 101 = .ok (.iinc 2 1, 3) := by decide +kernel
theorem dX6_near_104 : decode cX6_near 104 = .ok (.goto (-87), 3) := by decide +kernel
theorem dX6_near_107 : decode cX6_near 107 = .ok (.bipush (-6), 2) := by decide +kernel
theorem dX6_near_109 : decode cX6_near 109 = .ok (.ireturn, 1) := by decide +kernel
theorem dX6_told_0 : decode cX6_told 0 = .ok (.iconst 0, 1) := by decide +kernel
theorem dX6_told_1 : decode cX6_told 1 = .ok (.istore_n 2, 1) := by decide +kernel
theorem dX6_told_2 : decode cX6_told 2 = .ok (.iconst 0, 1) := by decide +kernel
theorem dX6_told_3 : decode cX6_told 3 = .ok (.istore_n 3, 1) := by decide +kernel
theorem dX6_told_4 : decode cX6_told 4 = .ok (.iconst 0, 1) := by decide +kernel
theorem dX6_told_5 : decode cX6_told 5 = .ok (.istore 4, 2) := by decide +kernel
theorem dX6_told_7 : decode cX6_told 7 = .ok (.iconst 0, 1) := by decide +kernel
theorem dX6_told_8 : decode cX6_told 8 = .ok (.istore 5, 2) := by decide +kernel
theorem dX6_told_10 : decode cX6_told 10 = .ok (.iload 5, 2) := by decide +kernel
theorem dX6_told_12 : decode cX6_told 12 = .ok (.aload_n 0, 1) := by decide +kernel
theorem dX6_told_13 : decode cX6_told 13 = .ok (.getfield 109, 3) := by decide +kernel
theorem dX6_told_16 : decode cX6_told 16 = .ok (.if_icmp .ge 68, 3) := by decide +kernel
theorem dX6_told_19 : decode cX6_told 19 = .ok (.iload_n 2, 1) := by decide +kernel
theorem dX6_told_20 : decode cX6_told 20 = .ok (.aload_n 0, 1) := by decide +kernel
theorem dX6_told_21 : decode cX6_told 21 = .ok (.getfield 39, 3) := by decide +kernel
theorem dX6_told_24 : decode cX6_told 24 = .ok (.iload 5, 2) := by decide +kernel
theorem dX6_told_26 : decode cX6_told 26 = .ok (.baload, 1) := by decide +kernel
theorem dX6_told_27 : decode cX6_told 27 = .ok (.invokestatic 200, 3) := by decide +kernel
theorem dX6_told_30 : decode cX6_told 30 = .ok (.iadd, 1) := by decide +kernel
theorem dX6_told_31 : decode cX6_told 31 = .ok (.istore_n 2, 1) := by decide +kernel
theorem dX6_told_32 : decode cX6_told 32 = .ok (.iload_n 3, 1) := by decide +kernel
theorem dX6_told_33 : decode cX6_told 33 = .ok (.aload_n 0, 1) := by decide +kernel
theorem dX6_told_34 : decode cX6_told 34 = .ok (.getfield 39, 3) := by decide +kernel
theorem dX6_told_37 : decode cX6_told 37 = .ok (.iload 5, 2) := by decide +kernel
theorem dX6_told_39 : decode cX6_told 39 = .ok (.baload, 1) := by decide +kernel
theorem dX6_told_40 : decode cX6_told 40 = .ok (.ifCond .eq 17, 3) := by decide +kernel
theorem dX6_told_43 : decode cX6_told 43 = .ok (.aload_n 0, 1) := by decide +kernel
theorem dX6_told_44 : decode cX6_told 44 = .ok (.getfield 48, 3) := by decide +kernel
theorem dX6_told_47 : decode cX6_told 47 = .ok (.iload 5, 2) := by decide +kernel
theorem dX6_told_49 : decode cX6_told 49 = .ok (.baload, 1) := by decide +kernel
theorem dX6_told_50 : decode cX6_told 50 = .ok (.ifCond .eq 7, 3) := by decide +kernel
theorem dX6_told_53 : decode cX6_told 53 = .ok (.iconst 1, 1) := by decide +kernel
theorem dX6_told_54 : decode cX6_told 54 = .ok (.goto 4, 3) := by decide +kernel
theorem dX6_told_57 : decode cX6_told 57 = .ok (.iconst 0, 1) := by decide +kernel
theorem dX6_told_58 : decode cX6_told 58 = .ok (.invokestatic 200, 3) := by decide +kernel
theorem dX6_told_61 : decode cX6_told 61 = .ok (.iadd, 1) := by decide +kernel
theorem dX6_told_62 : decode cX6_told 62 = .ok (.istore_n 3, 1) := by decide +kernel
theorem dX6_told_63 : decode cX6_told 63 = .ok (.iload 4, 2) := by decide +kernel
theorem dX6_told_65 : decode cX6_told 65 = .ok (.aload_n 0, 1) := by decide +kernel
theorem dX6_told_66 : decode cX6_told 66 = .ok (.getfield 97, 3) := by decide +kernel
theorem dX6_told_69 : decode cX6_told 69 = .ok (.iload 5, 2) := by decide +kernel
theorem dX6_told_71 : decode cX6_told 71 = .ok (.baload, 1) := by decide +kernel
theorem dX6_told_72 : decode cX6_told 72 = .ok (.invokestatic 200, 3) := by decide +kernel
theorem dX6_told_75 : decode cX6_told 75 = .ok (.iadd, 1) := by decide +kernel
theorem dX6_told_76 : decode cX6_told 76 = .ok (.istore 4, 2) := by decide +kernel
theorem dX6_told_78 : decode cX6_told 78 = .ok (.iinc 5 1, 3) := by decide +kernel
theorem dX6_told_81 : decode cX6_told 81 = .ok (.goto (-71), 3) := by decide +kernel
theorem dX6_told_84 : decode cX6_told 84 = .ok (.iconst 0, 1) := by decide +kernel
theorem dX6_told_85 : decode cX6_told 85 = .ok (.istore 5, 2) := by decide +kernel
theorem dX6_told_87 : decode cX6_told 87 = .ok (.iconst 0, 1) := by decide +kernel
theorem dX6_told_88 : decode cX6_told 88 = .ok (.istore 6, 2) := by decide +kernel
theorem dX6_told_90 : decode cX6_told 90 = .ok (.iload 6, 2) := by decide +kernel
theorem dX6_told_92 : decode cX6_told 92 = .ok (.sipush 256, 3) := by decide +kernel
theorem dX6_told_95 : decode cX6_told 95 = .ok (.if_icmp .ge 46, 3) := by decide +kernel
theorem dX6_told_98 : decode cX6_told 98 = .ok (.iload 5, 2) := by decide +kernel
theorem dX6_told_100 : decode cX6_told 100 = .ok (.aload_n 0, 1) := by decide +kernel
theorem dX6_told_101 : decode cX6_told 101 = .ok (.iload 6, 2) := by decide +kernel
theorem dX6_told_103 : decode cX6_told 103 = .ok (.bipush 16, 2) := by decide +kernel
theorem dX6_told_105 : decode cX6_told 105 = .ok (.idiv, 1) := by decide +kernel
theorem dX6_told_106 : decode cX6_told 106 = .ok (.iload 6, 2) := by decide +kernel
theorem dX6_told_108 : decode cX6_told 108 = .ok (.bipush 16, 2) := by decide +kernel
theorem dX6_told_110 : decode cX6_told 110 = .ok (.irem, 1) := by decide +kernel
theorem dX6_told_111 : decode cX6_told 111 = .ok (.invokevirtual 237, 3) := by decide +kernel
theorem dX6_told_114 : decode cX6_told 114 = .ok (.ifCond .eq 17, 3) := by decide +kernel
theorem dX6_told_117 : decode cX6_told 117 = .ok (.aload_n 0, 1) := by decide +kernel
theorem dX6_told_118 : decode cX6_told 118 = .ok (.getfield 94, 3) := by decide +kernel
theorem dX6_told_121 : decode cX6_told 121 = .ok (.iload 6, 2) := by decide +kernel
theorem dX6_told_123 : decode cX6_told 123 = .ok (.iaload, 1) := by decide +kernel
theorem dX6_told_124 : decode cX6_told 124 = .ok (.ifCond .ne 7, 3) := by decide +kernel
theorem dX6_told_127 : decode cX6_told 127 = .ok (.iconst 1, 1) := by decide +kernel
theorem dX6_told_128 : decode cX6_told 128 = .ok (.goto 4, 3) := by decide +kernel
theorem dX6_told_131 : decode cX6_told 131 = .ok (.iconst 0, 1) := by decide +kernel
theorem dX6_told_132 : decode cX6_told 132 = .ok (.iadd, 1) := by decide +kernel
theorem dX6_told_133 : decode cX6_told 133 = .ok (.istore 5, 2) := by decide +kernel
theorem dX6_told_135 : decode cX6_told 135 = .ok (.iinc 6 1, 3) := by decide +kernel
theorem dX6_told_138 : decode cX6_told 138 = .ok (.goto (-48), 3) := by decide +kernel
theorem dX6_told_141 : decode cX6_told 141 = .ok (.iload_n 1, 1) := by decide +kernel
theorem dX6_told_142 : decode cX6_told 142 = .ok (.tableswitch 94 0 9 #[54, 59, 64, 66, 68, 73, 78, 81, 84, 89], 54) := by decide +kernel
theorem dX6_told_196 : decode cX6_told 196 = .ok (.aload_n 0, 1) := by decide +kernel
theorem dX6_told_197 : decode cX6_told 197 = .ok (.getfield 131, 3) := by decide +kernel
theorem dX6_told_200 : decode cX6_told 200 = .ok (.ireturn, 1) := by decide +kernel
theorem dX6_told_201 : decode cX6_told 201 = .ok (.aload_n 0, 1) := by decide +kernel
theorem dX6_told_202 : decode cX6_told 202 = .ok (.getfield 109, 3) := by decide +kernel
theorem dX6_told_205 : decode cX6_told 205 = .ok (.ireturn, 1) := by decide +kernel
theorem dX6_told_206 : decode cX6_told 206 = .ok (.iload_n 2, 1) := by decide +kernel
theorem dX6_told_207 : decode cX6_told 207 = .ok (.ireturn, 1) := by decide +kernel
theorem dX6_told_208 : decode cX6_told 208 = .ok (.iload_n 3, 1) := by decide +kernel
theorem dX6_told_209 : decode cX6_told 209 = .ok (.ireturn, 1) := by decide +kernel
theorem dX6_told_210 : decode cX6_told 210 = .ok (.aload_n 0, 1) := by decide +kernel
theorem dX6_told_211 : decode cX6_told 211 = .ok (.getfield 208, 3) := by decide +kernel
theorem dX6_told_214 : decode cX6_told 214 = .ok (.ireturn, 1) := by decide +kernel
theorem dX6_told_215 : decode cX6_told 215 = .ok (.aload_n 0, 1) := by decide +kernel
theorem dX6_told_216 : decode cX6_told 216 = .ok (.invokevirtual 219, 3) := by decide +kernel
theorem dX6_told_219 : decode cX6_told 219 = .ok (.ireturn, 1) := by decide +kernel
theorem dX6_told_220 : decode cX6_told 220 = .ok (.iload 4, 2) := by decide +kernel
theorem dX6_told_222 : decode cX6_told 222 = .ok (.ireturn, 1) := by decide +kernel
theorem dX6_told_223 : decode cX6_told 223 = .ok (.iload 5, 2) := by decide +kernel
theorem dX6_told_225 : decode cX6_told 225 = .ok (.ireturn, 1) := by decide +kernel
theorem dX6_told_226 : decode cX6_told 226 = .ok (.aload_n 0, 1) := by decide +kernel
theorem dX6_told_227 : decode cX6_told 227 = .ok (.getfield 88, 3) := by decide +kernel
theorem dX6_told_230 : decode cX6_told 230 = .ok (.ireturn, 1) := by decide +kernel
theorem dX6_told_231 : decode cX6_told 231 = .ok (.aload_n 0, 1) := by decide +kernel
theorem dX6_told_232 : decode cX6_told 232 = .ok (.getfield 91, 3) := by decide +kernel
theorem dX6_told_235 : decode cX6_told 235 = .ok (.ireturn, 1) := by decide +kernel
theorem dX6_told_236 : decode cX6_told 236 = .ok (.bipush (-2), 2) := by decide +kernel
theorem dX6_told_238 : decode cX6_told 238 = .ok (.ireturn, 1) := by decide +kernel
end
section
/-! MY OWN LAYER: one fixed world of 58 cells, memory as a function, machine numbers as Int32.ofInt, Int64.ofInt of an Int -/
abbrev Mem : Type := Nat → Nat → Int
abbrev MV : Type := Int ⊕ Int ⊕ Nat
abbrev vi (x : Int) : MV := .inl x
abbrev vl (x : Int) : MV := .inr (.inl x)
abbrev vr (c : Nat) : MV := .inr (.inr c)
def up (σ : Mem) (c k : Nat) (z : Int) : Mem := fun c' k' => if c' = c then (if k' = k then z else σ c' k') else σ c' k'
theorem up_eq (σ : Mem) (c k : Nat) (z : Int) : up σ c k z c k = z := by simp [up]
theorem up_ne (σ : Mem) (c k : Nat) (z : Int) {c' k' : Nat} (h : c' ≠ c) : up σ c k z c' k' = σ c' k' := by simp [up, h]
theorem up_cell (σ : Mem) (c k : Nat) (z : Int) {c' : Nat} (h : c' ≠ c) : up σ c k z c' = σ c' := by funext k'; simp [up, h]
theorem up_nk (σ : Mem) (c k : Nat) (z : Int) {k' : Nat} (h : k' ≠ k) : up σ c k z c k' = σ c k' := by simp [up, h]
theorem up_at (σ : Mem) (c k : Nat) (z : Int) (k' : Nat) : up σ c k z c k' = if k' = k then z else σ c k' := by simp [up]
abbrev LK : Type := (Nat × List (Option Nat)) ⊕ (Nat × Nat)
/-- the cells: of an object its class (a place in 'classes') and its fields (none: an int; some c: the cell c); of an array its kind (0 int, 1 long, 2 boolean) and its length -/
def lay : List LK := [
  .inl (4, [some 1, some 2, some 3, some 4, some 5, none]),
  .inl (1, [none, none, some 6, some 7, none, some 8, some 9, some 10, some 11, some 12, none, none, none, none, some 13, some 14, some 15]),
  .inl (3, [some 1, some 16, some 17]),
  .inl (0, [some 1, some 2, some 5, none, none, some 18, some 19, some 20, none, some 21, some 22, some 23, none]),
  .inl (2, [none, none, some 24, none, some 25, some 26, some 27]),
  .inr (0, 6),
  .inr (0, 6), .inr (0, 6), .inr (0, 24), .inr (0, 24), .inr (0, 24), .inr (0, 25), .inr (0, 25), .inr (0, 24), .inr (0, 24), .inr (0, 24),
  .inr (1, 25), .inr (1, 25),
  .inr (0, 5), .inr (0, 5), .inr (0, 5), .inr (0, 6), .inr (0, 25), .inr (0, 25),
  .inr (0, 256), .inr (0, 24), .inr (0, 24), .inr (0, 24),
  .inl (5, [none, none, some 29, some 30, none, some 31, some 32, some 33, some 34, some 35, some 36, none, some 37, some 38, some 39, some 40, some 41, some 42, some 43, some 44, some 45, some 46, some 47, some 48, some 49, none, some 50, some 51, some 52, none, none, some 53, some 54, some 55, some 56, some 57]),
  .inr (0, 6), .inr (0, 6), .inr (0, 24), .inr (0, 24), .inr (0, 24), .inr (0, 24), .inr (2, 24), .inr (2, 24), .inr (2, 24), .inr (0, 24), .inr (0, 24), .inr (2, 24), .inr (0, 24), .inr (2, 24),
  .inr (1, 25), .inr (1, 25), .inr (1, 25), .inr (1, 25), .inr (1, 25), .inr (1, 25),
  .inr (2, 144), .inr (0, 5), .inr (0, 5), .inr (0, 5),
  .inr (0, 256), .inr (2, 24), .inr (0, 24), .inr (0, 24), .inr (0, 24)]
theorem lay_len : lay.length = 58 := by decide
abbrev classes : List vw_C := [(RX0, TX0, 13), (RX1, TX1, 17), (RX2, TX2, 7), (RX4, TX4, 3), (RX5, TX5, 6), (RX6, TX6, 36)]
def cvv (ad : Nat → Nat) : MV → Value
  | .inl x => .int (Int32.ofInt x)
  | .inr (.inl x) => .long (Int64.ofInt x)
  | .inr (.inr c) => .ref (ad c)
def mkF (ad : Nat → Nat) (f : Nat → Int) (k : Nat) : Option Nat → Value
  | none => .int (Int32.ofInt (f k))
  | some c => .ref (ad c)
def mkE (ad : Nat → Nat) (cA : Nat → ClassId) (f : Nat → Int) : LK → va_E
  | .inl (ci, fs) => .inr (ci, fs.mapIdx (fun k o => mkF ad f k o))
  | .inr (0, n) => .inl (cA 0, n, .inl (fun j => Int32.ofInt (f j)))
  | .inr (1, n) => .inl (cA 1, n, .inr (.inl (fun j => Int64.ofInt (f j))))
  | .inr (_, n) => .inl (cA 2, n, .inl (fun j => Int32.ofInt (f j)))
def mkW (ad : Nat → Nat) (cA : Nat → ClassId) (σ : Mem) : va_W := lay.mapIdx (fun c e => (ad c, mkE ad cA (σ c) e))
def tyA (cA : Nat → ClassId) : List (ClassId × FieldType) := [(cA 0, .int), (cA 1, .long), (cA 2, .boolean)]
theorem mkW_at {ad : Nat → Nat} {cA : Nat → ClassId} {σ : Mem} {c : Nat} {e : LK} (h : lay[c]? = some e) : (mkW ad cA σ)[c]? = some (ad c, mkE ad cA (σ c) e) := by
  simp [mkW, h]
theorem mkW_get {ad : Nat → Nat} {cA : Nat → ClassId} {σ : Mem} {c : Nat} {q : Nat × va_E} (h : (mkW ad cA σ)[c]? = some q) : ∃ e, lay[c]? = some e ∧ q = (ad c, mkE ad cA (σ c) e) := by
  simp only [mkW, List.getElem?_mapIdx, Option.map_eq_some_iff] at h
  obtain ⟨e, h1, h2⟩ := h
  exact ⟨e, h1, h2.symm⟩
theorem mkW_len {ad : Nat → Nat} {cA : Nat → ClassId} {σ : Mem} : (mkW ad cA σ).length = 58 := by simp [mkW, lay_len]
/-- one slot of one cell written -/
theorem mkW_set {ad : Nat → Nat} {cA : Nat → ClassId} {σ : Mem} {c k : Nat} {z : Int} {e : LK} (h : lay[c]? = some e) : (mkW ad cA σ).set c (ad c, mkE ad cA (up σ c k z c) e) = mkW ad cA (up σ c k z) := by
  apply List.ext_getElem?
  intro i
  have hlen : c < (mkW ad cA σ).length := by rw [mkW_len, ← lay_len]; exact (List.getElem?_eq_some_iff.mp h).1
  by_cases hi : i = c
  · subst hi
    rw [List.getElem?_set_self hlen, mkW_at h]
  · rw [List.getElem?_set_ne (Ne.symm hi)]
    simp only [mkW, List.getElem?_mapIdx, up_cell σ c k z hi]
/-- a whole cell anew -/
def upC (σ : Mem) (c : Nat) (f : Nat → Int) : Mem := fun c' => if c' = c then f else σ c'
theorem upC_eq (σ : Mem) (c : Nat) (f : Nat → Int) : upC σ c f c = f := by simp [upC]
theorem upC_ne (σ : Mem) (c : Nat) (f : Nat → Int) {c' : Nat} (h : c' ≠ c) : upC σ c f c' = σ c' := by simp [upC, h]
theorem mkW_setC {ad : Nat → Nat} {cA : Nat → ClassId} {σ : Mem} {c : Nat} {f : Nat → Int} {e : LK} (h : lay[c]? = some e) : (mkW ad cA σ).set c (ad c, mkE ad cA f e) = mkW ad cA (upC σ c f) := by
  apply List.ext_getElem?
  intro i
  have hlen : c < (mkW ad cA σ).length := by rw [mkW_len, ← lay_len]; exact (List.getElem?_eq_some_iff.mp h).1
  by_cases hi : i = c
  · subst hi
    rw [List.getElem?_set_self hlen, mkW_at h, upC_eq]
  · rw [List.getElem?_set_ne (Ne.symm hi)]
    simp only [mkW, List.getElem?_mapIdx, upC_ne σ c f hi]
theorem mkF_set {ad : Nat → Nat} {f : Nat → Int} {fs : List (Option Nat)} {k : Nat} {z : Int} (h : fs[k]? = some none) : (fs.mapIdx (fun k o => mkF ad f k o)).set k (.int (Int32.ofInt z)) = fs.mapIdx (fun j o => mkF ad (fun i => if i = k then z else f i) j o) := by
  apply List.ext_getElem?
  intro i
  have hlen : k < (fs.mapIdx (fun k o => mkF ad f k o)).length := by simpa using (List.getElem?_eq_some_iff.mp h).1
  by_cases hi : i = k
  · subst hi
    rw [List.getElem?_set_self hlen]
    simp [h, mkF]
  · rw [List.getElem?_set_ne (Ne.symm hi)]
    simp only [List.getElem?_mapIdx]
    congr 1
    funext o
    cases o <;> simp [mkF, hi]
/-- which cells may change -/
def A0 (ad : Nat → Nat) (sz : Nat) (q : Nat) : Prop := (∃ c, c < 58 ∧ q = ad c) ∨ sz ≤ q
theorem mkW_D {ad : Nat → Nat} {cA : Nat → ClassId} {σ τ : Mem} {A : Nat → Prop} (h : va_D A (mkW ad cA σ)) : va_D A (mkW ad cA τ) := by
  have key : ∀ (i : Nat) (q : Nat × va_E), (mkW ad cA τ)[i]? = some q → ∃ q', (mkW ad cA σ)[i]? = some q' ∧ q'.1 = q.1 := by
    intro i q hq
    obtain ⟨e, h1, rfl⟩ := mkW_get hq
    exact ⟨_, mkW_at h1, rfl⟩
  refine ⟨fun i j p q hp hq hpq => ?_, fun k q hq => ?_⟩
  · obtain ⟨p', h1, h2⟩ := key i p hp
    obtain ⟨q', h3, h4⟩ := key j q hq
    exact h.1 i j p' q' h1 h3 (by rw [h2, h4, hpq])
  · obtain ⟨q', h1, h2⟩ := key k q hq
    rw [← h2]; exact h.2 k q' h1
theorem mkW_A {ad : Nat → Nat} {cA : Nat → ClassId} {σ : Mem} {A : Nat → Prop} {sz : Nat} (h : va_D A (mkW ad cA σ)) : va_D (A0 ad sz) (mkW ad cA σ) := by
  refine ⟨h.1, fun k q hq => ?_⟩
  obtain ⟨e, h1, rfl⟩ := mkW_get hq
  exact Or.inl ⟨k, by rw [← lay_len]; exact (List.getElem?_eq_some_iff.mp h1).1, rfl⟩
theorem A0_grow {ad : Nat → Nat} {a b q : Nat} (h : a ≤ b) (hq : A0 ad b q) : A0 ad a q := by
  rcases hq with h1 | h1
  · exact Or.inl h1
  · exact Or.inr (Nat.le_trans h h1)
/-! numbers -/
abbrev R32 (x : Int) : Prop := -2147483648 ≤ x ∧ x < 2147483648
abbrev R64 (x : Int) : Prop := -9223372036854775808 ≤ x ∧ x < 9223372036854775808
theorem i32 {x : Int} (h : R32 x) : (Int32.ofInt x).toInt = x := Int32.toInt_ofInt_of_le (by have := h.1; omega) (by have := h.2; omega)
theorem i64 {x : Int} (h : R64 x) : (Int64.ofInt x).toInt = x := Int64.toInt_ofInt_of_le (by have := h.1; omega) (by have := h.2; omega)
theorem i32_lt {x y : Int} (hx : R32 x) (hy : R32 y) : Int32.ofInt x < Int32.ofInt y ↔ x < y := by rw [Int32.lt_iff_toInt_lt, i32 hx, i32 hy]
theorem i32_le {x y : Int} (hx : R32 x) (hy : R32 y) : Int32.ofInt x ≤ Int32.ofInt y ↔ x ≤ y := by rw [Int32.le_iff_toInt_le, i32 hx, i32 hy]
theorem i32_eq {x y : Int} (hx : R32 x) (hy : R32 y) : Int32.ofInt x = Int32.ofInt y ↔ x = y := by rw [← Int32.toInt_inj, i32 hx, i32 hy]
theorem i64_lt {x y : Int} (hx : R64 x) (hy : R64 y) : Int64.ofInt x < Int64.ofInt y ↔ x < y := by rw [Int64.lt_iff_toInt_lt, i64 hx, i64 hy]
theorem i64_le {x y : Int} (hx : R64 x) (hy : R64 y) : Int64.ofInt x ≤ Int64.ofInt y ↔ x ≤ y := by rw [Int64.le_iff_toInt_le, i64 hx, i64 hy]
theorem i64_eq {x y : Int} (hx : R64 x) (hy : R64 y) : Int64.ofInt x = Int64.ofInt y ↔ x = y := by rw [← Int64.toInt_inj, i64 hx, i64 hy]
theorem i32_rng (x : Int32) : R32 x.toInt := ⟨by have := x.le_toInt; omega, by have := x.toInt_lt; omega⟩
theorem i64_rng (x : Int64) : R64 x.toInt := ⟨by have := x.le_toInt; omega, by have := x.toInt_lt; omega⟩
theorem i32_0 : (0 : Int32) = Int32.ofInt 0 := rfl
theorem i32_in {x : Int} {n : Nat} (h0 : 0 ≤ x) (h1 : x < n) (hn : n < 2147483648) : vp_in (Int32.ofInt x) n := by
  rw [vp_in_iff, i32 ⟨by omega, by omega⟩]
  exact ⟨h0, h1⟩
theorem i32_nat {x : Int} (h : R32 x) : (Int32.ofInt x).toNatClampNeg = x.toNat := by
  rw [← Int32.toNat_toInt, i32 h]
theorem i32_div {x y : Int} (hx : 0 ≤ x ∧ x < 2147483648) (hy : 0 < y ∧ y < 2147483648) : Int32.ofInt x / Int32.ofInt y = Int32.ofInt (x / y) := by
  have hyn : Int32.ofInt y ≠ -1 := fun h => by
    have := congrArg Int32.toInt h
    rw [i32 ⟨by omega, by omega⟩] at this
    have h2 : (-1 : Int32).toInt = -1 := by decide
    omega
  have h1 : x / y ≤ x := Int.ediv_le_self y hx.1
  have h2 : 0 ≤ x / y := Int.ediv_nonneg hx.1 (by omega)
  apply Int32.toInt_inj.mp
  rw [Int32.toInt_div_of_ne_right _ _ hyn, i32 ⟨by omega, by omega⟩, i32 ⟨by omega, by omega⟩, i32 ⟨by omega, by omega⟩, Int.tdiv_eq_ediv_of_nonneg hx.1]
theorem i64_div {x y : Int} (hx : 0 ≤ x ∧ x < 9223372036854775808) (hy : 0 < y ∧ y < 9223372036854775808) : Int64.ofInt x / Int64.ofInt y = Int64.ofInt (x / y) := by
  have hyn : Int64.ofInt y ≠ -1 := fun h => by
    have := congrArg Int64.toInt h
    rw [i64 ⟨by omega, by omega⟩] at this
    have h2 : (-1 : Int64).toInt = -1 := by decide
    omega
  have h1 : x / y ≤ x := Int.ediv_le_self y hx.1
  have h2 : 0 ≤ x / y := Int.ediv_nonneg hx.1 (by omega)
  apply Int64.toInt_inj.mp
  rw [Int64.toInt_div_of_ne_right _ _ hyn, i64 ⟨by omega, by omega⟩, i64 ⟨by omega, by omega⟩, i64 ⟨by omega, by omega⟩, Int.tdiv_eq_ediv_of_nonneg hx.1]
theorem i32_ne0 {y : Int} (hy : R32 y) (h : y ≠ 0) : ¬ Int32.ofInt y = 0 := by
  rw [i32_0, i32_eq hy (by decide)]; exact h
theorem i64_0 : (0 : Int64) = Int64.ofInt 0 := rfl
theorem i64_ne0 {y : Int} (hy : R64 y) (h : y ≠ 0) : ¬ Int64.ofInt y = 0 := by
  rw [i64_0, i64_eq hy (by decide)]; exact h
theorem i32_long {x : Int} (h : R32 x) : (Int32.ofInt x).toInt64 = Int64.ofInt x := by
  apply Int64.toInt_inj.mp
  rw [Int32.toInt_toInt64, i32 h, i64 ⟨by omega, by omega⟩]
theorem i64_int {x : Int} (h : R64 x) : (Int64.ofInt x).toInt32 = Int32.ofInt x := by
  rw [← Int32.ofInt_int64ToInt, i64 h]
end
section
/-! words -/
def wT : List Cond := lw_tbl.filter goodWord
theorem wT_good : GoodIn wT wT := fun _ hw => ⟨hw, good_of_word (List.mem_filter.mp hw).2⟩
theorem wT_at (i : Nat) {w : Cond} (h : lw_tbl[i]? = some w) (hg : goodWord w = true) : w ∈ wT := List.mem_filter.mpr ⟨List.mem_of_getElem? h, hg⟩
theorem wT_cons {w : Cond} (h : w ∈ wT) : GoodIn wT (w :: wT) := fun x hx => by
  rcases List.mem_cons.mp hx with e | h2
  · rw [e]; exact wT_good w h
  · exact wT_good x h2
abbrev nestL : List (String × Nat × MethodName × String) := [(RX1, 63, yX5_withBit, "SprinklerHouse"), (RX4, 48, yX5_bit, "SprinklerHouse"), (RX0, 82, yX5_bit, "SprinklerHouse"), (RX2, 44, yX5_bit, "SprinklerHouse"), (RX2, 47, yX5_withBit, "SprinklerHouse")]
def nests (U : State) : Prop := ∀ q ∈ nestL, va_Nw (.methodLinkNest q.1 q.2.1 q.2.2.1 q.2.2.2) U
theorem nests_warm {s U : State} (hW : s.WarmedH U.vm) (h : nests s) : nests U := fun q hq => va_Nw.warmM hW (h q hq)
theorem nests_same {u U : State} (e : u.vm = U.vm) (h : nests u) : nests U := fun q hq => va_Nw.same rfl e (h q hq)
/-- the world at a state -/
def WD (D : va_G) (ad : Nat → Nat) (cA : Nat → ClassId) (σ : Mem) (U : State) : Prop := va_P D classes (mkW ad cA σ) U.heap ∧ va_K D classes (tyA cA) U ∧ va_D (fun _ => True) (mkW ad cA σ) ∧ nests U
def cvr : Nat → Int → Option Value
  | 0, _ => none
  | 1, r => some (.int (Int32.ofInt r))
  | _, r => some (.long (Int64.ofInt r))
def rv : Nat → Int → List MV
  | 0, _ => []
  | 1, r => [vi r]
  | _, r => [vl r]
theorem rv_map (ad : Nat → Nat) (rk : Nat) (r : Int) : (rv rk r).map (cvv ad) = (cvr rk r).toList := by
  match rk with
  | 0 => rfl
  | 1 => rfl
  | n + 2 => rfl
def QS (rk : Nat) (D : va_G) (ad : Nat → Nat) (cA : Nat → ClassId) (sz : Nat) (po : Int → Mem → Prop) : Array Value → State → Outcome → State → Prop := fun _ st oc t =>
  ∃ (r : Int) (σ' : Mem), oc = .returned (cvr rk r) ∧ po r σ' ∧ va_P D classes (mkW ad cA σ') t.heap ∧ va_F (A0 ad sz) st t
abbrev Rm (lev : Nat) : Room := { frames := lev, cells := 0, slots := 0, locals := 40 * lev }
/-- a contract at given arguments and a given memory -/
def Sp1 (y : MethodName) (bytes : ByteArray) (maxL : Nat) (rt : Option FieldType) (rk lev : Nat) (as : List MV) (σ : Mem) (po : Int → Mem → Prop) : Prop :=
  ∀ (l : Launch) (D : va_G) (ad : Nat → Nat) (cA : Nat → ClassId) (sz : Nat), Met l y (.code y bytes maxL rt :: wT) (Rm lev) (va_Pc (as.map (cvv ad)) (fun U => U.heap.size = sz ∧ WD D ad cA σ U)) (QS rk D ad cA sz po) 0 0 (A0 ad sz)
abbrev KT : Type := Program × Launch × Env × Room × State × MethodId × Array Value × List Frame × Method × Code × va_G × (Nat → Nat) × (Nat → ClassId) × (State → Prop) × Nat × Nat
def lvs (ad : Nat → Nat) (nL : Nat) (ls : List (Option MV)) (LS : Array Slot) : Prop := LS.size = nL ∧ lv_wf LS ∧ ∀ (k : Nat) (v : MV), ls[k]? = some (some v) → LS[k]? = some (.val (cvv ad v))
def M (K : KT) (pc : Nat) (ls : List (Option MV)) (st : List MV) (σ : Mem) : Prop := match K with
  | (p, l, e, R, s, m, args, below, meth, c, D, ad, cA, Q, cells, slots) => ∀ (H : Heap) (locs : List Loc) (LS : Array Slot), va_P D classes (mkW ad cA σ) H → va_D (A0 ad s.heap.size) (mkW ad cA σ) → va_S (A0 ad s.heap.size) s.heap H locs → lvs ad c.maxLocals ls LS → W p l e R s m args below meth c H locs cells slots Q (F0 m pc LS (st.map (cvv ad)))
def MC (K : KT) (cc : ByteArray) (nL : Nat) (own : String) (lev : Nat) : Prop := match K with
  | (p, _, _, R, s, m, args, _, meth, c, D, _, cA, _, cells, slots) => p.tables.exec = Jvm.exec ∧ c.code = cc ∧ c.maxLocals = nL ∧ s.vm.findClass own = some m.cls ∧ (∀ w ∈ wT, w.before args s = true) ∧ meth.locks = false ∧ va_K D classes (tyA cA) s ∧ nests s ∧ lev ≤ R.frames ∧ 40 * lev ≤ R.locals ∧ cells ≤ R.cells ∧ slots ≤ R.slots
def MR (K : KT) (rk : Nat) (rt : Option FieldType) (po : Int → Mem → Prop) : Prop := match K with
  | (_, _, _, _, s, _, args, below, meth, _, D, ad, cA, Q, cells, slots) => meth.sig.returnType = rt ∧ Q = MQ below (QS rk D ad cA s.heap.size po) args s cells slots (A0 ad s.heap.size)
/-! locals -/
def ent : List MV → List (Option MV)
  | [] => []
  | .inl x :: r => some (.inl x) :: ent r
  | .inr (.inl x) :: r => some (.inr (.inl x)) :: none :: ent r
  | .inr (.inr x) :: r => some (.inr (.inr x)) :: ent r
theorem ent_args (ad : Nat → Nat) : ∀ (as : List MV) (i k : Nat) (v : MV), (ent as)[k]? = some (some v) → (i + k, cvv ad v) ∈ lv_args i (as.map (cvv ad))
  | [], i, k, v, h => by simp [ent] at h
  | .inl x :: r, i, k, v, h => by
    cases k with
    | zero => simp [ent] at h; subst h; simp [lv_args]
    | succ k =>
      simp only [ent, List.getElem?_cons_succ] at h
      have := ent_args ad r (i + 1) k v h
      have e : lv_args i ((.inl x :: r : List MV).map (cvv ad)) = (i, cvv ad (.inl x)) :: lv_args (i + 1) (r.map (cvv ad)) := by simp [lv_args, cvv, Value.category]
      rw [e, show i + (k + 1) = i + 1 + k by omega]
      exact List.mem_cons_of_mem _ this
  | .inr (.inl x) :: r, i, k, v, h => by
    match k with
    | 0 => simp [ent] at h; subst h; simp [lv_args]
    | 1 => simp [ent] at h
    | k + 2 =>
      simp only [ent, List.getElem?_cons_succ] at h
      have := ent_args ad r (i + 2) k v h
      have e : lv_args i ((.inr (.inl x) :: r : List MV).map (cvv ad)) = (i, cvv ad (.inr (.inl x))) :: lv_args (i + 2) (r.map (cvv ad)) := by simp [lv_args, cvv, Value.category]
      rw [e, show i + (k + 2) = i + 2 + k by omega]
      exact List.mem_cons_of_mem _ this
  | .inr (.inr x) :: r, i, k, v, h => by
    cases k with
    | zero => simp [ent] at h; subst h; simp [lv_args]
    | succ k =>
      simp only [ent, List.getElem?_cons_succ] at h
      have := ent_args ad r (i + 1) k v h
      have e : lv_args i ((.inr (.inr x) :: r : List MV).map (cvv ad)) = (i, cvv ad (.inr (.inr x))) :: lv_args (i + 1) (r.map (cvv ad)) := by simp [lv_args, cvv, Value.category]
      rw [e, show i + (k + 1) = i + 1 + k by omega]
      exact List.mem_cons_of_mem _ this
def kill (ls : List (Option MV)) : Nat → List (Option MV)
  | 0 => ls
  | j + 1 => match ls[j]? with
    | some (some (.inr (.inl _))) => ls.set j none
    | _ => ls
def ls1 (ls : List (Option MV)) (k : Nat) (v : MV) : List (Option MV) := (kill ls k).set k (some v)
def ls2 (ls : List (Option MV)) (k : Nat) (v : MV) : List (Option MV) := ((kill ls k).set k (some v)).set (k + 1) none
theorem kill_at {ls : List (Option MV)} {k i : Nat} {v : MV} (h : (kill ls k)[i]? = some (some v)) : ls[i]? = some (some v) ∧ ¬ (i + 1 = k ∧ ∃ x, v = .inr (.inl x)) := by
  cases k with
  | zero => exact ⟨h, fun q => by omega⟩
  | succ j =>
    simp only [kill] at h
    split at h
    · next x hx =>
      by_cases hij : i = j
      · subst hij
        rw [List.getElem?_set] at h
        have hl : i < ls.length := (List.getElem?_eq_some_iff.mp hx).1
        simp [hl] at h
      · rw [List.getElem?_set_ne (Ne.symm hij)] at h
        exact ⟨h, fun q => hij (by omega)⟩
    · next hx =>
      refine ⟨h, fun q => ?_⟩
      obtain ⟨q1, x, rfl⟩ := q
      have : i = j := by omega
      subst this
      exact hx x h
theorem cvv_cat (ad : Nat → Nat) (v : MV) : (cvv ad v).category = 2 ↔ ∃ x, v = .inr (.inl x) := by
  match v with
  | .inl x => simp [cvv, Value.category]
  | .inr (.inl x) => simp [cvv, Value.category]
  | .inr (.inr x) => simp [cvv, Value.category]
/-- my locals as the kit's list -/
def lsl (ad : Nat → Nat) (ls : List (Option MV)) : List (Nat × Value) := (List.range ls.length).filterMap (fun k => match ls[k]? with
  | some (some v) => some (k, cvv ad v)
  | _ => none)
theorem lsl_mem {ad : Nat → Nat} {ls : List (Option MV)} {k : Nat} {v : MV} (h : ls[k]? = some (some v)) : (k, cvv ad v) ∈ lsl ad ls := by
  refine List.mem_filterMap.mpr ⟨k, List.mem_range.mpr (List.getElem?_eq_some_iff.mp h).1, ?_⟩
  simp [h]
theorem lvs_has {ad : Nat → Nat} {nL : Nat} {ls : List (Option MV)} {LS : Array Slot} (h : lvs ad nL ls LS) : lv_has LS nL (lsl ad ls) := by
  refine ⟨h.1, h.2.1, fun q hq => ?_⟩
  obtain ⟨k, -, hk⟩ := List.mem_filterMap.mp hq
  split at hk
  · next v hv => cases hk; exact h.2.2 k v hv
  · cases hk
theorem lvs_of {ad : Nat → Nat} {nL : Nat} {ls : List (Option MV)} {LS : Array Slot} {l : List (Nat × Value)} (h : lv_has LS nL l) (hm : ∀ (k : Nat) (v : MV), ls[k]? = some (some v) → (k, cvv ad v) ∈ l) : lvs ad nL ls LS :=
  ⟨h.1, h.2.1, fun k v hv => h.2.2 (k, cvv ad v) (hm k v hv)⟩
theorem lvs_1 {ad : Nat → Nat} {nL : Nat} {ls : List (Option MV)} {LS' : Array Slot} {i : Nat} {v : MV} {V : Value} (hV : cvv ad v = V)
    (h : lv_has LS' nL ((i, V) :: (lsl ad ls).filter (fun q => !(q.1 == i) && !(q.1 + 1 == i && q.2.category == 2)))) : lvs ad nL (ls1 ls i v) LS' := by
  subst hV
  refine lvs_of h (fun k w hw => ?_)
  by_cases hk : k = i
  · subst hk
    unfold ls1 at hw
    rw [List.getElem?_set] at hw
    by_cases hl : k < (kill ls k).length
    · simp [hl] at hw; subst hw; exact List.mem_cons_self
    · simp [hl] at hw
  · unfold ls1 at hw
    rw [List.getElem?_set_ne (Ne.symm hk)] at hw
    obtain ⟨h1, h2⟩ := kill_at hw
    refine List.mem_cons_of_mem _ (List.mem_filter.mpr ⟨lsl_mem h1, ?_⟩)
    have hc := cvv_cat ad w
    by_cases h3 : k + 1 = i
    · have : ¬ (cvv ad w).category = 2 := fun q => h2 ⟨h3, hc.mp q⟩
      simp [hk, h3, this]
    · simp [hk, h3]
theorem lvs_2 {ad : Nat → Nat} {nL : Nat} {ls : List (Option MV)} {LS' : Array Slot} {i : Nat} {v : MV} {V : Value} (hV : cvv ad v = V)
    (h : lv_has LS' nL ((i, V) :: (lsl ad ls).filter (fun q => !(q.1 == i) && (!(q.1 == i + 1) && !(q.1 + 1 == i && q.2.category == 2))))) : lvs ad nL (ls2 ls i v) LS' := by
  subst hV
  refine lvs_of h (fun k w hw => ?_)
  by_cases hk1 : k = i + 1
  · subst hk1
    unfold ls2 at hw
    rw [List.getElem?_set] at hw
    split at hw
    · split at hw <;> simp at hw
    · omega
  unfold ls2 at hw
  rw [List.getElem?_set_ne (Ne.symm hk1)] at hw
  by_cases hk : k = i
  · subst hk
    rw [List.getElem?_set] at hw
    by_cases hl : k < (kill ls k).length
    · simp [hl] at hw; subst hw; exact List.mem_cons_self
    · simp [hl] at hw
  · rw [List.getElem?_set_ne (Ne.symm hk)] at hw
    obtain ⟨h1, h2⟩ := kill_at hw
    refine List.mem_cons_of_mem _ (List.mem_filter.mpr ⟨lsl_mem h1, ?_⟩)
    have hc := cvv_cat ad w
    by_cases h3 : k + 1 = i
    · have : ¬ (cvv ad w).category = 2 := fun q => h2 ⟨h3, hc.mp q⟩
      simp [hk, hk1, h3, this]
    · simp [hk, hk1, h3]
end
section
theorem mi_iadd {K : KT} {cc : ByteArray} {nL : Nat} {own : String} {lev pc : Nat} {ls : List (Option MV)} {st : List MV} {σ : Mem} {x y : Int} (h : MC K cc nL own lev) (hd : decode cc pc = .ok (.iadd, 1)) (k : M K (pc + 1) ls (vi (x + y) :: st) σ) : M K pc ls (vi y :: vi x :: st) σ := by
  obtain ⟨p, l, e, R, s, m, args, below, meth, c, D, ad, cA, Q, cells, slots⟩ := K
  intro H locs LS hP hD hS hl
  have k2 := k H locs LS hP hD hS hl
  show W p l e R s m args below meth c H locs cells slots Q (F0 m pc LS (.int (Int32.ofInt y) :: .int (Int32.ofInt x) :: st.map (cvv ad)))
  refine lv_iadd h.1 h.2.1 hd ?_
  rw [← Int32.ofInt_add]
  exact k2
theorem mi_isub {K : KT} {cc : ByteArray} {nL : Nat} {own : String} {lev pc : Nat} {ls : List (Option MV)} {st : List MV} {σ : Mem} {x y : Int} (h : MC K cc nL own lev) (hd : decode cc pc = .ok (.isub, 1)) (k : M K (pc + 1) ls (vi (x - y) :: st) σ) : M K pc ls (vi y :: vi x :: st) σ := by
  obtain ⟨p, l, e, R, s, m, args, below, meth, c, D, ad, cA, Q, cells, slots⟩ := K
  intro H locs LS hP hD hS hl
  have k2 := k H locs LS hP hD hS hl
  show W p l e R s m args below meth c H locs cells slots Q (F0 m pc LS (.int (Int32.ofInt y) :: .int (Int32.ofInt x) :: st.map (cvv ad)))
  refine lv_isub h.1 h.2.1 hd ?_
  rw [← Int32.ofInt_sub]
  exact k2
theorem mi_imul {K : KT} {cc : ByteArray} {nL : Nat} {own : String} {lev pc : Nat} {ls : List (Option MV)} {st : List MV} {σ : Mem} {x y : Int} (h : MC K cc nL own lev) (hd : decode cc pc = .ok (.imul, 1)) (k : M K (pc + 1) ls (vi (x * y) :: st) σ) : M K pc ls (vi y :: vi x :: st) σ := by
  obtain ⟨p, l, e, R, s, m, args, below, meth, c, D, ad, cA, Q, cells, slots⟩ := K
  intro H locs LS hP hD hS hl
  have k2 := k H locs LS hP hD hS hl
  show W p l e R s m args below meth c H locs cells slots Q (F0 m pc LS (.int (Int32.ofInt y) :: .int (Int32.ofInt x) :: st.map (cvv ad)))
  refine lv_imul h.1 h.2.1 hd ?_
  rw [← Int32.ofInt_mul]
  exact k2
theorem mi_ladd {K : KT} {cc : ByteArray} {nL : Nat} {own : String} {lev pc : Nat} {ls : List (Option MV)} {st : List MV} {σ : Mem} {x y : Int} (h : MC K cc nL own lev) (hd : decode cc pc = .ok (.ladd, 1)) (k : M K (pc + 1) ls (vl (x + y) :: st) σ) : M K pc ls (vl y :: vl x :: st) σ := by
  obtain ⟨p, l, e, R, s, m, args, below, meth, c, D, ad, cA, Q, cells, slots⟩ := K
  intro H locs LS hP hD hS hl
  have k2 := k H locs LS hP hD hS hl
  show W p l e R s m args below meth c H locs cells slots Q (F0 m pc LS (.long (Int64.ofInt y) :: .long (Int64.ofInt x) :: st.map (cvv ad)))
  refine lv_ladd h.1 h.2.1 hd ?_
  rw [← Int64.ofInt_add]
  exact k2
theorem mi_lsub {K : KT} {cc : ByteArray} {nL : Nat} {own : String} {lev pc : Nat} {ls : List (Option MV)} {st : List MV} {σ : Mem} {x y : Int} (h : MC K cc nL own lev) (hd : decode cc pc = .ok (.lsub, 1)) (k : M K (pc + 1) ls (vl (x - y) :: st) σ) : M K pc ls (vl y :: vl x :: st) σ := by
  obtain ⟨p, l, e, R, s, m, args, below, meth, c, D, ad, cA, Q, cells, slots⟩ := K
  intro H locs LS hP hD hS hl
  have k2 := k H locs LS hP hD hS hl
  show W p l e R s m args below meth c H locs cells slots Q (F0 m pc LS (.long (Int64.ofInt y) :: .long (Int64.ofInt x) :: st.map (cvv ad)))
  refine lv_lsub h.1 h.2.1 hd ?_
  rw [← Int64.ofInt_sub]
  exact k2
theorem mi_lmul {K : KT} {cc : ByteArray} {nL : Nat} {own : String} {lev pc : Nat} {ls : List (Option MV)} {st : List MV} {σ : Mem} {x y : Int} (h : MC K cc nL own lev) (hd : decode cc pc = .ok (.lmul, 1)) (k : M K (pc + 1) ls (vl (x * y) :: st) σ) : M K pc ls (vl y :: vl x :: st) σ := by
  obtain ⟨p, l, e, R, s, m, args, below, meth, c, D, ad, cA, Q, cells, slots⟩ := K
  intro H locs LS hP hD hS hl
  have k2 := k H locs LS hP hD hS hl
  show W p l e R s m args below meth c H locs cells slots Q (F0 m pc LS (.long (Int64.ofInt y) :: .long (Int64.ofInt x) :: st.map (cvv ad)))
  refine lv_lmul h.1 h.2.1 hd ?_
  rw [← Int64.ofInt_mul]
  exact k2
theorem mi_ineg {K : KT} {cc : ByteArray} {nL : Nat} {own : String} {lev pc : Nat} {ls : List (Option MV)} {st : List MV} {σ : Mem} {x : Int} (h : MC K cc nL own lev) (hd : decode cc pc = .ok (.ineg, 1)) (k : M K (pc + 1) ls (vi (-x) :: st) σ) : M K pc ls (vi x :: st) σ := by
  obtain ⟨p, l, e, R, s, m, args, below, meth, c, D, ad, cA, Q, cells, slots⟩ := K
  intro H locs LS hP hD hS hl
  have k2 := k H locs LS hP hD hS hl
  show W p l e R s m args below meth c H locs cells slots Q (F0 m pc LS (.int (Int32.ofInt x) :: st.map (cvv ad)))
  refine lv_ineg h.1 h.2.1 hd ?_
  rw [← Int32.ofInt_neg]
  exact k2
theorem mi_idiv {K : KT} {cc : ByteArray} {nL : Nat} {own : String} {lev pc : Nat} {ls : List (Option MV)} {st : List MV} {σ : Mem} {x y : Int} (h : MC K cc nL own lev) (hd : decode cc pc = .ok (.idiv, 1)) (hx : 0 ≤ x ∧ x < 2147483648) (hy : 0 < y ∧ y < 2147483648) (k : M K (pc + 1) ls (vi (x / y) :: st) σ) : M K pc ls (vi y :: vi x :: st) σ := by
  obtain ⟨p, l, e, R, s, m, args, below, meth, c, D, ad, cA, Q, cells, slots⟩ := K
  intro H locs LS hP hD hS hl
  have k2 := k H locs LS hP hD hS hl
  show W p l e R s m args below meth c H locs cells slots Q (F0 m pc LS (.int (Int32.ofInt y) :: .int (Int32.ofInt x) :: st.map (cvv ad)))
  refine lv_idiv h.1 h.2.1 hd (i32_ne0 ⟨by omega, by omega⟩ (by omega)) ?_
  rw [i32_div hx hy]
  exact k2
theorem mi_irem {K : KT} {cc : ByteArray} {nL : Nat} {own : String} {lev pc : Nat} {ls : List (Option MV)} {st : List MV} {σ : Mem} {x y : Int} (h : MC K cc nL own lev) (hd : decode cc pc = .ok (.irem, 1)) (hx : 0 ≤ x ∧ x < 2147483648) (hy : 0 < y ∧ y < 2147483648) (k : M K (pc + 1) ls (vi (x % y) :: st) σ) : M K pc ls (vi y :: vi x :: st) σ := by
  obtain ⟨p, l, e, R, s, m, args, below, meth, c, D, ad, cA, Q, cells, slots⟩ := K
  intro H locs LS hP hD hS hl
  have k2 := k H locs LS hP hD hS hl
  show W p l e R s m args below meth c H locs cells slots Q (F0 m pc LS (.int (Int32.ofInt y) :: .int (Int32.ofInt x) :: st.map (cvv ad)))
  refine lv_irem h.1 h.2.1 hd (i32_ne0 ⟨by omega, by omega⟩ (by omega)) ?_
  rw [i32_div hx hy, ← Int32.ofInt_mul, ← Int32.ofInt_sub, show x - x / y * y = x % y by rw [Int.emod_def, Int.mul_comm]]
  exact k2
theorem mi_ldiv {K : KT} {cc : ByteArray} {nL : Nat} {own : String} {lev pc : Nat} {ls : List (Option MV)} {st : List MV} {σ : Mem} {x y : Int} (h : MC K cc nL own lev) (hd : decode cc pc = .ok (.ldiv, 1)) (hx : 0 ≤ x ∧ x < 9223372036854775808) (hy : 0 < y ∧ y < 9223372036854775808) (k : M K (pc + 1) ls (vl (x / y) :: st) σ) : M K pc ls (vl y :: vl x :: st) σ := by
  obtain ⟨p, l, e, R, s, m, args, below, meth, c, D, ad, cA, Q, cells, slots⟩ := K
  intro H locs LS hP hD hS hl
  have k2 := k H locs LS hP hD hS hl
  show W p l e R s m args below meth c H locs cells slots Q (F0 m pc LS (.long (Int64.ofInt y) :: .long (Int64.ofInt x) :: st.map (cvv ad)))
  refine lv_ldiv h.1 h.2.1 hd (i64_ne0 ⟨by omega, by omega⟩ (by omega)) ?_
  rw [i64_div hx hy]
  exact k2
theorem mi_lrem {K : KT} {cc : ByteArray} {nL : Nat} {own : String} {lev pc : Nat} {ls : List (Option MV)} {st : List MV} {σ : Mem} {x y : Int} (h : MC K cc nL own lev) (hd : decode cc pc = .ok (.lrem, 1)) (hx : 0 ≤ x ∧ x < 9223372036854775808) (hy : 0 < y ∧ y < 9223372036854775808) (k : M K (pc + 1) ls (vl (x % y) :: st) σ) : M K pc ls (vl y :: vl x :: st) σ := by
  obtain ⟨p, l, e, R, s, m, args, below, meth, c, D, ad, cA, Q, cells, slots⟩ := K
  intro H locs LS hP hD hS hl
  have k2 := k H locs LS hP hD hS hl
  show W p l e R s m args below meth c H locs cells slots Q (F0 m pc LS (.long (Int64.ofInt y) :: .long (Int64.ofInt x) :: st.map (cvv ad)))
  refine lv_lrem h.1 h.2.1 hd (i64_ne0 ⟨by omega, by omega⟩ (by omega)) ?_
  rw [i64_div hx hy, ← Int64.ofInt_mul, ← Int64.ofInt_sub, show x - x / y * y = x % y by rw [Int.emod_def, Int.mul_comm]]
  exact k2
theorem mi_iand {K : KT} {cc : ByteArray} {nL : Nat} {own : String} {lev pc : Nat} {ls : List (Option MV)} {st : List MV} {σ : Mem} {x y z : Int} (h : MC K cc nL own lev) (hd : decode cc pc = .ok (.iand, 1)) (hz : Int32.ofInt x &&& Int32.ofInt y = Int32.ofInt z) (k : M K (pc + 1) ls (vi z :: st) σ) : M K pc ls (vi y :: vi x :: st) σ := by
  obtain ⟨p, l, e, R, s, m, args, below, meth, c, D, ad, cA, Q, cells, slots⟩ := K
  intro H locs LS hP hD hS hl
  have k2 := k H locs LS hP hD hS hl
  show W p l e R s m args below meth c H locs cells slots Q (F0 m pc LS (.int (Int32.ofInt y) :: .int (Int32.ofInt x) :: st.map (cvv ad)))
  refine lv_iand h.1 h.2.1 hd ?_
  rw [hz]
  exact k2
theorem mi_ior {K : KT} {cc : ByteArray} {nL : Nat} {own : String} {lev pc : Nat} {ls : List (Option MV)} {st : List MV} {σ : Mem} {x y z : Int} (h : MC K cc nL own lev) (hd : decode cc pc = .ok (.ior, 1)) (hz : Int32.ofInt x ||| Int32.ofInt y = Int32.ofInt z) (k : M K (pc + 1) ls (vi z :: st) σ) : M K pc ls (vi y :: vi x :: st) σ := by
  obtain ⟨p, l, e, R, s, m, args, below, meth, c, D, ad, cA, Q, cells, slots⟩ := K
  intro H locs LS hP hD hS hl
  have k2 := k H locs LS hP hD hS hl
  show W p l e R s m args below meth c H locs cells slots Q (F0 m pc LS (.int (Int32.ofInt y) :: .int (Int32.ofInt x) :: st.map (cvv ad)))
  refine lv_ior h.1 h.2.1 hd ?_
  rw [hz]
  exact k2
theorem mi_ixor {K : KT} {cc : ByteArray} {nL : Nat} {own : String} {lev pc : Nat} {ls : List (Option MV)} {st : List MV} {σ : Mem} {x y z : Int} (h : MC K cc nL own lev) (hd : decode cc pc = .ok (.ixor, 1)) (hz : Int32.ofInt x ^^^ Int32.ofInt y = Int32.ofInt z) (k : M K (pc + 1) ls (vi z :: st) σ) : M K pc ls (vi y :: vi x :: st) σ := by
  obtain ⟨p, l, e, R, s, m, args, below, meth, c, D, ad, cA, Q, cells, slots⟩ := K
  intro H locs LS hP hD hS hl
  have k2 := k H locs LS hP hD hS hl
  show W p l e R s m args below meth c H locs cells slots Q (F0 m pc LS (.int (Int32.ofInt y) :: .int (Int32.ofInt x) :: st.map (cvv ad)))
  refine lv_ixor h.1 h.2.1 hd ?_
  rw [hz]
  exact k2
theorem mi_ishl {K : KT} {cc : ByteArray} {nL : Nat} {own : String} {lev pc : Nat} {ls : List (Option MV)} {st : List MV} {σ : Mem} {x y z : Int} (h : MC K cc nL own lev) (hd : decode cc pc = .ok (.ishl, 1)) (hz : Int32.ofInt x <<< (Int32.ofInt y &&& 31) = Int32.ofInt z) (k : M K (pc + 1) ls (vi z :: st) σ) : M K pc ls (vi y :: vi x :: st) σ := by
  obtain ⟨p, l, e, R, s, m, args, below, meth, c, D, ad, cA, Q, cells, slots⟩ := K
  intro H locs LS hP hD hS hl
  have k2 := k H locs LS hP hD hS hl
  show W p l e R s m args below meth c H locs cells slots Q (F0 m pc LS (.int (Int32.ofInt y) :: .int (Int32.ofInt x) :: st.map (cvv ad)))
  refine lv_ishl h.1 h.2.1 hd ?_
  rw [hz]
  exact k2
theorem mi_iushr {K : KT} {cc : ByteArray} {nL : Nat} {own : String} {lev pc : Nat} {ls : List (Option MV)} {st : List MV} {σ : Mem} {x y z : Int} (h : MC K cc nL own lev) (hd : decode cc pc = .ok (.iushr, 1)) (hz : ((Int32.ofInt x).toUInt32 >>> ((Int32.ofInt y).toUInt32 &&& Int32.toUInt32 31)).toInt32 = Int32.ofInt z) (k : M K (pc + 1) ls (vi z :: st) σ) : M K pc ls (vi y :: vi x :: st) σ := by
  obtain ⟨p, l, e, R, s, m, args, below, meth, c, D, ad, cA, Q, cells, slots⟩ := K
  intro H locs LS hP hD hS hl
  have k2 := k H locs LS hP hD hS hl
  show W p l e R s m args below meth c H locs cells slots Q (F0 m pc LS (.int (Int32.ofInt y) :: .int (Int32.ofInt x) :: st.map (cvv ad)))
  refine lv_iushr h.1 h.2.1 hd hz ?_
  exact k2
theorem mi_lshl {K : KT} {cc : ByteArray} {nL : Nat} {own : String} {lev pc : Nat} {ls : List (Option MV)} {st : List MV} {σ : Mem} {x y z : Int} (h : MC K cc nL own lev) (hd : decode cc pc = .ok (.lshl, 1)) (hz : Int64.ofInt x <<< ((Int32.ofInt y).toInt64 &&& 63) = Int64.ofInt z) (k : M K (pc + 1) ls (vl z :: st) σ) : M K pc ls (vi y :: vl x :: st) σ := by
  obtain ⟨p, l, e, R, s, m, args, below, meth, c, D, ad, cA, Q, cells, slots⟩ := K
  intro H locs LS hP hD hS hl
  have k2 := k H locs LS hP hD hS hl
  show W p l e R s m args below meth c H locs cells slots Q (F0 m pc LS (.int (Int32.ofInt y) :: .long (Int64.ofInt x) :: st.map (cvv ad)))
  refine lv_lshl h.1 h.2.1 hd hz ?_
  exact k2
theorem mi_lshr {K : KT} {cc : ByteArray} {nL : Nat} {own : String} {lev pc : Nat} {ls : List (Option MV)} {st : List MV} {σ : Mem} {x y z : Int} (h : MC K cc nL own lev) (hd : decode cc pc = .ok (.lshr, 1)) (hz : Int64.ofInt x >>> ((Int32.ofInt y).toInt64 &&& 63) = Int64.ofInt z) (k : M K (pc + 1) ls (vl z :: st) σ) : M K pc ls (vi y :: vl x :: st) σ := by
  obtain ⟨p, l, e, R, s, m, args, below, meth, c, D, ad, cA, Q, cells, slots⟩ := K
  intro H locs LS hP hD hS hl
  have k2 := k H locs LS hP hD hS hl
  show W p l e R s m args below meth c H locs cells slots Q (F0 m pc LS (.int (Int32.ofInt y) :: .long (Int64.ofInt x) :: st.map (cvv ad)))
  refine lv_lshr h.1 h.2.1 hd hz ?_
  exact k2
theorem mi_lushr {K : KT} {cc : ByteArray} {nL : Nat} {own : String} {lev pc : Nat} {ls : List (Option MV)} {st : List MV} {σ : Mem} {x y z : Int} (h : MC K cc nL own lev) (hd : decode cc pc = .ok (.lushr, 1)) (hz : ((Int64.ofInt x).toUInt64 >>> ((Int32.ofInt y).toInt64.toUInt64 &&& Int64.toUInt64 63)).toInt64 = Int64.ofInt z) (k : M K (pc + 1) ls (vl z :: st) σ) : M K pc ls (vi y :: vl x :: st) σ := by
  obtain ⟨p, l, e, R, s, m, args, below, meth, c, D, ad, cA, Q, cells, slots⟩ := K
  intro H locs LS hP hD hS hl
  have k2 := k H locs LS hP hD hS hl
  show W p l e R s m args below meth c H locs cells slots Q (F0 m pc LS (.int (Int32.ofInt y) :: .long (Int64.ofInt x) :: st.map (cvv ad)))
  refine lv_lushr h.1 h.2.1 hd hz ?_
  exact k2
theorem mi_i2l {K : KT} {cc : ByteArray} {nL : Nat} {own : String} {lev pc : Nat} {ls : List (Option MV)} {st : List MV} {σ : Mem} {x : Int} (h : MC K cc nL own lev) (hd : decode cc pc = .ok (.i2l, 1)) (hx : R32 x) (k : M K (pc + 1) ls (vl x :: st) σ) : M K pc ls (vi x :: st) σ := by
  obtain ⟨p, l, e, R, s, m, args, below, meth, c, D, ad, cA, Q, cells, slots⟩ := K
  intro H locs LS hP hD hS hl
  have k2 := k H locs LS hP hD hS hl
  show W p l e R s m args below meth c H locs cells slots Q (F0 m pc LS (.int (Int32.ofInt x) :: st.map (cvv ad)))
  refine lv_i2l h.1 h.2.1 hd (i32_long hx) ?_
  exact k2
theorem mi_l2i {K : KT} {cc : ByteArray} {nL : Nat} {own : String} {lev pc : Nat} {ls : List (Option MV)} {st : List MV} {σ : Mem} {x : Int} (h : MC K cc nL own lev) (hd : decode cc pc = .ok (.l2i, 1)) (hx : R64 x) (k : M K (pc + 1) ls (vi x :: st) σ) : M K pc ls (vl x :: st) σ := by
  obtain ⟨p, l, e, R, s, m, args, below, meth, c, D, ad, cA, Q, cells, slots⟩ := K
  intro H locs LS hP hD hS hl
  have k2 := k H locs LS hP hD hS hl
  show W p l e R s m args below meth c H locs cells slots Q (F0 m pc LS (.long (Int64.ofInt x) :: st.map (cvv ad)))
  refine lv_l2i h.1 h.2.1 hd (i64_int hx) ?_
  exact k2
theorem mi_iconst {K : KT} {cc : ByteArray} {nL : Nat} {own : String} {lev pc : Nat} {ls : List (Option MV)} {st : List MV} {σ : Mem} {n : Int} (h : MC K cc nL own lev) (hd : decode cc pc = .ok (.iconst n, 1)) (k : M K (pc + 1) ls (vi n :: st) σ) : M K pc ls (st) σ := by
  obtain ⟨p, l, e, R, s, m, args, below, meth, c, D, ad, cA, Q, cells, slots⟩ := K
  intro H locs LS hP hD hS hl
  have k2 := k H locs LS hP hD hS hl
  show W p l e R s m args below meth c H locs cells slots Q (F0 m pc LS (st.map (cvv ad)))
  refine lv_iconst (v := Int32.ofInt n) h.1 h.2.1 hd rfl ?_
  exact k2
theorem mi_bipush {K : KT} {cc : ByteArray} {nL : Nat} {own : String} {lev pc : Nat} {ls : List (Option MV)} {st : List MV} {σ : Mem} {n : Int} (h : MC K cc nL own lev) (hd : decode cc pc = .ok (.bipush n, 2)) (hn : (Int8.ofInt n).toInt32 = Int32.ofInt n := by decide) (k : M K (pc + 2) ls (vi n :: st) σ) : M K pc ls (st) σ := by
  obtain ⟨p, l, e, R, s, m, args, below, meth, c, D, ad, cA, Q, cells, slots⟩ := K
  intro H locs LS hP hD hS hl
  have k2 := k H locs LS hP hD hS hl
  show W p l e R s m args below meth c H locs cells slots Q (F0 m pc LS (st.map (cvv ad)))
  refine lv_bipush (v := Int32.ofInt n) h.1 h.2.1 hd hn ?_
  exact k2
theorem mi_sipush {K : KT} {cc : ByteArray} {nL : Nat} {own : String} {lev pc : Nat} {ls : List (Option MV)} {st : List MV} {σ : Mem} {n : Int} (h : MC K cc nL own lev) (hd : decode cc pc = .ok (.sipush n, 3)) (hn : (Int16.ofInt n).toInt32 = Int32.ofInt n := by decide) (k : M K (pc + 3) ls (vi n :: st) σ) : M K pc ls (st) σ := by
  obtain ⟨p, l, e, R, s, m, args, below, meth, c, D, ad, cA, Q, cells, slots⟩ := K
  intro H locs LS hP hD hS hl
  have k2 := k H locs LS hP hD hS hl
  show W p l e R s m args below meth c H locs cells slots Q (F0 m pc LS (st.map (cvv ad)))
  refine lv_sipush (v := Int32.ofInt n) h.1 h.2.1 hd hn ?_
  exact k2
theorem mi_lconst0 {K : KT} {cc : ByteArray} {nL : Nat} {own : String} {lev pc : Nat} {ls : List (Option MV)} {st : List MV} {σ : Mem} (h : MC K cc nL own lev) (hd : decode cc pc = .ok (.lconst 0, 1)) (k : M K (pc + 1) ls (vl 0 :: st) σ) : M K pc ls (st) σ := by
  obtain ⟨p, l, e, R, s, m, args, below, meth, c, D, ad, cA, Q, cells, slots⟩ := K
  intro H locs LS hP hD hS hl
  have k2 := k H locs LS hP hD hS hl
  show W p l e R s m args below meth c H locs cells slots Q (F0 m pc LS (st.map (cvv ad)))
  refine lv_lconst (v := Int64.ofInt 0) h.1 h.2.1 hd rfl ?_
  exact k2
theorem mi_lconst1 {K : KT} {cc : ByteArray} {nL : Nat} {own : String} {lev pc : Nat} {ls : List (Option MV)} {st : List MV} {σ : Mem} (h : MC K cc nL own lev) (hd : decode cc pc = .ok (.lconst 1, 1)) (k : M K (pc + 1) ls (vl 1 :: st) σ) : M K pc ls (st) σ := by
  obtain ⟨p, l, e, R, s, m, args, below, meth, c, D, ad, cA, Q, cells, slots⟩ := K
  intro H locs LS hP hD hS hl
  have k2 := k H locs LS hP hD hS hl
  show W p l e R s m args below meth c H locs cells slots Q (F0 m pc LS (st.map (cvv ad)))
  refine lv_lconst (v := Int64.ofInt 1) h.1 h.2.1 hd rfl ?_
  exact k2
theorem mi_ldc {K : KT} {cc : ByteArray} {nL : Nat} {own : String} {lev pc : Nat} {ls : List (Option MV)} {st : List MV} {σ : Mem} {idx : Nat} {v : Int32} {z : Int} (h : MC K cc nL own lev) (hd : decode cc pc = .ok (.ldc idx, 2)) (hw : Cond.constant own idx v ∈ wT) (hz : v = Int32.ofInt z) (k : M K (pc + 2) ls (vi z :: st) σ) : M K pc ls (st) σ := by
  obtain ⟨p, l, e, R, s, m, args, below, meth, c, D, ad, cA, Q, cells, slots⟩ := K
  intro H locs LS hP hD hS hl
  have k2 := k H locs LS hP hD hS hl
  show W p l e R s m args below meth c H locs cells slots Q (F0 m pc LS (st.map (cvv ad)))
  refine lv_ldc (v := Int32.ofInt z) h.1 h.2.1 h.2.2.2.1 (hz ▸ h.2.2.2.2.1 _ hw) hd ?_
  exact k2
theorem mi_ldc_w {K : KT} {cc : ByteArray} {nL : Nat} {own : String} {lev pc : Nat} {ls : List (Option MV)} {st : List MV} {σ : Mem} {idx : Nat} {v : Int32} {z : Int} (h : MC K cc nL own lev) (hd : decode cc pc = .ok (.ldc_w idx, 3)) (hw : Cond.constant own idx v ∈ wT) (hz : v = Int32.ofInt z) (k : M K (pc + 3) ls (vi z :: st) σ) : M K pc ls (st) σ := by
  obtain ⟨p, l, e, R, s, m, args, below, meth, c, D, ad, cA, Q, cells, slots⟩ := K
  intro H locs LS hP hD hS hl
  have k2 := k H locs LS hP hD hS hl
  show W p l e R s m args below meth c H locs cells slots Q (F0 m pc LS (st.map (cvv ad)))
  refine lv_ldcw (v := Int32.ofInt z) h.1 h.2.1 h.2.2.2.1 (hz ▸ h.2.2.2.2.1 _ hw) hd ?_
  exact k2
theorem mi_ldc2 {K : KT} {cc : ByteArray} {nL : Nat} {own : String} {lev pc : Nat} {ls : List (Option MV)} {st : List MV} {σ : Mem} {idx : Nat} {v : Int64} {z : Int} (h : MC K cc nL own lev) (hd : decode cc pc = .ok (.ldc2_w idx, 3)) (hw : Cond.constantLong own idx v ∈ wT) (hz : v = Int64.ofInt z) (k : M K (pc + 3) ls (vl z :: st) σ) : M K pc ls (st) σ := by
  obtain ⟨p, l, e, R, s, m, args, below, meth, c, D, ad, cA, Q, cells, slots⟩ := K
  intro H locs LS hP hD hS hl
  have k2 := k H locs LS hP hD hS hl
  show W p l e R s m args below meth c H locs cells slots Q (F0 m pc LS (st.map (cvv ad)))
  refine lv_ldc2 (v := Int64.ofInt z) h.1 h.2.1 h.2.2.2.1 (hz ▸ h.2.2.2.2.1 _ hw) hd ?_
  exact k2
theorem mi_iload_n {K : KT} {cc : ByteArray} {nL : Nat} {own : String} {lev pc : Nat} {ls : List (Option MV)} {st : List MV} {σ : Mem} {n : Fin 4} {x : Int} (h : MC K cc nL own lev) (hd : decode cc pc = .ok (.iload_n n, 1)) (hv : ls[(n : Nat)]? = some (some (vi x))) (k : M K (pc + 1) ls (vi x :: st) σ) : M K pc ls (st) σ := by
  obtain ⟨p, l, e, R, s, m, args, below, meth, c, D, ad, cA, Q, cells, slots⟩ := K
  intro H locs LS hP hD hS hl
  have k2 := k H locs LS hP hD hS hl
  show W p l e R s m args below meth c H locs cells slots Q (F0 m pc LS (st.map (cvv ad)))
  refine lv_iload_n h.1 h.2.1 hd rfl (hl.2.2 _ _ hv) ?_
  exact k2
theorem mi_iload {K : KT} {cc : ByteArray} {nL : Nat} {own : String} {lev pc : Nat} {ls : List (Option MV)} {st : List MV} {σ : Mem} {n : Nat} {x : Int} (h : MC K cc nL own lev) (hd : decode cc pc = .ok (.iload n, 2)) (hv : ls[n]? = some (some (vi x))) (k : M K (pc + 2) ls (vi x :: st) σ) : M K pc ls (st) σ := by
  obtain ⟨p, l, e, R, s, m, args, below, meth, c, D, ad, cA, Q, cells, slots⟩ := K
  intro H locs LS hP hD hS hl
  have k2 := k H locs LS hP hD hS hl
  show W p l e R s m args below meth c H locs cells slots Q (F0 m pc LS (st.map (cvv ad)))
  refine lv_iload h.1 h.2.1 hd (hl.2.2 _ _ hv) ?_
  exact k2
theorem mi_lload_n {K : KT} {cc : ByteArray} {nL : Nat} {own : String} {lev pc : Nat} {ls : List (Option MV)} {st : List MV} {σ : Mem} {n : Fin 4} {x : Int} (h : MC K cc nL own lev) (hd : decode cc pc = .ok (.lload_n n, 1)) (hv : ls[(n : Nat)]? = some (some (vl x))) (k : M K (pc + 1) ls (vl x :: st) σ) : M K pc ls (st) σ := by
  obtain ⟨p, l, e, R, s, m, args, below, meth, c, D, ad, cA, Q, cells, slots⟩ := K
  intro H locs LS hP hD hS hl
  have k2 := k H locs LS hP hD hS hl
  show W p l e R s m args below meth c H locs cells slots Q (F0 m pc LS (st.map (cvv ad)))
  refine lv_lload_n h.1 h.2.1 hd rfl (hl.2.2 _ _ hv) ?_
  exact k2
theorem mi_lload {K : KT} {cc : ByteArray} {nL : Nat} {own : String} {lev pc : Nat} {ls : List (Option MV)} {st : List MV} {σ : Mem} {n : Nat} {x : Int} (h : MC K cc nL own lev) (hd : decode cc pc = .ok (.lload n, 2)) (hv : ls[n]? = some (some (vl x))) (k : M K (pc + 2) ls (vl x :: st) σ) : M K pc ls (st) σ := by
  obtain ⟨p, l, e, R, s, m, args, below, meth, c, D, ad, cA, Q, cells, slots⟩ := K
  intro H locs LS hP hD hS hl
  have k2 := k H locs LS hP hD hS hl
  show W p l e R s m args below meth c H locs cells slots Q (F0 m pc LS (st.map (cvv ad)))
  refine lv_lload h.1 h.2.1 hd (hl.2.2 _ _ hv) ?_
  exact k2
theorem mi_aload_n {K : KT} {cc : ByteArray} {nL : Nat} {own : String} {lev pc : Nat} {ls : List (Option MV)} {st : List MV} {σ : Mem} {n : Fin 4} {x : Nat} (h : MC K cc nL own lev) (hd : decode cc pc = .ok (.aload_n n, 1)) (hv : ls[(n : Nat)]? = some (some (vr x))) (k : M K (pc + 1) ls (vr x :: st) σ) : M K pc ls (st) σ := by
  obtain ⟨p, l, e, R, s, m, args, below, meth, c, D, ad, cA, Q, cells, slots⟩ := K
  intro H locs LS hP hD hS hl
  have k2 := k H locs LS hP hD hS hl
  show W p l e R s m args below meth c H locs cells slots Q (F0 m pc LS (st.map (cvv ad)))
  refine lv_aload_n h.1 h.2.1 hd rfl (hl.2.2 _ _ hv) ?_
  exact k2
theorem mi_aload {K : KT} {cc : ByteArray} {nL : Nat} {own : String} {lev pc : Nat} {ls : List (Option MV)} {st : List MV} {σ : Mem} {n : Nat} {x : Nat} (h : MC K cc nL own lev) (hd : decode cc pc = .ok (.aload n, 2)) (hv : ls[n]? = some (some (vr x))) (k : M K (pc + 2) ls (vr x :: st) σ) : M K pc ls (st) σ := by
  obtain ⟨p, l, e, R, s, m, args, below, meth, c, D, ad, cA, Q, cells, slots⟩ := K
  intro H locs LS hP hD hS hl
  have k2 := k H locs LS hP hD hS hl
  show W p l e R s m args below meth c H locs cells slots Q (F0 m pc LS (st.map (cvv ad)))
  refine lv_aload h.1 h.2.1 hd (hl.2.2 _ _ hv) ?_
  exact k2
theorem mi_istore_n {K : KT} {cc : ByteArray} {nL : Nat} {own : String} {lev pc : Nat} {ls : List (Option MV)} {st : List MV} {σ : Mem} {n : Fin 4} {x : Int} (h : MC K cc nL own lev) (hd : decode cc pc = .ok (.istore_n n, 1)) (hn : (n : Nat) < nL := by decide) (k : M K (pc + 1) (ls1 ls n (vi x)) st σ) : M K pc ls (vi x :: st) σ := by
  obtain ⟨p, l, e, R, s, m, args, below, meth, c, D, ad, cA, Q, cells, slots⟩ := K
  intro H locs LS hP hD hS hl
  show W p l e R s m args below meth c H locs cells slots Q (F0 m pc LS (.int (Int32.ofInt x) :: st.map (cvv ad)))
  refine lv_istore_n h.1 h.2.1 hd rfl (lvs_has hl) (by rw [h.2.2.1]; exact hn) rfl (fun LS' hl' => k H locs LS' hP hD hS (lvs_1 rfl hl'))
theorem mi_istore {K : KT} {cc : ByteArray} {nL : Nat} {own : String} {lev pc : Nat} {ls : List (Option MV)} {st : List MV} {σ : Mem} {n : Nat} {x : Int} (h : MC K cc nL own lev) (hd : decode cc pc = .ok (.istore n, 2)) (hn : n < nL := by decide) (k : M K (pc + 2) (ls1 ls n (vi x)) st σ) : M K pc ls (vi x :: st) σ := by
  obtain ⟨p, l, e, R, s, m, args, below, meth, c, D, ad, cA, Q, cells, slots⟩ := K
  intro H locs LS hP hD hS hl
  show W p l e R s m args below meth c H locs cells slots Q (F0 m pc LS (.int (Int32.ofInt x) :: st.map (cvv ad)))
  refine lv_istore h.1 h.2.1 hd (lvs_has hl) (by rw [h.2.2.1]; exact hn) rfl (fun LS' hl' => k H locs LS' hP hD hS (lvs_1 rfl hl'))
theorem mi_lstore_n {K : KT} {cc : ByteArray} {nL : Nat} {own : String} {lev pc : Nat} {ls : List (Option MV)} {st : List MV} {σ : Mem} {n : Fin 4} {x : Int} (h : MC K cc nL own lev) (hd : decode cc pc = .ok (.lstore_n n, 1)) (hn : (n : Nat) + 1 < nL := by decide) (k : M K (pc + 1) (ls2 ls n (vl x)) st σ) : M K pc ls (vl x :: st) σ := by
  obtain ⟨p, l, e, R, s, m, args, below, meth, c, D, ad, cA, Q, cells, slots⟩ := K
  intro H locs LS hP hD hS hl
  show W p l e R s m args below meth c H locs cells slots Q (F0 m pc LS (.long (Int64.ofInt x) :: st.map (cvv ad)))
  refine lv_lstore_n h.1 h.2.1 hd rfl (lvs_has hl) (by rw [h.2.2.1]; exact hn) rfl (fun LS' hl' => k H locs LS' hP hD hS (lvs_2 rfl hl'))
theorem mi_lstore {K : KT} {cc : ByteArray} {nL : Nat} {own : String} {lev pc : Nat} {ls : List (Option MV)} {st : List MV} {σ : Mem} {n : Nat} {x : Int} (h : MC K cc nL own lev) (hd : decode cc pc = .ok (.lstore n, 2)) (hn : n + 1 < nL := by decide) (k : M K (pc + 2) (ls2 ls n (vl x)) st σ) : M K pc ls (vl x :: st) σ := by
  obtain ⟨p, l, e, R, s, m, args, below, meth, c, D, ad, cA, Q, cells, slots⟩ := K
  intro H locs LS hP hD hS hl
  show W p l e R s m args below meth c H locs cells slots Q (F0 m pc LS (.long (Int64.ofInt x) :: st.map (cvv ad)))
  refine lv_lstore h.1 h.2.1 hd (lvs_has hl) (by rw [h.2.2.1]; exact hn) rfl (fun LS' hl' => k H locs LS' hP hD hS (lvs_2 rfl hl'))
theorem mi_astore_n {K : KT} {cc : ByteArray} {nL : Nat} {own : String} {lev pc : Nat} {ls : List (Option MV)} {st : List MV} {σ : Mem} {n : Fin 4} {x : Nat} (h : MC K cc nL own lev) (hd : decode cc pc = .ok (.astore_n n, 1)) (hn : (n : Nat) < nL := by decide) (k : M K (pc + 1) (ls1 ls n (vr x)) st σ) : M K pc ls (vr x :: st) σ := by
  obtain ⟨p, l, e, R, s, m, args, below, meth, c, D, ad, cA, Q, cells, slots⟩ := K
  intro H locs LS hP hD hS hl
  show W p l e R s m args below meth c H locs cells slots Q (F0 m pc LS (.ref (ad x) :: st.map (cvv ad)))
  refine lv_astore_n h.1 h.2.1 hd rfl (lvs_has hl) (by rw [h.2.2.1]; exact hn) rfl (fun LS' hl' => k H locs LS' hP hD hS (lvs_1 rfl hl'))
theorem mi_astore {K : KT} {cc : ByteArray} {nL : Nat} {own : String} {lev pc : Nat} {ls : List (Option MV)} {st : List MV} {σ : Mem} {n : Nat} {x : Nat} (h : MC K cc nL own lev) (hd : decode cc pc = .ok (.astore n, 2)) (hn : n < nL := by decide) (k : M K (pc + 2) (ls1 ls n (vr x)) st σ) : M K pc ls (vr x :: st) σ := by
  obtain ⟨p, l, e, R, s, m, args, below, meth, c, D, ad, cA, Q, cells, slots⟩ := K
  intro H locs LS hP hD hS hl
  show W p l e R s m args below meth c H locs cells slots Q (F0 m pc LS (.ref (ad x) :: st.map (cvv ad)))
  refine lv_astore h.1 h.2.1 hd (lvs_has hl) (by rw [h.2.2.1]; exact hn) rfl (fun LS' hl' => k H locs LS' hP hD hS (lvs_1 rfl hl'))
theorem mi_iinc {K : KT} {cc : ByteArray} {nL : Nat} {own : String} {lev pc : Nat} {ls : List (Option MV)} {st : List MV} {σ : Mem} {n : Nat} {d : Int} {x : Int} (h : MC K cc nL own lev) (hd : decode cc pc = .ok (.iinc n d, 3)) (hv : ls[n]? = some (some (vi x))) (k : M K (pc + 3) (ls1 ls n (vi (x + d))) st σ) (hn : n < nL := by decide) : M K pc ls st σ := by
  obtain ⟨p, l, e, R, s, m, args, below, meth, c, D, ad, cA, Q, cells, slots⟩ := K
  intro H locs LS hP hD hS hl
  obtain ⟨j, hj⟩ := List.getElem?_of_mem (lsl_mem (ad := ad) hv)
  refine lv_iinc (v := Int32.ofInt (x + d)) h.1 h.2.1 hd (lvs_has hl) hj (Int32.ofInt_add x d).symm (by rw [h.2.2.1]; exact hn) rfl (fun LS' hl' => k H locs LS' hP hD hS (lvs_1 rfl hl'))
theorem mi_dup {K : KT} {cc : ByteArray} {nL : Nat} {own : String} {lev pc : Nat} {ls : List (Option MV)} {st : List MV} {σ : Mem} {v : MV} (h : MC K cc nL own lev) (hd : decode cc pc = .ok (.dup, 1)) (hv : ∀ ad, (cvv ad v).category = 1) (k : M K (pc + 1) ls (v :: v :: st) σ) : M K pc ls (v :: st) σ := by
  obtain ⟨p, l, e, R, s, m, args, below, meth, c, D, ad, cA, Q, cells, slots⟩ := K
  intro H locs LS hP hD hS hl
  exact lv_dup h.1 h.2.1 hd (hv ad) (k H locs LS hP hD hS hl)
theorem mi_dup_x1 {K : KT} {cc : ByteArray} {nL : Nat} {own : String} {lev pc : Nat} {ls : List (Option MV)} {st : List MV} {σ : Mem} {v w : MV} (h : MC K cc nL own lev) (hd : decode cc pc = .ok (.dup_x1, 1)) (hv : ∀ ad, (cvv ad v).category = 1) (hw : ∀ ad, (cvv ad w).category = 1) (k : M K (pc + 1) ls (v :: w :: v :: st) σ) : M K pc ls (v :: w :: st) σ := by
  obtain ⟨p, l, e, R, s, m, args, below, meth, c, D, ad, cA, Q, cells, slots⟩ := K
  intro H locs LS hP hD hS hl
  exact lv_dup_x1 h.1 h.2.1 hd (hv ad) (hw ad) (k H locs LS hP hD hS hl)
theorem mi_dup2 {K : KT} {cc : ByteArray} {nL : Nat} {own : String} {lev pc : Nat} {ls : List (Option MV)} {st : List MV} {σ : Mem} {v w : MV} (h : MC K cc nL own lev) (hd : decode cc pc = .ok (.dup2, 1)) (hv : ∀ ad, (cvv ad v).category = 1) (hw : ∀ ad, (cvv ad w).category = 1) (k : M K (pc + 1) ls (v :: w :: v :: w :: st) σ) : M K pc ls (v :: w :: st) σ := by
  obtain ⟨p, l, e, R, s, m, args, below, meth, c, D, ad, cA, Q, cells, slots⟩ := K
  intro H locs LS hP hD hS hl
  exact lv_dup2_11 h.1 h.2.1 hd (hv ad) (hw ad) (k H locs LS hP hD hS hl)
theorem mi_icmp_eq {K : KT} {cc : ByteArray} {nL : Nat} {own : String} {lev pc : Nat} {ls : List (Option MV)} {st : List MV} {σ : Mem} {off : Int} {tgt : Nat} (h : MC K cc nL own lev) (hd : decode cc pc = .ok (.if_icmp .eq off, 3)) (ht : (pc : Int) + off = (tgt : Int)) {x y : Int} (hx : R32 x) (hy : R32 y) (kt : x = y → M K tgt ls st σ) (kf : ¬ x = y → M K (pc + 3) ls st σ) : M K pc ls (vi y :: vi x :: st) σ := by
  obtain ⟨p, l, e, R, s, m, args, below, meth, c, D, ad, cA, Q, cells, slots⟩ := K
  intro H locs LS hP hD hS hl
  show W p l e R s m args below meth c H locs cells slots Q (F0 m pc LS (.int (Int32.ofInt y) :: .int (Int32.ofInt x) :: st.map (cvv ad)))
  exact lv_icmp_eq h.1 h.2.1 hd ht (fun q => kt ((i32_eq hx hy).mp q) H locs LS hP hD hS hl) (fun q => kf (fun z => q ((i32_eq hx hy).mpr z)) H locs LS hP hD hS hl)
theorem mi_if_eq {K : KT} {cc : ByteArray} {nL : Nat} {own : String} {lev pc : Nat} {ls : List (Option MV)} {st : List MV} {σ : Mem} {off : Int} {tgt : Nat} (h : MC K cc nL own lev) (hd : decode cc pc = .ok (.ifCond .eq off, 3)) (ht : (pc : Int) + off = (tgt : Int)) {x : Int} (hx : R32 x) (kt : x = 0 → M K tgt ls st σ) (kf : ¬ x = 0 → M K (pc + 3) ls st σ) : M K pc ls (vi x :: st) σ := by
  obtain ⟨p, l, e, R, s, m, args, below, meth, c, D, ad, cA, Q, cells, slots⟩ := K
  intro H locs LS hP hD hS hl
  show W p l e R s m args below meth c H locs cells slots Q (F0 m pc LS (.int (Int32.ofInt x) :: st.map (cvv ad)))
  exact lv_if_eq h.1 h.2.1 hd ht (fun q => kt ((i32_eq hx (show R32 0 by decide)).mp q) H locs LS hP hD hS hl) (fun q => kf (fun z => q ((i32_eq hx (show R32 0 by decide)).mpr z)) H locs LS hP hD hS hl)
theorem mi_icmp_lt {K : KT} {cc : ByteArray} {nL : Nat} {own : String} {lev pc : Nat} {ls : List (Option MV)} {st : List MV} {σ : Mem} {off : Int} {tgt : Nat} (h : MC K cc nL own lev) (hd : decode cc pc = .ok (.if_icmp .lt off, 3)) (ht : (pc : Int) + off = (tgt : Int)) {x y : Int} (hx : R32 x) (hy : R32 y) (kt : x < y → M K tgt ls st σ) (kf : ¬ x < y → M K (pc + 3) ls st σ) : M K pc ls (vi y :: vi x :: st) σ := by
  obtain ⟨p, l, e, R, s, m, args, below, meth, c, D, ad, cA, Q, cells, slots⟩ := K
  intro H locs LS hP hD hS hl
  show W p l e R s m args below meth c H locs cells slots Q (F0 m pc LS (.int (Int32.ofInt y) :: .int (Int32.ofInt x) :: st.map (cvv ad)))
  exact lv_icmp_lt h.1 h.2.1 hd ht (fun q => kt ((i32_lt hx hy).mp q) H locs LS hP hD hS hl) (fun q => kf (fun z => q ((i32_lt hx hy).mpr z)) H locs LS hP hD hS hl)
theorem mi_if_lt {K : KT} {cc : ByteArray} {nL : Nat} {own : String} {lev pc : Nat} {ls : List (Option MV)} {st : List MV} {σ : Mem} {off : Int} {tgt : Nat} (h : MC K cc nL own lev) (hd : decode cc pc = .ok (.ifCond .lt off, 3)) (ht : (pc : Int) + off = (tgt : Int)) {x : Int} (hx : R32 x) (kt : x < 0 → M K tgt ls st σ) (kf : ¬ x < 0 → M K (pc + 3) ls st σ) : M K pc ls (vi x :: st) σ := by
  obtain ⟨p, l, e, R, s, m, args, below, meth, c, D, ad, cA, Q, cells, slots⟩ := K
  intro H locs LS hP hD hS hl
  show W p l e R s m args below meth c H locs cells slots Q (F0 m pc LS (.int (Int32.ofInt x) :: st.map (cvv ad)))
  exact lv_if_lt h.1 h.2.1 hd ht (fun q => kt ((i32_lt hx (show R32 0 by decide)).mp q) H locs LS hP hD hS hl) (fun q => kf (fun z => q ((i32_lt hx (show R32 0 by decide)).mpr z)) H locs LS hP hD hS hl)
theorem mi_icmp_ge {K : KT} {cc : ByteArray} {nL : Nat} {own : String} {lev pc : Nat} {ls : List (Option MV)} {st : List MV} {σ : Mem} {off : Int} {tgt : Nat} (h : MC K cc nL own lev) (hd : decode cc pc = .ok (.if_icmp .ge off, 3)) (ht : (pc : Int) + off = (tgt : Int)) {x y : Int} (hx : R32 x) (hy : R32 y) (kt : y ≤ x → M K tgt ls st σ) (kf : ¬ y ≤ x → M K (pc + 3) ls st σ) : M K pc ls (vi y :: vi x :: st) σ := by
  obtain ⟨p, l, e, R, s, m, args, below, meth, c, D, ad, cA, Q, cells, slots⟩ := K
  intro H locs LS hP hD hS hl
  show W p l e R s m args below meth c H locs cells slots Q (F0 m pc LS (.int (Int32.ofInt y) :: .int (Int32.ofInt x) :: st.map (cvv ad)))
  exact lv_icmp_ge h.1 h.2.1 hd ht (fun q => kt ((i32_le hy hx).mp q) H locs LS hP hD hS hl) (fun q => kf (fun z => q ((i32_le hy hx).mpr z)) H locs LS hP hD hS hl)
theorem mi_if_ge {K : KT} {cc : ByteArray} {nL : Nat} {own : String} {lev pc : Nat} {ls : List (Option MV)} {st : List MV} {σ : Mem} {off : Int} {tgt : Nat} (h : MC K cc nL own lev) (hd : decode cc pc = .ok (.ifCond .ge off, 3)) (ht : (pc : Int) + off = (tgt : Int)) {x : Int} (hx : R32 x) (kt : 0 ≤ x → M K tgt ls st σ) (kf : ¬ 0 ≤ x → M K (pc + 3) ls st σ) : M K pc ls (vi x :: st) σ := by
  obtain ⟨p, l, e, R, s, m, args, below, meth, c, D, ad, cA, Q, cells, slots⟩ := K
  intro H locs LS hP hD hS hl
  show W p l e R s m args below meth c H locs cells slots Q (F0 m pc LS (.int (Int32.ofInt x) :: st.map (cvv ad)))
  exact lv_if_ge h.1 h.2.1 hd ht (fun q => kt ((i32_le (show R32 0 by decide) hx).mp q) H locs LS hP hD hS hl) (fun q => kf (fun z => q ((i32_le (show R32 0 by decide) hx).mpr z)) H locs LS hP hD hS hl)
theorem mi_icmp_gt {K : KT} {cc : ByteArray} {nL : Nat} {own : String} {lev pc : Nat} {ls : List (Option MV)} {st : List MV} {σ : Mem} {off : Int} {tgt : Nat} (h : MC K cc nL own lev) (hd : decode cc pc = .ok (.if_icmp .gt off, 3)) (ht : (pc : Int) + off = (tgt : Int)) {x y : Int} (hx : R32 x) (hy : R32 y) (kt : y < x → M K tgt ls st σ) (kf : ¬ y < x → M K (pc + 3) ls st σ) : M K pc ls (vi y :: vi x :: st) σ := by
  obtain ⟨p, l, e, R, s, m, args, below, meth, c, D, ad, cA, Q, cells, slots⟩ := K
  intro H locs LS hP hD hS hl
  show W p l e R s m args below meth c H locs cells slots Q (F0 m pc LS (.int (Int32.ofInt y) :: .int (Int32.ofInt x) :: st.map (cvv ad)))
  exact lv_icmp_gt h.1 h.2.1 hd ht (fun q => kt ((i32_lt hy hx).mp q) H locs LS hP hD hS hl) (fun q => kf (fun z => q ((i32_lt hy hx).mpr z)) H locs LS hP hD hS hl)
theorem mi_if_gt {K : KT} {cc : ByteArray} {nL : Nat} {own : String} {lev pc : Nat} {ls : List (Option MV)} {st : List MV} {σ : Mem} {off : Int} {tgt : Nat} (h : MC K cc nL own lev) (hd : decode cc pc = .ok (.ifCond .gt off, 3)) (ht : (pc : Int) + off = (tgt : Int)) {x : Int} (hx : R32 x) (kt : 0 < x → M K tgt ls st σ) (kf : ¬ 0 < x → M K (pc + 3) ls st σ) : M K pc ls (vi x :: st) σ := by
  obtain ⟨p, l, e, R, s, m, args, below, meth, c, D, ad, cA, Q, cells, slots⟩ := K
  intro H locs LS hP hD hS hl
  show W p l e R s m args below meth c H locs cells slots Q (F0 m pc LS (.int (Int32.ofInt x) :: st.map (cvv ad)))
  exact lv_if_gt h.1 h.2.1 hd ht (fun q => kt ((i32_lt (show R32 0 by decide) hx).mp q) H locs LS hP hD hS hl) (fun q => kf (fun z => q ((i32_lt (show R32 0 by decide) hx).mpr z)) H locs LS hP hD hS hl)
theorem mi_icmp_le {K : KT} {cc : ByteArray} {nL : Nat} {own : String} {lev pc : Nat} {ls : List (Option MV)} {st : List MV} {σ : Mem} {off : Int} {tgt : Nat} (h : MC K cc nL own lev) (hd : decode cc pc = .ok (.if_icmp .le off, 3)) (ht : (pc : Int) + off = (tgt : Int)) {x y : Int} (hx : R32 x) (hy : R32 y) (kt : x ≤ y → M K tgt ls st σ) (kf : ¬ x ≤ y → M K (pc + 3) ls st σ) : M K pc ls (vi y :: vi x :: st) σ := by
  obtain ⟨p, l, e, R, s, m, args, below, meth, c, D, ad, cA, Q, cells, slots⟩ := K
  intro H locs LS hP hD hS hl
  show W p l e R s m args below meth c H locs cells slots Q (F0 m pc LS (.int (Int32.ofInt y) :: .int (Int32.ofInt x) :: st.map (cvv ad)))
  exact lv_icmp_le h.1 h.2.1 hd ht (fun q => kt ((i32_le hx hy).mp q) H locs LS hP hD hS hl) (fun q => kf (fun z => q ((i32_le hx hy).mpr z)) H locs LS hP hD hS hl)
theorem mi_if_le {K : KT} {cc : ByteArray} {nL : Nat} {own : String} {lev pc : Nat} {ls : List (Option MV)} {st : List MV} {σ : Mem} {off : Int} {tgt : Nat} (h : MC K cc nL own lev) (hd : decode cc pc = .ok (.ifCond .le off, 3)) (ht : (pc : Int) + off = (tgt : Int)) {x : Int} (hx : R32 x) (kt : x ≤ 0 → M K tgt ls st σ) (kf : ¬ x ≤ 0 → M K (pc + 3) ls st σ) : M K pc ls (vi x :: st) σ := by
  obtain ⟨p, l, e, R, s, m, args, below, meth, c, D, ad, cA, Q, cells, slots⟩ := K
  intro H locs LS hP hD hS hl
  show W p l e R s m args below meth c H locs cells slots Q (F0 m pc LS (.int (Int32.ofInt x) :: st.map (cvv ad)))
  exact lv_if_le h.1 h.2.1 hd ht (fun q => kt ((i32_le hx (show R32 0 by decide)).mp q) H locs LS hP hD hS hl) (fun q => kf (fun z => q ((i32_le hx (show R32 0 by decide)).mpr z)) H locs LS hP hD hS hl)
theorem mi_icmp_ne {K : KT} {cc : ByteArray} {nL : Nat} {own : String} {lev pc : Nat} {ls : List (Option MV)} {st : List MV} {σ : Mem} {off : Int} {tgt : Nat} (h : MC K cc nL own lev) (hd : decode cc pc = .ok (.if_icmp .ne off, 3)) (ht : (pc : Int) + off = (tgt : Int)) {x y : Int} (hx : R32 x) (hy : R32 y) (kt : ¬ x = y → M K tgt ls st σ) (kf : x = y → M K (pc + 3) ls st σ) : M K pc ls (vi y :: vi x :: st) σ := by
  obtain ⟨p, l, e, R, s, m, args, below, meth, c, D, ad, cA, Q, cells, slots⟩ := K
  intro H locs LS hP hD hS hl
  show W p l e R s m args below meth c H locs cells slots Q (F0 m pc LS (.int (Int32.ofInt y) :: .int (Int32.ofInt x) :: st.map (cvv ad)))
  exact lv_icmp_ne h.1 h.2.1 hd ht (fun q => kt (fun z => q ((i32_eq hx hy).mpr z)) H locs LS hP hD hS hl) (fun q => kf ((i32_eq hx hy).mp q) H locs LS hP hD hS hl)
theorem mi_if_ne {K : KT} {cc : ByteArray} {nL : Nat} {own : String} {lev pc : Nat} {ls : List (Option MV)} {st : List MV} {σ : Mem} {off : Int} {tgt : Nat} (h : MC K cc nL own lev) (hd : decode cc pc = .ok (.ifCond .ne off, 3)) (ht : (pc : Int) + off = (tgt : Int)) {x : Int} (hx : R32 x) (kt : ¬ x = 0 → M K tgt ls st σ) (kf : x = 0 → M K (pc + 3) ls st σ) : M K pc ls (vi x :: st) σ := by
  obtain ⟨p, l, e, R, s, m, args, below, meth, c, D, ad, cA, Q, cells, slots⟩ := K
  intro H locs LS hP hD hS hl
  show W p l e R s m args below meth c H locs cells slots Q (F0 m pc LS (.int (Int32.ofInt x) :: st.map (cvv ad)))
  exact lv_if_ne h.1 h.2.1 hd ht (fun q => kt (fun z => q ((i32_eq hx (show R32 0 by decide)).mpr z)) H locs LS hP hD hS hl) (fun q => kf ((i32_eq hx (show R32 0 by decide)).mp q) H locs LS hP hD hS hl)
theorem mi_lcmp_eq {K : KT} {cc : ByteArray} {nL : Nat} {own : String} {lev pc : Nat} {ls : List (Option MV)} {st : List MV} {σ : Mem} {off : Int} {tgt : Nat} {x y : Int} (h : MC K cc nL own lev) (hd : decode cc pc = .ok (.lcmp, 1)) (hd2 : decode cc (pc + 1) = .ok (.ifCond .eq off, 3)) (ht : ((pc + 1 : Nat) : Int) + off = (tgt : Int)) (hx : R64 x) (hy : R64 y) (kt : x = y → M K tgt ls st σ) (kf : ¬ x = y → M K (pc + 4) ls st σ) : M K pc ls (vl y :: vl x :: st) σ := by
  obtain ⟨p, l, e, R, s, m, args, below, meth, c, D, ad, cA, Q, cells, slots⟩ := K
  intro H locs LS hP hD hS hl
  show W p l e R s m args below meth c H locs cells slots Q (F0 m pc LS (.long (Int64.ofInt y) :: .long (Int64.ofInt x) :: st.map (cvv ad)))
  refine W.lcmp h.1 h.2.1 hd ?_
  exact lv_if_eq h.1 h.2.1 hd2 ht (fun q => kt ((i64_eq hx hy).mp ((lg_cmp_eq _ _).mp q)) H locs LS hP hD hS hl) (fun q => kf (fun z => q ((lg_cmp_eq _ _).mpr ((i64_eq hx hy).mpr z))) H locs LS hP hD hS hl)
theorem mi_lcmp_lt {K : KT} {cc : ByteArray} {nL : Nat} {own : String} {lev pc : Nat} {ls : List (Option MV)} {st : List MV} {σ : Mem} {off : Int} {tgt : Nat} {x y : Int} (h : MC K cc nL own lev) (hd : decode cc pc = .ok (.lcmp, 1)) (hd2 : decode cc (pc + 1) = .ok (.ifCond .lt off, 3)) (ht : ((pc + 1 : Nat) : Int) + off = (tgt : Int)) (hx : R64 x) (hy : R64 y) (kt : x < y → M K tgt ls st σ) (kf : ¬ x < y → M K (pc + 4) ls st σ) : M K pc ls (vl y :: vl x :: st) σ := by
  obtain ⟨p, l, e, R, s, m, args, below, meth, c, D, ad, cA, Q, cells, slots⟩ := K
  intro H locs LS hP hD hS hl
  show W p l e R s m args below meth c H locs cells slots Q (F0 m pc LS (.long (Int64.ofInt y) :: .long (Int64.ofInt x) :: st.map (cvv ad)))
  refine W.lcmp h.1 h.2.1 hd ?_
  exact lv_if_lt h.1 h.2.1 hd2 ht (fun q => kt ((i64_lt hx hy).mp ((lg_cmp_lt _ _).mp q)) H locs LS hP hD hS hl) (fun q => kf (fun z => q ((lg_cmp_lt _ _).mpr ((i64_lt hx hy).mpr z))) H locs LS hP hD hS hl)
theorem mi_lcmp_ge {K : KT} {cc : ByteArray} {nL : Nat} {own : String} {lev pc : Nat} {ls : List (Option MV)} {st : List MV} {σ : Mem} {off : Int} {tgt : Nat} {x y : Int} (h : MC K cc nL own lev) (hd : decode cc pc = .ok (.lcmp, 1)) (hd2 : decode cc (pc + 1) = .ok (.ifCond .ge off, 3)) (ht : ((pc + 1 : Nat) : Int) + off = (tgt : Int)) (hx : R64 x) (hy : R64 y) (kt : y ≤ x → M K tgt ls st σ) (kf : ¬ y ≤ x → M K (pc + 4) ls st σ) : M K pc ls (vl y :: vl x :: st) σ := by
  obtain ⟨p, l, e, R, s, m, args, below, meth, c, D, ad, cA, Q, cells, slots⟩ := K
  intro H locs LS hP hD hS hl
  show W p l e R s m args below meth c H locs cells slots Q (F0 m pc LS (.long (Int64.ofInt y) :: .long (Int64.ofInt x) :: st.map (cvv ad)))
  refine W.lcmp h.1 h.2.1 hd ?_
  exact lv_if_ge h.1 h.2.1 hd2 ht (fun q => kt ((i64_le hy hx).mp ((lg_cmp_ge _ _).mp q)) H locs LS hP hD hS hl) (fun q => kf (fun z => q ((lg_cmp_ge _ _).mpr ((i64_le hy hx).mpr z))) H locs LS hP hD hS hl)
theorem mi_lcmp_gt {K : KT} {cc : ByteArray} {nL : Nat} {own : String} {lev pc : Nat} {ls : List (Option MV)} {st : List MV} {σ : Mem} {off : Int} {tgt : Nat} {x y : Int} (h : MC K cc nL own lev) (hd : decode cc pc = .ok (.lcmp, 1)) (hd2 : decode cc (pc + 1) = .ok (.ifCond .gt off, 3)) (ht : ((pc + 1 : Nat) : Int) + off = (tgt : Int)) (hx : R64 x) (hy : R64 y) (kt : y < x → M K tgt ls st σ) (kf : ¬ y < x → M K (pc + 4) ls st σ) : M K pc ls (vl y :: vl x :: st) σ := by
  obtain ⟨p, l, e, R, s, m, args, below, meth, c, D, ad, cA, Q, cells, slots⟩ := K
  intro H locs LS hP hD hS hl
  show W p l e R s m args below meth c H locs cells slots Q (F0 m pc LS (.long (Int64.ofInt y) :: .long (Int64.ofInt x) :: st.map (cvv ad)))
  refine W.lcmp h.1 h.2.1 hd ?_
  exact lv_if_gt h.1 h.2.1 hd2 ht (fun q => kt ((i64_lt hy hx).mp ((lg_cmp_gt _ _).mp q)) H locs LS hP hD hS hl) (fun q => kf (fun z => q ((lg_cmp_gt _ _).mpr ((i64_lt hy hx).mpr z))) H locs LS hP hD hS hl)
theorem mi_lcmp_le {K : KT} {cc : ByteArray} {nL : Nat} {own : String} {lev pc : Nat} {ls : List (Option MV)} {st : List MV} {σ : Mem} {off : Int} {tgt : Nat} {x y : Int} (h : MC K cc nL own lev) (hd : decode cc pc = .ok (.lcmp, 1)) (hd2 : decode cc (pc + 1) = .ok (.ifCond .le off, 3)) (ht : ((pc + 1 : Nat) : Int) + off = (tgt : Int)) (hx : R64 x) (hy : R64 y) (kt : x ≤ y → M K tgt ls st σ) (kf : ¬ x ≤ y → M K (pc + 4) ls st σ) : M K pc ls (vl y :: vl x :: st) σ := by
  obtain ⟨p, l, e, R, s, m, args, below, meth, c, D, ad, cA, Q, cells, slots⟩ := K
  intro H locs LS hP hD hS hl
  show W p l e R s m args below meth c H locs cells slots Q (F0 m pc LS (.long (Int64.ofInt y) :: .long (Int64.ofInt x) :: st.map (cvv ad)))
  refine W.lcmp h.1 h.2.1 hd ?_
  exact lv_if_le h.1 h.2.1 hd2 ht (fun q => kt ((i64_le hx hy).mp ((lg_cmp_le _ _).mp q)) H locs LS hP hD hS hl) (fun q => kf (fun z => q ((lg_cmp_le _ _).mpr ((i64_le hx hy).mpr z))) H locs LS hP hD hS hl)
theorem mi_lcmp_ne {K : KT} {cc : ByteArray} {nL : Nat} {own : String} {lev pc : Nat} {ls : List (Option MV)} {st : List MV} {σ : Mem} {off : Int} {tgt : Nat} {x y : Int} (h : MC K cc nL own lev) (hd : decode cc pc = .ok (.lcmp, 1)) (hd2 : decode cc (pc + 1) = .ok (.ifCond .ne off, 3)) (ht : ((pc + 1 : Nat) : Int) + off = (tgt : Int)) (hx : R64 x) (hy : R64 y) (kt : ¬ x = y → M K tgt ls st σ) (kf : x = y → M K (pc + 4) ls st σ) : M K pc ls (vl y :: vl x :: st) σ := by
  obtain ⟨p, l, e, R, s, m, args, below, meth, c, D, ad, cA, Q, cells, slots⟩ := K
  intro H locs LS hP hD hS hl
  show W p l e R s m args below meth c H locs cells slots Q (F0 m pc LS (.long (Int64.ofInt y) :: .long (Int64.ofInt x) :: st.map (cvv ad)))
  refine W.lcmp h.1 h.2.1 hd ?_
  exact lv_if_ne h.1 h.2.1 hd2 ht (fun q => kt (fun z => q ((lg_cmp_eq _ _).mpr ((i64_eq hx hy).mpr z))) H locs LS hP hD hS hl) (fun q => kf ((i64_eq hx hy).mp ((lg_cmp_eq _ _).mp q)) H locs LS hP hD hS hl)
theorem mi_goto {K : KT} {cc : ByteArray} {nL : Nat} {own : String} {lev pc : Nat} {ls : List (Option MV)} {st : List MV} {σ : Mem} {off : Int} {tgt : Nat} (h : MC K cc nL own lev) (hd : decode cc pc = .ok (.goto off, 3)) (ht : (pc : Int) + off = (tgt : Int)) (k : M K tgt ls st σ) : M K pc ls st σ := by
  obtain ⟨p, l, e, R, s, m, args, below, meth, c, D, ad, cA, Q, cells, slots⟩ := K
  intro H locs LS hP hD hS hl
  exact lv_goto h.1 h.2.1 hd ht (k H locs LS hP hD hS hl)
theorem mi_tabOut {K : KT} {cc : ByteArray} {nL : Nat} {own : String} {lev pc : Nat} {ls : List (Option MV)} {st : List MV} {σ : Mem} {dflt lo hi : Int} {offs : Array Int} {len tgt : Nat} {x : Int} (h : MC K cc nL own lev) (hd : decode cc pc = .ok (.tableswitch dflt lo hi offs, len)) (hx : R32 x) (hc : x < lo ∨ hi < x) (ht : (pc : Int) + dflt = (tgt : Int)) (k : M K tgt ls st σ) : M K pc ls (vi x :: st) σ := by
  obtain ⟨p, l, e, R, s, m, args, below, meth, c, D, ad, cA, Q, cells, slots⟩ := K
  intro H locs LS hP hD hS hl
  show W p l e R s m args below meth c H locs cells slots Q (F0 m pc LS (.int (Int32.ofInt x) :: st.map (cvv ad)))
  exact lv_tableOut h.1 h.2.1 hd (by rw [i32 hx]; exact hc) ht (k H locs LS hP hD hS hl)
theorem mi_tabIn {K : KT} {cc : ByteArray} {nL : Nat} {own : String} {lev pc : Nat} {ls : List (Option MV)} {st : List MV} {σ : Mem} {dflt lo hi : Int} {offs : Array Int} {len tgt : Nat} {off x : Int} (h : MC K cc nL own lev) (hd : decode cc pc = .ok (.tableswitch dflt lo hi offs, len)) (hx : R32 x) (h1 : ¬ x < lo) (h2 : ¬ hi < x) (ho : offs[(x - lo).toNat]? = some off) (ht : (pc : Int) + off = (tgt : Int)) (k : M K tgt ls st σ) : M K pc ls (vi x :: st) σ := by
  obtain ⟨p, l, e, R, s, m, args, below, meth, c, D, ad, cA, Q, cells, slots⟩ := K
  intro H locs LS hP hD hS hl
  show W p l e R s m args below meth c H locs cells slots Q (F0 m pc LS (.int (Int32.ofInt x) :: st.map (cvv ad)))
  exact lv_tableIn h.1 h.2.1 hd (by rw [i32 hx]; exact h1) (by rw [i32 hx]; exact h2) (by rw [i32 hx]; exact ho) ht (k H locs LS hP hD hS hl)
theorem mi_topi {K : KT} {cc : ByteArray} {nL : Nat} {own : String} {lev pc : Nat} {ls : List (Option MV)} {st : List MV} {σ : Mem} {x : Int} (k : ∀ y : Int, y = x → M K pc ls (vi y :: st) σ) : M K pc ls (vi x :: st) σ := k x rfl
theorem mi_topl {K : KT} {cc : ByteArray} {nL : Nat} {own : String} {lev pc : Nat} {ls : List (Option MV)} {st : List MV} {σ : Mem} {x : Int} (k : ∀ y : Int, y = x → M K pc ls (vl y :: st) σ) : M K pc ls (vl x :: st) σ := k x rfl
theorem mi_geti {K : KT} {cc : ByteArray} {nL : Nat} {own : String} {lev pc : Nat} {ls : List (Option MV)} {st : List MV} {σ : Mem} {ci : Nat} {fs : List (Option Nat)} {C : String} {T : u_T} {N idx c0 k0 : Nat} {ref name desc : String} (h : MC K cc nL own lev) (hd : decode cc pc = .ok (.getfield idx, 3)) (hlay : lay[c0]? = some (.inl (ci, fs))) (hcl : classes[ci]? = some (C, T, N)) (hin : ∀ w ∈ u_ws C T N, w ∈ wT) (hk : k0 < N) (hT : (T k0).1 = ref ∧ (T k0).2.1 = name ∧ (T k0).2.2.1 = desc) (hw : Cond.fieldLink own idx ref name desc ∈ wT) (hf : fs[k0]? = some none) (k : M K (pc + 3) ls (vi (σ c0 k0) :: st) σ) : M K pc ls (vr c0 :: st) σ := by
  obtain ⟨p, l, e, R, s, m, args, below, meth, c, D, ad, cA, Q, cells, slots⟩ := K
  intro H locs LS hP hD hS hl
  obtain ⟨e1, e2, e3⟩ := hT
  subst e1 e2 e3
  refine va_get (D := D) (T := T) (v := .int (Int32.ofInt (σ c0 k0))) h.1 h.2.1 h.2.2.2.2.1 hin h.2.2.2.1 h.2.2.2.2.2.2.1 hP c0 (mkW_at hlay) hcl k0 hk (h.2.2.2.2.1 _ hw) (fun _ h9 => h9) ?_ hd (k H locs LS hP hD hS hl)
  simp [hf, mkF]
theorem mi_getr {K : KT} {cc : ByteArray} {nL : Nat} {own : String} {lev pc : Nat} {ls : List (Option MV)} {st : List MV} {σ : Mem} {ci : Nat} {fs : List (Option Nat)} {C : String} {T : u_T} {N idx c0 k0 : Nat} {ref name desc : String} {r : Nat} (h : MC K cc nL own lev) (hd : decode cc pc = .ok (.getfield idx, 3)) (hlay : lay[c0]? = some (.inl (ci, fs))) (hcl : classes[ci]? = some (C, T, N)) (hin : ∀ w ∈ u_ws C T N, w ∈ wT) (hk : k0 < N) (hT : (T k0).1 = ref ∧ (T k0).2.1 = name ∧ (T k0).2.2.1 = desc) (hw : Cond.fieldLink own idx ref name desc ∈ wT) (hf : fs[k0]? = some (some r)) (k : M K (pc + 3) ls (vr r :: st) σ) : M K pc ls (vr c0 :: st) σ := by
  obtain ⟨p, l, e, R, s, m, args, below, meth, c, D, ad, cA, Q, cells, slots⟩ := K
  intro H locs LS hP hD hS hl
  obtain ⟨e1, e2, e3⟩ := hT
  subst e1 e2 e3
  refine va_get (D := D) (T := T) (v := .ref (ad r)) h.1 h.2.1 h.2.2.2.2.1 hin h.2.2.2.1 h.2.2.2.2.2.2.1 hP c0 (mkW_at hlay) hcl k0 hk (h.2.2.2.2.1 _ hw) (fun _ h9 => h9) ?_ hd (k H locs LS hP hD hS hl)
  simp [hf, mkF]
theorem mi_put {K : KT} {cc : ByteArray} {nL : Nat} {own : String} {lev pc : Nat} {ls : List (Option MV)} {st : List MV} {σ : Mem} {ci : Nat} {fs : List (Option Nat)} {C : String} {T : u_T} {N idx c0 k0 : Nat} {ref name desc : String} {x : Int} {ty0 : Nat → FieldType} (h : MC K cc nL own lev) (hd : decode cc pc = .ok (.putfield idx, 3)) (hlay : lay[c0]? = some (.inl (ci, fs))) (hcl : classes[ci]? = some (C, T, N)) (hin : ∀ w ∈ u_ws C T N, w ∈ wT) (hk : k0 < N) (hT : (T k0).1 = ref ∧ (T k0).2.1 = name ∧ (T k0).2.2.1 = desc) (hw : Cond.fieldLink own idx ref name desc ∈ wT) (hty : ∀ k, k < N → parseFieldDescriptor (T k).2.2.1 = some (ty0 k)) (hnm : ∀ a, a < N → ∀ b, b < N → a ≠ b → (T a).2.1 ≠ (T b).2.1) (hf : fs[k0]? = some none) (hfin : (T k0).2.2.2 = false) (hint : ty0 k0 = .int) (k : M K (pc + 3) ls st (up σ c0 k0 x)) : M K pc ls (vi x :: vr c0 :: st) σ := by
  obtain ⟨p, l, e, R, s, m, args, below, meth, c, D, ad, cA, Q, cells, slots⟩ := K
  intro H locs LS hP hD hS hl
  obtain ⟨e1, e2, e3⟩ := hT
  subst e1 e2 e3
  show W p l e R s m args below meth c H locs cells slots Q (F0 m pc LS (.int (Int32.ofInt x) :: .ref (ad c0) :: st.map (cvv ad)))
  refine va_put (D := D) (T := T) (ty := .int) h.1 h.2.1 h.2.2.2.2.1 hin ty0 hty hnm h.2.2.2.1 h.2.2.2.2.2.2.1 hP hD hS c0 (mkW_at hlay) hcl k0 hk (h.2.2.2.2.1 _ hw) (fun _ h9 => h9) hfin (by rw [hty k0 hk, hint]) rfl rfl (by simpa using (List.getElem?_eq_some_iff.mp hf).1) hd (fun H1 locs1 hP1 hD1 hS1 => ?_)
  have e : (mkW ad cA σ).set c0 (ad c0, .inr (ci, (fs.mapIdx (fun k o => mkF ad (σ c0) k o)).set k0 (.int (Int32.ofInt x)))) = mkW ad cA (up σ c0 k0 x) := by
    rw [mkF_set hf, ← mkW_set hlay]
    congr 2
    simp only [mkE]
    congr 3
    funext j o
    congr 1
    funext i
    simp [up]
  rw [e] at hP1 hD1
  exact k H1 locs1 LS hP1 hD1 hS1 hl
theorem mi_iaload {K : KT} {cc : ByteArray} {nL : Nat} {own : String} {lev pc : Nat} {ls : List (Option MV)} {st : List MV} {σ : Mem} {n c0 : Nat} {x : Int} (h : MC K cc nL own lev) (hd : decode cc pc = .ok (.iaload, 1)) (hlay : lay[c0]? = some (.inr (0, n))) (hx : 0 ≤ x ∧ x < n) (hn : n < 2147483648) (k : M K (pc + 1) ls (vi (σ c0 x.toNat) :: st) σ) : M K pc ls (vi x :: vr c0 :: st) σ := by
  obtain ⟨p, l, e, R, s, m, args, below, meth, c, D, ad, cA, Q, cells, slots⟩ := K
  intro H locs LS hP hD hS hl
  show W p l e R s m args below meth c H locs cells slots Q (F0 m pc LS (.int (Int32.ofInt x) :: .ref (ad c0) :: st.map (cvv ad)))
  refine va_iald h.1 h.2.1 h.2.2.2.2.2.2.1 hP c0 0 (mkW_at hlay) rfl (i32_in hx.1 hx.2 hn) hd ?_
  rw [i32_nat ⟨by omega, by omega⟩]
  exact k H locs LS hP hD hS hl
theorem mi_laload {K : KT} {cc : ByteArray} {nL : Nat} {own : String} {lev pc : Nat} {ls : List (Option MV)} {st : List MV} {σ : Mem} {n c0 : Nat} {x : Int} (h : MC K cc nL own lev) (hd : decode cc pc = .ok (.laload, 1)) (hlay : lay[c0]? = some (.inr (1, n))) (hx : 0 ≤ x ∧ x < n) (hn : n < 2147483648) (k : M K (pc + 1) ls (vl (σ c0 x.toNat) :: st) σ) : M K pc ls (vi x :: vr c0 :: st) σ := by
  obtain ⟨p, l, e, R, s, m, args, below, meth, c, D, ad, cA, Q, cells, slots⟩ := K
  intro H locs LS hP hD hS hl
  show W p l e R s m args below meth c H locs cells slots Q (F0 m pc LS (.int (Int32.ofInt x) :: .ref (ad c0) :: st.map (cvv ad)))
  refine va_lald h.1 h.2.1 h.2.2.2.2.2.2.1 hP c0 1 (mkW_at hlay) rfl (i32_in hx.1 hx.2 hn) hd ?_
  rw [i32_nat ⟨by omega, by omega⟩]
  exact k H locs LS hP hD hS hl
theorem mi_baload {K : KT} {cc : ByteArray} {nL : Nat} {own : String} {lev pc : Nat} {ls : List (Option MV)} {st : List MV} {σ : Mem} {n c0 : Nat} {x : Int} (h : MC K cc nL own lev) (hd : decode cc pc = .ok (.baload, 1)) (hlay : lay[c0]? = some (.inr (2, n))) (hx : 0 ≤ x ∧ x < n) (hn : n < 2147483648) (k : M K (pc + 1) ls (vi (σ c0 x.toNat) :: st) σ) : M K pc ls (vi x :: vr c0 :: st) σ := by
  obtain ⟨p, l, e, R, s, m, args, below, meth, c, D, ad, cA, Q, cells, slots⟩ := K
  intro H locs LS hP hD hS hl
  show W p l e R s m args below meth c H locs cells slots Q (F0 m pc LS (.int (Int32.ofInt x) :: .ref (ad c0) :: st.map (cvv ad)))
  refine va_zald h.1 h.2.1 h.2.2.2.2.2.2.1 hP c0 2 (mkW_at hlay) rfl (i32_in hx.1 hx.2 hn) hd ?_
  rw [i32_nat ⟨by omega, by omega⟩]
  exact k H locs LS hP hD hS hl
theorem mi_iastore {K : KT} {cc : ByteArray} {nL : Nat} {own : String} {lev pc : Nat} {ls : List (Option MV)} {st : List MV} {σ : Mem} {n c0 : Nat} {x z : Int} (h : MC K cc nL own lev) (hd : decode cc pc = .ok (.iastore, 1)) (hlay : lay[c0]? = some (.inr (0, n))) (hx : 0 ≤ x ∧ x < n) (hn : n < 2147483648) (k : M K (pc + 1) ls st (up σ c0 x.toNat z)) : M K pc ls (vi z :: vi x :: vr c0 :: st) σ := by
  obtain ⟨p, l, e, R, s, m, args, below, meth, c, D, ad, cA, Q, cells, slots⟩ := K
  intro H locs LS hP hD hS hl
  show W p l e R s m args below meth c H locs cells slots Q (F0 m pc LS (.int (Int32.ofInt z) :: .int (Int32.ofInt x) :: .ref (ad c0) :: st.map (cvv ad)))
  refine va_iast h.1 h.2.1 h.2.2.2.2.2.2.1 hP hD hS c0 0 (mkW_at hlay) rfl (i32_in hx.1 hx.2 hn) hd (fun H1 locs1 hP1 hD1 hS1 => ?_)
  rw [i32_nat ⟨by omega, by omega⟩] at hP1 hD1
  have e : (.inl (cA 0, n, .inl (upd (fun j => Int32.ofInt (σ c0 j)) x.toNat (Int32.ofInt z))) : va_E) = mkE ad cA (up σ c0 x.toNat z c0) (.inr (0, n)) := by
    simp only [mkE]
    congr 4
    funext j
    simp only [upd, vp_updL, up]
    by_cases hj : j = x.toNat <;> simp [hj]
  rw [e, mkW_set hlay] at hP1 hD1
  exact k H1 locs1 LS hP1 hD1 hS1 hl
theorem mi_lastore {K : KT} {cc : ByteArray} {nL : Nat} {own : String} {lev pc : Nat} {ls : List (Option MV)} {st : List MV} {σ : Mem} {n c0 : Nat} {x z : Int} (h : MC K cc nL own lev) (hd : decode cc pc = .ok (.lastore, 1)) (hlay : lay[c0]? = some (.inr (1, n))) (hx : 0 ≤ x ∧ x < n) (hn : n < 2147483648) (k : M K (pc + 1) ls st (up σ c0 x.toNat z)) : M K pc ls (vl z :: vi x :: vr c0 :: st) σ := by
  obtain ⟨p, l, e, R, s, m, args, below, meth, c, D, ad, cA, Q, cells, slots⟩ := K
  intro H locs LS hP hD hS hl
  show W p l e R s m args below meth c H locs cells slots Q (F0 m pc LS (.long (Int64.ofInt z) :: .int (Int32.ofInt x) :: .ref (ad c0) :: st.map (cvv ad)))
  refine va_last h.1 h.2.1 h.2.2.2.2.2.2.1 hP hD hS c0 1 (mkW_at hlay) rfl (i32_in hx.1 hx.2 hn) hd (fun H1 locs1 hP1 hD1 hS1 => ?_)
  rw [i32_nat ⟨by omega, by omega⟩] at hP1 hD1
  have e : (.inl (cA 1, n, .inr (.inl (vp_updL (fun j => Int64.ofInt (σ c0 j)) x.toNat (Int64.ofInt z)))) : va_E) = mkE ad cA (up σ c0 x.toNat z c0) (.inr (1, n)) := by
    simp only [mkE]
    congr 4
    congr 1
    funext j
    simp only [upd, vp_updL, up]
    by_cases hj : j = x.toNat <;> simp [hj]
  rw [e, mkW_set hlay] at hP1 hD1
  exact k H1 locs1 LS hP1 hD1 hS1 hl
theorem mi_bastore {K : KT} {cc : ByteArray} {nL : Nat} {own : String} {lev pc : Nat} {ls : List (Option MV)} {st : List MV} {σ : Mem} {n c0 : Nat} {x z : Int} (h : MC K cc nL own lev) (hd : decode cc pc = .ok (.bastore, 1)) (hlay : lay[c0]? = some (.inr (2, n))) (hx : 0 ≤ x ∧ x < n) (hn : n < 2147483648) (hz : z = 0 ∨ z = 1) (k : M K (pc + 1) ls st (up σ c0 x.toNat z)) : M K pc ls (vi z :: vi x :: vr c0 :: st) σ := by
  obtain ⟨p, l, e, R, s, m, args, below, meth, c, D, ad, cA, Q, cells, slots⟩ := K
  intro H locs LS hP hD hS hl
  show W p l e R s m args below meth c H locs cells slots Q (F0 m pc LS (.int (Int32.ofInt z) :: .int (Int32.ofInt x) :: .ref (ad c0) :: st.map (cvv ad)))
  refine va_zast h.1 h.2.1 h.2.2.2.2.2.2.1 hP hD hS c0 2 (mkW_at hlay) rfl (i32_in hx.1 hx.2 hn) hd (fun H1 locs1 hP1 hD1 hS1 => ?_)
  rw [i32_nat ⟨by omega, by omega⟩] at hP1 hD1
  rw [show vp_nar .boolean (Int32.ofInt z) = Int32.ofInt z by rcases hz with rfl | rfl <;> rfl] at hP1 hD1
  have e : (.inl (cA 2, n, .inl (upd (fun j => Int32.ofInt (σ c0 j)) x.toNat (Int32.ofInt z))) : va_E) = mkE ad cA (up σ c0 x.toNat z c0) (.inr (2, n)) := by
    simp only [mkE]
    congr 4
    funext j
    simp only [upd, vp_updL, up]
    by_cases hj : j = x.toNat <;> simp [hj]
  rw [e, mkW_set hlay] at hP1 hD1
  exact k H1 locs1 LS hP1 hD1 hS1 hl
theorem mi_alen {K : KT} {cc : ByteArray} {nL : Nat} {own : String} {lev pc : Nat} {ls : List (Option MV)} {st : List MV} {σ : Mem} {n t c0 : Nat} (h : MC K cc nL own lev) (hd : decode cc pc = .ok (.arraylength, 1)) (hlay : lay[c0]? = some (.inr (t, n))) (ht : t < 3) (k : M K (pc + 1) ls (vi (n : Int) :: st) σ) : M K pc ls (vr c0 :: st) σ := by
  obtain ⟨p, l, e, R, s, m, args, below, meth, c, D, ad, cA, Q, cells, slots⟩ := K
  intro H locs LS hP hD hS hl
  have e9 : Int32.ofNat n = Int32.ofInt (n : Int) := Int32.ofInt_eq_ofNat.symm
  show W p l e R s m args below meth c H locs cells slots Q (F0 m pc LS (.ref (ad c0) :: st.map (cvv ad)))
  match t, ht, hlay with
  | 0, _, hlay => exact va_alen h.1 h.2.1 h.2.2.2.2.2.2.1 hP c0 0 (mkW_at hlay) (ty := .int) rfl e9 hd (k H locs LS hP hD hS hl)
  | 1, _, hlay => exact va_alen h.1 h.2.1 h.2.2.2.2.2.2.1 hP c0 1 (mkW_at hlay) (ty := .long) rfl e9 hd (k H locs LS hP hD hS hl)
  | 2, _, hlay => exact va_alen h.1 h.2.1 h.2.2.2.2.2.2.1 hP c0 2 (mkW_at hlay) (ty := .boolean) rfl e9 hd (k H locs LS hP hD hS hl)
theorem mi_ireturn {K : KT} {cc : ByteArray} {nL : Nat} {own : String} {lev pc : Nat} {ls : List (Option MV)} {σ : Mem} {po : Int → Mem → Prop} {x : Int} (h : MC K cc nL own lev) (hr : MR K 1 (some .int) po) (hd : decode cc pc = .ok (.ireturn, 1)) (hp : po x σ) : M K pc ls [vi x] σ := by
  obtain ⟨p, l, e, R, s, m, args, below, meth, c, D, ad, cA, Q, cells, slots⟩ := K
  intro H locs LS hP hD hS hl
  obtain ⟨hr1, hr2⟩ := hr
  subst hr2
  have hlocks : meth.locks = false := h.2.2.2.2.2.1
  exact W.iret (v := Int32.ofInt x) h.1 h.2.1 hr1 (fun t ht hW => ⟨x, σ, rfl, hp, by rw [ht]; exact hP, hS.F ht⟩) hS.2.2 hd hlocks
theorem mi_zreturn {K : KT} {cc : ByteArray} {nL : Nat} {own : String} {lev pc : Nat} {ls : List (Option MV)} {σ : Mem} {po : Int → Mem → Prop} {x : Int} (h : MC K cc nL own lev) (hr : MR K 1 (some .boolean) po) (hd : decode cc pc = .ok (.ireturn, 1)) (hz : x = 0 ∨ x = 1) (hp : po x σ) : M K pc ls [vi x] σ := by
  obtain ⟨p, l, e, R, s, m, args, below, meth, c, D, ad, cA, Q, cells, slots⟩ := K
  intro H locs LS hP hD hS hl
  obtain ⟨hr1, hr2⟩ := hr
  subst hr2
  have hlocks : meth.locks = false := h.2.2.2.2.2.1
  exact W.zret (v := Int32.ofInt x) h.1 h.2.1 hr1 (by rcases hz with rfl | rfl <;> rfl) (fun t ht hW => ⟨x, σ, rfl, hp, by rw [ht]; exact hP, hS.F ht⟩) hS.2.2 hd hlocks
theorem mi_lreturn {K : KT} {cc : ByteArray} {nL : Nat} {own : String} {lev pc : Nat} {ls : List (Option MV)} {σ : Mem} {po : Int → Mem → Prop} {x : Int} (h : MC K cc nL own lev) (hr : MR K 2 (some .long) po) (hd : decode cc pc = .ok (.lreturn, 1)) (hp : po x σ) : M K pc ls [vl x] σ := by
  obtain ⟨p, l, e, R, s, m, args, below, meth, c, D, ad, cA, Q, cells, slots⟩ := K
  intro H locs LS hP hD hS hl
  obtain ⟨hr1, hr2⟩ := hr
  subst hr2
  have hlocks : meth.locks = false := h.2.2.2.2.2.1
  exact W.lret (v := Int64.ofInt x) h.1 h.2.1 hr1 (fun t ht hW => ⟨x, σ, rfl, hp, by rw [ht]; exact hP, hS.F ht⟩) hS.2.2 hd hlocks
theorem mi_return {K : KT} {cc : ByteArray} {nL : Nat} {own : String} {lev pc : Nat} {ls : List (Option MV)} {σ : Mem} {po : Int → Mem → Prop} {x : Int} (h : MC K cc nL own lev) (hr : MR K 0 (none) po) (hd : decode cc pc = .ok (.return_, 1)) (hp : po x σ) : M K pc ls [] σ := by
  obtain ⟨p, l, e, R, s, m, args, below, meth, c, D, ad, cA, Q, cells, slots⟩ := K
  intro H locs LS hP hD hS hl
  obtain ⟨hr1, hr2⟩ := hr
  subst hr2
  have hlocks : meth.locks = false := h.2.2.2.2.2.1
  exact W.vret h.1 h.2.1 hr1 (fun t ht hW => ⟨x, σ, rfl, hp, by rw [ht]; exact hP, hS.F ht⟩) hS.2.2 hd hlocks
end
section
/-! entry -/
theorem ent_len (ad : Nat → Nat) : ∀ as : List MV, (lg_sl (as.map (cvv ad))).length = (ent as).length
  | [] => rfl
  | .inl x :: r => by simpa [lg_sl, ent, cvv, Value.category] using ent_len ad r
  | .inr (.inl x) :: r => by
    have := ent_len ad r
    rw [show lg_sl ((.inr (.inl x) :: r : List MV).map (cvv ad)) = [.val (.long (Int64.ofInt x)), .second] ++ lg_sl (r.map (cvv ad)) from rfl, List.length_append, this]
    simp only [ent, List.length_cons, List.length_nil]
    omega
  | .inr (.inr x) :: r => by simpa [lg_sl, ent, cvv, Value.category] using ent_len ad r
theorem Sp1_in {y : MethodName} {bytes : ByteArray} {maxL : Nat} {rt : Option FieldType} {rk lev : Nat} {as : List MV} {σ : Mem} {po : Int → Mem → Prop} (own : String) (hown : y.cls = own) (hy : plainFor y = true) (hlen : (ent as).length ≤ maxL) (ls : List (Option MV)) (hls : ent as ++ List.replicate (maxL - (ent as).length) none = ls)
    (k : ∀ K : KT, MC K bytes maxL own lev → MR K rk rt po → M K 0 ls [] σ) : Sp1 y bytes maxL rt rk lev as σ po := by
  subst hown
  subst hls
  intro l D ad cA sz
  refine va_MetF (cc := bytes) (maxL := maxL) (ret := rt) hy rfl ?_
  intro p e s m args below meth c s₁ B hml hv
  obtain ⟨rfl, hsz, hP, hK, hD0, hN⟩ := hv
  have hts := atoms_spec (ws := Cond.code y bytes maxL rt :: wT) B.pre
  have hfc : s.vm.findClass y.cls = some m.cls := findClass_of_methodNamed B.named
  subst hsz
  have hl := lv_entry (as.map (cvv ad)) (n := maxL) (by rw [ent_len]; exact hlen)
  rw [lg_entry_eq]
  refine k (p, l, e, _, s, m, _, below, meth, c, D, ad, cA, _, 0, 0) ⟨B.exec, B.bytes, hml, hfc, fun w hw => hts w (List.mem_cons_of_mem _ hw), B.notSynchronized, hK, hN, Nat.le_refl _, Nat.le_refl _, Nat.zero_le _, Nat.zero_le _⟩ ⟨B.returns, rfl⟩ s.heap [] _ hP (mkW_A hD0) va_S.rf ?_
  rw [hml]
  refine lvs_of hl (fun k v hv => ?_)
  by_cases hk : k < (ent as).length
  · rw [List.getElem?_append_left hk] at hv
    have := ent_args ad as 0 k v hv
    simpa using this
  · rw [List.getElem?_append_right (by omega), List.getElem?_replicate] at hv
    split at hv <;> simp at hv
/-! calls -/
theorem mi_blind {D : va_G} {ad : Nat → Nat} {cA : Nat → ClassId} {σ : Mem} {sz : Nat} {av : List Value} : FrameBlind (va_Pc av (fun U => U.heap.size = sz ∧ WD D ad cA σ U)) := by
  intro a U g mk q
  obtain ⟨q0, q1, qP, qK, qD, qN⟩ := q
  exact ⟨q0, q1, qP, va_K.moved (u := U) (U := U.calling g mk a) (Vm.Alike.refl U.vm) qK, qD, nests_same (u := U) (U := U.calling g mk a) rfl qN⟩
section RUN
variable {p : Program} {l : Launch} {e : Env} {R : Room} {s : State} {m : MethodId} {args : Array Value} {below : List Frame} {meth : Method} {c : Code} {D : va_G} {ad : Nat → Nat} {cA : Nat → ClassId} {Q : State → Prop} {cells slots : Nat}
theorem mi_at {H : Heap} {σ : Mem} {as : List MV} (hP : va_P D classes (mkW ad cA σ) H) (hD : va_D (A0 ad s.heap.size) (mkW ad cA σ)) (hK : va_K D classes (tyA cA) s) (hN : nests s) (U : State) (hU : U.heap = H) (hW : s.WarmedH U.vm) : va_Pc (as.map (cvv ad)) (fun U => U.heap.size = H.size ∧ WD D ad cA σ U) (as.map (cvv ad)).toArray U :=
  ⟨rfl, by rw [hU], by rw [hU]; exact hP, va_K.moved hW.alike hK, hD.weaken (fun _ _ _ _ => trivial), nests_warm hW hN⟩
theorem mi_run {pc : Nat} {ls : List (Option MV)} {st0 rest : List MV} {σ : Mem} {rk : Nat} {po : Int → Mem → Prop} {a : Array Value} {free : Addr → Prop} {H : Heap} {locs : List Loc} {LS : Array Slot}
    (hD : va_D (A0 ad s.heap.size) (mkW ad cA σ)) (hS : va_S (A0 ad s.heap.size) s.heap H locs) (hl : lvs ad c.maxLocals ls LS) (hfree : ∀ q, free q → A0 ad H.size q)
    (run : va_Run p l e R s m args below meth c H locs cells slots 0 0 (F0 m pc LS (st0.map (cvv ad))) (rest.map (cvv ad)) (QS rk D ad cA H.size po a) free)
    (k : ∀ (r : Int) (σ' : Mem), po r σ' → M (p, l, e, R, s, m, args, below, meth, c, D, ad, cA, Q, cells, slots) (pc + 3) ls (rv rk r ++ rest) σ') : W p l e R s m args below meth c H locs cells slots Q (F0 m pc LS (st0.map (cvv ad))) := by
  intro T hT X
  obtain ⟨v, st₀, t, T', L, h0, X', hL, e1, e2, ⟨r, σ', hv, hpo, hP1, hz, hk⟩, stp⟩ := run T hT X
  cases hv
  rw [h0] at hz hk
  have k2 := k r σ' hpo T'.heap (locs ++ L) LS (by rw [e1]; exact hP1) (mkW_D hD) ⟨Nat.le_trans hS.1 (by rw [e1]; exact hz), fun q h1 h2 => by rw [e1, hk q (Nat.lt_of_lt_of_le h1 hS.1) (fun z => h2 (A0_grow hS.1 z))]; exact hS.2.1 q h1 h2, fun q hq => by
      rcases List.mem_append.mp hq with h | h
      · exact hS.2.2 q h
      · exact A0_grow hS.1 (hfree _ (hL q h))⟩ hl
  obtain ⟨t2, a1, b1⟩ := k2 T' rfl X'
  refine ⟨t2, stp t2 ?_, b1⟩
  rw [List.map_append, rv_map] at a1
  exact a1
end RUN
/-- what the tables say of a method that is called -/
def YS (y : MethodName) (bytes : ByteArray) (maxL : Nat) (rt : Option FieldType) (n : Nat) : Prop := Cond.code y bytes maxL rt ∈ wT ∧ Cond.static y ∈ wT ∧ Cond.initialized y.cls ∈ wT ∧ maxL ≤ 21 ∧ (y.cls ≠ "java/lang/invoke/MethodHandle" ∧ y.cls ≠ "java/lang/invoke/VarHandle" ∧ (parseMethodDescriptor y.desc).map (fun d => d.parameters.length) = some n)
def YV (y : MethodName) (bytes : ByteArray) (maxL : Nat) (rt : Option FieldType) (C : String) (n : Nat) : Prop := Cond.code y bytes maxL rt ∈ wT ∧ Cond.instanceMethod y ∈ wT ∧ Cond.selects C y y ∈ wT ∧ Cond.initialized y.cls ∈ wT ∧ maxL ≤ 21 ∧ (y.cls ≠ "java/lang/invoke/MethodHandle" ∧ y.cls ≠ "java/lang/invoke/VarHandle" ∧ (parseMethodDescriptor y.desc).map (fun d => d.parameters.length) = some n)
def wd : MV → Nat
  | .inr (.inl _) => 2
  | _ => 1
theorem wd_cat (ad : Nat → Nat) (v : MV) : (cvv ad v).category = wd v := by
  match v with
  | .inl x => rfl
  | .inr (.inl x) => rfl
  | .inr (.inr x) => rfl
theorem wd_sum (ad : Nat → Nat) (st : List MV) : ((st.map (cvv ad)).map fun v => v.category).sum = (st.map wd).sum := by
  rw [List.map_map]
  congr 1
  exact List.map_congr_left (fun v _ => wd_cat ad v)
theorem mi_callS {K : KT} {cc : ByteArray} {nL : Nat} {own : String} {lev pc : Nat} {ls : List (Option MV)} {σ : Mem} {y : MethodName} {bytes : ByteArray} {maxL : Nat} {rt : Option FieldType} {rk lev' n idx : Nat} {po : Int → Mem → Prop} {As rest : List MV} (h : MC K cc nL own lev) (hd : decode cc pc = .ok (.invokestatic idx, 3)) (hl : Cond.methodLink own idx y ∈ wT) (hy : YS y bytes maxL rt n) (hn : As.length = n) (hw : (rest.map wd).sum ≤ 8) (hSp : Sp1 y bytes maxL rt rk lev' As σ po) (hlev : lev' + 1 ≤ lev) (k : ∀ (r : Int) (σ' : Mem), po r σ' → M K (pc + 3) ls (rv rk r ++ rest) σ') : M K pc ls (As.reverse ++ rest) σ := by
  obtain ⟨p, l, e, R, s, m, args, below, meth, c, D, ad, cA, Q, cells, slots⟩ := K
  intro H locs LS hP hD hS hls
  obtain ⟨g1, g2, g3, g4, g5, g6, g7, g8, g9, g10, g11, g12⟩ := h
  obtain ⟨y1, y2, y3, y4, y5⟩ := hy
  refine mi_run (p := p) (l := l) (e := e) (cA := cA) (D := D) hD hS hls (fun q hq => hq) (va_runS (Ts := wT) (own := own) (nL := nL) (As := As.map (cvv ad)) ⟨g1, g2, g3, g4, g5⟩ (hSp l D ad cA H.size) ⟨callB_of n g5 (wT_cons y1) rfl rfl rfl (g5 _ y3) (g5 _ hl) y5 ⟨by show lev' + 1 ≤ R.frames; omega, by show 8 + (maxL + 11) + 40 * lev' ≤ R.locals; omega⟩, g5 _ y2⟩ ⟨mi_blind, mi_at hP hD g7 g8⟩ rfl (by rw [List.length_map]; exact hn) (hls.1.trans g3) (by show List.map _ _ = _; rw [List.map_append, List.map_reverse]) (by show 2 * 0 + _ ≤ 8; rw [wd_sum]; omega) hd ⟨g11, g12⟩) k
theorem mi_callN {K : KT} {cc : ByteArray} {nL : Nat} {own : String} {lev pc : Nat} {ls : List (Option MV)} {σ : Mem} {y : MethodName} {bytes : ByteArray} {maxL : Nat} {rt : Option FieldType} {rk lev' n idx : Nat} {po : Int → Mem → Prop} {As rest : List MV} {host : String} (h : MC K cc nL own lev) (hd : decode cc pc = .ok (.invokestatic idx, 3)) (hl : (own, idx, y, host) ∈ nestL) (hy : YS y bytes maxL rt n) (hn : As.length = n) (hw : (rest.map wd).sum ≤ 8) (hSp : Sp1 y bytes maxL rt rk lev' As σ po) (hlev : lev' + 1 ≤ lev) (k : ∀ (r : Int) (σ' : Mem), po r σ' → M K (pc + 3) ls (rv rk r ++ rest) σ') : M K pc ls (As.reverse ++ rest) σ := by
  obtain ⟨p, l, e, R, s, m, args, below, meth, c, D, ad, cA, Q, cells, slots⟩ := K
  intro H locs LS hP hD hS hls
  obtain ⟨g1, g2, g3, g4, g5, g6, g7, g8, g9, g10, g11, g12⟩ := h
  obtain ⟨y1, y2, y3, y4, y5⟩ := hy
  refine mi_run (p := p) (l := l) (e := e) (cA := cA) (D := D) hD hS hls (fun q hq => hq) (va_runSN (Ts := wT) (own := own) (host := host) (nL := nL) (As := As.map (cvv ad)) ⟨g1, g2, g3, g4, g5⟩ (hSp l D ad cA H.size) ⟨va_cnB n g5 (wT_cons y1) rfl rfl rfl (g8 _ hl) (g5 _ y3) y5 ⟨by show lev' + 1 ≤ R.frames; omega, by show 8 + (maxL + 11) + 40 * lev' ≤ R.locals; omega⟩, g5 _ y2, trivial⟩ ⟨mi_blind, mi_at hP hD g7 g8⟩ rfl (by rw [List.length_map]; exact hn) (hls.1.trans g3) (by show List.map _ _ = _; rw [List.map_append, List.map_reverse]) (by show 2 * 0 + _ ≤ 8; rw [wd_sum]; omega) hd ⟨g11, g12⟩) k
theorem mi_callV {K : KT} {cc : ByteArray} {nL : Nat} {own : String} {lev pc : Nat} {ls : List (Option MV)} {σ : Mem} {y : MethodName} {bytes : ByteArray} {maxL : Nat} {rt : Option FieldType} {rk lev' n idx : Nat} {po : Int → Mem → Prop} {As rest : List MV} {c0 ci : Nat} {fs : List (Option Nat)} {C : String} {T : u_T} {N : Nat} (h : MC K cc nL own lev) (hd : decode cc pc = .ok (.invokevirtual idx, 3)) (hl : Cond.methodLink own idx y ∈ wT) (hy : YV y bytes maxL rt C n) (hlay : lay[c0]? = some (.inl (ci, fs))) (hcl : classes[ci]? = some (C, T, N)) (hn : As.length = n) (hw : (rest.map wd).sum ≤ 8) (hSp : Sp1 y bytes maxL rt rk lev' (vr c0 :: As) σ po) (hlev : lev' + 1 ≤ lev) (k : ∀ (r : Int) (σ' : Mem), po r σ' → M K (pc + 3) ls (rv rk r ++ rest) σ') : M K pc ls (As.reverse ++ vr c0 :: rest) σ := by
  obtain ⟨p, l, e, R, s, m, args, below, meth, c, D, ad, cA, Q, cells, slots⟩ := K
  intro H locs LS hP hD hS hls
  obtain ⟨g1, g2, g3, g4, g5, g6, g7, g8, g9, g10, g11, g12⟩ := h
  obtain ⟨y1, y2, y3, y4, y5, y6⟩ := hy
  refine mi_run (p := p) (l := l) (e := e) (cA := cA) (D := D) hD hS hls (fun q hq => hq) (va_runV (Ts := wT) (own := own) (C := C) (b := ad c0) (nL := nL) (As := As.map (cvv ad)) ⟨g1, g2, g3, g4, g5⟩ (hSp l D ad cA H.size) ⟨callB_of n g5 (wT_cons y1) rfl rfl rfl (g5 _ y4) (g5 _ hl) y6 ⟨by show lev' + 1 ≤ R.frames; omega, by show 8 + (maxL + 11) + 40 * lev' ≤ R.locals; omega⟩, g5 _ y2, g5 _ y3⟩ ⟨mi_blind, va_recv g7 hP hcl (mkW_at hlay), mi_at (as := vr c0 :: As) hP hD g7 g8⟩ rfl (by rw [List.length_map]; exact hn) (hls.1.trans g3) (by show List.map _ _ = _; rw [List.map_append, List.map_reverse]; rfl) (by show 2 * 0 + _ ≤ 8; rw [wd_sum]; omega) hd ⟨g11, g12⟩) k
theorem mi_cS0i {K : KT} {cc : ByteArray} {nL : Nat} {own : String} {lev pc : Nat} {ls : List (Option MV)} {σ : Mem} {y : MethodName} {bytes : ByteArray} {maxL : Nat} {rt : Option FieldType} {lev' idx : Nat} {po : Int → Mem → Prop} {rest : List MV} (h : MC K cc nL own lev) (hd : decode cc pc = .ok (.invokestatic idx, 3)) (hl : Cond.methodLink own idx y ∈ wT) (hy : YS y bytes maxL rt 0) (hSp : Sp1 y bytes maxL rt 1 lev' [] σ po) (k : ∀ (r : Int) (σ' : Mem), po r σ' → M K (pc + 3) ls (vi r :: rest) σ') (hlev : lev' + 1 ≤ lev := by decide) (hw : (rest.map wd).sum ≤ 8 := by decide) : M K pc ls (rest) σ := mi_callS (As := []) (rk := 1) h hd hl hy rfl hw hSp hlev k
theorem mi_cS0l {K : KT} {cc : ByteArray} {nL : Nat} {own : String} {lev pc : Nat} {ls : List (Option MV)} {σ : Mem} {y : MethodName} {bytes : ByteArray} {maxL : Nat} {rt : Option FieldType} {lev' idx : Nat} {po : Int → Mem → Prop} {rest : List MV} (h : MC K cc nL own lev) (hd : decode cc pc = .ok (.invokestatic idx, 3)) (hl : Cond.methodLink own idx y ∈ wT) (hy : YS y bytes maxL rt 0) (hSp : Sp1 y bytes maxL rt 2 lev' [] σ po) (k : ∀ (r : Int) (σ' : Mem), po r σ' → M K (pc + 3) ls (vl r :: rest) σ') (hlev : lev' + 1 ≤ lev := by decide) (hw : (rest.map wd).sum ≤ 8 := by decide) : M K pc ls (rest) σ := mi_callS (As := []) (rk := 2) h hd hl hy rfl hw hSp hlev k
theorem mi_cS0v {K : KT} {cc : ByteArray} {nL : Nat} {own : String} {lev pc : Nat} {ls : List (Option MV)} {σ : Mem} {y : MethodName} {bytes : ByteArray} {maxL : Nat} {rt : Option FieldType} {lev' idx : Nat} {po : Int → Mem → Prop} {rest : List MV} (h : MC K cc nL own lev) (hd : decode cc pc = .ok (.invokestatic idx, 3)) (hl : Cond.methodLink own idx y ∈ wT) (hy : YS y bytes maxL rt 0) (hSp : Sp1 y bytes maxL rt 0 lev' [] σ po) (k : ∀ (r : Int) (σ' : Mem), po r σ' → M K (pc + 3) ls (rest) σ') (hlev : lev' + 1 ≤ lev := by decide) (hw : (rest.map wd).sum ≤ 8 := by decide) : M K pc ls (rest) σ := mi_callS (As := []) (rk := 0) h hd hl hy rfl hw hSp hlev k
theorem mi_cS1i {K : KT} {cc : ByteArray} {nL : Nat} {own : String} {lev pc : Nat} {ls : List (Option MV)} {σ : Mem} {y : MethodName} {bytes : ByteArray} {maxL : Nat} {rt : Option FieldType} {lev' idx : Nat} {po : Int → Mem → Prop} {rest : List MV} {a1 : MV} (h : MC K cc nL own lev) (hd : decode cc pc = .ok (.invokestatic idx, 3)) (hl : Cond.methodLink own idx y ∈ wT) (hy : YS y bytes maxL rt 1) (hSp : Sp1 y bytes maxL rt 1 lev' [a1] σ po) (k : ∀ (r : Int) (σ' : Mem), po r σ' → M K (pc + 3) ls (vi r :: rest) σ') (hlev : lev' + 1 ≤ lev := by decide) (hw : (rest.map wd).sum ≤ 8 := by decide) : M K pc ls (a1 :: rest) σ := mi_callS (As := [a1]) (rk := 1) h hd hl hy rfl hw hSp hlev k
theorem mi_cS1l {K : KT} {cc : ByteArray} {nL : Nat} {own : String} {lev pc : Nat} {ls : List (Option MV)} {σ : Mem} {y : MethodName} {bytes : ByteArray} {maxL : Nat} {rt : Option FieldType} {lev' idx : Nat} {po : Int → Mem → Prop} {rest : List MV} {a1 : MV} (h : MC K cc nL own lev) (hd : decode cc pc = .ok (.invokestatic idx, 3)) (hl : Cond.methodLink own idx y ∈ wT) (hy : YS y bytes maxL rt 1) (hSp : Sp1 y bytes maxL rt 2 lev' [a1] σ po) (k : ∀ (r : Int) (σ' : Mem), po r σ' → M K (pc + 3) ls (vl r :: rest) σ') (hlev : lev' + 1 ≤ lev := by decide) (hw : (rest.map wd).sum ≤ 8 := by decide) : M K pc ls (a1 :: rest) σ := mi_callS (As := [a1]) (rk := 2) h hd hl hy rfl hw hSp hlev k
theorem mi_cS1v {K : KT} {cc : ByteArray} {nL : Nat} {own : String} {lev pc : Nat} {ls : List (Option MV)} {σ : Mem} {y : MethodName} {bytes : ByteArray} {maxL : Nat} {rt : Option FieldType} {lev' idx : Nat} {po : Int → Mem → Prop} {rest : List MV} {a1 : MV} (h : MC K cc nL own lev) (hd : decode cc pc = .ok (.invokestatic idx, 3)) (hl : Cond.methodLink own idx y ∈ wT) (hy : YS y bytes maxL rt 1) (hSp : Sp1 y bytes maxL rt 0 lev' [a1] σ po) (k : ∀ (r : Int) (σ' : Mem), po r σ' → M K (pc + 3) ls (rest) σ') (hlev : lev' + 1 ≤ lev := by decide) (hw : (rest.map wd).sum ≤ 8 := by decide) : M K pc ls (a1 :: rest) σ := mi_callS (As := [a1]) (rk := 0) h hd hl hy rfl hw hSp hlev k
theorem mi_cS2i {K : KT} {cc : ByteArray} {nL : Nat} {own : String} {lev pc : Nat} {ls : List (Option MV)} {σ : Mem} {y : MethodName} {bytes : ByteArray} {maxL : Nat} {rt : Option FieldType} {lev' idx : Nat} {po : Int → Mem → Prop} {rest : List MV} {a1 a2 : MV} (h : MC K cc nL own lev) (hd : decode cc pc = .ok (.invokestatic idx, 3)) (hl : Cond.methodLink own idx y ∈ wT) (hy : YS y bytes maxL rt 2) (hSp : Sp1 y bytes maxL rt 1 lev' [a1, a2] σ po) (k : ∀ (r : Int) (σ' : Mem), po r σ' → M K (pc + 3) ls (vi r :: rest) σ') (hlev : lev' + 1 ≤ lev := by decide) (hw : (rest.map wd).sum ≤ 8 := by decide) : M K pc ls (a2 :: a1 :: rest) σ := mi_callS (As := [a1, a2]) (rk := 1) h hd hl hy rfl hw hSp hlev k
theorem mi_cS2l {K : KT} {cc : ByteArray} {nL : Nat} {own : String} {lev pc : Nat} {ls : List (Option MV)} {σ : Mem} {y : MethodName} {bytes : ByteArray} {maxL : Nat} {rt : Option FieldType} {lev' idx : Nat} {po : Int → Mem → Prop} {rest : List MV} {a1 a2 : MV} (h : MC K cc nL own lev) (hd : decode cc pc = .ok (.invokestatic idx, 3)) (hl : Cond.methodLink own idx y ∈ wT) (hy : YS y bytes maxL rt 2) (hSp : Sp1 y bytes maxL rt 2 lev' [a1, a2] σ po) (k : ∀ (r : Int) (σ' : Mem), po r σ' → M K (pc + 3) ls (vl r :: rest) σ') (hlev : lev' + 1 ≤ lev := by decide) (hw : (rest.map wd).sum ≤ 8 := by decide) : M K pc ls (a2 :: a1 :: rest) σ := mi_callS (As := [a1, a2]) (rk := 2) h hd hl hy rfl hw hSp hlev k
theorem mi_cS2v {K : KT} {cc : ByteArray} {nL : Nat} {own : String} {lev pc : Nat} {ls : List (Option MV)} {σ : Mem} {y : MethodName} {bytes : ByteArray} {maxL : Nat} {rt : Option FieldType} {lev' idx : Nat} {po : Int → Mem → Prop} {rest : List MV} {a1 a2 : MV} (h : MC K cc nL own lev) (hd : decode cc pc = .ok (.invokestatic idx, 3)) (hl : Cond.methodLink own idx y ∈ wT) (hy : YS y bytes maxL rt 2) (hSp : Sp1 y bytes maxL rt 0 lev' [a1, a2] σ po) (k : ∀ (r : Int) (σ' : Mem), po r σ' → M K (pc + 3) ls (rest) σ') (hlev : lev' + 1 ≤ lev := by decide) (hw : (rest.map wd).sum ≤ 8 := by decide) : M K pc ls (a2 :: a1 :: rest) σ := mi_callS (As := [a1, a2]) (rk := 0) h hd hl hy rfl hw hSp hlev k
theorem mi_cS3i {K : KT} {cc : ByteArray} {nL : Nat} {own : String} {lev pc : Nat} {ls : List (Option MV)} {σ : Mem} {y : MethodName} {bytes : ByteArray} {maxL : Nat} {rt : Option FieldType} {lev' idx : Nat} {po : Int → Mem → Prop} {rest : List MV} {a1 a2 a3 : MV} (h : MC K cc nL own lev) (hd : decode cc pc = .ok (.invokestatic idx, 3)) (hl : Cond.methodLink own idx y ∈ wT) (hy : YS y bytes maxL rt 3) (hSp : Sp1 y bytes maxL rt 1 lev' [a1, a2, a3] σ po) (k : ∀ (r : Int) (σ' : Mem), po r σ' → M K (pc + 3) ls (vi r :: rest) σ') (hlev : lev' + 1 ≤ lev := by decide) (hw : (rest.map wd).sum ≤ 8 := by decide) : M K pc ls (a3 :: a2 :: a1 :: rest) σ := mi_callS (As := [a1, a2, a3]) (rk := 1) h hd hl hy rfl hw hSp hlev k
theorem mi_cS3l {K : KT} {cc : ByteArray} {nL : Nat} {own : String} {lev pc : Nat} {ls : List (Option MV)} {σ : Mem} {y : MethodName} {bytes : ByteArray} {maxL : Nat} {rt : Option FieldType} {lev' idx : Nat} {po : Int → Mem → Prop} {rest : List MV} {a1 a2 a3 : MV} (h : MC K cc nL own lev) (hd : decode cc pc = .ok (.invokestatic idx, 3)) (hl : Cond.methodLink own idx y ∈ wT) (hy : YS y bytes maxL rt 3) (hSp : Sp1 y bytes maxL rt 2 lev' [a1, a2, a3] σ po) (k : ∀ (r : Int) (σ' : Mem), po r σ' → M K (pc + 3) ls (vl r :: rest) σ') (hlev : lev' + 1 ≤ lev := by decide) (hw : (rest.map wd).sum ≤ 8 := by decide) : M K pc ls (a3 :: a2 :: a1 :: rest) σ := mi_callS (As := [a1, a2, a3]) (rk := 2) h hd hl hy rfl hw hSp hlev k
theorem mi_cS3v {K : KT} {cc : ByteArray} {nL : Nat} {own : String} {lev pc : Nat} {ls : List (Option MV)} {σ : Mem} {y : MethodName} {bytes : ByteArray} {maxL : Nat} {rt : Option FieldType} {lev' idx : Nat} {po : Int → Mem → Prop} {rest : List MV} {a1 a2 a3 : MV} (h : MC K cc nL own lev) (hd : decode cc pc = .ok (.invokestatic idx, 3)) (hl : Cond.methodLink own idx y ∈ wT) (hy : YS y bytes maxL rt 3) (hSp : Sp1 y bytes maxL rt 0 lev' [a1, a2, a3] σ po) (k : ∀ (r : Int) (σ' : Mem), po r σ' → M K (pc + 3) ls (rest) σ') (hlev : lev' + 1 ≤ lev := by decide) (hw : (rest.map wd).sum ≤ 8 := by decide) : M K pc ls (a3 :: a2 :: a1 :: rest) σ := mi_callS (As := [a1, a2, a3]) (rk := 0) h hd hl hy rfl hw hSp hlev k
theorem mi_cS4i {K : KT} {cc : ByteArray} {nL : Nat} {own : String} {lev pc : Nat} {ls : List (Option MV)} {σ : Mem} {y : MethodName} {bytes : ByteArray} {maxL : Nat} {rt : Option FieldType} {lev' idx : Nat} {po : Int → Mem → Prop} {rest : List MV} {a1 a2 a3 a4 : MV} (h : MC K cc nL own lev) (hd : decode cc pc = .ok (.invokestatic idx, 3)) (hl : Cond.methodLink own idx y ∈ wT) (hy : YS y bytes maxL rt 4) (hSp : Sp1 y bytes maxL rt 1 lev' [a1, a2, a3, a4] σ po) (k : ∀ (r : Int) (σ' : Mem), po r σ' → M K (pc + 3) ls (vi r :: rest) σ') (hlev : lev' + 1 ≤ lev := by decide) (hw : (rest.map wd).sum ≤ 8 := by decide) : M K pc ls (a4 :: a3 :: a2 :: a1 :: rest) σ := mi_callS (As := [a1, a2, a3, a4]) (rk := 1) h hd hl hy rfl hw hSp hlev k
theorem mi_cS4l {K : KT} {cc : ByteArray} {nL : Nat} {own : String} {lev pc : Nat} {ls : List (Option MV)} {σ : Mem} {y : MethodName} {bytes : ByteArray} {maxL : Nat} {rt : Option FieldType} {lev' idx : Nat} {po : Int → Mem → Prop} {rest : List MV} {a1 a2 a3 a4 : MV} (h : MC K cc nL own lev) (hd : decode cc pc = .ok (.invokestatic idx, 3)) (hl : Cond.methodLink own idx y ∈ wT) (hy : YS y bytes maxL rt 4) (hSp : Sp1 y bytes maxL rt 2 lev' [a1, a2, a3, a4] σ po) (k : ∀ (r : Int) (σ' : Mem), po r σ' → M K (pc + 3) ls (vl r :: rest) σ') (hlev : lev' + 1 ≤ lev := by decide) (hw : (rest.map wd).sum ≤ 8 := by decide) : M K pc ls (a4 :: a3 :: a2 :: a1 :: rest) σ := mi_callS (As := [a1, a2, a3, a4]) (rk := 2) h hd hl hy rfl hw hSp hlev k
theorem mi_cS4v {K : KT} {cc : ByteArray} {nL : Nat} {own : String} {lev pc : Nat} {ls : List (Option MV)} {σ : Mem} {y : MethodName} {bytes : ByteArray} {maxL : Nat} {rt : Option FieldType} {lev' idx : Nat} {po : Int → Mem → Prop} {rest : List MV} {a1 a2 a3 a4 : MV} (h : MC K cc nL own lev) (hd : decode cc pc = .ok (.invokestatic idx, 3)) (hl : Cond.methodLink own idx y ∈ wT) (hy : YS y bytes maxL rt 4) (hSp : Sp1 y bytes maxL rt 0 lev' [a1, a2, a3, a4] σ po) (k : ∀ (r : Int) (σ' : Mem), po r σ' → M K (pc + 3) ls (rest) σ') (hlev : lev' + 1 ≤ lev := by decide) (hw : (rest.map wd).sum ≤ 8 := by decide) : M K pc ls (a4 :: a3 :: a2 :: a1 :: rest) σ := mi_callS (As := [a1, a2, a3, a4]) (rk := 0) h hd hl hy rfl hw hSp hlev k
theorem mi_cS5i {K : KT} {cc : ByteArray} {nL : Nat} {own : String} {lev pc : Nat} {ls : List (Option MV)} {σ : Mem} {y : MethodName} {bytes : ByteArray} {maxL : Nat} {rt : Option FieldType} {lev' idx : Nat} {po : Int → Mem → Prop} {rest : List MV} {a1 a2 a3 a4 a5 : MV} (h : MC K cc nL own lev) (hd : decode cc pc = .ok (.invokestatic idx, 3)) (hl : Cond.methodLink own idx y ∈ wT) (hy : YS y bytes maxL rt 5) (hSp : Sp1 y bytes maxL rt 1 lev' [a1, a2, a3, a4, a5] σ po) (k : ∀ (r : Int) (σ' : Mem), po r σ' → M K (pc + 3) ls (vi r :: rest) σ') (hlev : lev' + 1 ≤ lev := by decide) (hw : (rest.map wd).sum ≤ 8 := by decide) : M K pc ls (a5 :: a4 :: a3 :: a2 :: a1 :: rest) σ := mi_callS (As := [a1, a2, a3, a4, a5]) (rk := 1) h hd hl hy rfl hw hSp hlev k
theorem mi_cS5l {K : KT} {cc : ByteArray} {nL : Nat} {own : String} {lev pc : Nat} {ls : List (Option MV)} {σ : Mem} {y : MethodName} {bytes : ByteArray} {maxL : Nat} {rt : Option FieldType} {lev' idx : Nat} {po : Int → Mem → Prop} {rest : List MV} {a1 a2 a3 a4 a5 : MV} (h : MC K cc nL own lev) (hd : decode cc pc = .ok (.invokestatic idx, 3)) (hl : Cond.methodLink own idx y ∈ wT) (hy : YS y bytes maxL rt 5) (hSp : Sp1 y bytes maxL rt 2 lev' [a1, a2, a3, a4, a5] σ po) (k : ∀ (r : Int) (σ' : Mem), po r σ' → M K (pc + 3) ls (vl r :: rest) σ') (hlev : lev' + 1 ≤ lev := by decide) (hw : (rest.map wd).sum ≤ 8 := by decide) : M K pc ls (a5 :: a4 :: a3 :: a2 :: a1 :: rest) σ := mi_callS (As := [a1, a2, a3, a4, a5]) (rk := 2) h hd hl hy rfl hw hSp hlev k
theorem mi_cS5v {K : KT} {cc : ByteArray} {nL : Nat} {own : String} {lev pc : Nat} {ls : List (Option MV)} {σ : Mem} {y : MethodName} {bytes : ByteArray} {maxL : Nat} {rt : Option FieldType} {lev' idx : Nat} {po : Int → Mem → Prop} {rest : List MV} {a1 a2 a3 a4 a5 : MV} (h : MC K cc nL own lev) (hd : decode cc pc = .ok (.invokestatic idx, 3)) (hl : Cond.methodLink own idx y ∈ wT) (hy : YS y bytes maxL rt 5) (hSp : Sp1 y bytes maxL rt 0 lev' [a1, a2, a3, a4, a5] σ po) (k : ∀ (r : Int) (σ' : Mem), po r σ' → M K (pc + 3) ls (rest) σ') (hlev : lev' + 1 ≤ lev := by decide) (hw : (rest.map wd).sum ≤ 8 := by decide) : M K pc ls (a5 :: a4 :: a3 :: a2 :: a1 :: rest) σ := mi_callS (As := [a1, a2, a3, a4, a5]) (rk := 0) h hd hl hy rfl hw hSp hlev k
theorem mi_cS6i {K : KT} {cc : ByteArray} {nL : Nat} {own : String} {lev pc : Nat} {ls : List (Option MV)} {σ : Mem} {y : MethodName} {bytes : ByteArray} {maxL : Nat} {rt : Option FieldType} {lev' idx : Nat} {po : Int → Mem → Prop} {rest : List MV} {a1 a2 a3 a4 a5 a6 : MV} (h : MC K cc nL own lev) (hd : decode cc pc = .ok (.invokestatic idx, 3)) (hl : Cond.methodLink own idx y ∈ wT) (hy : YS y bytes maxL rt 6) (hSp : Sp1 y bytes maxL rt 1 lev' [a1, a2, a3, a4, a5, a6] σ po) (k : ∀ (r : Int) (σ' : Mem), po r σ' → M K (pc + 3) ls (vi r :: rest) σ') (hlev : lev' + 1 ≤ lev := by decide) (hw : (rest.map wd).sum ≤ 8 := by decide) : M K pc ls (a6 :: a5 :: a4 :: a3 :: a2 :: a1 :: rest) σ := mi_callS (As := [a1, a2, a3, a4, a5, a6]) (rk := 1) h hd hl hy rfl hw hSp hlev k
theorem mi_cS6l {K : KT} {cc : ByteArray} {nL : Nat} {own : String} {lev pc : Nat} {ls : List (Option MV)} {σ : Mem} {y : MethodName} {bytes : ByteArray} {maxL : Nat} {rt : Option FieldType} {lev' idx : Nat} {po : Int → Mem → Prop} {rest : List MV} {a1 a2 a3 a4 a5 a6 : MV} (h : MC K cc nL own lev) (hd : decode cc pc = .ok (.invokestatic idx, 3)) (hl : Cond.methodLink own idx y ∈ wT) (hy : YS y bytes maxL rt 6) (hSp : Sp1 y bytes maxL rt 2 lev' [a1, a2, a3, a4, a5, a6] σ po) (k : ∀ (r : Int) (σ' : Mem), po r σ' → M K (pc + 3) ls (vl r :: rest) σ') (hlev : lev' + 1 ≤ lev := by decide) (hw : (rest.map wd).sum ≤ 8 := by decide) : M K pc ls (a6 :: a5 :: a4 :: a3 :: a2 :: a1 :: rest) σ := mi_callS (As := [a1, a2, a3, a4, a5, a6]) (rk := 2) h hd hl hy rfl hw hSp hlev k
theorem mi_cS6v {K : KT} {cc : ByteArray} {nL : Nat} {own : String} {lev pc : Nat} {ls : List (Option MV)} {σ : Mem} {y : MethodName} {bytes : ByteArray} {maxL : Nat} {rt : Option FieldType} {lev' idx : Nat} {po : Int → Mem → Prop} {rest : List MV} {a1 a2 a3 a4 a5 a6 : MV} (h : MC K cc nL own lev) (hd : decode cc pc = .ok (.invokestatic idx, 3)) (hl : Cond.methodLink own idx y ∈ wT) (hy : YS y bytes maxL rt 6) (hSp : Sp1 y bytes maxL rt 0 lev' [a1, a2, a3, a4, a5, a6] σ po) (k : ∀ (r : Int) (σ' : Mem), po r σ' → M K (pc + 3) ls (rest) σ') (hlev : lev' + 1 ≤ lev := by decide) (hw : (rest.map wd).sum ≤ 8 := by decide) : M K pc ls (a6 :: a5 :: a4 :: a3 :: a2 :: a1 :: rest) σ := mi_callS (As := [a1, a2, a3, a4, a5, a6]) (rk := 0) h hd hl hy rfl hw hSp hlev k
theorem mi_cN2i {K : KT} {cc : ByteArray} {nL : Nat} {own : String} {lev pc : Nat} {ls : List (Option MV)} {σ : Mem} {y : MethodName} {bytes : ByteArray} {maxL : Nat} {rt : Option FieldType} {lev' idx : Nat} {po : Int → Mem → Prop} {rest : List MV} {host : String} {a1 a2 : MV} (h : MC K cc nL own lev) (hd : decode cc pc = .ok (.invokestatic idx, 3)) (hl : (own, idx, y, host) ∈ nestL) (hy : YS y bytes maxL rt 2) (hSp : Sp1 y bytes maxL rt 1 lev' [a1, a2] σ po) (k : ∀ (r : Int) (σ' : Mem), po r σ' → M K (pc + 3) ls (vi r :: rest) σ') (hlev : lev' + 1 ≤ lev := by decide) (hw : (rest.map wd).sum ≤ 8 := by decide) : M K pc ls (a2 :: a1 :: rest) σ := mi_callN (As := [a1, a2]) (rk := 1) h hd hl hy rfl hw hSp hlev k
theorem mi_cN3i {K : KT} {cc : ByteArray} {nL : Nat} {own : String} {lev pc : Nat} {ls : List (Option MV)} {σ : Mem} {y : MethodName} {bytes : ByteArray} {maxL : Nat} {rt : Option FieldType} {lev' idx : Nat} {po : Int → Mem → Prop} {rest : List MV} {host : String} {a1 a2 a3 : MV} (h : MC K cc nL own lev) (hd : decode cc pc = .ok (.invokestatic idx, 3)) (hl : (own, idx, y, host) ∈ nestL) (hy : YS y bytes maxL rt 3) (hSp : Sp1 y bytes maxL rt 1 lev' [a1, a2, a3] σ po) (k : ∀ (r : Int) (σ' : Mem), po r σ' → M K (pc + 3) ls (vi r :: rest) σ') (hlev : lev' + 1 ≤ lev := by decide) (hw : (rest.map wd).sum ≤ 8 := by decide) : M K pc ls (a3 :: a2 :: a1 :: rest) σ := mi_callN (As := [a1, a2, a3]) (rk := 1) h hd hl hy rfl hw hSp hlev k
theorem mi_cV0i {K : KT} {cc : ByteArray} {nL : Nat} {own : String} {lev pc : Nat} {ls : List (Option MV)} {σ : Mem} {y : MethodName} {bytes : ByteArray} {maxL : Nat} {rt : Option FieldType} {lev' idx : Nat} {po : Int → Mem → Prop} {rest : List MV} {c0 ci : Nat} {fs : List (Option Nat)} {C : String} {T : u_T} {N : Nat} (h : MC K cc nL own lev) (hd : decode cc pc = .ok (.invokevirtual idx, 3)) (hl : Cond.methodLink own idx y ∈ wT) (hy : YV y bytes maxL rt C 0) (hlay : lay[c0]? = some (.inl (ci, fs))) (hcl : classes[ci]? = some (C, T, N)) (hSp : Sp1 y bytes maxL rt 1 lev' (vr c0 :: []) σ po) (k : ∀ (r : Int) (σ' : Mem), po r σ' → M K (pc + 3) ls (vi r :: rest) σ') (hlev : lev' + 1 ≤ lev := by decide) (hw : (rest.map wd).sum ≤ 8 := by decide) : M K pc ls (vr c0 :: rest) σ := mi_callV (As := []) (rk := 1) h hd hl hy hlay hcl rfl hw hSp hlev k
theorem mi_cV0l {K : KT} {cc : ByteArray} {nL : Nat} {own : String} {lev pc : Nat} {ls : List (Option MV)} {σ : Mem} {y : MethodName} {bytes : ByteArray} {maxL : Nat} {rt : Option FieldType} {lev' idx : Nat} {po : Int → Mem → Prop} {rest : List MV} {c0 ci : Nat} {fs : List (Option Nat)} {C : String} {T : u_T} {N : Nat} (h : MC K cc nL own lev) (hd : decode cc pc = .ok (.invokevirtual idx, 3)) (hl : Cond.methodLink own idx y ∈ wT) (hy : YV y bytes maxL rt C 0) (hlay : lay[c0]? = some (.inl (ci, fs))) (hcl : classes[ci]? = some (C, T, N)) (hSp : Sp1 y bytes maxL rt 2 lev' (vr c0 :: []) σ po) (k : ∀ (r : Int) (σ' : Mem), po r σ' → M K (pc + 3) ls (vl r :: rest) σ') (hlev : lev' + 1 ≤ lev := by decide) (hw : (rest.map wd).sum ≤ 8 := by decide) : M K pc ls (vr c0 :: rest) σ := mi_callV (As := []) (rk := 2) h hd hl hy hlay hcl rfl hw hSp hlev k
theorem mi_cV0v {K : KT} {cc : ByteArray} {nL : Nat} {own : String} {lev pc : Nat} {ls : List (Option MV)} {σ : Mem} {y : MethodName} {bytes : ByteArray} {maxL : Nat} {rt : Option FieldType} {lev' idx : Nat} {po : Int → Mem → Prop} {rest : List MV} {c0 ci : Nat} {fs : List (Option Nat)} {C : String} {T : u_T} {N : Nat} (h : MC K cc nL own lev) (hd : decode cc pc = .ok (.invokevirtual idx, 3)) (hl : Cond.methodLink own idx y ∈ wT) (hy : YV y bytes maxL rt C 0) (hlay : lay[c0]? = some (.inl (ci, fs))) (hcl : classes[ci]? = some (C, T, N)) (hSp : Sp1 y bytes maxL rt 0 lev' (vr c0 :: []) σ po) (k : ∀ (r : Int) (σ' : Mem), po r σ' → M K (pc + 3) ls (rest) σ') (hlev : lev' + 1 ≤ lev := by decide) (hw : (rest.map wd).sum ≤ 8 := by decide) : M K pc ls (vr c0 :: rest) σ := mi_callV (As := []) (rk := 0) h hd hl hy hlay hcl rfl hw hSp hlev k
theorem mi_cV1i {K : KT} {cc : ByteArray} {nL : Nat} {own : String} {lev pc : Nat} {ls : List (Option MV)} {σ : Mem} {y : MethodName} {bytes : ByteArray} {maxL : Nat} {rt : Option FieldType} {lev' idx : Nat} {po : Int → Mem → Prop} {rest : List MV} {c0 ci : Nat} {fs : List (Option Nat)} {C : String} {T : u_T} {N : Nat} {a1 : MV} (h : MC K cc nL own lev) (hd : decode cc pc = .ok (.invokevirtual idx, 3)) (hl : Cond.methodLink own idx y ∈ wT) (hy : YV y bytes maxL rt C 1) (hlay : lay[c0]? = some (.inl (ci, fs))) (hcl : classes[ci]? = some (C, T, N)) (hSp : Sp1 y bytes maxL rt 1 lev' (vr c0 :: [a1]) σ po) (k : ∀ (r : Int) (σ' : Mem), po r σ' → M K (pc + 3) ls (vi r :: rest) σ') (hlev : lev' + 1 ≤ lev := by decide) (hw : (rest.map wd).sum ≤ 8 := by decide) : M K pc ls (a1 :: vr c0 :: rest) σ := mi_callV (As := [a1]) (rk := 1) h hd hl hy hlay hcl rfl hw hSp hlev k
theorem mi_cV1l {K : KT} {cc : ByteArray} {nL : Nat} {own : String} {lev pc : Nat} {ls : List (Option MV)} {σ : Mem} {y : MethodName} {bytes : ByteArray} {maxL : Nat} {rt : Option FieldType} {lev' idx : Nat} {po : Int → Mem → Prop} {rest : List MV} {c0 ci : Nat} {fs : List (Option Nat)} {C : String} {T : u_T} {N : Nat} {a1 : MV} (h : MC K cc nL own lev) (hd : decode cc pc = .ok (.invokevirtual idx, 3)) (hl : Cond.methodLink own idx y ∈ wT) (hy : YV y bytes maxL rt C 1) (hlay : lay[c0]? = some (.inl (ci, fs))) (hcl : classes[ci]? = some (C, T, N)) (hSp : Sp1 y bytes maxL rt 2 lev' (vr c0 :: [a1]) σ po) (k : ∀ (r : Int) (σ' : Mem), po r σ' → M K (pc + 3) ls (vl r :: rest) σ') (hlev : lev' + 1 ≤ lev := by decide) (hw : (rest.map wd).sum ≤ 8 := by decide) : M K pc ls (a1 :: vr c0 :: rest) σ := mi_callV (As := [a1]) (rk := 2) h hd hl hy hlay hcl rfl hw hSp hlev k
theorem mi_cV1v {K : KT} {cc : ByteArray} {nL : Nat} {own : String} {lev pc : Nat} {ls : List (Option MV)} {σ : Mem} {y : MethodName} {bytes : ByteArray} {maxL : Nat} {rt : Option FieldType} {lev' idx : Nat} {po : Int → Mem → Prop} {rest : List MV} {c0 ci : Nat} {fs : List (Option Nat)} {C : String} {T : u_T} {N : Nat} {a1 : MV} (h : MC K cc nL own lev) (hd : decode cc pc = .ok (.invokevirtual idx, 3)) (hl : Cond.methodLink own idx y ∈ wT) (hy : YV y bytes maxL rt C 1) (hlay : lay[c0]? = some (.inl (ci, fs))) (hcl : classes[ci]? = some (C, T, N)) (hSp : Sp1 y bytes maxL rt 0 lev' (vr c0 :: [a1]) σ po) (k : ∀ (r : Int) (σ' : Mem), po r σ' → M K (pc + 3) ls (rest) σ') (hlev : lev' + 1 ≤ lev := by decide) (hw : (rest.map wd).sum ≤ 8 := by decide) : M K pc ls (a1 :: vr c0 :: rest) σ := mi_callV (As := [a1]) (rk := 0) h hd hl hy hlay hcl rfl hw hSp hlev k
theorem mi_cV2i {K : KT} {cc : ByteArray} {nL : Nat} {own : String} {lev pc : Nat} {ls : List (Option MV)} {σ : Mem} {y : MethodName} {bytes : ByteArray} {maxL : Nat} {rt : Option FieldType} {lev' idx : Nat} {po : Int → Mem → Prop} {rest : List MV} {c0 ci : Nat} {fs : List (Option Nat)} {C : String} {T : u_T} {N : Nat} {a1 a2 : MV} (h : MC K cc nL own lev) (hd : decode cc pc = .ok (.invokevirtual idx, 3)) (hl : Cond.methodLink own idx y ∈ wT) (hy : YV y bytes maxL rt C 2) (hlay : lay[c0]? = some (.inl (ci, fs))) (hcl : classes[ci]? = some (C, T, N)) (hSp : Sp1 y bytes maxL rt 1 lev' (vr c0 :: [a1, a2]) σ po) (k : ∀ (r : Int) (σ' : Mem), po r σ' → M K (pc + 3) ls (vi r :: rest) σ') (hlev : lev' + 1 ≤ lev := by decide) (hw : (rest.map wd).sum ≤ 8 := by decide) : M K pc ls (a2 :: a1 :: vr c0 :: rest) σ := mi_callV (As := [a1, a2]) (rk := 1) h hd hl hy hlay hcl rfl hw hSp hlev k
theorem mi_cV2l {K : KT} {cc : ByteArray} {nL : Nat} {own : String} {lev pc : Nat} {ls : List (Option MV)} {σ : Mem} {y : MethodName} {bytes : ByteArray} {maxL : Nat} {rt : Option FieldType} {lev' idx : Nat} {po : Int → Mem → Prop} {rest : List MV} {c0 ci : Nat} {fs : List (Option Nat)} {C : String} {T : u_T} {N : Nat} {a1 a2 : MV} (h : MC K cc nL own lev) (hd : decode cc pc = .ok (.invokevirtual idx, 3)) (hl : Cond.methodLink own idx y ∈ wT) (hy : YV y bytes maxL rt C 2) (hlay : lay[c0]? = some (.inl (ci, fs))) (hcl : classes[ci]? = some (C, T, N)) (hSp : Sp1 y bytes maxL rt 2 lev' (vr c0 :: [a1, a2]) σ po) (k : ∀ (r : Int) (σ' : Mem), po r σ' → M K (pc + 3) ls (vl r :: rest) σ') (hlev : lev' + 1 ≤ lev := by decide) (hw : (rest.map wd).sum ≤ 8 := by decide) : M K pc ls (a2 :: a1 :: vr c0 :: rest) σ := mi_callV (As := [a1, a2]) (rk := 2) h hd hl hy hlay hcl rfl hw hSp hlev k
theorem mi_cV2v {K : KT} {cc : ByteArray} {nL : Nat} {own : String} {lev pc : Nat} {ls : List (Option MV)} {σ : Mem} {y : MethodName} {bytes : ByteArray} {maxL : Nat} {rt : Option FieldType} {lev' idx : Nat} {po : Int → Mem → Prop} {rest : List MV} {c0 ci : Nat} {fs : List (Option Nat)} {C : String} {T : u_T} {N : Nat} {a1 a2 : MV} (h : MC K cc nL own lev) (hd : decode cc pc = .ok (.invokevirtual idx, 3)) (hl : Cond.methodLink own idx y ∈ wT) (hy : YV y bytes maxL rt C 2) (hlay : lay[c0]? = some (.inl (ci, fs))) (hcl : classes[ci]? = some (C, T, N)) (hSp : Sp1 y bytes maxL rt 0 lev' (vr c0 :: [a1, a2]) σ po) (k : ∀ (r : Int) (σ' : Mem), po r σ' → M K (pc + 3) ls (rest) σ') (hlev : lev' + 1 ≤ lev := by decide) (hw : (rest.map wd).sum ≤ 8 := by decide) : M K pc ls (a2 :: a1 :: vr c0 :: rest) σ := mi_callV (As := [a1, a2]) (rk := 0) h hd hl hy hlay hcl rfl hw hSp hlev k
theorem mi_cV3i {K : KT} {cc : ByteArray} {nL : Nat} {own : String} {lev pc : Nat} {ls : List (Option MV)} {σ : Mem} {y : MethodName} {bytes : ByteArray} {maxL : Nat} {rt : Option FieldType} {lev' idx : Nat} {po : Int → Mem → Prop} {rest : List MV} {c0 ci : Nat} {fs : List (Option Nat)} {C : String} {T : u_T} {N : Nat} {a1 a2 a3 : MV} (h : MC K cc nL own lev) (hd : decode cc pc = .ok (.invokevirtual idx, 3)) (hl : Cond.methodLink own idx y ∈ wT) (hy : YV y bytes maxL rt C 3) (hlay : lay[c0]? = some (.inl (ci, fs))) (hcl : classes[ci]? = some (C, T, N)) (hSp : Sp1 y bytes maxL rt 1 lev' (vr c0 :: [a1, a2, a3]) σ po) (k : ∀ (r : Int) (σ' : Mem), po r σ' → M K (pc + 3) ls (vi r :: rest) σ') (hlev : lev' + 1 ≤ lev := by decide) (hw : (rest.map wd).sum ≤ 8 := by decide) : M K pc ls (a3 :: a2 :: a1 :: vr c0 :: rest) σ := mi_callV (As := [a1, a2, a3]) (rk := 1) h hd hl hy hlay hcl rfl hw hSp hlev k
theorem mi_cV3l {K : KT} {cc : ByteArray} {nL : Nat} {own : String} {lev pc : Nat} {ls : List (Option MV)} {σ : Mem} {y : MethodName} {bytes : ByteArray} {maxL : Nat} {rt : Option FieldType} {lev' idx : Nat} {po : Int → Mem → Prop} {rest : List MV} {c0 ci : Nat} {fs : List (Option Nat)} {C : String} {T : u_T} {N : Nat} {a1 a2 a3 : MV} (h : MC K cc nL own lev) (hd : decode cc pc = .ok (.invokevirtual idx, 3)) (hl : Cond.methodLink own idx y ∈ wT) (hy : YV y bytes maxL rt C 3) (hlay : lay[c0]? = some (.inl (ci, fs))) (hcl : classes[ci]? = some (C, T, N)) (hSp : Sp1 y bytes maxL rt 2 lev' (vr c0 :: [a1, a2, a3]) σ po) (k : ∀ (r : Int) (σ' : Mem), po r σ' → M K (pc + 3) ls (vl r :: rest) σ') (hlev : lev' + 1 ≤ lev := by decide) (hw : (rest.map wd).sum ≤ 8 := by decide) : M K pc ls (a3 :: a2 :: a1 :: vr c0 :: rest) σ := mi_callV (As := [a1, a2, a3]) (rk := 2) h hd hl hy hlay hcl rfl hw hSp hlev k
theorem mi_cV3v {K : KT} {cc : ByteArray} {nL : Nat} {own : String} {lev pc : Nat} {ls : List (Option MV)} {σ : Mem} {y : MethodName} {bytes : ByteArray} {maxL : Nat} {rt : Option FieldType} {lev' idx : Nat} {po : Int → Mem → Prop} {rest : List MV} {c0 ci : Nat} {fs : List (Option Nat)} {C : String} {T : u_T} {N : Nat} {a1 a2 a3 : MV} (h : MC K cc nL own lev) (hd : decode cc pc = .ok (.invokevirtual idx, 3)) (hl : Cond.methodLink own idx y ∈ wT) (hy : YV y bytes maxL rt C 3) (hlay : lay[c0]? = some (.inl (ci, fs))) (hcl : classes[ci]? = some (C, T, N)) (hSp : Sp1 y bytes maxL rt 0 lev' (vr c0 :: [a1, a2, a3]) σ po) (k : ∀ (r : Int) (σ' : Mem), po r σ' → M K (pc + 3) ls (rest) σ') (hlev : lev' + 1 ≤ lev := by decide) (hw : (rest.map wd).sum ≤ 8 := by decide) : M K pc ls (a3 :: a2 :: a1 :: vr c0 :: rest) σ := mi_callV (As := [a1, a2, a3]) (rk := 0) h hd hl hy hlay hcl rfl hw hSp hlev k
theorem mi_cV4i {K : KT} {cc : ByteArray} {nL : Nat} {own : String} {lev pc : Nat} {ls : List (Option MV)} {σ : Mem} {y : MethodName} {bytes : ByteArray} {maxL : Nat} {rt : Option FieldType} {lev' idx : Nat} {po : Int → Mem → Prop} {rest : List MV} {c0 ci : Nat} {fs : List (Option Nat)} {C : String} {T : u_T} {N : Nat} {a1 a2 a3 a4 : MV} (h : MC K cc nL own lev) (hd : decode cc pc = .ok (.invokevirtual idx, 3)) (hl : Cond.methodLink own idx y ∈ wT) (hy : YV y bytes maxL rt C 4) (hlay : lay[c0]? = some (.inl (ci, fs))) (hcl : classes[ci]? = some (C, T, N)) (hSp : Sp1 y bytes maxL rt 1 lev' (vr c0 :: [a1, a2, a3, a4]) σ po) (k : ∀ (r : Int) (σ' : Mem), po r σ' → M K (pc + 3) ls (vi r :: rest) σ') (hlev : lev' + 1 ≤ lev := by decide) (hw : (rest.map wd).sum ≤ 8 := by decide) : M K pc ls (a4 :: a3 :: a2 :: a1 :: vr c0 :: rest) σ := mi_callV (As := [a1, a2, a3, a4]) (rk := 1) h hd hl hy hlay hcl rfl hw hSp hlev k
theorem mi_cV4l {K : KT} {cc : ByteArray} {nL : Nat} {own : String} {lev pc : Nat} {ls : List (Option MV)} {σ : Mem} {y : MethodName} {bytes : ByteArray} {maxL : Nat} {rt : Option FieldType} {lev' idx : Nat} {po : Int → Mem → Prop} {rest : List MV} {c0 ci : Nat} {fs : List (Option Nat)} {C : String} {T : u_T} {N : Nat} {a1 a2 a3 a4 : MV} (h : MC K cc nL own lev) (hd : decode cc pc = .ok (.invokevirtual idx, 3)) (hl : Cond.methodLink own idx y ∈ wT) (hy : YV y bytes maxL rt C 4) (hlay : lay[c0]? = some (.inl (ci, fs))) (hcl : classes[ci]? = some (C, T, N)) (hSp : Sp1 y bytes maxL rt 2 lev' (vr c0 :: [a1, a2, a3, a4]) σ po) (k : ∀ (r : Int) (σ' : Mem), po r σ' → M K (pc + 3) ls (vl r :: rest) σ') (hlev : lev' + 1 ≤ lev := by decide) (hw : (rest.map wd).sum ≤ 8 := by decide) : M K pc ls (a4 :: a3 :: a2 :: a1 :: vr c0 :: rest) σ := mi_callV (As := [a1, a2, a3, a4]) (rk := 2) h hd hl hy hlay hcl rfl hw hSp hlev k
theorem mi_cV4v {K : KT} {cc : ByteArray} {nL : Nat} {own : String} {lev pc : Nat} {ls : List (Option MV)} {σ : Mem} {y : MethodName} {bytes : ByteArray} {maxL : Nat} {rt : Option FieldType} {lev' idx : Nat} {po : Int → Mem → Prop} {rest : List MV} {c0 ci : Nat} {fs : List (Option Nat)} {C : String} {T : u_T} {N : Nat} {a1 a2 a3 a4 : MV} (h : MC K cc nL own lev) (hd : decode cc pc = .ok (.invokevirtual idx, 3)) (hl : Cond.methodLink own idx y ∈ wT) (hy : YV y bytes maxL rt C 4) (hlay : lay[c0]? = some (.inl (ci, fs))) (hcl : classes[ci]? = some (C, T, N)) (hSp : Sp1 y bytes maxL rt 0 lev' (vr c0 :: [a1, a2, a3, a4]) σ po) (k : ∀ (r : Int) (σ' : Mem), po r σ' → M K (pc + 3) ls (rest) σ') (hlev : lev' + 1 ≤ lev := by decide) (hw : (rest.map wd).sum ≤ 8 := by decide) : M K pc ls (a4 :: a3 :: a2 :: a1 :: vr c0 :: rest) σ := mi_callV (As := [a1, a2, a3, a4]) (rk := 0) h hd hl hy hlay hcl rfl hw hSp hlev k
theorem mi_cV5i {K : KT} {cc : ByteArray} {nL : Nat} {own : String} {lev pc : Nat} {ls : List (Option MV)} {σ : Mem} {y : MethodName} {bytes : ByteArray} {maxL : Nat} {rt : Option FieldType} {lev' idx : Nat} {po : Int → Mem → Prop} {rest : List MV} {c0 ci : Nat} {fs : List (Option Nat)} {C : String} {T : u_T} {N : Nat} {a1 a2 a3 a4 a5 : MV} (h : MC K cc nL own lev) (hd : decode cc pc = .ok (.invokevirtual idx, 3)) (hl : Cond.methodLink own idx y ∈ wT) (hy : YV y bytes maxL rt C 5) (hlay : lay[c0]? = some (.inl (ci, fs))) (hcl : classes[ci]? = some (C, T, N)) (hSp : Sp1 y bytes maxL rt 1 lev' (vr c0 :: [a1, a2, a3, a4, a5]) σ po) (k : ∀ (r : Int) (σ' : Mem), po r σ' → M K (pc + 3) ls (vi r :: rest) σ') (hlev : lev' + 1 ≤ lev := by decide) (hw : (rest.map wd).sum ≤ 8 := by decide) : M K pc ls (a5 :: a4 :: a3 :: a2 :: a1 :: vr c0 :: rest) σ := mi_callV (As := [a1, a2, a3, a4, a5]) (rk := 1) h hd hl hy hlay hcl rfl hw hSp hlev k
theorem mi_cV5l {K : KT} {cc : ByteArray} {nL : Nat} {own : String} {lev pc : Nat} {ls : List (Option MV)} {σ : Mem} {y : MethodName} {bytes : ByteArray} {maxL : Nat} {rt : Option FieldType} {lev' idx : Nat} {po : Int → Mem → Prop} {rest : List MV} {c0 ci : Nat} {fs : List (Option Nat)} {C : String} {T : u_T} {N : Nat} {a1 a2 a3 a4 a5 : MV} (h : MC K cc nL own lev) (hd : decode cc pc = .ok (.invokevirtual idx, 3)) (hl : Cond.methodLink own idx y ∈ wT) (hy : YV y bytes maxL rt C 5) (hlay : lay[c0]? = some (.inl (ci, fs))) (hcl : classes[ci]? = some (C, T, N)) (hSp : Sp1 y bytes maxL rt 2 lev' (vr c0 :: [a1, a2, a3, a4, a5]) σ po) (k : ∀ (r : Int) (σ' : Mem), po r σ' → M K (pc + 3) ls (vl r :: rest) σ') (hlev : lev' + 1 ≤ lev := by decide) (hw : (rest.map wd).sum ≤ 8 := by decide) : M K pc ls (a5 :: a4 :: a3 :: a2 :: a1 :: vr c0 :: rest) σ := mi_callV (As := [a1, a2, a3, a4, a5]) (rk := 2) h hd hl hy hlay hcl rfl hw hSp hlev k
theorem mi_cV5v {K : KT} {cc : ByteArray} {nL : Nat} {own : String} {lev pc : Nat} {ls : List (Option MV)} {σ : Mem} {y : MethodName} {bytes : ByteArray} {maxL : Nat} {rt : Option FieldType} {lev' idx : Nat} {po : Int → Mem → Prop} {rest : List MV} {c0 ci : Nat} {fs : List (Option Nat)} {C : String} {T : u_T} {N : Nat} {a1 a2 a3 a4 a5 : MV} (h : MC K cc nL own lev) (hd : decode cc pc = .ok (.invokevirtual idx, 3)) (hl : Cond.methodLink own idx y ∈ wT) (hy : YV y bytes maxL rt C 5) (hlay : lay[c0]? = some (.inl (ci, fs))) (hcl : classes[ci]? = some (C, T, N)) (hSp : Sp1 y bytes maxL rt 0 lev' (vr c0 :: [a1, a2, a3, a4, a5]) σ po) (k : ∀ (r : Int) (σ' : Mem), po r σ' → M K (pc + 3) ls (rest) σ') (hlev : lev' + 1 ≤ lev := by decide) (hw : (rest.map wd).sum ≤ 8 := by decide) : M K pc ls (a5 :: a4 :: a3 :: a2 :: a1 :: vr c0 :: rest) σ := mi_callV (As := [a1, a2, a3, a4, a5]) (rk := 0) h hd hl hy hlay hcl rfl hw hSp hlev k
theorem mi_cV6i {K : KT} {cc : ByteArray} {nL : Nat} {own : String} {lev pc : Nat} {ls : List (Option MV)} {σ : Mem} {y : MethodName} {bytes : ByteArray} {maxL : Nat} {rt : Option FieldType} {lev' idx : Nat} {po : Int → Mem → Prop} {rest : List MV} {c0 ci : Nat} {fs : List (Option Nat)} {C : String} {T : u_T} {N : Nat} {a1 a2 a3 a4 a5 a6 : MV} (h : MC K cc nL own lev) (hd : decode cc pc = .ok (.invokevirtual idx, 3)) (hl : Cond.methodLink own idx y ∈ wT) (hy : YV y bytes maxL rt C 6) (hlay : lay[c0]? = some (.inl (ci, fs))) (hcl : classes[ci]? = some (C, T, N)) (hSp : Sp1 y bytes maxL rt 1 lev' (vr c0 :: [a1, a2, a3, a4, a5, a6]) σ po) (k : ∀ (r : Int) (σ' : Mem), po r σ' → M K (pc + 3) ls (vi r :: rest) σ') (hlev : lev' + 1 ≤ lev := by decide) (hw : (rest.map wd).sum ≤ 8 := by decide) : M K pc ls (a6 :: a5 :: a4 :: a3 :: a2 :: a1 :: vr c0 :: rest) σ := mi_callV (As := [a1, a2, a3, a4, a5, a6]) (rk := 1) h hd hl hy hlay hcl rfl hw hSp hlev k
theorem mi_cV6l {K : KT} {cc : ByteArray} {nL : Nat} {own : String} {lev pc : Nat} {ls : List (Option MV)} {σ : Mem} {y : MethodName} {bytes : ByteArray} {maxL : Nat} {rt : Option FieldType} {lev' idx : Nat} {po : Int → Mem → Prop} {rest : List MV} {c0 ci : Nat} {fs : List (Option Nat)} {C : String} {T : u_T} {N : Nat} {a1 a2 a3 a4 a5 a6 : MV} (h : MC K cc nL own lev) (hd : decode cc pc = .ok (.invokevirtual idx, 3)) (hl : Cond.methodLink own idx y ∈ wT) (hy : YV y bytes maxL rt C 6) (hlay : lay[c0]? = some (.inl (ci, fs))) (hcl : classes[ci]? = some (C, T, N)) (hSp : Sp1 y bytes maxL rt 2 lev' (vr c0 :: [a1, a2, a3, a4, a5, a6]) σ po) (k : ∀ (r : Int) (σ' : Mem), po r σ' → M K (pc + 3) ls (vl r :: rest) σ') (hlev : lev' + 1 ≤ lev := by decide) (hw : (rest.map wd).sum ≤ 8 := by decide) : M K pc ls (a6 :: a5 :: a4 :: a3 :: a2 :: a1 :: vr c0 :: rest) σ := mi_callV (As := [a1, a2, a3, a4, a5, a6]) (rk := 2) h hd hl hy hlay hcl rfl hw hSp hlev k
theorem mi_cV6v {K : KT} {cc : ByteArray} {nL : Nat} {own : String} {lev pc : Nat} {ls : List (Option MV)} {σ : Mem} {y : MethodName} {bytes : ByteArray} {maxL : Nat} {rt : Option FieldType} {lev' idx : Nat} {po : Int → Mem → Prop} {rest : List MV} {c0 ci : Nat} {fs : List (Option Nat)} {C : String} {T : u_T} {N : Nat} {a1 a2 a3 a4 a5 a6 : MV} (h : MC K cc nL own lev) (hd : decode cc pc = .ok (.invokevirtual idx, 3)) (hl : Cond.methodLink own idx y ∈ wT) (hy : YV y bytes maxL rt C 6) (hlay : lay[c0]? = some (.inl (ci, fs))) (hcl : classes[ci]? = some (C, T, N)) (hSp : Sp1 y bytes maxL rt 0 lev' (vr c0 :: [a1, a2, a3, a4, a5, a6]) σ po) (k : ∀ (r : Int) (σ' : Mem), po r σ' → M K (pc + 3) ls (rest) σ') (hlev : lev' + 1 ≤ lev := by decide) (hw : (rest.map wd).sum ≤ 8 := by decide) : M K pc ls (a6 :: a5 :: a4 :: a3 :: a2 :: a1 :: vr c0 :: rest) σ := mi_callV (As := [a1, a2, a3, a4, a5, a6]) (rk := 0) h hd hl hy hlay hcl rfl hw hSp hlev k
end
section
theorem ml_RL_9 : Cond.methodLink RL 9 yX5_init ∈ wT := wT_at 51 (by decide +kernel) (by decide +kernel)
theorem ml_RX5_11 : Cond.methodLink RX5 11 yX1_init ∈ wT := wT_at 59 (by decide +kernel) (by decide +kernel)
theorem fl_RX1_9 : Cond.fieldLink RX1 9 RX1 "pressure" "I" ∈ wT := wT_at 63 (by decide +kernel) (by decide +kernel)
theorem fl_RX4_32 : Cond.fieldLink RX4 32 RX1 "pressure" "I" ∈ wT := wT_at 64 (by decide +kernel) (by decide +kernel)
theorem fl_RX5_50 : Cond.fieldLink RX5 50 RX1 "pressure" "I" ∈ wT := wT_at 65 (by decide +kernel) (by decide +kernel)
theorem fl_RX0_124 : Cond.fieldLink RX0 124 RX1 "pressure" "I" ∈ wT := wT_at 66 (by decide +kernel) (by decide +kernel)
theorem fl_RX1_46 : Cond.fieldLink RX1 46 RX1 "sizes" "I" ∈ wT := wT_at 67 (by decide +kernel) (by decide +kernel)
theorem fl_RX5_57 : Cond.fieldLink RX5 57 RX1 "sizes" "I" ∈ wT := wT_at 68 (by decide +kernel) (by decide +kernel)
theorem fl_RX0_94 : Cond.fieldLink RX0 94 RX1 "sizes" "I" ∈ wT := wT_at 69 (by decide +kernel) (by decide +kernel)
theorem fl_RX1_15 : Cond.fieldLink RX1 15 RX1 "sizeDrags" "[I" ∈ wT := wT_at 70 (by decide +kernel) (by decide +kernel)
theorem fl_RX1_19 : Cond.fieldLink RX1 19 RX1 "sizePrices" "[I" ∈ wT := wT_at 71 (by decide +kernel) (by decide +kernel)
theorem fl_RX1_49 : Cond.fieldLink RX1 49 RX1 "pipes" "I" ∈ wT := wT_at 72 (by decide +kernel) (by decide +kernel)
theorem fl_RX4_45 : Cond.fieldLink RX4 45 RX1 "pipes" "I" ∈ wT := wT_at 73 (by decide +kernel) (by decide +kernel)
theorem fl_RX0_77 : Cond.fieldLink RX0 77 RX1 "pipes" "I" ∈ wT := wT_at 74 (by decide +kernel) (by decide +kernel)
theorem fl_RX5_71 : Cond.fieldLink RX5 71 RX1 "pipes" "I" ∈ wT := wT_at 75 (by decide +kernel) (by decide +kernel)
theorem fl_RX1_22 : Cond.fieldLink RX1 22 RX1 "from" "[I" ∈ wT := wT_at 76 (by decide +kernel) (by decide +kernel)
theorem fl_RX4_58 : Cond.fieldLink RX4 58 RX1 "from" "[I" ∈ wT := wT_at 77 (by decide +kernel) (by decide +kernel)
theorem fl_RX5_140 : Cond.fieldLink RX5 140 RX1 "from" "[I" ∈ wT := wT_at 78 (by decide +kernel) (by decide +kernel)
theorem fl_RX1_25 : Cond.fieldLink RX1 25 RX1 "lengths" "[I" ∈ wT := wT_at 79 (by decide +kernel) (by decide +kernel)
theorem fl_RX5_143 : Cond.fieldLink RX5 143 RX1 "lengths" "[I" ∈ wT := wT_at 80 (by decide +kernel) (by decide +kernel)
theorem fl_RX1_28 : Cond.fieldLink RX1 28 RX1 "sizeOf" "[I" ∈ wT := wT_at 81 (by decide +kernel) (by decide +kernel)
theorem fl_RX5_107 : Cond.fieldLink RX5 107 RX1 "sizeOf" "[I" ∈ wT := wT_at 82 (by decide +kernel) (by decide +kernel)
theorem fl_RX1_31 : Cond.fieldLink RX1 31 RX1 "steps" "[I" ∈ wT := wT_at 83 (by decide +kernel) (by decide +kernel)
theorem fl_RX5_74 : Cond.fieldLink RX5 74 RX1 "steps" "[I" ∈ wT := wT_at 84 (by decide +kernel) (by decide +kernel)
theorem fl_RX1_34 : Cond.fieldLink RX1 34 RX1 "drags" "[I" ∈ wT := wT_at 85 (by decide +kernel) (by decide +kernel)
theorem fl_RX4_22 : Cond.fieldLink RX4 22 RX1 "drags" "[I" ∈ wT := wT_at 86 (by decide +kernel) (by decide +kernel)
theorem fl_RX5_54 : Cond.fieldLink RX5 54 RX1 "drags" "[I" ∈ wT := wT_at 87 (by decide +kernel) (by decide +kernel)
theorem fl_RX0_68 : Cond.fieldLink RX0 68 RX1 "drags" "[I" ∈ wT := wT_at 88 (by decide +kernel) (by decide +kernel)
theorem fl_RX4_89 : Cond.fieldLink RX4 89 RX1 "closed" "I" ∈ wT := wT_at 89 (by decide +kernel) (by decide +kernel)
theorem fl_RX5_101 : Cond.fieldLink RX5 101 RX1 "closed" "I" ∈ wT := wT_at 90 (by decide +kernel) (by decide +kernel)
theorem fl_RX0_79 : Cond.fieldLink RX0 79 RX1 "freed" "I" ∈ wT := wT_at 91 (by decide +kernel) (by decide +kernel)
theorem fl_RX5_156 : Cond.fieldLink RX5 156 RX1 "freed" "I" ∈ wT := wT_at 92 (by decide +kernel) (by decide +kernel)
theorem fl_RX1_60 : Cond.fieldLink RX1 60 RX1 "heads" "I" ∈ wT := wT_at 93 (by decide +kernel) (by decide +kernel)
theorem fl_RX5_146 : Cond.fieldLink RX5 146 RX1 "heads" "I" ∈ wT := wT_at 94 (by decide +kernel) (by decide +kernel)
theorem fl_RX1_67 : Cond.fieldLink RX1 67 RX1 "opened" "I" ∈ wT := wT_at 95 (by decide +kernel) (by decide +kernel)
theorem fl_RX5_91 : Cond.fieldLink RX5 91 RX1 "opened" "I" ∈ wT := wT_at 96 (by decide +kernel) (by decide +kernel)
theorem fl_RX1_37 : Cond.fieldLink RX1 37 RX1 "factors" "[I" ∈ wT := wT_at 97 (by decide +kernel) (by decide +kernel)
theorem fl_RX1_40 : Cond.fieldLink RX1 40 RX1 "needs" "[I" ∈ wT := wT_at 98 (by decide +kernel) (by decide +kernel)
theorem fl_RX4_96 : Cond.fieldLink RX4 96 RX1 "needs" "[I" ∈ wT := wT_at 99 (by decide +kernel) (by decide +kernel)
theorem fl_RX5_153 : Cond.fieldLink RX5 153 RX1 "needs" "[I" ∈ wT := wT_at 100 (by decide +kernel) (by decide +kernel)
theorem fl_RX1_43 : Cond.fieldLink RX1 43 RX1 "clogs" "[I" ∈ wT := wT_at 101 (by decide +kernel) (by decide +kernel)
theorem fl_RX5_104 : Cond.fieldLink RX5 104 RX1 "clogs" "[I" ∈ wT := wT_at 102 (by decide +kernel) (by decide +kernel)
theorem ml_RX5_14 : Cond.methodLink RX5 14 yX4_init ∈ wT := wT_at 141 (by decide +kernel) (by decide +kernel)
theorem fl_RX4_9 : Cond.fieldLink RX4 9 RX4 "net" "LSprinklerHouse$Net;" ∈ wT := wT_at 145 (by decide +kernel) (by decide +kernel)
theorem fl_RX4_15 : Cond.fieldLink RX4 15 RX4 "g" "[J" ∈ wT := wT_at 146 (by decide +kernel) (by decide +kernel)
theorem fl_RX4_19 : Cond.fieldLink RX4 19 RX4 "p" "[J" ∈ wT := wT_at 147 (by decide +kernel) (by decide +kernel)
theorem fl_RX5_132 : Cond.fieldLink RX5 132 RX4 "p" "[J" ∈ wT := wT_at 148 (by decide +kernel) (by decide +kernel)
theorem ml_RX5_31 : Cond.methodLink RX5 31 yX0_init ∈ wT := wT_at 159 (by decide +kernel) (by decide +kernel)
theorem fl_RX0_9 : Cond.fieldLink RX0 9 RX0 "net" "LSprinklerHouse$Net;" ∈ wT := wT_at 163 (by decide +kernel) (by decide +kernel)
theorem fl_RX0_15 : Cond.fieldLink RX0 15 RX0 "widths" "LSprinklerHouse$Widths;" ∈ wT := wT_at 164 (by decide +kernel) (by decide +kernel)
theorem fl_RX0_19 : Cond.fieldLink RX0 19 RX0 "members" "[I" ∈ wT := wT_at 165 (by decide +kernel) (by decide +kernel)
theorem fl_RX0_41 : Cond.fieldLink RX0 41 RX0 "heaps" "I" ∈ wT := wT_at 166 (by decide +kernel) (by decide +kernel)
theorem fl_RX0_59 : Cond.fieldLink RX0 59 RX0 "count" "I" ∈ wT := wT_at 167 (by decide +kernel) (by decide +kernel)
theorem fl_RX0_23 : Cond.fieldLink RX0 23 RX0 "pipes" "[I" ∈ wT := wT_at 168 (by decide +kernel) (by decide +kernel)
theorem fl_RX0_26 : Cond.fieldLink RX0 26 RX0 "tried" "[I" ∈ wT := wT_at 169 (by decide +kernel) (by decide +kernel)
theorem fl_RX0_29 : Cond.fieldLink RX0 29 RX0 "best" "[I" ∈ wT := wT_at 170 (by decide +kernel) (by decide +kernel)
theorem fl_RX0_49 : Cond.fieldLink RX0 49 RX0 "bestPrice" "I" ∈ wT := wT_at 171 (by decide +kernel) (by decide +kernel)
theorem fl_RX0_32 : Cond.fieldLink RX0 32 RX0 "leastRest" "[I" ∈ wT := wT_at 172 (by decide +kernel) (by decide +kernel)
theorem fl_RX0_35 : Cond.fieldLink RX0 35 RX0 "leastDrags" "[I" ∈ wT := wT_at 173 (by decide +kernel) (by decide +kernel)
theorem fl_RX0_38 : Cond.fieldLink RX0 38 RX0 "mostDrags" "[I" ∈ wT := wT_at 174 (by decide +kernel) (by decide +kernel)
theorem fl_RX0_45 : Cond.fieldLink RX0 45 RX0 "failed" "I" ∈ wT := wT_at 175 (by decide +kernel) (by decide +kernel)
theorem ml_RX5_40 : Cond.methodLink RX5 40 yX2_init ∈ wT := wT_at 205 (by decide +kernel) (by decide +kernel)
theorem fl_RX2_9 : Cond.fieldLink RX2 9 RX2 "rows" "I" ∈ wT := wT_at 209 (by decide +kernel) (by decide +kernel)
theorem fl_RX5_223 : Cond.fieldLink RX5 223 RX2 "rows" "I" ∈ wT := wT_at 210 (by decide +kernel) (by decide +kernel)
theorem fl_RX2_15 : Cond.fieldLink RX2 15 RX2 "columns" "I" ∈ wT := wT_at 211 (by decide +kernel) (by decide +kernel)
theorem fl_RX5_226 : Cond.fieldLink RX5 226 RX2 "columns" "I" ∈ wT := wT_at 212 (by decide +kernel) (by decide +kernel)
theorem fl_RX2_18 : Cond.fieldLink RX2 18 RX2 "kinds" "[I" ∈ wT := wT_at 213 (by decide +kernel) (by decide +kernel)
theorem fl_RX5_210 : Cond.fieldLink RX5 210 RX2 "kinds" "[I" ∈ wT := wT_at 214 (by decide +kernel) (by decide +kernel)
theorem fl_RX2_31 : Cond.fieldLink RX2 31 RX2 "standing" "I" ∈ wT := wT_at 215 (by decide +kernel) (by decide +kernel)
theorem fl_RX5_217 : Cond.fieldLink RX5 217 RX2 "standing" "I" ∈ wT := wT_at 216 (by decide +kernel) (by decide +kernel)
theorem fl_RX2_22 : Cond.fieldLink RX2 22 RX2 "rowOf" "[I" ∈ wT := wT_at 217 (by decide +kernel) (by decide +kernel)
theorem fl_RX2_25 : Cond.fieldLink RX2 25 RX2 "columnOf" "[I" ∈ wT := wT_at 218 (by decide +kernel) (by decide +kernel)
theorem fl_RX2_28 : Cond.fieldLink RX2 28 RX2 "reachOf" "[I" ∈ wT := wT_at 219 (by decide +kernel) (by decide +kernel)
theorem fl_RX5_17 : Cond.fieldLink RX5 17 RX5 "net" "LSprinklerHouse$Net;" ∈ wT := wT_at 235 (by decide +kernel) (by decide +kernel)
theorem fl_RX5_21 : Cond.fieldLink RX5 21 RX5 "widths" "LSprinklerHouse$Widths;" ∈ wT := wT_at 236 (by decide +kernel) (by decide +kernel)
theorem fl_RX5_34 : Cond.fieldLink RX5 34 RX5 "chooser" "LSprinklerHouse$Chooser;" ∈ wT := wT_at 237 (by decide +kernel) (by decide +kernel)
theorem fl_RX5_41 : Cond.fieldLink RX5 41 RX5 "plan" "LSprinklerHouse$Plan;" ∈ wT := wT_at 238 (by decide +kernel) (by decide +kernel)
theorem fl_RX5_25 : Cond.fieldLink RX5 25 RX5 "members" "[I" ∈ wT := wT_at 239 (by decide +kernel) (by decide +kernel)
theorem fl_RX5_166 : Cond.fieldLink RX5 166 RX5 "heaps" "I" ∈ wT := wT_at 240 (by decide +kernel) (by decide +kernel)
theorem ml_RL_13 : Cond.methodLink RL 13 yX5_supply ∈ wT := wT_at 254 (by decide +kernel) (by decide +kernel)
theorem kc_RX5_45 : Cond.constant RX5 45 (100000) ∈ wT := wT_at 258 (by decide +kernel) (by decide +kernel)
theorem ml_RX5_46 : Cond.methodLink RX5 46 yX5_isWithin ∈ wT := wT_at 259 (by decide +kernel) (by decide +kernel)
theorem ml_RL_18 : Cond.methodLink RL 18 yX5_size ∈ wT := wT_at 262 (by decide +kernel) (by decide +kernel)
theorem ml_RX5_60 : Cond.methodLink RX5 60 yX1_addSize ∈ wT := wT_at 266 (by decide +kernel) (by decide +kernel)
theorem ml_RL_22 : Cond.methodLink RL 22 yX5_pipe ∈ wT := wT_at 270 (by decide +kernel) (by decide +kernel)
theorem ml_RX5_64 : Cond.methodLink RX5 64 yX5_isEnd ∈ wT := wT_at 274 (by decide +kernel) (by decide +kernel)
theorem ml_RX5_81 : Cond.methodLink RX5 81 yX5_isPipe ∈ wT := wT_at 278 (by decide +kernel) (by decide +kernel)
theorem ml_RX5_68 : Cond.methodLink RX5 68 yX5_isSize ∈ wT := wT_at 282 (by decide +kernel) (by decide +kernel)
theorem ml_RX5_77 : Cond.methodLink RX5 77 yX1_addPipe ∈ wT := wT_at 286 (by decide +kernel) (by decide +kernel)
theorem ml_RX1_52 : Cond.methodLink RX1 52 yX1_setSize ∈ wT := wT_at 290 (by decide +kernel) (by decide +kernel)
theorem ml_RX1_56 : Cond.methodLink RX1 56 yX1_dragWith ∈ wT := wT_at 294 (by decide +kernel) (by decide +kernel)
theorem ml_RL_27 : Cond.methodLink RL 27 yX5_head ∈ wT := wT_at 298 (by decide +kernel) (by decide +kernel)
theorem ml_RX5_84 : Cond.methodLink RX5 84 yX1_setHead ∈ wT := wT_at 302 (by decide +kernel) (by decide +kernel)
theorem ml_RL_31 : Cond.methodLink RL 31 yX5_open ∈ wT := wT_at 309 (by decide +kernel) (by decide +kernel)
theorem ml_RX5_88 : Cond.methodLink RX5 88 yX5_isHead ∈ wT := wT_at 313 (by decide +kernel) (by decide +kernel)
theorem ml_RX5_94 : Cond.methodLink RX5 94 yX5_bit ∈ wT := wT_at 317 (by decide +kernel) (by decide +kernel)
theorem ml_RX5_97 : Cond.methodLink RX5 97 yX5_withBit ∈ wT := wT_at 320 (by decide +kernel) (by decide +kernel)
theorem ml_RL_36 : Cond.methodLink RL 36 yX5_shut ∈ wT := wT_at 321 (by decide +kernel) (by decide +kernel)
theorem ml_RL_40 : Cond.methodLink RL 40 yX5_clog ∈ wT := wT_at 325 (by decide +kernel) (by decide +kernel)
theorem ml_RL_44 : Cond.methodLink RL 44 yX5_resize ∈ wT := wT_at 329 (by decide +kernel) (by decide +kernel)
theorem ml_RX5_110 : Cond.methodLink RX5 110 yX1_setSize ∈ wT := wT_at 333 (by decide +kernel) (by decide +kernel)
theorem ml_RL_48 : Cond.methodLink RL 48 yX5_conduct ∈ wT := wT_at 334 (by decide +kernel) (by decide +kernel)
theorem kc_RX5_114 : Cond.constantLong RX5 114 (-1) ∈ wT := wT_at 338 (by decide +kernel) (by decide +kernel)
theorem ml_RX5_116 : Cond.methodLink RX5 116 yX5_isSide ∈ wT := wT_at 339 (by decide +kernel) (by decide +kernel)
theorem kc_RX5_119 : Cond.constantLong RX5 119 (-2) ∈ wT := wT_at 342 (by decide +kernel) (by decide +kernel)
theorem ml_RX5_121 : Cond.methodLink RX5 121 yX4_gather ∈ wT := wT_at 343 (by decide +kernel) (by decide +kernel)
theorem ml_RX4_39 : Cond.methodLink RX4 39 yJ7_fill_d0a16 ∈ wT := wT_at 347 (by decide +kernel) (by decide +kernel)
theorem kc_RX4_52 : Cond.constantLong RX4 52 (1024) ∈ wT := wT_at 351 (by decide +kernel) (by decide +kernel)
theorem ml_RX4_54 : Cond.methodLink RX4 54 yX1_factorNow ∈ wT := wT_at 352 (by decide +kernel) (by decide +kernel)
theorem ml_RX4_61 : Cond.methodLink RX4 61 yX4_conductOf ∈ wT := wT_at 356 (by decide +kernel) (by decide +kernel)
theorem ml_RX4_65 : Cond.methodLink RX4 65 yX4_isClosed ∈ wT := wT_at 360 (by decide +kernel) (by decide +kernel)
theorem kc_RX4_69 : Cond.constantLong RX4 69 (1125899906842624) ∈ wT := wT_at 364 (by decide +kernel) (by decide +kernel)
theorem ml_RX4_71 : Cond.methodLink RX4 71 yX3_root ∈ wT := wT_at 365 (by decide +kernel) (by decide +kernel)
theorem ml_RX3_7 : Cond.methodLink RX3 7 yJ13_numberOfLeadingZeros_95d88 ∈ wT := wT_at 368 (by decide +kernel) (by decide +kernel)
theorem ml_RJ13_308 : Cond.methodLink RJ13 308 yJ6_numberOfLeadingZeros_0f7a4 ∈ wT := wT_at 371 (by decide +kernel) (by decide +kernel)
theorem kc_RJ6_264 : Cond.constant RJ6 264 (65536) ∈ wT := wT_at 374 (by decide +kernel) (by decide +kernel)
theorem kc_RX3_13 : Cond.constantLong RX3 13 (2) ∈ wT := wT_at 375 (by decide +kernel) (by decide +kernel)
theorem ml_RX4_77 : Cond.methodLink RX4 77 yX3_quotient ∈ wT := wT_at 376 (by decide +kernel) (by decide +kernel)
theorem ml_RX5_125 : Cond.methodLink RX5 125 yX4_conductOf ∈ wT := wT_at 379 (by decide +kernel) (by decide +kernel)
theorem ml_RL_53 : Cond.methodLink RL 53 yX5_pressure ∈ wT := wT_at 380 (by decide +kernel) (by decide +kernel)
theorem ml_RX5_129 : Cond.methodLink RX5 129 yX4_holdPressures ∈ wT := wT_at 384 (by decide +kernel) (by decide +kernel)
theorem ml_RX4_28 : Cond.methodLink RX4 28 yX4_gather ∈ wT := wT_at 388 (by decide +kernel) (by decide +kernel)
theorem ml_RX4_36 : Cond.methodLink RX4 36 yX4_fall ∈ wT := wT_at 389 (by decide +kernel) (by decide +kernel)
theorem ml_RX4_81 : Cond.methodLink RX4 81 yX4_fallen ∈ wT := wT_at 393 (by decide +kernel) (by decide +kernel)
theorem kc_RX4_85 : Cond.constantLong RX4 85 (1073741824) ∈ wT := wT_at 397 (by decide +kernel) (by decide +kernel)
theorem kc_RX4_87 : Cond.constantLong RX4 87 (1048576) ∈ wT := wT_at 398 (by decide +kernel) (by decide +kernel)
theorem ml_RL_57 : Cond.methodLink RL 57 yX5_flow ∈ wT := wT_at 399 (by decide +kernel) (by decide +kernel)
theorem ml_RX5_136 : Cond.methodLink RX5 136 yX4_flowOf ∈ wT := wT_at 403 (by decide +kernel) (by decide +kernel)
theorem ml_RL_61 : Cond.methodLink RL 61 yX5_total ∈ wT := wT_at 407 (by decide +kernel) (by decide +kernel)
theorem ml_RL_66 : Cond.methodLink RL 66 yX5_about ∈ wT := wT_at 411 (by decide +kernel) (by decide +kernel)
theorem ml_RX5_149 : Cond.methodLink RX5 149 yX1_factorNow ∈ wT := wT_at 415 (by decide +kernel) (by decide +kernel)
theorem ml_RX5_159 : Cond.methodLink RX5 159 yX1_countFrom ∈ wT := wT_at 416 (by decide +kernel) (by decide +kernel)
theorem ml_RL_70 : Cond.methodLink RL 70 yX5_worst ∈ wT := wT_at 420 (by decide +kernel) (by decide +kernel)
theorem ml_RX5_162 : Cond.methodLink RX5 162 yX4_spareOf ∈ wT := wT_at 424 (by decide +kernel) (by decide +kernel)
theorem ml_RX4_92 : Cond.methodLink RX4 92 yX4_flowOf ∈ wT := wT_at 428 (by decide +kernel) (by decide +kernel)
theorem ml_RL_75 : Cond.methodLink RL 75 yX5_heap ∈ wT := wT_at 429 (by decide +kernel) (by decide +kernel)
theorem ml_RL_79 : Cond.methodLink RL 79 yX5_put ∈ wT := wT_at 433 (by decide +kernel) (by decide +kernel)
theorem ml_RX5_169 : Cond.methodLink RX5 169 yX5_isHeap ∈ wT := wT_at 437 (by decide +kernel) (by decide +kernel)
theorem ml_RX5_172 : Cond.methodLink RX5 172 yJ6_bitCount_0f7a4 ∈ wT := wT_at 441 (by decide +kernel) (by decide +kernel)
theorem kc_RJ6_265 : Cond.constant RJ6 265 (1431655765) ∈ wT := wT_at 444 (by decide +kernel) (by decide +kernel)
theorem kc_RJ6_266 : Cond.constant RJ6 266 (858993459) ∈ wT := wT_at 445 (by decide +kernel) (by decide +kernel)
theorem kc_RJ6_267 : Cond.constant RJ6 267 (252645135) ∈ wT := wT_at 446 (by decide +kernel) (by decide +kernel)
theorem ml_RL_84 : Cond.methodLink RL 84 yX5_least ∈ wT := wT_at 447 (by decide +kernel) (by decide +kernel)
theorem kc_RX5_177 : Cond.constantLong RX5 177 (-1000000000001) ∈ wT := wT_at 451 (by decide +kernel) (by decide +kernel)
theorem ml_RX5_179 : Cond.methodLink RX5 179 yX5_leastOfHeap ∈ wT := wT_at 452 (by decide +kernel) (by decide +kernel)
theorem ml_RX5_238 : Cond.methodLink RX5 238 yX4_leastSpare ∈ wT := wT_at 456 (by decide +kernel) (by decide +kernel)
theorem kc_RX4_99 : Cond.constantLong RX4 99 (2000000000) ∈ wT := wT_at 460 (by decide +kernel) (by decide +kernel)
theorem ml_RX4_101 : Cond.methodLink RX4 101 yX4_spareOf ∈ wT := wT_at 461 (by decide +kernel) (by decide +kernel)
theorem ml_RX4_105 : Cond.methodLink RX4 105 yJ9_min_f86c9 ∈ wT := wT_at 462 (by decide +kernel) (by decide +kernel)
theorem ml_RL_88 : Cond.methodLink RL 88 yX5_thinnest ∈ wT := wT_at 465 (by decide +kernel) (by decide +kernel)
theorem ml_RL_92 : Cond.methodLink RL 92 yX5_free ∈ wT := wT_at 469 (by decide +kernel) (by decide +kernel)
theorem ml_RL_96 : Cond.methodLink RL 96 yX5_choose ∈ wT := wT_at 473 (by decide +kernel) (by decide +kernel)
theorem ml_RX5_182 : Cond.methodLink RX5 182 yX0_chooseSizes ∈ wT := wT_at 477 (by decide +kernel) (by decide +kernel)
theorem kc_RX0_48 : Cond.constant RX0 48 (2000000000) ∈ wT := wT_at 481 (by decide +kernel) (by decide +kernel)
theorem ml_RX0_52 : Cond.methodLink RX0 52 yX0_listFreePipes ∈ wT := wT_at 482 (by decide +kernel) (by decide +kernel)
theorem ml_RX0_86 : Cond.methodLink RX0 86 yX0_widen ∈ wT := wT_at 490 (by decide +kernel) (by decide +kernel)
theorem ml_RX0_112 : Cond.methodLink RX0 112 yX1_dragWith ∈ wT := wT_at 494 (by decide +kernel) (by decide +kernel)
theorem ml_RX0_100 : Cond.methodLink RX0 100 yJ9_min_7cf53 ∈ wT := wT_at 495 (by decide +kernel) (by decide +kernel)
theorem ml_RX0_115 : Cond.methodLink RX0 115 yJ9_max_7cf53 ∈ wT := wT_at 498 (by decide +kernel) (by decide +kernel)
theorem ml_RX0_90 : Cond.methodLink RX0 90 yX0_leastPrice ∈ wT := wT_at 501 (by decide +kernel) (by decide +kernel)
theorem ml_RX0_97 : Cond.methodLink RX0 97 yX1_priceWith ∈ wT := wT_at 505 (by decide +kernel) (by decide +kernel)
theorem ml_RX0_55 : Cond.methodLink RX0 55 yX0_search ∈ wT := wT_at 509 (by decide +kernel) (by decide +kernel)
theorem ml_RX0_105 : Cond.methodLink RX0 105 yX0_areAllMet ∈ wT := wT_at 512 (by decide +kernel) (by decide +kernel)
theorem ml_RX0_118 : Cond.methodLink RX0 118 yX4_gather ∈ wT := wT_at 516 (by decide +kernel) (by decide +kernel)
theorem ml_RX0_127 : Cond.methodLink RX0 127 yX4_fall ∈ wT := wT_at 517 (by decide +kernel) (by decide +kernel)
theorem ml_RX0_130 : Cond.methodLink RX0 130 yX4_leastSpare ∈ wT := wT_at 518 (by decide +kernel) (by decide +kernel)
theorem ml_RX0_109 : Cond.methodLink RX0 109 yX0_fix ∈ wT := wT_at 519 (by decide +kernel) (by decide +kernel)
theorem ml_RX0_62 : Cond.methodLink RX0 62 yX1_setSize ∈ wT := wT_at 523 (by decide +kernel) (by decide +kernel)
theorem ml_RX5_185 : Cond.methodLink RX5 185 yX1_priceOfAll ∈ wT := wT_at 524 (by decide +kernel) (by decide +kernel)
theorem ml_RX1_70 : Cond.methodLink RX1 70 yX1_priceWith ∈ wT := wT_at 528 (by decide +kernel) (by decide +kernel)
theorem kc_RX5_189 : Cond.constantLong RX5 189 (-5) ∈ wT := wT_at 529 (by decide +kernel) (by decide +kernel)
theorem ml_RL_101 : Cond.methodLink RL 101 yX5_bill ∈ wT := wT_at 530 (by decide +kernel) (by decide +kernel)
theorem ml_RL_105 : Cond.methodLink RL 105 yX5_margin ∈ wT := wT_at 534 (by decide +kernel) (by decide +kernel)
theorem ml_RX5_191 : Cond.methodLink RX5 191 yX5_isMetWithLess ∈ wT := wT_at 538 (by decide +kernel) (by decide +kernel)
theorem ml_RX5_241 : Cond.methodLink RX5 241 yJ9_max_7cf53 ∈ wT := wT_at 542 (by decide +kernel) (by decide +kernel)
theorem ml_RX5_246 : Cond.methodLink RX5 246 yX4_fall ∈ wT := wT_at 543 (by decide +kernel) (by decide +kernel)
theorem ml_RX5_195 : Cond.methodLink RX5 195 yX5_leastTooMuch ∈ wT := wT_at 544 (by decide +kernel) (by decide +kernel)
theorem ml_RL_110 : Cond.methodLink RL 110 yX5_floor ∈ wT := wT_at 548 (by decide +kernel) (by decide +kernel)
theorem ml_RX5_198 : Cond.methodLink RX5 198 yX2_lay ∈ wT := wT_at 552 (by decide +kernel) (by decide +kernel)
theorem ml_RX2_34 : Cond.methodLink RX2 34 yJ7_fill_53178 ∈ wT := wT_at 556 (by decide +kernel) (by decide +kernel)
theorem ml_RL_114 : Cond.methodLink RL 114 yX5_cell ∈ wT := wT_at 559 (by decide +kernel) (by decide +kernel)
theorem ml_RX5_201 : Cond.methodLink RX5 201 yX2_isCell ∈ wT := wT_at 563 (by decide +kernel) (by decide +kernel)
theorem ml_RX5_204 : Cond.methodLink RX5 204 yX2_whoStandsIn ∈ wT := wT_at 567 (by decide +kernel) (by decide +kernel)
theorem ml_RX5_207 : Cond.methodLink RX5 207 yX2_kindOf ∈ wT := wT_at 572 (by decide +kernel) (by decide +kernel)
theorem ml_RL_118 : Cond.methodLink RL 118 yX5_stand ∈ wT := wT_at 576 (by decide +kernel) (by decide +kernel)
theorem ml_RX5_213 : Cond.methodLink RX5 213 yX2_place ∈ wT := wT_at 580 (by decide +kernel) (by decide +kernel)
theorem ml_RL_123 : Cond.methodLink RL 123 yX5_lift ∈ wT := wT_at 585 (by decide +kernel) (by decide +kernel)
theorem ml_RL_127 : Cond.methodLink RL 127 yX5_wets ∈ wT := wT_at 589 (by decide +kernel) (by decide +kernel)
theorem ml_RX5_220 : Cond.methodLink RX5 220 yX2_isWetBy ∈ wT := wT_at 593 (by decide +kernel) (by decide +kernel)
theorem ml_RX2_40 : Cond.methodLink RX2 40 yX2_kindOf ∈ wT := wT_at 597 (by decide +kernel) (by decide +kernel)
theorem ml_RX2_55 : Cond.methodLink RX2 55 yX2_squareTo ∈ wT := wT_at 598 (by decide +kernel) (by decide +kernel)
theorem ml_RX2_59 : Cond.methodLink RX2 59 yX2_isBehindWall ∈ wT := wT_at 602 (by decide +kernel) (by decide +kernel)
theorem ml_RX2_62 : Cond.methodLink RX2 62 yJ9_max_7cf53 ∈ wT := wT_at 606 (by decide +kernel) (by decide +kernel)
theorem ml_RX2_67 : Cond.methodLink RX2 67 yJ9_min_7cf53 ∈ wT := wT_at 607 (by decide +kernel) (by decide +kernel)
theorem ml_RX2_70 : Cond.methodLink RX2 70 yX2_isCut ∈ wT := wT_at 608 (by decide +kernel) (by decide +kernel)
theorem ml_RX2_74 : Cond.methodLink RX2 74 yJ9_abs_0f7a4 ∈ wT := wT_at 611 (by decide +kernel) (by decide +kernel)
theorem ml_RL_131 : Cond.methodLink RL 131 yX5_dry ∈ wT := wT_at 614 (by decide +kernel) (by decide +kernel)
theorem ml_RX5_229 : Cond.methodLink RX5 229 yX2_isDry ∈ wT := wT_at 618 (by decide +kernel) (by decide +kernel)
theorem ml_RX2_51 : Cond.methodLink RX2 51 yX2_isWetBy ∈ wT := wT_at 622 (by decide +kernel) (by decide +kernel)
theorem ml_RL_135 : Cond.methodLink RL 135 yX5_near ∈ wT := wT_at 623 (by decide +kernel) (by decide +kernel)
theorem ml_RX5_232 : Cond.methodLink RX5 232 yX2_isNearAnother ∈ wT := wT_at 627 (by decide +kernel) (by decide +kernel)
theorem ml_RL_139 : Cond.methodLink RL 139 yX5_told ∈ wT := wT_at 631 (by decide +kernel) (by decide +kernel)
theorem ml_RX5_235 : Cond.methodLink RX5 235 yX2_countOpenCells ∈ wT := wT_at 635 (by decide +kernel) (by decide +kernel)
theorem ml_RL_12 : Cond.methodLink RL 12 yX6_init ∈ wT := wT_at 641 (by decide +kernel) (by decide +kernel)
theorem fl_RX6_7 : Cond.fieldLink RX6 7 RX6 "supply" "I" ∈ wT := wT_at 645 (by decide +kernel) (by decide +kernel)
theorem fl_RX6_124 : Cond.fieldLink RX6 124 RX6 "supplyDrag" "I" ∈ wT := wT_at 646 (by decide +kernel) (by decide +kernel)
theorem fl_RX6_13 : Cond.fieldLink RX6 13 RX6 "sizeDrag" "[I" ∈ wT := wT_at 647 (by decide +kernel) (by decide +kernel)
theorem fl_RX6_17 : Cond.fieldLink RX6 17 RX6 "sizePrice" "[I" ∈ wT := wT_at 648 (by decide +kernel) (by decide +kernel)
theorem fl_RX6_131 : Cond.fieldLink RX6 131 RX6 "sizes" "I" ∈ wT := wT_at 649 (by decide +kernel) (by decide +kernel)
theorem fl_RX6_20 : Cond.fieldLink RX6 20 RX6 "from" "[I" ∈ wT := wT_at 650 (by decide +kernel) (by decide +kernel)
theorem fl_RX6_23 : Cond.fieldLink RX6 23 RX6 "length" "[I" ∈ wT := wT_at 651 (by decide +kernel) (by decide +kernel)
theorem fl_RX6_26 : Cond.fieldLink RX6 26 RX6 "sizeOf" "[I" ∈ wT := wT_at 652 (by decide +kernel) (by decide +kernel)
theorem fl_RX6_29 : Cond.fieldLink RX6 29 RX6 "deep" "[I" ∈ wT := wT_at 653 (by decide +kernel) (by decide +kernel)
theorem fl_RX6_32 : Cond.fieldLink RX6 32 RX6 "isShut" "[Z" ∈ wT := wT_at 654 (by decide +kernel) (by decide +kernel)
theorem fl_RX6_36 : Cond.fieldLink RX6 36 RX6 "isFree" "[Z" ∈ wT := wT_at 655 (by decide +kernel) (by decide +kernel)
theorem fl_RX6_109 : Cond.fieldLink RX6 109 RX6 "pipes" "I" ∈ wT := wT_at 656 (by decide +kernel) (by decide +kernel)
theorem fl_RX6_39 : Cond.fieldLink RX6 39 RX6 "hasHead" "[Z" ∈ wT := wT_at 657 (by decide +kernel) (by decide +kernel)
theorem fl_RX6_42 : Cond.fieldLink RX6 42 RX6 "factor" "[I" ∈ wT := wT_at 658 (by decide +kernel) (by decide +kernel)
theorem fl_RX6_45 : Cond.fieldLink RX6 45 RX6 "need" "[I" ∈ wT := wT_at 659 (by decide +kernel) (by decide +kernel)
theorem fl_RX6_48 : Cond.fieldLink RX6 48 RX6 "isOpen" "[Z" ∈ wT := wT_at 660 (by decide +kernel) (by decide +kernel)
theorem fl_RX6_51 : Cond.fieldLink RX6 51 RX6 "clogged" "[I" ∈ wT := wT_at 661 (by decide +kernel) (by decide +kernel)
theorem fl_RX6_54 : Cond.fieldLink RX6 54 RX6 "opens" "[Z" ∈ wT := wT_at 662 (by decide +kernel) (by decide +kernel)
theorem fl_RX6_57 : Cond.fieldLink RX6 57 RX6 "endLow" "[J" ∈ wT := wT_at 663 (by decide +kernel) (by decide +kernel)
theorem fl_RX6_61 : Cond.fieldLink RX6 61 RX6 "endHigh" "[J" ∈ wT := wT_at 664 (by decide +kernel) (by decide +kernel)
theorem fl_RX6_64 : Cond.fieldLink RX6 64 RX6 "gLow" "[J" ∈ wT := wT_at 665 (by decide +kernel) (by decide +kernel)
theorem fl_RX6_67 : Cond.fieldLink RX6 67 RX6 "gHigh" "[J" ∈ wT := wT_at 666 (by decide +kernel) (by decide +kernel)
theorem fl_RX6_70 : Cond.fieldLink RX6 70 RX6 "pLow" "[J" ∈ wT := wT_at 667 (by decide +kernel) (by decide +kernel)
theorem fl_RX6_73 : Cond.fieldLink RX6 73 RX6 "pHigh" "[J" ∈ wT := wT_at 668 (by decide +kernel) (by decide +kernel)
theorem fl_RX6_76 : Cond.fieldLink RX6 76 RX6 "isPut" "[Z" ∈ wT := wT_at 669 (by decide +kernel) (by decide +kernel)
theorem fl_RX6_208 : Cond.fieldLink RX6 208 RX6 "heaps" "I" ∈ wT := wT_at 670 (by decide +kernel) (by decide +kernel)
theorem fl_RX6_79 : Cond.fieldLink RX6 79 RX6 "freePipe" "[I" ∈ wT := wT_at 671 (by decide +kernel) (by decide +kernel)
theorem fl_RX6_82 : Cond.fieldLink RX6 82 RX6 "held" "[I" ∈ wT := wT_at 672 (by decide +kernel) (by decide +kernel)
theorem fl_RX6_85 : Cond.fieldLink RX6 85 RX6 "best" "[I" ∈ wT := wT_at 673 (by decide +kernel) (by decide +kernel)
theorem fl_RX6_88 : Cond.fieldLink RX6 88 RX6 "rows" "I" ∈ wT := wT_at 674 (by decide +kernel) (by decide +kernel)
theorem fl_RX6_91 : Cond.fieldLink RX6 91 RX6 "columns" "I" ∈ wT := wT_at 675 (by decide +kernel) (by decide +kernel)
theorem fl_RX6_94 : Cond.fieldLink RX6 94 RX6 "kinds" "[I" ∈ wT := wT_at 676 (by decide +kernel) (by decide +kernel)
theorem fl_RX6_97 : Cond.fieldLink RX6 97 RX6 "stands" "[Z" ∈ wT := wT_at 677 (by decide +kernel) (by decide +kernel)
theorem fl_RX6_100 : Cond.fieldLink RX6 100 RX6 "standRow" "[I" ∈ wT := wT_at 678 (by decide +kernel) (by decide +kernel)
theorem fl_RX6_103 : Cond.fieldLink RX6 103 RX6 "standColumn" "[I" ∈ wT := wT_at 679 (by decide +kernel) (by decide +kernel)
theorem fl_RX6_106 : Cond.fieldLink RX6 106 RX6 "reach" "[I" ∈ wT := wT_at 680 (by decide +kernel) (by decide +kernel)
theorem ml_RL_17 : Cond.methodLink RL 17 yX6_supply ∈ wT := wT_at 755 (by decide +kernel) (by decide +kernel)
theorem kc_RX6_120 : Cond.constantLong RX6 120 (100000) ∈ wT := wT_at 759 (by decide +kernel) (by decide +kernel)
theorem ml_RX6_112 : Cond.methodLink RX6 112 yX6_in ∈ wT := wT_at 760 (by decide +kernel) (by decide +kernel)
theorem kc_RX6_122 : Cond.constantLong RX6 122 (4000) ∈ wT := wT_at 763 (by decide +kernel) (by decide +kernel)
theorem ml_RL_21 : Cond.methodLink RL 21 yX6_size ∈ wT := wT_at 764 (by decide +kernel) (by decide +kernel)
theorem kc_RX6_127 : Cond.constantLong RX6 127 (400) ∈ wT := wT_at 768 (by decide +kernel) (by decide +kernel)
theorem kc_RX6_129 : Cond.constantLong RX6 129 (1000) ∈ wT := wT_at 769 (by decide +kernel) (by decide +kernel)
theorem ml_RL_26 : Cond.methodLink RL 26 yX6_pipe ∈ wT := wT_at 770 (by decide +kernel) (by decide +kernel)
theorem ml_RX6_116 : Cond.methodLink RX6 116 yX6_isPipe ∈ wT := wT_at 774 (by decide +kernel) (by decide +kernel)
theorem kc_RX6_134 : Cond.constantLong RX6 134 (10) ∈ wT := wT_at 778 (by decide +kernel) (by decide +kernel)
theorem ml_RL_30 : Cond.methodLink RL 30 yX6_head ∈ wT := wT_at 779 (by decide +kernel) (by decide +kernel)
theorem kc_RX6_136 : Cond.constantLong RX6 136 (200) ∈ wT := wT_at 783 (by decide +kernel) (by decide +kernel)
theorem kc_RX6_138 : Cond.constantLong RX6 138 (30000) ∈ wT := wT_at 784 (by decide +kernel) (by decide +kernel)
theorem ml_RL_35 : Cond.methodLink RL 35 yX6_open ∈ wT := wT_at 785 (by decide +kernel) (by decide +kernel)
theorem ml_RX6_140 : Cond.methodLink RX6 140 yX6_isHead ∈ wT := wT_at 789 (by decide +kernel) (by decide +kernel)
theorem ml_RL_39 : Cond.methodLink RL 39 yX6_shut ∈ wT := wT_at 793 (by decide +kernel) (by decide +kernel)
theorem ml_RL_43 : Cond.methodLink RL 43 yX6_clog ∈ wT := wT_at 797 (by decide +kernel) (by decide +kernel)
theorem kc_RX6_143 : Cond.constantLong RX6 143 (100) ∈ wT := wT_at 801 (by decide +kernel) (by decide +kernel)
theorem ml_RL_47 : Cond.methodLink RL 47 yX6_resize ∈ wT := wT_at 802 (by decide +kernel) (by decide +kernel)
theorem ml_RL_52 : Cond.methodLink RL 52 yX6_conduct ∈ wT := wT_at 806 (by decide +kernel) (by decide +kernel)
theorem kc_RX6_189 : Cond.constantLong RX6 189 (-1) ∈ wT := wT_at 810 (by decide +kernel) (by decide +kernel)
theorem kc_RX6_191 : Cond.constantLong RX6 191 (-2) ∈ wT := wT_at 811 (by decide +kernel) (by decide +kernel)
theorem ml_RX6_193 : Cond.methodLink RX6 193 yX6_workNow ∈ wT := wT_at 812 (by decide +kernel) (by decide +kernel)
theorem ml_RX6_183 : Cond.methodLink RX6 183 yX6_openAsTold ∈ wT := wT_at 816 (by decide +kernel) (by decide +kernel)
theorem ml_RX6_186 : Cond.methodLink RX6 186 yX6_work ∈ wT := wT_at 820 (by decide +kernel) (by decide +kernel)
theorem kc_RX6_170 : Cond.constantLong RX6 170 (1024) ∈ wT := wT_at 824 (by decide +kernel) (by decide +kernel)
theorem ml_RX6_172 : Cond.methodLink RX6 172 yX6_factorNow ∈ wT := wT_at 825 (by decide +kernel) (by decide +kernel)
theorem ml_RX6_175 : Cond.methodLink RX6 175 yX6_conductOf ∈ wT := wT_at 829 (by decide +kernel) (by decide +kernel)
theorem ml_RX6_153 : Cond.methodLink RX6 153 yX6_drag ∈ wT := wT_at 833 (by decide +kernel) (by decide +kernel)
theorem kc_RX6_157 : Cond.constantLong RX6 157 (1125899906842624) ∈ wT := wT_at 837 (by decide +kernel) (by decide +kernel)
theorem ml_RX6_159 : Cond.methodLink RX6 159 yX6_rootUp ∈ wT := wT_at 838 (by decide +kernel) (by decide +kernel)
theorem ml_RX6_149 : Cond.methodLink RX6 149 yX6_root ∈ wT := wT_at 841 (by decide +kernel) (by decide +kernel)
theorem kc_RX6_145 : Cond.constantLong RX6 145 (2147483648) ∈ wT := wT_at 844 (by decide +kernel) (by decide +kernel)
theorem kc_RX6_147 : Cond.constantLong RX6 147 (3037000499) ∈ wT := wT_at 845 (by decide +kernel) (by decide +kernel)
theorem ml_RX6_162 : Cond.methodLink RX6 162 yX6_up ∈ wT := wT_at 846 (by decide +kernel) (by decide +kernel)
theorem ml_RX6_179 : Cond.methodLink RX6 179 yX6_pressureOf ∈ wT := wT_at 849 (by decide +kernel) (by decide +kernel)
theorem kc_RX6_166 : Cond.constantLong RX6 166 (1073741824) ∈ wT := wT_at 853 (by decide +kernel) (by decide +kernel)
theorem kc_RX6_168 : Cond.constantLong RX6 168 (1048576) ∈ wT := wT_at 854 (by decide +kernel) (by decide +kernel)
theorem ml_RL_56 : Cond.methodLink RL 56 yX6_pressure ∈ wT := wT_at 855 (by decide +kernel) (by decide +kernel)
theorem ml_RL_60 : Cond.methodLink RL 60 yX6_flow ∈ wT := wT_at 859 (by decide +kernel) (by decide +kernel)
theorem ml_RX6_196 : Cond.methodLink RX6 196 yX6_flowOf ∈ wT := wT_at 863 (by decide +kernel) (by decide +kernel)
theorem ml_RL_65 : Cond.methodLink RL 65 yX6_total ∈ wT := wT_at 867 (by decide +kernel) (by decide +kernel)
theorem ml_RL_69 : Cond.methodLink RL 69 yX6_about ∈ wT := wT_at 871 (by decide +kernel) (by decide +kernel)
theorem ml_RX6_200 : Cond.methodLink RX6 200 yX6_asInt ∈ wT := wT_at 875 (by decide +kernel) (by decide +kernel)
theorem ml_RL_74 : Cond.methodLink RL 74 yX6_worst ∈ wT := wT_at 878 (by decide +kernel) (by decide +kernel)
theorem ml_RX6_204 : Cond.methodLink RX6 204 yX6_spare ∈ wT := wT_at 882 (by decide +kernel) (by decide +kernel)
theorem ml_RL_78 : Cond.methodLink RL 78 yX6_heap ∈ wT := wT_at 886 (by decide +kernel) (by decide +kernel)
theorem ml_RL_83 : Cond.methodLink RL 83 yX6_put ∈ wT := wT_at 890 (by decide +kernel) (by decide +kernel)
theorem ml_RX6_211 : Cond.methodLink RX6 211 yX6_isHeap ∈ wT := wT_at 894 (by decide +kernel) (by decide +kernel)
theorem ml_RL_87 : Cond.methodLink RL 87 yX6_least ∈ wT := wT_at 898 (by decide +kernel) (by decide +kernel)
theorem ml_RX6_214 : Cond.methodLink RX6 214 yX6_leastOf ∈ wT := wT_at 902 (by decide +kernel) (by decide +kernel)
theorem kc_RX6_217 : Cond.constantLong RX6 217 (-1000000000001) ∈ wT := wT_at 906 (by decide +kernel) (by decide +kernel)
theorem ml_RL_91 : Cond.methodLink RL 91 yX6_thinnest ∈ wT := wT_at 907 (by decide +kernel) (by decide +kernel)
theorem ml_RL_95 : Cond.methodLink RL 95 yX6_free ∈ wT := wT_at 911 (by decide +kernel) (by decide +kernel)
theorem ml_RX6_219 : Cond.methodLink RX6 219 yX6_freeMany ∈ wT := wT_at 915 (by decide +kernel) (by decide +kernel)
theorem ml_RL_100 : Cond.methodLink RL 100 yX6_choose ∈ wT := wT_at 919 (by decide +kernel) (by decide +kernel)
theorem ml_RX6_223 : Cond.methodLink RX6 223 yX6_price ∈ wT := wT_at 923 (by decide +kernel) (by decide +kernel)
theorem ml_RX6_227 : Cond.methodLink RX6 227 yX6_areMet ∈ wT := wT_at 927 (by decide +kernel) (by decide +kernel)
theorem kc_RX6_231 : Cond.constantLong RX6 231 (-5) ∈ wT := wT_at 931 (by decide +kernel) (by decide +kernel)
theorem ml_RL_104 : Cond.methodLink RL 104 yX6_bill ∈ wT := wT_at 932 (by decide +kernel) (by decide +kernel)
theorem ml_RL_109 : Cond.methodLink RL 109 yX6_margin ∈ wT := wT_at 936 (by decide +kernel) (by decide +kernel)
theorem ml_RL_113 : Cond.methodLink RL 113 yX6_floor ∈ wT := wT_at 940 (by decide +kernel) (by decide +kernel)
theorem kc_RX6_233 : Cond.constantLong RX6 233 (2) ∈ wT := wT_at 944 (by decide +kernel) (by decide +kernel)
theorem kc_RX6_235 : Cond.constantLong RX6 235 (16) ∈ wT := wT_at 945 (by decide +kernel) (by decide +kernel)
theorem ml_RL_117 : Cond.methodLink RL 117 yX6_cell ∈ wT := wT_at 946 (by decide +kernel) (by decide +kernel)
theorem ml_RX6_237 : Cond.methodLink RX6 237 yX6_isCell ∈ wT := wT_at 950 (by decide +kernel) (by decide +kernel)
theorem ml_RX6_241 : Cond.methodLink RX6 241 yX6_standsAt ∈ wT := wT_at 954 (by decide +kernel) (by decide +kernel)
theorem ml_RL_122 : Cond.methodLink RL 122 yX6_stand ∈ wT := wT_at 958 (by decide +kernel) (by decide +kernel)
theorem kc_RX6_245 : Cond.constantLong RX6 245 (12) ∈ wT := wT_at 962 (by decide +kernel) (by decide +kernel)
theorem ml_RL_126 : Cond.methodLink RL 126 yX6_lift ∈ wT := wT_at 963 (by decide +kernel) (by decide +kernel)
theorem ml_RL_130 : Cond.methodLink RL 130 yX6_wets ∈ wT := wT_at 967 (by decide +kernel) (by decide +kernel)
theorem ml_RX6_258 : Cond.methodLink RX6 258 yX6_wetsCell ∈ wT := wT_at 971 (by decide +kernel) (by decide +kernel)
theorem ml_RX6_251 : Cond.methodLink RX6 251 yX6_square ∈ wT := wT_at 975 (by decide +kernel) (by decide +kernel)
theorem ml_RX6_254 : Cond.methodLink RX6 254 yX6_goesThrough ∈ wT := wT_at 978 (by decide +kernel) (by decide +kernel)
theorem ml_RX6_247 : Cond.methodLink RX6 247 yX6_side ∈ wT := wT_at 981 (by decide +kernel) (by decide +kernel)
theorem ml_RL_134 : Cond.methodLink RL 134 yX6_dry ∈ wT := wT_at 984 (by decide +kernel) (by decide +kernel)
theorem ml_RL_138 : Cond.methodLink RL 138 yX6_near ∈ wT := wT_at 988 (by decide +kernel) (by decide +kernel)
theorem kc_RX6_262 : Cond.constantLong RX6 262 (30) ∈ wT := wT_at 992 (by decide +kernel) (by decide +kernel)
theorem ml_RL_142 : Cond.methodLink RL 142 yX6_told ∈ wT := wT_at 993 (by decide +kernel) (by decide +kernel)
set_option maxRecDepth 100000 in
theorem ym_yX5_supply : YV yX5_supply cX5_supply 3 (some .int) RX5 2 := ⟨wT_at 257 rfl rfl, wT_at 255 (by decide +kernel) (by decide +kernel), wT_at 256 (by decide +kernel) (by decide +kernel), wT_at 37 (by decide +kernel) (by decide +kernel), by decide, by decide +kernel⟩
set_option maxRecDepth 100000 in
theorem ym_yX5_isWithin : YS yX5_isWithin cX5_isWithin 3 (some .boolean) 3 := ⟨wT_at 261 rfl rfl, wT_at 260 (by decide +kernel) (by decide +kernel), wT_at 37 (by decide +kernel) (by decide +kernel), by decide, by decide +kernel⟩
set_option maxRecDepth 100000 in
theorem ym_yX5_size : YV yX5_size cX5_size 3 (some .int) RX5 2 := ⟨wT_at 265 rfl rfl, wT_at 263 (by decide +kernel) (by decide +kernel), wT_at 264 (by decide +kernel) (by decide +kernel), wT_at 37 (by decide +kernel) (by decide +kernel), by decide, by decide +kernel⟩
set_option maxRecDepth 100000 in
theorem ym_yX1_addSize : YV yX1_addSize cX1_addSize 3 (some .int) RX1 2 := ⟨wT_at 269 rfl rfl, wT_at 267 (by decide +kernel) (by decide +kernel), wT_at 268 (by decide +kernel) (by decide +kernel), wT_at 38 (by decide +kernel) (by decide +kernel), by decide, by decide +kernel⟩
set_option maxRecDepth 100000 in
theorem ym_yX5_pipe : YV yX5_pipe cX5_pipe 4 (some .int) RX5 3 := ⟨wT_at 273 rfl rfl, wT_at 271 (by decide +kernel) (by decide +kernel), wT_at 272 (by decide +kernel) (by decide +kernel), wT_at 37 (by decide +kernel) (by decide +kernel), by decide, by decide +kernel⟩
set_option maxRecDepth 100000 in
theorem ym_yX5_isEnd : YV yX5_isEnd cX5_isEnd 2 (some .boolean) RX5 1 := ⟨wT_at 277 rfl rfl, wT_at 276 (by decide +kernel) (by decide +kernel), wT_at 0 (by decide +kernel) (by decide +kernel), wT_at 37 (by decide +kernel) (by decide +kernel), by decide, by decide +kernel⟩
set_option maxRecDepth 100000 in
theorem ym_yX5_isPipe : YV yX5_isPipe cX5_isPipe 2 (some .boolean) RX5 1 := ⟨wT_at 281 rfl rfl, wT_at 280 (by decide +kernel) (by decide +kernel), wT_at 1 (by decide +kernel) (by decide +kernel), wT_at 37 (by decide +kernel) (by decide +kernel), by decide, by decide +kernel⟩
set_option maxRecDepth 100000 in
theorem ym_yX5_isSize : YV yX5_isSize cX5_isSize 2 (some .boolean) RX5 1 := ⟨wT_at 285 rfl rfl, wT_at 284 (by decide +kernel) (by decide +kernel), wT_at 2 (by decide +kernel) (by decide +kernel), wT_at 37 (by decide +kernel) (by decide +kernel), by decide, by decide +kernel⟩
set_option maxRecDepth 100000 in
theorem ym_yX1_addPipe : YV yX1_addPipe cX1_addPipe 4 (some .int) RX1 3 := ⟨wT_at 289 rfl rfl, wT_at 287 (by decide +kernel) (by decide +kernel), wT_at 288 (by decide +kernel) (by decide +kernel), wT_at 38 (by decide +kernel) (by decide +kernel), by decide, by decide +kernel⟩
set_option maxRecDepth 100000 in
theorem ym_yX1_setSize : YV yX1_setSize cX1_setSize 3 none RX1 2 := ⟨wT_at 293 rfl rfl, wT_at 291 (by decide +kernel) (by decide +kernel), wT_at 292 (by decide +kernel) (by decide +kernel), wT_at 38 (by decide +kernel) (by decide +kernel), by decide, by decide +kernel⟩
set_option maxRecDepth 100000 in
theorem ym_yX1_dragWith : YV yX1_dragWith cX1_dragWith 3 (some .int) RX1 2 := ⟨wT_at 297 rfl rfl, wT_at 295 (by decide +kernel) (by decide +kernel), wT_at 296 (by decide +kernel) (by decide +kernel), wT_at 38 (by decide +kernel) (by decide +kernel), by decide, by decide +kernel⟩
set_option maxRecDepth 100000 in
theorem ym_yX5_head : YV yX5_head cX5_head 4 (some .int) RX5 3 := ⟨wT_at 301 rfl rfl, wT_at 299 (by decide +kernel) (by decide +kernel), wT_at 300 (by decide +kernel) (by decide +kernel), wT_at 37 (by decide +kernel) (by decide +kernel), by decide, by decide +kernel⟩
set_option maxRecDepth 100000 in
theorem ym_yX1_setHead : YV yX1_setHead cX1_setHead 4 none RX1 3 := ⟨wT_at 305 rfl rfl, wT_at 303 (by decide +kernel) (by decide +kernel), wT_at 304 (by decide +kernel) (by decide +kernel), wT_at 38 (by decide +kernel) (by decide +kernel), by decide, by decide +kernel⟩
set_option maxRecDepth 100000 in
theorem ym_yX5_withBit : YS yX5_withBit cX5_withBit 3 (some .int) 3 := ⟨wT_at 308 rfl rfl, wT_at 307 (by decide +kernel) (by decide +kernel), wT_at 37 (by decide +kernel) (by decide +kernel), by decide, by decide +kernel⟩
set_option maxRecDepth 100000 in
theorem ym_yX5_open : YV yX5_open cX5_open 4 (some .int) RX5 2 := ⟨wT_at 312 rfl rfl, wT_at 310 (by decide +kernel) (by decide +kernel), wT_at 311 (by decide +kernel) (by decide +kernel), wT_at 37 (by decide +kernel) (by decide +kernel), by decide, by decide +kernel⟩
set_option maxRecDepth 100000 in
theorem ym_yX5_isHead : YV yX5_isHead cX5_isHead 2 (some .boolean) RX5 1 := ⟨wT_at 316 rfl rfl, wT_at 315 (by decide +kernel) (by decide +kernel), wT_at 3 (by decide +kernel) (by decide +kernel), wT_at 37 (by decide +kernel) (by decide +kernel), by decide, by decide +kernel⟩
set_option maxRecDepth 100000 in
theorem ym_yX5_bit : YS yX5_bit cX5_bit 2 (some .int) 2 := ⟨wT_at 319 rfl rfl, wT_at 318 (by decide +kernel) (by decide +kernel), wT_at 37 (by decide +kernel) (by decide +kernel), by decide, by decide +kernel⟩
set_option maxRecDepth 100000 in
theorem ym_yX5_shut : YV yX5_shut cX5_shut 4 (some .int) RX5 2 := ⟨wT_at 324 rfl rfl, wT_at 322 (by decide +kernel) (by decide +kernel), wT_at 323 (by decide +kernel) (by decide +kernel), wT_at 37 (by decide +kernel) (by decide +kernel), by decide, by decide +kernel⟩
set_option maxRecDepth 100000 in
theorem ym_yX5_clog : YV yX5_clog cX5_clog 4 (some .int) RX5 2 := ⟨wT_at 328 rfl rfl, wT_at 326 (by decide +kernel) (by decide +kernel), wT_at 327 (by decide +kernel) (by decide +kernel), wT_at 37 (by decide +kernel) (by decide +kernel), by decide, by decide +kernel⟩
set_option maxRecDepth 100000 in
theorem ym_yX5_resize : YV yX5_resize cX5_resize 4 (some .int) RX5 2 := ⟨wT_at 332 rfl rfl, wT_at 330 (by decide +kernel) (by decide +kernel), wT_at 331 (by decide +kernel) (by decide +kernel), wT_at 37 (by decide +kernel) (by decide +kernel), by decide, by decide +kernel⟩
set_option maxRecDepth 100000 in
theorem ym_yX5_conduct : YV yX5_conduct cX5_conduct 3 (some .long) RX5 2 := ⟨wT_at 337 rfl rfl, wT_at 335 (by decide +kernel) (by decide +kernel), wT_at 336 (by decide +kernel) (by decide +kernel), wT_at 37 (by decide +kernel) (by decide +kernel), by decide, by decide +kernel⟩
set_option maxRecDepth 100000 in
theorem ym_yX5_isSide : YS yX5_isSide cX5_isSide 1 (some .boolean) 1 := ⟨wT_at 341 rfl rfl, wT_at 340 (by decide +kernel) (by decide +kernel), wT_at 37 (by decide +kernel) (by decide +kernel), by decide, by decide +kernel⟩
set_option maxRecDepth 100000 in
theorem ym_yX4_gather : YV yX4_gather cX4_gather 5 none RX4 3 := ⟨wT_at 346 rfl rfl, wT_at 344 (by decide +kernel) (by decide +kernel), wT_at 345 (by decide +kernel) (by decide +kernel), wT_at 39 (by decide +kernel) (by decide +kernel), by decide, by decide +kernel⟩
set_option maxRecDepth 100000 in
theorem ym_yJ7_fill_d0a16 : YS yJ7_fill_d0a16 cJ7_fill_d0a16 5 none 2 := ⟨wT_at 349 rfl rfl, wT_at 348 (by decide +kernel) (by decide +kernel), wT_at 43 (by decide +kernel) (by decide +kernel), by decide, by decide +kernel⟩
set_option maxRecDepth 100000 in
theorem ym_yX1_factorNow : YV yX1_factorNow cX1_factorNow 2 (some .int) RX1 1 := ⟨wT_at 355 rfl rfl, wT_at 353 (by decide +kernel) (by decide +kernel), wT_at 354 (by decide +kernel) (by decide +kernel), wT_at 38 (by decide +kernel) (by decide +kernel), by decide, by decide +kernel⟩
set_option maxRecDepth 100000 in
theorem ym_yX4_conductOf : YV yX4_conductOf cX4_conductOf 8 (some .long) RX4 3 := ⟨wT_at 359 rfl rfl, wT_at 357 (by decide +kernel) (by decide +kernel), wT_at 358 (by decide +kernel) (by decide +kernel), wT_at 39 (by decide +kernel) (by decide +kernel), by decide, by decide +kernel⟩
set_option maxRecDepth 100000 in
theorem ym_yX4_isClosed : YV yX4_isClosed cX4_isClosed 2 (some .boolean) RX4 1 := ⟨wT_at 363 rfl rfl, wT_at 362 (by decide +kernel) (by decide +kernel), wT_at 4 (by decide +kernel) (by decide +kernel), wT_at 39 (by decide +kernel) (by decide +kernel), by decide, by decide +kernel⟩
set_option maxRecDepth 100000 in
theorem ym_yX3_root : YS yX3_root cX3_root 8 (some .long) 2 := ⟨wT_at 367 rfl rfl, wT_at 366 (by decide +kernel) (by decide +kernel), wT_at 44 (by decide +kernel) (by decide +kernel), by decide, by decide +kernel⟩
set_option maxRecDepth 100000 in
theorem ym_yJ13_numberOfLeadingZeros_95d88 : YS yJ13_numberOfLeadingZeros_95d88 cJ13_numberOfLeadingZeros_95d88 3 (some .int) 1 := ⟨wT_at 370 rfl rfl, wT_at 369 (by decide +kernel) (by decide +kernel), wT_at 45 (by decide +kernel) (by decide +kernel), by decide, by decide +kernel⟩
set_option maxRecDepth 100000 in
theorem ym_yJ6_numberOfLeadingZeros_0f7a4 : YS yJ6_numberOfLeadingZeros_0f7a4 cJ6_numberOfLeadingZeros_0f7a4 2 (some .int) 1 := ⟨wT_at 373 rfl rfl, wT_at 372 (by decide +kernel) (by decide +kernel), wT_at 46 (by decide +kernel) (by decide +kernel), by decide, by decide +kernel⟩
set_option maxRecDepth 100000 in
theorem ym_yX3_quotient : YS yX3_quotient cX3_quotient 5 (some .long) 3 := ⟨wT_at 378 rfl rfl, wT_at 377 (by decide +kernel) (by decide +kernel), wT_at 44 (by decide +kernel) (by decide +kernel), by decide, by decide +kernel⟩
set_option maxRecDepth 100000 in
theorem ym_yX5_pressure : YV yX5_pressure cX5_pressure 3 (some .long) RX5 2 := ⟨wT_at 383 rfl rfl, wT_at 381 (by decide +kernel) (by decide +kernel), wT_at 382 (by decide +kernel) (by decide +kernel), wT_at 37 (by decide +kernel) (by decide +kernel), by decide, by decide +kernel⟩
set_option maxRecDepth 100000 in
theorem ym_yX4_holdPressures : YV yX4_holdPressures cX4_holdPressures 3 none RX4 2 := ⟨wT_at 387 rfl rfl, wT_at 385 (by decide +kernel) (by decide +kernel), wT_at 386 (by decide +kernel) (by decide +kernel), wT_at 39 (by decide +kernel) (by decide +kernel), by decide, by decide +kernel⟩
set_option maxRecDepth 100000 in
theorem ym_yX4_fall : YV yX4_fall cX4_fall 5 none RX4 3 := ⟨wT_at 392 rfl rfl, wT_at 390 (by decide +kernel) (by decide +kernel), wT_at 391 (by decide +kernel) (by decide +kernel), wT_at 39 (by decide +kernel) (by decide +kernel), by decide, by decide +kernel⟩
set_option maxRecDepth 100000 in
theorem ym_yX4_fallen : YV yX4_fallen cX4_fallen 8 (some .long) RX4 4 := ⟨wT_at 396 rfl rfl, wT_at 395 (by decide +kernel) (by decide +kernel), wT_at 5 (by decide +kernel) (by decide +kernel), wT_at 39 (by decide +kernel) (by decide +kernel), by decide, by decide +kernel⟩
set_option maxRecDepth 100000 in
theorem ym_yX5_flow : YV yX5_flow cX5_flow 3 (some .long) RX5 2 := ⟨wT_at 402 rfl rfl, wT_at 400 (by decide +kernel) (by decide +kernel), wT_at 401 (by decide +kernel) (by decide +kernel), wT_at 37 (by decide +kernel) (by decide +kernel), by decide, by decide +kernel⟩
set_option maxRecDepth 100000 in
theorem ym_yX4_flowOf : YV yX4_flowOf cX4_flowOf 3 (some .long) RX4 2 := ⟨wT_at 406 rfl rfl, wT_at 404 (by decide +kernel) (by decide +kernel), wT_at 405 (by decide +kernel) (by decide +kernel), wT_at 39 (by decide +kernel) (by decide +kernel), by decide, by decide +kernel⟩
set_option maxRecDepth 100000 in
theorem ym_yX5_total : YV yX5_total cX5_total 5 (some .long) RX5 1 := ⟨wT_at 410 rfl rfl, wT_at 408 (by decide +kernel) (by decide +kernel), wT_at 409 (by decide +kernel) (by decide +kernel), wT_at 37 (by decide +kernel) (by decide +kernel), by decide, by decide +kernel⟩
set_option maxRecDepth 100000 in
theorem ym_yX5_about : YV yX5_about cX5_about 3 (some .int) RX5 2 := ⟨wT_at 414 rfl rfl, wT_at 412 (by decide +kernel) (by decide +kernel), wT_at 413 (by decide +kernel) (by decide +kernel), wT_at 37 (by decide +kernel) (by decide +kernel), by decide, by decide +kernel⟩
set_option maxRecDepth 100000 in
theorem ym_yX1_countFrom : YV yX1_countFrom cX1_countFrom 4 (some .int) RX1 1 := ⟨wT_at 419 rfl rfl, wT_at 417 (by decide +kernel) (by decide +kernel), wT_at 418 (by decide +kernel) (by decide +kernel), wT_at 38 (by decide +kernel) (by decide +kernel), by decide, by decide +kernel⟩
set_option maxRecDepth 100000 in
theorem ym_yX5_worst : YV yX5_worst cX5_worst 7 (some .int) RX5 0 := ⟨wT_at 423 rfl rfl, wT_at 421 (by decide +kernel) (by decide +kernel), wT_at 422 (by decide +kernel) (by decide +kernel), wT_at 37 (by decide +kernel) (by decide +kernel), by decide, by decide +kernel⟩
set_option maxRecDepth 100000 in
theorem ym_yX4_spareOf : YV yX4_spareOf cX4_spareOf 2 (some .long) RX4 1 := ⟨wT_at 427 rfl rfl, wT_at 425 (by decide +kernel) (by decide +kernel), wT_at 426 (by decide +kernel) (by decide +kernel), wT_at 39 (by decide +kernel) (by decide +kernel), by decide, by decide +kernel⟩
set_option maxRecDepth 100000 in
theorem ym_yX5_heap : YV yX5_heap cX5_heap 1 (some .int) RX5 0 := ⟨wT_at 432 rfl rfl, wT_at 430 (by decide +kernel) (by decide +kernel), wT_at 431 (by decide +kernel) (by decide +kernel), wT_at 37 (by decide +kernel) (by decide +kernel), by decide, by decide +kernel⟩
set_option maxRecDepth 100000 in
theorem ym_yX5_put : YV yX5_put cX5_put 4 (some .int) RX5 3 := ⟨wT_at 436 rfl rfl, wT_at 434 (by decide +kernel) (by decide +kernel), wT_at 435 (by decide +kernel) (by decide +kernel), wT_at 37 (by decide +kernel) (by decide +kernel), by decide, by decide +kernel⟩
set_option maxRecDepth 100000 in
theorem ym_yX5_isHeap : YV yX5_isHeap cX5_isHeap 2 (some .boolean) RX5 1 := ⟨wT_at 440 rfl rfl, wT_at 439 (by decide +kernel) (by decide +kernel), wT_at 6 (by decide +kernel) (by decide +kernel), wT_at 37 (by decide +kernel) (by decide +kernel), by decide, by decide +kernel⟩
set_option maxRecDepth 100000 in
theorem ym_yJ6_bitCount_0f7a4 : YS yJ6_bitCount_0f7a4 cJ6_bitCount_0f7a4 1 (some .int) 1 := ⟨wT_at 443 rfl rfl, wT_at 442 (by decide +kernel) (by decide +kernel), wT_at 46 (by decide +kernel) (by decide +kernel), by decide, by decide +kernel⟩
set_option maxRecDepth 100000 in
theorem ym_yX5_least : YV yX5_least cX5_least 2 (some .long) RX5 1 := ⟨wT_at 450 rfl rfl, wT_at 448 (by decide +kernel) (by decide +kernel), wT_at 449 (by decide +kernel) (by decide +kernel), wT_at 37 (by decide +kernel) (by decide +kernel), by decide, by decide +kernel⟩
set_option maxRecDepth 100000 in
theorem ym_yX5_leastOfHeap : YV yX5_leastOfHeap cX5_leastOfHeap 2 (some .long) RX5 1 := ⟨wT_at 455 rfl rfl, wT_at 454 (by decide +kernel) (by decide +kernel), wT_at 7 (by decide +kernel) (by decide +kernel), wT_at 37 (by decide +kernel) (by decide +kernel), by decide, by decide +kernel⟩
set_option maxRecDepth 100000 in
theorem ym_yX4_leastSpare : YV yX4_leastSpare cX4_leastSpare 5 (some .long) RX4 1 := ⟨wT_at 459 rfl rfl, wT_at 457 (by decide +kernel) (by decide +kernel), wT_at 458 (by decide +kernel) (by decide +kernel), wT_at 39 (by decide +kernel) (by decide +kernel), by decide, by decide +kernel⟩
set_option maxRecDepth 100000 in
theorem ym_yJ9_min_f86c9 : YS yJ9_min_f86c9 cJ9_min_f86c9 4 (some .long) 2 := ⟨wT_at 464 rfl rfl, wT_at 463 (by decide +kernel) (by decide +kernel), wT_at 47 (by decide +kernel) (by decide +kernel), by decide, by decide +kernel⟩
set_option maxRecDepth 100000 in
theorem ym_yX5_thinnest : YV yX5_thinnest cX5_thinnest 7 (some .int) RX5 0 := ⟨wT_at 468 rfl rfl, wT_at 466 (by decide +kernel) (by decide +kernel), wT_at 467 (by decide +kernel) (by decide +kernel), wT_at 37 (by decide +kernel) (by decide +kernel), by decide, by decide +kernel⟩
set_option maxRecDepth 100000 in
theorem ym_yX5_free : YV yX5_free cX5_free 4 (some .int) RX5 2 := ⟨wT_at 472 rfl rfl, wT_at 470 (by decide +kernel) (by decide +kernel), wT_at 471 (by decide +kernel) (by decide +kernel), wT_at 37 (by decide +kernel) (by decide +kernel), by decide, by decide +kernel⟩
set_option maxRecDepth 100000 in
theorem ym_yX5_choose : YV yX5_choose cX5_choose 1 (some .long) RX5 0 := ⟨wT_at 476 rfl rfl, wT_at 474 (by decide +kernel) (by decide +kernel), wT_at 475 (by decide +kernel) (by decide +kernel), wT_at 37 (by decide +kernel) (by decide +kernel), by decide, by decide +kernel⟩
set_option maxRecDepth 100000 in
theorem ym_yX0_chooseSizes : YV yX0_chooseSizes cX0_chooseSizes 3 (some .boolean) RX0 1 := ⟨wT_at 480 rfl rfl, wT_at 478 (by decide +kernel) (by decide +kernel), wT_at 479 (by decide +kernel) (by decide +kernel), wT_at 40 (by decide +kernel) (by decide +kernel), by decide, by decide +kernel⟩
set_option maxRecDepth 100000 in
theorem ym_yX0_listFreePipes : YV yX0_listFreePipes cX0_listFreePipes 2 none RX0 0 := ⟨wT_at 485 rfl rfl, wT_at 484 (by decide +kernel) (by decide +kernel), wT_at 8 (by decide +kernel) (by decide +kernel), wT_at 40 (by decide +kernel) (by decide +kernel), by decide, by decide +kernel⟩
set_option maxRecDepth 100000 in
theorem ym_yX0_widen : YV yX0_widen cX0_widen 6 none RX0 1 := ⟨wT_at 493 rfl rfl, wT_at 492 (by decide +kernel) (by decide +kernel), wT_at 9 (by decide +kernel) (by decide +kernel), wT_at 40 (by decide +kernel) (by decide +kernel), by decide, by decide +kernel⟩
set_option maxRecDepth 100000 in
theorem ym_yJ9_min_7cf53 : YS yJ9_min_7cf53 cJ9_min_7cf53 2 (some .int) 2 := ⟨wT_at 497 rfl rfl, wT_at 496 (by decide +kernel) (by decide +kernel), wT_at 47 (by decide +kernel) (by decide +kernel), by decide, by decide +kernel⟩
set_option maxRecDepth 100000 in
theorem ym_yJ9_max_7cf53 : YS yJ9_max_7cf53 cJ9_max_7cf53 2 (some .int) 2 := ⟨wT_at 500 rfl rfl, wT_at 499 (by decide +kernel) (by decide +kernel), wT_at 47 (by decide +kernel) (by decide +kernel), by decide, by decide +kernel⟩
set_option maxRecDepth 100000 in
theorem ym_yX0_leastPrice : YV yX0_leastPrice cX0_leastPrice 4 (some .int) RX0 1 := ⟨wT_at 504 rfl rfl, wT_at 503 (by decide +kernel) (by decide +kernel), wT_at 10 (by decide +kernel) (by decide +kernel), wT_at 40 (by decide +kernel) (by decide +kernel), by decide, by decide +kernel⟩
set_option maxRecDepth 100000 in
theorem ym_yX1_priceWith : YV yX1_priceWith cX1_priceWith 3 (some .int) RX1 2 := ⟨wT_at 508 rfl rfl, wT_at 506 (by decide +kernel) (by decide +kernel), wT_at 507 (by decide +kernel) (by decide +kernel), wT_at 38 (by decide +kernel) (by decide +kernel), by decide, by decide +kernel⟩
set_option maxRecDepth 100000 in
theorem ym_yX0_search : YS yX0_search cX0_search 4 none 3 := ⟨wT_at 511 rfl rfl, wT_at 510 (by decide +kernel) (by decide +kernel), wT_at 40 (by decide +kernel) (by decide +kernel), by decide, by decide +kernel⟩
set_option maxRecDepth 100000 in
theorem ym_yX0_areAllMet : YV yX0_areAllMet cX0_areAllMet 4 (some .boolean) RX0 1 := ⟨wT_at 515 rfl rfl, wT_at 514 (by decide +kernel) (by decide +kernel), wT_at 11 (by decide +kernel) (by decide +kernel), wT_at 40 (by decide +kernel) (by decide +kernel), by decide, by decide +kernel⟩
set_option maxRecDepth 100000 in
theorem ym_yX0_fix : YV yX0_fix cX0_fix 4 none RX0 2 := ⟨wT_at 522 rfl rfl, wT_at 521 (by decide +kernel) (by decide +kernel), wT_at 12 (by decide +kernel) (by decide +kernel), wT_at 40 (by decide +kernel) (by decide +kernel), by decide, by decide +kernel⟩
set_option maxRecDepth 100000 in
theorem ym_yX1_priceOfAll : YV yX1_priceOfAll cX1_priceOfAll 3 (some .int) RX1 0 := ⟨wT_at 527 rfl rfl, wT_at 525 (by decide +kernel) (by decide +kernel), wT_at 526 (by decide +kernel) (by decide +kernel), wT_at 38 (by decide +kernel) (by decide +kernel), by decide, by decide +kernel⟩
set_option maxRecDepth 100000 in
theorem ym_yX5_bill : YV yX5_bill cX5_bill 1 (some .long) RX5 0 := ⟨wT_at 533 rfl rfl, wT_at 531 (by decide +kernel) (by decide +kernel), wT_at 532 (by decide +kernel) (by decide +kernel), wT_at 37 (by decide +kernel) (by decide +kernel), by decide, by decide +kernel⟩
set_option maxRecDepth 100000 in
theorem ym_yX5_margin : YV yX5_margin cX5_margin 2 (some .int) RX5 1 := ⟨wT_at 537 rfl rfl, wT_at 535 (by decide +kernel) (by decide +kernel), wT_at 536 (by decide +kernel) (by decide +kernel), wT_at 37 (by decide +kernel) (by decide +kernel), by decide, by decide +kernel⟩
set_option maxRecDepth 100000 in
theorem ym_yX5_isMetWithLess : YV yX5_isMetWithLess cX5_isMetWithLess 4 (some .boolean) RX5 2 := ⟨wT_at 541 rfl rfl, wT_at 540 (by decide +kernel) (by decide +kernel), wT_at 13 (by decide +kernel) (by decide +kernel), wT_at 37 (by decide +kernel) (by decide +kernel), by decide, by decide +kernel⟩
set_option maxRecDepth 100000 in
theorem ym_yX5_leastTooMuch : YV yX5_leastTooMuch cX5_leastTooMuch 6 (some .int) RX5 1 := ⟨wT_at 547 rfl rfl, wT_at 546 (by decide +kernel) (by decide +kernel), wT_at 14 (by decide +kernel) (by decide +kernel), wT_at 37 (by decide +kernel) (by decide +kernel), by decide, by decide +kernel⟩
set_option maxRecDepth 100000 in
theorem ym_yX5_floor : YV yX5_floor cX5_floor 3 (some .int) RX5 2 := ⟨wT_at 551 rfl rfl, wT_at 549 (by decide +kernel) (by decide +kernel), wT_at 550 (by decide +kernel) (by decide +kernel), wT_at 37 (by decide +kernel) (by decide +kernel), by decide, by decide +kernel⟩
set_option maxRecDepth 100000 in
theorem ym_yX2_lay : YV yX2_lay cX2_lay 3 none RX2 2 := ⟨wT_at 555 rfl rfl, wT_at 553 (by decide +kernel) (by decide +kernel), wT_at 554 (by decide +kernel) (by decide +kernel), wT_at 41 (by decide +kernel) (by decide +kernel), by decide, by decide +kernel⟩
set_option maxRecDepth 100000 in
theorem ym_yJ7_fill_53178 : YS yJ7_fill_53178 cJ7_fill_53178 4 none 2 := ⟨wT_at 558 rfl rfl, wT_at 557 (by decide +kernel) (by decide +kernel), wT_at 43 (by decide +kernel) (by decide +kernel), by decide, by decide +kernel⟩
set_option maxRecDepth 100000 in
theorem ym_yX5_cell : YV yX5_cell cX5_cell 5 (some .int) RX5 3 := ⟨wT_at 562 rfl rfl, wT_at 560 (by decide +kernel) (by decide +kernel), wT_at 561 (by decide +kernel) (by decide +kernel), wT_at 37 (by decide +kernel) (by decide +kernel), by decide, by decide +kernel⟩
set_option maxRecDepth 100000 in
theorem ym_yX2_isCell : YV yX2_isCell cX2_isCell 3 (some .boolean) RX2 2 := ⟨wT_at 566 rfl rfl, wT_at 564 (by decide +kernel) (by decide +kernel), wT_at 565 (by decide +kernel) (by decide +kernel), wT_at 41 (by decide +kernel) (by decide +kernel), by decide, by decide +kernel⟩
set_option maxRecDepth 100000 in
theorem ym_yX2_whoStandsIn : YV yX2_whoStandsIn cX2_whoStandsIn 4 (some .int) RX2 2 := ⟨wT_at 570 rfl rfl, wT_at 568 (by decide +kernel) (by decide +kernel), wT_at 569 (by decide +kernel) (by decide +kernel), wT_at 41 (by decide +kernel) (by decide +kernel), by decide, by decide +kernel⟩
set_option maxRecDepth 100000 in
theorem ym_yX2_kindOf : YV yX2_kindOf cX2_kindOf 3 (some .int) RX2 2 := ⟨wT_at 575 rfl rfl, wT_at 573 (by decide +kernel) (by decide +kernel), wT_at 574 (by decide +kernel) (by decide +kernel), wT_at 41 (by decide +kernel) (by decide +kernel), by decide, by decide +kernel⟩
set_option maxRecDepth 100000 in
theorem ym_yX5_stand : YV yX5_stand cX5_stand 6 (some .int) RX5 4 := ⟨wT_at 579 rfl rfl, wT_at 577 (by decide +kernel) (by decide +kernel), wT_at 578 (by decide +kernel) (by decide +kernel), wT_at 37 (by decide +kernel) (by decide +kernel), by decide, by decide +kernel⟩
set_option maxRecDepth 100000 in
theorem ym_yX2_place : YV yX2_place cX2_place 5 none RX2 4 := ⟨wT_at 583 rfl rfl, wT_at 581 (by decide +kernel) (by decide +kernel), wT_at 582 (by decide +kernel) (by decide +kernel), wT_at 41 (by decide +kernel) (by decide +kernel), by decide, by decide +kernel⟩
set_option maxRecDepth 100000 in
theorem ym_yX5_lift : YV yX5_lift cX5_lift 3 (some .int) RX5 1 := ⟨wT_at 588 rfl rfl, wT_at 586 (by decide +kernel) (by decide +kernel), wT_at 587 (by decide +kernel) (by decide +kernel), wT_at 37 (by decide +kernel) (by decide +kernel), by decide, by decide +kernel⟩
set_option maxRecDepth 100000 in
theorem ym_yX5_wets : YV yX5_wets cX5_wets 4 (some .int) RX5 3 := ⟨wT_at 592 rfl rfl, wT_at 590 (by decide +kernel) (by decide +kernel), wT_at 591 (by decide +kernel) (by decide +kernel), wT_at 37 (by decide +kernel) (by decide +kernel), by decide, by decide +kernel⟩
set_option maxRecDepth 100000 in
theorem ym_yX2_isWetBy : YV yX2_isWetBy cX2_isWetBy 4 (some .boolean) RX2 3 := ⟨wT_at 596 rfl rfl, wT_at 594 (by decide +kernel) (by decide +kernel), wT_at 595 (by decide +kernel) (by decide +kernel), wT_at 41 (by decide +kernel) (by decide +kernel), by decide, by decide +kernel⟩
set_option maxRecDepth 100000 in
theorem ym_yX2_squareTo : YV yX2_squareTo cX2_squareTo 6 (some .int) RX2 3 := ⟨wT_at 601 rfl rfl, wT_at 600 (by decide +kernel) (by decide +kernel), wT_at 15 (by decide +kernel) (by decide +kernel), wT_at 41 (by decide +kernel) (by decide +kernel), by decide, by decide +kernel⟩
set_option maxRecDepth 100000 in
theorem ym_yX2_isBehindWall : YV yX2_isBehindWall cX2_isBehindWall 8 (some .boolean) RX2 3 := ⟨wT_at 605 rfl rfl, wT_at 604 (by decide +kernel) (by decide +kernel), wT_at 16 (by decide +kernel) (by decide +kernel), wT_at 41 (by decide +kernel) (by decide +kernel), by decide, by decide +kernel⟩
set_option maxRecDepth 100000 in
theorem ym_yX2_isCut : YS yX2_isCut cX2_isCut 5 (some .boolean) 4 := ⟨wT_at 610 rfl rfl, wT_at 609 (by decide +kernel) (by decide +kernel), wT_at 41 (by decide +kernel) (by decide +kernel), by decide, by decide +kernel⟩
set_option maxRecDepth 100000 in
theorem ym_yJ9_abs_0f7a4 : YS yJ9_abs_0f7a4 cJ9_abs_0f7a4 1 (some .int) 1 := ⟨wT_at 613 rfl rfl, wT_at 612 (by decide +kernel) (by decide +kernel), wT_at 47 (by decide +kernel) (by decide +kernel), by decide, by decide +kernel⟩
set_option maxRecDepth 100000 in
theorem ym_yX5_dry : YV yX5_dry cX5_dry 5 (some .int) RX5 1 := ⟨wT_at 617 rfl rfl, wT_at 615 (by decide +kernel) (by decide +kernel), wT_at 616 (by decide +kernel) (by decide +kernel), wT_at 37 (by decide +kernel) (by decide +kernel), by decide, by decide +kernel⟩
set_option maxRecDepth 100000 in
theorem ym_yX2_isDry : YV yX2_isDry cX2_isDry 4 (some .boolean) RX2 2 := ⟨wT_at 621 rfl rfl, wT_at 619 (by decide +kernel) (by decide +kernel), wT_at 620 (by decide +kernel) (by decide +kernel), wT_at 41 (by decide +kernel) (by decide +kernel), by decide, by decide +kernel⟩
set_option maxRecDepth 100000 in
theorem ym_yX5_near : YV yX5_near cX5_near 3 (some .int) RX5 1 := ⟨wT_at 626 rfl rfl, wT_at 624 (by decide +kernel) (by decide +kernel), wT_at 625 (by decide +kernel) (by decide +kernel), wT_at 37 (by decide +kernel) (by decide +kernel), by decide, by decide +kernel⟩
set_option maxRecDepth 100000 in
theorem ym_yX2_isNearAnother : YV yX2_isNearAnother cX2_isNearAnother 4 (some .boolean) RX2 2 := ⟨wT_at 630 rfl rfl, wT_at 628 (by decide +kernel) (by decide +kernel), wT_at 629 (by decide +kernel) (by decide +kernel), wT_at 41 (by decide +kernel) (by decide +kernel), by decide, by decide +kernel⟩
set_option maxRecDepth 100000 in
theorem ym_yX5_told : YV yX5_told cX5_told 2 (some .int) RX5 1 := ⟨wT_at 634 rfl rfl, wT_at 632 (by decide +kernel) (by decide +kernel), wT_at 633 (by decide +kernel) (by decide +kernel), wT_at 37 (by decide +kernel) (by decide +kernel), by decide, by decide +kernel⟩
set_option maxRecDepth 100000 in
theorem ym_yX2_countOpenCells : YV yX2_countOpenCells cX2_countOpenCells 4 (some .int) RX2 0 := ⟨wT_at 638 rfl rfl, wT_at 636 (by decide +kernel) (by decide +kernel), wT_at 637 (by decide +kernel) (by decide +kernel), wT_at 41 (by decide +kernel) (by decide +kernel), by decide, by decide +kernel⟩
set_option maxRecDepth 100000 in
theorem ym_yX6_supply : YV yX6_supply cX6_supply 3 (some .int) RX6 2 := ⟨wT_at 758 rfl rfl, wT_at 756 (by decide +kernel) (by decide +kernel), wT_at 757 (by decide +kernel) (by decide +kernel), wT_at 42 (by decide +kernel) (by decide +kernel), by decide, by decide +kernel⟩
set_option maxRecDepth 100000 in
theorem ym_yX6_in : YS yX6_in cX6_in 6 (some .boolean) 3 := ⟨wT_at 762 rfl rfl, wT_at 761 (by decide +kernel) (by decide +kernel), wT_at 42 (by decide +kernel) (by decide +kernel), by decide, by decide +kernel⟩
set_option maxRecDepth 100000 in
theorem ym_yX6_size : YV yX6_size cX6_size 3 (some .int) RX6 2 := ⟨wT_at 767 rfl rfl, wT_at 765 (by decide +kernel) (by decide +kernel), wT_at 766 (by decide +kernel) (by decide +kernel), wT_at 42 (by decide +kernel) (by decide +kernel), by decide, by decide +kernel⟩
set_option maxRecDepth 100000 in
theorem ym_yX6_pipe : YV yX6_pipe cX6_pipe 4 (some .int) RX6 3 := ⟨wT_at 773 rfl rfl, wT_at 771 (by decide +kernel) (by decide +kernel), wT_at 772 (by decide +kernel) (by decide +kernel), wT_at 42 (by decide +kernel) (by decide +kernel), by decide, by decide +kernel⟩
set_option maxRecDepth 100000 in
theorem ym_yX6_isPipe : YV yX6_isPipe cX6_isPipe 2 (some .boolean) RX6 1 := ⟨wT_at 777 rfl rfl, wT_at 776 (by decide +kernel) (by decide +kernel), wT_at 17 (by decide +kernel) (by decide +kernel), wT_at 42 (by decide +kernel) (by decide +kernel), by decide, by decide +kernel⟩
set_option maxRecDepth 100000 in
theorem ym_yX6_head : YV yX6_head cX6_head 4 (some .int) RX6 3 := ⟨wT_at 782 rfl rfl, wT_at 780 (by decide +kernel) (by decide +kernel), wT_at 781 (by decide +kernel) (by decide +kernel), wT_at 42 (by decide +kernel) (by decide +kernel), by decide, by decide +kernel⟩
set_option maxRecDepth 100000 in
theorem ym_yX6_open : YV yX6_open cX6_open 4 (some .int) RX6 2 := ⟨wT_at 788 rfl rfl, wT_at 786 (by decide +kernel) (by decide +kernel), wT_at 787 (by decide +kernel) (by decide +kernel), wT_at 42 (by decide +kernel) (by decide +kernel), by decide, by decide +kernel⟩
set_option maxRecDepth 100000 in
theorem ym_yX6_isHead : YV yX6_isHead cX6_isHead 2 (some .boolean) RX6 1 := ⟨wT_at 792 rfl rfl, wT_at 791 (by decide +kernel) (by decide +kernel), wT_at 18 (by decide +kernel) (by decide +kernel), wT_at 42 (by decide +kernel) (by decide +kernel), by decide, by decide +kernel⟩
set_option maxRecDepth 100000 in
theorem ym_yX6_shut : YV yX6_shut cX6_shut 4 (some .int) RX6 2 := ⟨wT_at 796 rfl rfl, wT_at 794 (by decide +kernel) (by decide +kernel), wT_at 795 (by decide +kernel) (by decide +kernel), wT_at 42 (by decide +kernel) (by decide +kernel), by decide, by decide +kernel⟩
set_option maxRecDepth 100000 in
theorem ym_yX6_clog : YV yX6_clog cX6_clog 4 (some .int) RX6 2 := ⟨wT_at 800 rfl rfl, wT_at 798 (by decide +kernel) (by decide +kernel), wT_at 799 (by decide +kernel) (by decide +kernel), wT_at 42 (by decide +kernel) (by decide +kernel), by decide, by decide +kernel⟩
set_option maxRecDepth 100000 in
theorem ym_yX6_resize : YV yX6_resize cX6_resize 4 (some .int) RX6 2 := ⟨wT_at 805 rfl rfl, wT_at 803 (by decide +kernel) (by decide +kernel), wT_at 804 (by decide +kernel) (by decide +kernel), wT_at 42 (by decide +kernel) (by decide +kernel), by decide, by decide +kernel⟩
set_option maxRecDepth 100000 in
theorem ym_yX6_conduct : YV yX6_conduct cX6_conduct 4 (some .long) RX6 2 := ⟨wT_at 809 rfl rfl, wT_at 807 (by decide +kernel) (by decide +kernel), wT_at 808 (by decide +kernel) (by decide +kernel), wT_at 42 (by decide +kernel) (by decide +kernel), by decide, by decide +kernel⟩
set_option maxRecDepth 100000 in
theorem ym_yX6_workNow : YV yX6_workNow cX6_workNow 1 none RX6 0 := ⟨wT_at 815 rfl rfl, wT_at 814 (by decide +kernel) (by decide +kernel), wT_at 19 (by decide +kernel) (by decide +kernel), wT_at 42 (by decide +kernel) (by decide +kernel), by decide, by decide +kernel⟩
set_option maxRecDepth 100000 in
theorem ym_yX6_openAsTold : YV yX6_openAsTold cX6_openAsTold 2 none RX6 0 := ⟨wT_at 819 rfl rfl, wT_at 818 (by decide +kernel) (by decide +kernel), wT_at 20 (by decide +kernel) (by decide +kernel), wT_at 42 (by decide +kernel) (by decide +kernel), by decide, by decide +kernel⟩
set_option maxRecDepth 100000 in
theorem ym_yX6_work : YV yX6_work cX6_work 4 none RX6 1 := ⟨wT_at 823 rfl rfl, wT_at 822 (by decide +kernel) (by decide +kernel), wT_at 21 (by decide +kernel) (by decide +kernel), wT_at 42 (by decide +kernel) (by decide +kernel), by decide, by decide +kernel⟩
set_option maxRecDepth 100000 in
theorem ym_yX6_factorNow : YV yX6_factorNow cX6_factorNow 2 (some .int) RX6 1 := ⟨wT_at 828 rfl rfl, wT_at 827 (by decide +kernel) (by decide +kernel), wT_at 22 (by decide +kernel) (by decide +kernel), wT_at 42 (by decide +kernel) (by decide +kernel), by decide, by decide +kernel⟩
set_option maxRecDepth 100000 in
theorem ym_yX6_conductOf : YV yX6_conductOf cX6_conductOf 9 none RX6 1 := ⟨wT_at 832 rfl rfl, wT_at 831 (by decide +kernel) (by decide +kernel), wT_at 23 (by decide +kernel) (by decide +kernel), wT_at 42 (by decide +kernel) (by decide +kernel), by decide, by decide +kernel⟩
set_option maxRecDepth 100000 in
theorem ym_yX6_drag : YV yX6_drag cX6_drag 2 (some .int) RX6 1 := ⟨wT_at 836 rfl rfl, wT_at 835 (by decide +kernel) (by decide +kernel), wT_at 24 (by decide +kernel) (by decide +kernel), wT_at 42 (by decide +kernel) (by decide +kernel), by decide, by decide +kernel⟩
set_option maxRecDepth 100000 in
theorem ym_yX6_rootUp : YS yX6_rootUp cX6_rootUp 4 (some .long) 1 := ⟨wT_at 840 rfl rfl, wT_at 839 (by decide +kernel) (by decide +kernel), wT_at 42 (by decide +kernel) (by decide +kernel), by decide, by decide +kernel⟩
set_option maxRecDepth 100000 in
theorem ym_yX6_root : YS yX6_root cX6_root 8 (some .long) 1 := ⟨wT_at 843 rfl rfl, wT_at 842 (by decide +kernel) (by decide +kernel), wT_at 42 (by decide +kernel) (by decide +kernel), by decide, by decide +kernel⟩
set_option maxRecDepth 100000 in
theorem ym_yX6_up : YS yX6_up cX6_up 4 (some .long) 2 := ⟨wT_at 848 rfl rfl, wT_at 847 (by decide +kernel) (by decide +kernel), wT_at 42 (by decide +kernel) (by decide +kernel), by decide, by decide +kernel⟩
set_option maxRecDepth 100000 in
theorem ym_yX6_pressureOf : YV yX6_pressureOf cX6_pressureOf 12 none RX6 3 := ⟨wT_at 852 rfl rfl, wT_at 851 (by decide +kernel) (by decide +kernel), wT_at 25 (by decide +kernel) (by decide +kernel), wT_at 42 (by decide +kernel) (by decide +kernel), by decide, by decide +kernel⟩
set_option maxRecDepth 100000 in
theorem ym_yX6_pressure : YV yX6_pressure cX6_pressure 4 (some .long) RX6 2 := ⟨wT_at 858 rfl rfl, wT_at 856 (by decide +kernel) (by decide +kernel), wT_at 857 (by decide +kernel) (by decide +kernel), wT_at 42 (by decide +kernel) (by decide +kernel), by decide, by decide +kernel⟩
set_option maxRecDepth 100000 in
theorem ym_yX6_flow : YV yX6_flow cX6_flow 3 (some .long) RX6 2 := ⟨wT_at 862 rfl rfl, wT_at 860 (by decide +kernel) (by decide +kernel), wT_at 861 (by decide +kernel) (by decide +kernel), wT_at 42 (by decide +kernel) (by decide +kernel), by decide, by decide +kernel⟩
set_option maxRecDepth 100000 in
theorem ym_yX6_flowOf : YV yX6_flowOf cX6_flowOf 5 (some .long) RX6 2 := ⟨wT_at 866 rfl rfl, wT_at 865 (by decide +kernel) (by decide +kernel), wT_at 26 (by decide +kernel) (by decide +kernel), wT_at 42 (by decide +kernel) (by decide +kernel), by decide, by decide +kernel⟩
set_option maxRecDepth 100000 in
theorem ym_yX6_total : YV yX6_total cX6_total 5 (some .long) RX6 1 := ⟨wT_at 870 rfl rfl, wT_at 868 (by decide +kernel) (by decide +kernel), wT_at 869 (by decide +kernel) (by decide +kernel), wT_at 42 (by decide +kernel) (by decide +kernel), by decide, by decide +kernel⟩
set_option maxRecDepth 100000 in
theorem ym_yX6_about : YV yX6_about cX6_about 6 (some .int) RX6 2 := ⟨wT_at 874 rfl rfl, wT_at 872 (by decide +kernel) (by decide +kernel), wT_at 873 (by decide +kernel) (by decide +kernel), wT_at 42 (by decide +kernel) (by decide +kernel), by decide, by decide +kernel⟩
set_option maxRecDepth 100000 in
theorem ym_yX6_asInt : YS yX6_asInt cX6_asInt 1 (some .int) 1 := ⟨wT_at 877 rfl rfl, wT_at 876 (by decide +kernel) (by decide +kernel), wT_at 42 (by decide +kernel) (by decide +kernel), by decide, by decide +kernel⟩
set_option maxRecDepth 100000 in
theorem ym_yX6_worst : YV yX6_worst cX6_worst 3 (some .int) RX6 0 := ⟨wT_at 881 rfl rfl, wT_at 879 (by decide +kernel) (by decide +kernel), wT_at 880 (by decide +kernel) (by decide +kernel), wT_at 42 (by decide +kernel) (by decide +kernel), by decide, by decide +kernel⟩
set_option maxRecDepth 100000 in
theorem ym_yX6_spare : YV yX6_spare cX6_spare 2 (some .long) RX6 1 := ⟨wT_at 885 rfl rfl, wT_at 884 (by decide +kernel) (by decide +kernel), wT_at 27 (by decide +kernel) (by decide +kernel), wT_at 42 (by decide +kernel) (by decide +kernel), by decide, by decide +kernel⟩
set_option maxRecDepth 100000 in
theorem ym_yX6_heap : YV yX6_heap cX6_heap 1 (some .int) RX6 0 := ⟨wT_at 889 rfl rfl, wT_at 887 (by decide +kernel) (by decide +kernel), wT_at 888 (by decide +kernel) (by decide +kernel), wT_at 42 (by decide +kernel) (by decide +kernel), by decide, by decide +kernel⟩
set_option maxRecDepth 100000 in
theorem ym_yX6_put : YV yX6_put cX6_put 6 (some .int) RX6 3 := ⟨wT_at 893 rfl rfl, wT_at 891 (by decide +kernel) (by decide +kernel), wT_at 892 (by decide +kernel) (by decide +kernel), wT_at 42 (by decide +kernel) (by decide +kernel), by decide, by decide +kernel⟩
set_option maxRecDepth 100000 in
theorem ym_yX6_isHeap : YV yX6_isHeap cX6_isHeap 2 (some .boolean) RX6 1 := ⟨wT_at 897 rfl rfl, wT_at 896 (by decide +kernel) (by decide +kernel), wT_at 28 (by decide +kernel) (by decide +kernel), wT_at 42 (by decide +kernel) (by decide +kernel), by decide, by decide +kernel⟩
set_option maxRecDepth 100000 in
theorem ym_yX6_least : YV yX6_least cX6_least 2 (some .long) RX6 1 := ⟨wT_at 901 rfl rfl, wT_at 899 (by decide +kernel) (by decide +kernel), wT_at 900 (by decide +kernel) (by decide +kernel), wT_at 42 (by decide +kernel) (by decide +kernel), by decide, by decide +kernel⟩
set_option maxRecDepth 100000 in
theorem ym_yX6_leastOf : YV yX6_leastOf cX6_leastOf 9 (some .long) RX6 2 := ⟨wT_at 905 rfl rfl, wT_at 904 (by decide +kernel) (by decide +kernel), wT_at 29 (by decide +kernel) (by decide +kernel), wT_at 42 (by decide +kernel) (by decide +kernel), by decide, by decide +kernel⟩
set_option maxRecDepth 100000 in
theorem ym_yX6_thinnest : YV yX6_thinnest cX6_thinnest 7 (some .int) RX6 0 := ⟨wT_at 910 rfl rfl, wT_at 908 (by decide +kernel) (by decide +kernel), wT_at 909 (by decide +kernel) (by decide +kernel), wT_at 42 (by decide +kernel) (by decide +kernel), by decide, by decide +kernel⟩
set_option maxRecDepth 100000 in
theorem ym_yX6_free : YV yX6_free cX6_free 3 (some .int) RX6 2 := ⟨wT_at 914 rfl rfl, wT_at 912 (by decide +kernel) (by decide +kernel), wT_at 913 (by decide +kernel) (by decide +kernel), wT_at 42 (by decide +kernel) (by decide +kernel), by decide, by decide +kernel⟩
set_option maxRecDepth 100000 in
theorem ym_yX6_freeMany : YV yX6_freeMany cX6_freeMany 3 (some .int) RX6 0 := ⟨wT_at 918 rfl rfl, wT_at 917 (by decide +kernel) (by decide +kernel), wT_at 30 (by decide +kernel) (by decide +kernel), wT_at 42 (by decide +kernel) (by decide +kernel), by decide, by decide +kernel⟩
set_option maxRecDepth 100000 in
theorem ym_yX6_choose : YV yX6_choose cX6_choose 8 (some .long) RX6 0 := ⟨wT_at 922 rfl rfl, wT_at 920 (by decide +kernel) (by decide +kernel), wT_at 921 (by decide +kernel) (by decide +kernel), wT_at 42 (by decide +kernel) (by decide +kernel), by decide, by decide +kernel⟩
set_option maxRecDepth 100000 in
theorem ym_yX6_price : YV yX6_price cX6_price 4 (some .long) RX6 0 := ⟨wT_at 926 rfl rfl, wT_at 925 (by decide +kernel) (by decide +kernel), wT_at 31 (by decide +kernel) (by decide +kernel), wT_at 42 (by decide +kernel) (by decide +kernel), by decide, by decide +kernel⟩
set_option maxRecDepth 100000 in
theorem ym_yX6_areMet : YV yX6_areMet cX6_areMet 3 (some .boolean) RX6 0 := ⟨wT_at 930 rfl rfl, wT_at 929 (by decide +kernel) (by decide +kernel), wT_at 32 (by decide +kernel) (by decide +kernel), wT_at 42 (by decide +kernel) (by decide +kernel), by decide, by decide +kernel⟩
set_option maxRecDepth 100000 in
theorem ym_yX6_bill : YV yX6_bill cX6_bill 1 (some .long) RX6 0 := ⟨wT_at 935 rfl rfl, wT_at 933 (by decide +kernel) (by decide +kernel), wT_at 934 (by decide +kernel) (by decide +kernel), wT_at 42 (by decide +kernel) (by decide +kernel), by decide, by decide +kernel⟩
set_option maxRecDepth 100000 in
theorem ym_yX6_margin : YV yX6_margin cX6_margin 4 (some .int) RX6 1 := ⟨wT_at 939 rfl rfl, wT_at 937 (by decide +kernel) (by decide +kernel), wT_at 938 (by decide +kernel) (by decide +kernel), wT_at 42 (by decide +kernel) (by decide +kernel), by decide, by decide +kernel⟩
set_option maxRecDepth 100000 in
theorem ym_yX6_floor : YV yX6_floor cX6_floor 4 (some .int) RX6 2 := ⟨wT_at 943 rfl rfl, wT_at 941 (by decide +kernel) (by decide +kernel), wT_at 942 (by decide +kernel) (by decide +kernel), wT_at 42 (by decide +kernel) (by decide +kernel), by decide, by decide +kernel⟩
set_option maxRecDepth 100000 in
theorem ym_yX6_cell : YV yX6_cell cX6_cell 5 (some .int) RX6 3 := ⟨wT_at 949 rfl rfl, wT_at 947 (by decide +kernel) (by decide +kernel), wT_at 948 (by decide +kernel) (by decide +kernel), wT_at 42 (by decide +kernel) (by decide +kernel), by decide, by decide +kernel⟩
set_option maxRecDepth 100000 in
theorem ym_yX6_isCell : YV yX6_isCell cX6_isCell 3 (some .boolean) RX6 2 := ⟨wT_at 953 rfl rfl, wT_at 952 (by decide +kernel) (by decide +kernel), wT_at 33 (by decide +kernel) (by decide +kernel), wT_at 42 (by decide +kernel) (by decide +kernel), by decide, by decide +kernel⟩
set_option maxRecDepth 100000 in
theorem ym_yX6_standsAt : YV yX6_standsAt cX6_standsAt 4 (some .int) RX6 2 := ⟨wT_at 957 rfl rfl, wT_at 956 (by decide +kernel) (by decide +kernel), wT_at 34 (by decide +kernel) (by decide +kernel), wT_at 42 (by decide +kernel) (by decide +kernel), by decide, by decide +kernel⟩
set_option maxRecDepth 100000 in
theorem ym_yX6_stand : YV yX6_stand cX6_stand 6 (some .int) RX6 4 := ⟨wT_at 961 rfl rfl, wT_at 959 (by decide +kernel) (by decide +kernel), wT_at 960 (by decide +kernel) (by decide +kernel), wT_at 42 (by decide +kernel) (by decide +kernel), by decide, by decide +kernel⟩
set_option maxRecDepth 100000 in
theorem ym_yX6_lift : YV yX6_lift cX6_lift 3 (some .int) RX6 1 := ⟨wT_at 966 rfl rfl, wT_at 964 (by decide +kernel) (by decide +kernel), wT_at 965 (by decide +kernel) (by decide +kernel), wT_at 42 (by decide +kernel) (by decide +kernel), by decide, by decide +kernel⟩
set_option maxRecDepth 100000 in
theorem ym_yX6_wets : YV yX6_wets cX6_wets 4 (some .int) RX6 3 := ⟨wT_at 970 rfl rfl, wT_at 968 (by decide +kernel) (by decide +kernel), wT_at 969 (by decide +kernel) (by decide +kernel), wT_at 42 (by decide +kernel) (by decide +kernel), by decide, by decide +kernel⟩
set_option maxRecDepth 100000 in
theorem ym_yX6_wetsCell : YV yX6_wetsCell cX6_wetsCell 9 (some .boolean) RX6 3 := ⟨wT_at 974 rfl rfl, wT_at 973 (by decide +kernel) (by decide +kernel), wT_at 35 (by decide +kernel) (by decide +kernel), wT_at 42 (by decide +kernel) (by decide +kernel), by decide, by decide +kernel⟩
set_option maxRecDepth 100000 in
theorem ym_yX6_square : YS yX6_square cX6_square 2 (some .int) 2 := ⟨wT_at 977 rfl rfl, wT_at 976 (by decide +kernel) (by decide +kernel), wT_at 42 (by decide +kernel) (by decide +kernel), by decide, by decide +kernel⟩
set_option maxRecDepth 100000 in
theorem ym_yX6_goesThrough : YS yX6_goesThrough cX6_goesThrough 12 (some .boolean) 6 := ⟨wT_at 980 rfl rfl, wT_at 979 (by decide +kernel) (by decide +kernel), wT_at 42 (by decide +kernel) (by decide +kernel), by decide, by decide +kernel⟩
set_option maxRecDepth 100000 in
theorem ym_yX6_side : YS yX6_side cX6_side 7 (some .int) 6 := ⟨wT_at 983 rfl rfl, wT_at 982 (by decide +kernel) (by decide +kernel), wT_at 42 (by decide +kernel) (by decide +kernel), by decide, by decide +kernel⟩
set_option maxRecDepth 100000 in
theorem ym_yX6_dry : YV yX6_dry cX6_dry 7 (some .int) RX6 1 := ⟨wT_at 987 rfl rfl, wT_at 985 (by decide +kernel) (by decide +kernel), wT_at 986 (by decide +kernel) (by decide +kernel), wT_at 42 (by decide +kernel) (by decide +kernel), by decide, by decide +kernel⟩
set_option maxRecDepth 100000 in
theorem ym_yX6_near : YV yX6_near cX6_near 4 (some .int) RX6 1 := ⟨wT_at 991 rfl rfl, wT_at 989 (by decide +kernel) (by decide +kernel), wT_at 990 (by decide +kernel) (by decide +kernel), wT_at 42 (by decide +kernel) (by decide +kernel), by decide, by decide +kernel⟩
set_option maxRecDepth 100000 in
theorem ym_yX6_told : YV yX6_told cX6_told 7 (some .int) RX6 1 := ⟨wT_at 996 rfl rfl, wT_at 994 (by decide +kernel) (by decide +kernel), wT_at 995 (by decide +kernel) (by decide +kernel), wT_at 42 (by decide +kernel) (by decide +kernel), by decide, by decide +kernel⟩
theorem uw_RX0 : ∀ w ∈ u_ws RX0 TX0 13, w ∈ wT := by decide +kernel
theorem uw_RX1 : ∀ w ∈ u_ws RX1 TX1 17, w ∈ wT := by decide +kernel
theorem uw_RX2 : ∀ w ∈ u_ws RX2 TX2 7, w ∈ wT := by decide +kernel
theorem uw_RX4 : ∀ w ∈ u_ws RX4 TX4 3, w ∈ wT := by decide +kernel
theorem uw_RX5 : ∀ w ∈ u_ws RX5 TX5 6, w ∈ wT := by decide +kernel
theorem uw_RX6 : ∀ w ∈ u_ws RX6 TX6 36, w ∈ wT := by decide +kernel
end
section
theorem gf_X5_0 {K : KT} {cc : ByteArray} {nL : Nat} {own : String} {lev pc idx : Nat} {ls : List (Option MV)} {st : List MV} {σ : Mem} (h : MC K cc nL own lev) (hd : decode cc pc = .ok (.getfield idx, 3)) (hw : Cond.fieldLink own idx RX5 "net" "LSprinklerHouse$Net;" ∈ wT) (k : M K (pc + 3) ls (vr 1 :: st) σ) : M K pc ls (vr 0 :: st) σ := mi_getr h hd (c0 := 0) (k0 := 0) (ci := 4) (T := TX5) (N := 6) rfl rfl uw_RX5 (by decide) ⟨rfl, rfl, rfl⟩ hw rfl k
theorem gf_X5_1 {K : KT} {cc : ByteArray} {nL : Nat} {own : String} {lev pc idx : Nat} {ls : List (Option MV)} {st : List MV} {σ : Mem} (h : MC K cc nL own lev) (hd : decode cc pc = .ok (.getfield idx, 3)) (hw : Cond.fieldLink own idx RX5 "widths" "LSprinklerHouse$Widths;" ∈ wT) (k : M K (pc + 3) ls (vr 2 :: st) σ) : M K pc ls (vr 0 :: st) σ := mi_getr h hd (c0 := 0) (k0 := 1) (ci := 4) (T := TX5) (N := 6) rfl rfl uw_RX5 (by decide) ⟨rfl, rfl, rfl⟩ hw rfl k
theorem gf_X5_2 {K : KT} {cc : ByteArray} {nL : Nat} {own : String} {lev pc idx : Nat} {ls : List (Option MV)} {st : List MV} {σ : Mem} (h : MC K cc nL own lev) (hd : decode cc pc = .ok (.getfield idx, 3)) (hw : Cond.fieldLink own idx RX5 "chooser" "LSprinklerHouse$Chooser;" ∈ wT) (k : M K (pc + 3) ls (vr 3 :: st) σ) : M K pc ls (vr 0 :: st) σ := mi_getr h hd (c0 := 0) (k0 := 2) (ci := 4) (T := TX5) (N := 6) rfl rfl uw_RX5 (by decide) ⟨rfl, rfl, rfl⟩ hw rfl k
theorem gf_X5_3 {K : KT} {cc : ByteArray} {nL : Nat} {own : String} {lev pc idx : Nat} {ls : List (Option MV)} {st : List MV} {σ : Mem} (h : MC K cc nL own lev) (hd : decode cc pc = .ok (.getfield idx, 3)) (hw : Cond.fieldLink own idx RX5 "plan" "LSprinklerHouse$Plan;" ∈ wT) (k : M K (pc + 3) ls (vr 4 :: st) σ) : M K pc ls (vr 0 :: st) σ := mi_getr h hd (c0 := 0) (k0 := 3) (ci := 4) (T := TX5) (N := 6) rfl rfl uw_RX5 (by decide) ⟨rfl, rfl, rfl⟩ hw rfl k
theorem gf_X5_4 {K : KT} {cc : ByteArray} {nL : Nat} {own : String} {lev pc idx : Nat} {ls : List (Option MV)} {st : List MV} {σ : Mem} (h : MC K cc nL own lev) (hd : decode cc pc = .ok (.getfield idx, 3)) (hw : Cond.fieldLink own idx RX5 "members" "[I" ∈ wT) (k : M K (pc + 3) ls (vr 5 :: st) σ) : M K pc ls (vr 0 :: st) σ := mi_getr h hd (c0 := 0) (k0 := 4) (ci := 4) (T := TX5) (N := 6) rfl rfl uw_RX5 (by decide) ⟨rfl, rfl, rfl⟩ hw rfl k
theorem gf_X5_5 {K : KT} {cc : ByteArray} {nL : Nat} {own : String} {lev pc idx : Nat} {ls : List (Option MV)} {st : List MV} {σ : Mem} (h : MC K cc nL own lev) (hd : decode cc pc = .ok (.getfield idx, 3)) (hw : Cond.fieldLink own idx RX5 "heaps" "I" ∈ wT) (k : M K (pc + 3) ls (vi (σ 0 5) :: st) σ) : M K pc ls (vr 0 :: st) σ := mi_geti h hd (c0 := 0) (k0 := 5) (ci := 4) (T := TX5) (N := 6) rfl rfl uw_RX5 (by decide) ⟨rfl, rfl, rfl⟩ hw rfl k
theorem pf_X5_5 {K : KT} {cc : ByteArray} {nL : Nat} {own : String} {lev pc idx : Nat} {ls : List (Option MV)} {st : List MV} {σ : Mem} {x : Int} (h : MC K cc nL own lev) (hd : decode cc pc = .ok (.putfield idx, 3)) (hw : Cond.fieldLink own idx RX5 "heaps" "I" ∈ wT) (k : M K (pc + 3) ls st (up σ 0 5 x)) : M K pc ls (vi x :: vr 0 :: st) σ := mi_put h hd (c0 := 0) (k0 := 5) (ci := 4) (T := TX5) (N := 6) rfl rfl uw_RX5 (by decide) ⟨rfl, rfl, rfl⟩ hw tyX5_ok nmX5 rfl rfl rfl k
theorem gf_X1_0 {K : KT} {cc : ByteArray} {nL : Nat} {own : String} {lev pc idx : Nat} {ls : List (Option MV)} {st : List MV} {σ : Mem} (h : MC K cc nL own lev) (hd : decode cc pc = .ok (.getfield idx, 3)) (hw : Cond.fieldLink own idx RX1 "pressure" "I" ∈ wT) (k : M K (pc + 3) ls (vi (σ 1 0) :: st) σ) : M K pc ls (vr 1 :: st) σ := mi_geti h hd (c0 := 1) (k0 := 0) (ci := 1) (T := TX1) (N := 17) rfl rfl uw_RX1 (by decide) ⟨rfl, rfl, rfl⟩ hw rfl k
theorem pf_X1_0 {K : KT} {cc : ByteArray} {nL : Nat} {own : String} {lev pc idx : Nat} {ls : List (Option MV)} {st : List MV} {σ : Mem} {x : Int} (h : MC K cc nL own lev) (hd : decode cc pc = .ok (.putfield idx, 3)) (hw : Cond.fieldLink own idx RX1 "pressure" "I" ∈ wT) (k : M K (pc + 3) ls st (up σ 1 0 x)) : M K pc ls (vi x :: vr 1 :: st) σ := mi_put h hd (c0 := 1) (k0 := 0) (ci := 1) (T := TX1) (N := 17) rfl rfl uw_RX1 (by decide) ⟨rfl, rfl, rfl⟩ hw tyX1_ok nmX1 rfl rfl rfl k
theorem gf_X1_1 {K : KT} {cc : ByteArray} {nL : Nat} {own : String} {lev pc idx : Nat} {ls : List (Option MV)} {st : List MV} {σ : Mem} (h : MC K cc nL own lev) (hd : decode cc pc = .ok (.getfield idx, 3)) (hw : Cond.fieldLink own idx RX1 "sizes" "I" ∈ wT) (k : M K (pc + 3) ls (vi (σ 1 1) :: st) σ) : M K pc ls (vr 1 :: st) σ := mi_geti h hd (c0 := 1) (k0 := 1) (ci := 1) (T := TX1) (N := 17) rfl rfl uw_RX1 (by decide) ⟨rfl, rfl, rfl⟩ hw rfl k
theorem pf_X1_1 {K : KT} {cc : ByteArray} {nL : Nat} {own : String} {lev pc idx : Nat} {ls : List (Option MV)} {st : List MV} {σ : Mem} {x : Int} (h : MC K cc nL own lev) (hd : decode cc pc = .ok (.putfield idx, 3)) (hw : Cond.fieldLink own idx RX1 "sizes" "I" ∈ wT) (k : M K (pc + 3) ls st (up σ 1 1 x)) : M K pc ls (vi x :: vr 1 :: st) σ := mi_put h hd (c0 := 1) (k0 := 1) (ci := 1) (T := TX1) (N := 17) rfl rfl uw_RX1 (by decide) ⟨rfl, rfl, rfl⟩ hw tyX1_ok nmX1 rfl rfl rfl k
theorem gf_X1_2 {K : KT} {cc : ByteArray} {nL : Nat} {own : String} {lev pc idx : Nat} {ls : List (Option MV)} {st : List MV} {σ : Mem} (h : MC K cc nL own lev) (hd : decode cc pc = .ok (.getfield idx, 3)) (hw : Cond.fieldLink own idx RX1 "sizeDrags" "[I" ∈ wT) (k : M K (pc + 3) ls (vr 6 :: st) σ) : M K pc ls (vr 1 :: st) σ := mi_getr h hd (c0 := 1) (k0 := 2) (ci := 1) (T := TX1) (N := 17) rfl rfl uw_RX1 (by decide) ⟨rfl, rfl, rfl⟩ hw rfl k
theorem gf_X1_3 {K : KT} {cc : ByteArray} {nL : Nat} {own : String} {lev pc idx : Nat} {ls : List (Option MV)} {st : List MV} {σ : Mem} (h : MC K cc nL own lev) (hd : decode cc pc = .ok (.getfield idx, 3)) (hw : Cond.fieldLink own idx RX1 "sizePrices" "[I" ∈ wT) (k : M K (pc + 3) ls (vr 7 :: st) σ) : M K pc ls (vr 1 :: st) σ := mi_getr h hd (c0 := 1) (k0 := 3) (ci := 1) (T := TX1) (N := 17) rfl rfl uw_RX1 (by decide) ⟨rfl, rfl, rfl⟩ hw rfl k
theorem gf_X1_4 {K : KT} {cc : ByteArray} {nL : Nat} {own : String} {lev pc idx : Nat} {ls : List (Option MV)} {st : List MV} {σ : Mem} (h : MC K cc nL own lev) (hd : decode cc pc = .ok (.getfield idx, 3)) (hw : Cond.fieldLink own idx RX1 "pipes" "I" ∈ wT) (k : M K (pc + 3) ls (vi (σ 1 4) :: st) σ) : M K pc ls (vr 1 :: st) σ := mi_geti h hd (c0 := 1) (k0 := 4) (ci := 1) (T := TX1) (N := 17) rfl rfl uw_RX1 (by decide) ⟨rfl, rfl, rfl⟩ hw rfl k
theorem pf_X1_4 {K : KT} {cc : ByteArray} {nL : Nat} {own : String} {lev pc idx : Nat} {ls : List (Option MV)} {st : List MV} {σ : Mem} {x : Int} (h : MC K cc nL own lev) (hd : decode cc pc = .ok (.putfield idx, 3)) (hw : Cond.fieldLink own idx RX1 "pipes" "I" ∈ wT) (k : M K (pc + 3) ls st (up σ 1 4 x)) : M K pc ls (vi x :: vr 1 :: st) σ := mi_put h hd (c0 := 1) (k0 := 4) (ci := 1) (T := TX1) (N := 17) rfl rfl uw_RX1 (by decide) ⟨rfl, rfl, rfl⟩ hw tyX1_ok nmX1 rfl rfl rfl k
theorem gf_X1_5 {K : KT} {cc : ByteArray} {nL : Nat} {own : String} {lev pc idx : Nat} {ls : List (Option MV)} {st : List MV} {σ : Mem} (h : MC K cc nL own lev) (hd : decode cc pc = .ok (.getfield idx, 3)) (hw : Cond.fieldLink own idx RX1 "from" "[I" ∈ wT) (k : M K (pc + 3) ls (vr 8 :: st) σ) : M K pc ls (vr 1 :: st) σ := mi_getr h hd (c0 := 1) (k0 := 5) (ci := 1) (T := TX1) (N := 17) rfl rfl uw_RX1 (by decide) ⟨rfl, rfl, rfl⟩ hw rfl k
theorem gf_X1_6 {K : KT} {cc : ByteArray} {nL : Nat} {own : String} {lev pc idx : Nat} {ls : List (Option MV)} {st : List MV} {σ : Mem} (h : MC K cc nL own lev) (hd : decode cc pc = .ok (.getfield idx, 3)) (hw : Cond.fieldLink own idx RX1 "lengths" "[I" ∈ wT) (k : M K (pc + 3) ls (vr 9 :: st) σ) : M K pc ls (vr 1 :: st) σ := mi_getr h hd (c0 := 1) (k0 := 6) (ci := 1) (T := TX1) (N := 17) rfl rfl uw_RX1 (by decide) ⟨rfl, rfl, rfl⟩ hw rfl k
theorem gf_X1_7 {K : KT} {cc : ByteArray} {nL : Nat} {own : String} {lev pc idx : Nat} {ls : List (Option MV)} {st : List MV} {σ : Mem} (h : MC K cc nL own lev) (hd : decode cc pc = .ok (.getfield idx, 3)) (hw : Cond.fieldLink own idx RX1 "sizeOf" "[I" ∈ wT) (k : M K (pc + 3) ls (vr 10 :: st) σ) : M K pc ls (vr 1 :: st) σ := mi_getr h hd (c0 := 1) (k0 := 7) (ci := 1) (T := TX1) (N := 17) rfl rfl uw_RX1 (by decide) ⟨rfl, rfl, rfl⟩ hw rfl k
theorem gf_X1_8 {K : KT} {cc : ByteArray} {nL : Nat} {own : String} {lev pc idx : Nat} {ls : List (Option MV)} {st : List MV} {σ : Mem} (h : MC K cc nL own lev) (hd : decode cc pc = .ok (.getfield idx, 3)) (hw : Cond.fieldLink own idx RX1 "steps" "[I" ∈ wT) (k : M K (pc + 3) ls (vr 11 :: st) σ) : M K pc ls (vr 1 :: st) σ := mi_getr h hd (c0 := 1) (k0 := 8) (ci := 1) (T := TX1) (N := 17) rfl rfl uw_RX1 (by decide) ⟨rfl, rfl, rfl⟩ hw rfl k
theorem gf_X1_9 {K : KT} {cc : ByteArray} {nL : Nat} {own : String} {lev pc idx : Nat} {ls : List (Option MV)} {st : List MV} {σ : Mem} (h : MC K cc nL own lev) (hd : decode cc pc = .ok (.getfield idx, 3)) (hw : Cond.fieldLink own idx RX1 "drags" "[I" ∈ wT) (k : M K (pc + 3) ls (vr 12 :: st) σ) : M K pc ls (vr 1 :: st) σ := mi_getr h hd (c0 := 1) (k0 := 9) (ci := 1) (T := TX1) (N := 17) rfl rfl uw_RX1 (by decide) ⟨rfl, rfl, rfl⟩ hw rfl k
theorem gf_X1_10 {K : KT} {cc : ByteArray} {nL : Nat} {own : String} {lev pc idx : Nat} {ls : List (Option MV)} {st : List MV} {σ : Mem} (h : MC K cc nL own lev) (hd : decode cc pc = .ok (.getfield idx, 3)) (hw : Cond.fieldLink own idx RX1 "closed" "I" ∈ wT) (k : M K (pc + 3) ls (vi (σ 1 10) :: st) σ) : M K pc ls (vr 1 :: st) σ := mi_geti h hd (c0 := 1) (k0 := 10) (ci := 1) (T := TX1) (N := 17) rfl rfl uw_RX1 (by decide) ⟨rfl, rfl, rfl⟩ hw rfl k
theorem pf_X1_10 {K : KT} {cc : ByteArray} {nL : Nat} {own : String} {lev pc idx : Nat} {ls : List (Option MV)} {st : List MV} {σ : Mem} {x : Int} (h : MC K cc nL own lev) (hd : decode cc pc = .ok (.putfield idx, 3)) (hw : Cond.fieldLink own idx RX1 "closed" "I" ∈ wT) (k : M K (pc + 3) ls st (up σ 1 10 x)) : M K pc ls (vi x :: vr 1 :: st) σ := mi_put h hd (c0 := 1) (k0 := 10) (ci := 1) (T := TX1) (N := 17) rfl rfl uw_RX1 (by decide) ⟨rfl, rfl, rfl⟩ hw tyX1_ok nmX1 rfl rfl rfl k
theorem gf_X1_11 {K : KT} {cc : ByteArray} {nL : Nat} {own : String} {lev pc idx : Nat} {ls : List (Option MV)} {st : List MV} {σ : Mem} (h : MC K cc nL own lev) (hd : decode cc pc = .ok (.getfield idx, 3)) (hw : Cond.fieldLink own idx RX1 "freed" "I" ∈ wT) (k : M K (pc + 3) ls (vi (σ 1 11) :: st) σ) : M K pc ls (vr 1 :: st) σ := mi_geti h hd (c0 := 1) (k0 := 11) (ci := 1) (T := TX1) (N := 17) rfl rfl uw_RX1 (by decide) ⟨rfl, rfl, rfl⟩ hw rfl k
theorem pf_X1_11 {K : KT} {cc : ByteArray} {nL : Nat} {own : String} {lev pc idx : Nat} {ls : List (Option MV)} {st : List MV} {σ : Mem} {x : Int} (h : MC K cc nL own lev) (hd : decode cc pc = .ok (.putfield idx, 3)) (hw : Cond.fieldLink own idx RX1 "freed" "I" ∈ wT) (k : M K (pc + 3) ls st (up σ 1 11 x)) : M K pc ls (vi x :: vr 1 :: st) σ := mi_put h hd (c0 := 1) (k0 := 11) (ci := 1) (T := TX1) (N := 17) rfl rfl uw_RX1 (by decide) ⟨rfl, rfl, rfl⟩ hw tyX1_ok nmX1 rfl rfl rfl k
theorem gf_X1_12 {K : KT} {cc : ByteArray} {nL : Nat} {own : String} {lev pc idx : Nat} {ls : List (Option MV)} {st : List MV} {σ : Mem} (h : MC K cc nL own lev) (hd : decode cc pc = .ok (.getfield idx, 3)) (hw : Cond.fieldLink own idx RX1 "heads" "I" ∈ wT) (k : M K (pc + 3) ls (vi (σ 1 12) :: st) σ) : M K pc ls (vr 1 :: st) σ := mi_geti h hd (c0 := 1) (k0 := 12) (ci := 1) (T := TX1) (N := 17) rfl rfl uw_RX1 (by decide) ⟨rfl, rfl, rfl⟩ hw rfl k
theorem pf_X1_12 {K : KT} {cc : ByteArray} {nL : Nat} {own : String} {lev pc idx : Nat} {ls : List (Option MV)} {st : List MV} {σ : Mem} {x : Int} (h : MC K cc nL own lev) (hd : decode cc pc = .ok (.putfield idx, 3)) (hw : Cond.fieldLink own idx RX1 "heads" "I" ∈ wT) (k : M K (pc + 3) ls st (up σ 1 12 x)) : M K pc ls (vi x :: vr 1 :: st) σ := mi_put h hd (c0 := 1) (k0 := 12) (ci := 1) (T := TX1) (N := 17) rfl rfl uw_RX1 (by decide) ⟨rfl, rfl, rfl⟩ hw tyX1_ok nmX1 rfl rfl rfl k
theorem gf_X1_13 {K : KT} {cc : ByteArray} {nL : Nat} {own : String} {lev pc idx : Nat} {ls : List (Option MV)} {st : List MV} {σ : Mem} (h : MC K cc nL own lev) (hd : decode cc pc = .ok (.getfield idx, 3)) (hw : Cond.fieldLink own idx RX1 "opened" "I" ∈ wT) (k : M K (pc + 3) ls (vi (σ 1 13) :: st) σ) : M K pc ls (vr 1 :: st) σ := mi_geti h hd (c0 := 1) (k0 := 13) (ci := 1) (T := TX1) (N := 17) rfl rfl uw_RX1 (by decide) ⟨rfl, rfl, rfl⟩ hw rfl k
theorem pf_X1_13 {K : KT} {cc : ByteArray} {nL : Nat} {own : String} {lev pc idx : Nat} {ls : List (Option MV)} {st : List MV} {σ : Mem} {x : Int} (h : MC K cc nL own lev) (hd : decode cc pc = .ok (.putfield idx, 3)) (hw : Cond.fieldLink own idx RX1 "opened" "I" ∈ wT) (k : M K (pc + 3) ls st (up σ 1 13 x)) : M K pc ls (vi x :: vr 1 :: st) σ := mi_put h hd (c0 := 1) (k0 := 13) (ci := 1) (T := TX1) (N := 17) rfl rfl uw_RX1 (by decide) ⟨rfl, rfl, rfl⟩ hw tyX1_ok nmX1 rfl rfl rfl k
theorem gf_X1_14 {K : KT} {cc : ByteArray} {nL : Nat} {own : String} {lev pc idx : Nat} {ls : List (Option MV)} {st : List MV} {σ : Mem} (h : MC K cc nL own lev) (hd : decode cc pc = .ok (.getfield idx, 3)) (hw : Cond.fieldLink own idx RX1 "factors" "[I" ∈ wT) (k : M K (pc + 3) ls (vr 13 :: st) σ) : M K pc ls (vr 1 :: st) σ := mi_getr h hd (c0 := 1) (k0 := 14) (ci := 1) (T := TX1) (N := 17) rfl rfl uw_RX1 (by decide) ⟨rfl, rfl, rfl⟩ hw rfl k
theorem gf_X1_15 {K : KT} {cc : ByteArray} {nL : Nat} {own : String} {lev pc idx : Nat} {ls : List (Option MV)} {st : List MV} {σ : Mem} (h : MC K cc nL own lev) (hd : decode cc pc = .ok (.getfield idx, 3)) (hw : Cond.fieldLink own idx RX1 "needs" "[I" ∈ wT) (k : M K (pc + 3) ls (vr 14 :: st) σ) : M K pc ls (vr 1 :: st) σ := mi_getr h hd (c0 := 1) (k0 := 15) (ci := 1) (T := TX1) (N := 17) rfl rfl uw_RX1 (by decide) ⟨rfl, rfl, rfl⟩ hw rfl k
theorem gf_X1_16 {K : KT} {cc : ByteArray} {nL : Nat} {own : String} {lev pc idx : Nat} {ls : List (Option MV)} {st : List MV} {σ : Mem} (h : MC K cc nL own lev) (hd : decode cc pc = .ok (.getfield idx, 3)) (hw : Cond.fieldLink own idx RX1 "clogs" "[I" ∈ wT) (k : M K (pc + 3) ls (vr 15 :: st) σ) : M K pc ls (vr 1 :: st) σ := mi_getr h hd (c0 := 1) (k0 := 16) (ci := 1) (T := TX1) (N := 17) rfl rfl uw_RX1 (by decide) ⟨rfl, rfl, rfl⟩ hw rfl k
theorem gf_X4_0 {K : KT} {cc : ByteArray} {nL : Nat} {own : String} {lev pc idx : Nat} {ls : List (Option MV)} {st : List MV} {σ : Mem} (h : MC K cc nL own lev) (hd : decode cc pc = .ok (.getfield idx, 3)) (hw : Cond.fieldLink own idx RX4 "net" "LSprinklerHouse$Net;" ∈ wT) (k : M K (pc + 3) ls (vr 1 :: st) σ) : M K pc ls (vr 2 :: st) σ := mi_getr h hd (c0 := 2) (k0 := 0) (ci := 3) (T := TX4) (N := 3) rfl rfl uw_RX4 (by decide) ⟨rfl, rfl, rfl⟩ hw rfl k
theorem gf_X4_1 {K : KT} {cc : ByteArray} {nL : Nat} {own : String} {lev pc idx : Nat} {ls : List (Option MV)} {st : List MV} {σ : Mem} (h : MC K cc nL own lev) (hd : decode cc pc = .ok (.getfield idx, 3)) (hw : Cond.fieldLink own idx RX4 "g" "[J" ∈ wT) (k : M K (pc + 3) ls (vr 16 :: st) σ) : M K pc ls (vr 2 :: st) σ := mi_getr h hd (c0 := 2) (k0 := 1) (ci := 3) (T := TX4) (N := 3) rfl rfl uw_RX4 (by decide) ⟨rfl, rfl, rfl⟩ hw rfl k
theorem gf_X4_2 {K : KT} {cc : ByteArray} {nL : Nat} {own : String} {lev pc idx : Nat} {ls : List (Option MV)} {st : List MV} {σ : Mem} (h : MC K cc nL own lev) (hd : decode cc pc = .ok (.getfield idx, 3)) (hw : Cond.fieldLink own idx RX4 "p" "[J" ∈ wT) (k : M K (pc + 3) ls (vr 17 :: st) σ) : M K pc ls (vr 2 :: st) σ := mi_getr h hd (c0 := 2) (k0 := 2) (ci := 3) (T := TX4) (N := 3) rfl rfl uw_RX4 (by decide) ⟨rfl, rfl, rfl⟩ hw rfl k
theorem gf_X0_0 {K : KT} {cc : ByteArray} {nL : Nat} {own : String} {lev pc idx : Nat} {ls : List (Option MV)} {st : List MV} {σ : Mem} (h : MC K cc nL own lev) (hd : decode cc pc = .ok (.getfield idx, 3)) (hw : Cond.fieldLink own idx RX0 "net" "LSprinklerHouse$Net;" ∈ wT) (k : M K (pc + 3) ls (vr 1 :: st) σ) : M K pc ls (vr 3 :: st) σ := mi_getr h hd (c0 := 3) (k0 := 0) (ci := 0) (T := TX0) (N := 13) rfl rfl uw_RX0 (by decide) ⟨rfl, rfl, rfl⟩ hw rfl k
theorem gf_X0_1 {K : KT} {cc : ByteArray} {nL : Nat} {own : String} {lev pc idx : Nat} {ls : List (Option MV)} {st : List MV} {σ : Mem} (h : MC K cc nL own lev) (hd : decode cc pc = .ok (.getfield idx, 3)) (hw : Cond.fieldLink own idx RX0 "widths" "LSprinklerHouse$Widths;" ∈ wT) (k : M K (pc + 3) ls (vr 2 :: st) σ) : M K pc ls (vr 3 :: st) σ := mi_getr h hd (c0 := 3) (k0 := 1) (ci := 0) (T := TX0) (N := 13) rfl rfl uw_RX0 (by decide) ⟨rfl, rfl, rfl⟩ hw rfl k
theorem gf_X0_2 {K : KT} {cc : ByteArray} {nL : Nat} {own : String} {lev pc idx : Nat} {ls : List (Option MV)} {st : List MV} {σ : Mem} (h : MC K cc nL own lev) (hd : decode cc pc = .ok (.getfield idx, 3)) (hw : Cond.fieldLink own idx RX0 "members" "[I" ∈ wT) (k : M K (pc + 3) ls (vr 5 :: st) σ) : M K pc ls (vr 3 :: st) σ := mi_getr h hd (c0 := 3) (k0 := 2) (ci := 0) (T := TX0) (N := 13) rfl rfl uw_RX0 (by decide) ⟨rfl, rfl, rfl⟩ hw rfl k
theorem gf_X0_3 {K : KT} {cc : ByteArray} {nL : Nat} {own : String} {lev pc idx : Nat} {ls : List (Option MV)} {st : List MV} {σ : Mem} (h : MC K cc nL own lev) (hd : decode cc pc = .ok (.getfield idx, 3)) (hw : Cond.fieldLink own idx RX0 "heaps" "I" ∈ wT) (k : M K (pc + 3) ls (vi (σ 3 3) :: st) σ) : M K pc ls (vr 3 :: st) σ := mi_geti h hd (c0 := 3) (k0 := 3) (ci := 0) (T := TX0) (N := 13) rfl rfl uw_RX0 (by decide) ⟨rfl, rfl, rfl⟩ hw rfl k
theorem pf_X0_3 {K : KT} {cc : ByteArray} {nL : Nat} {own : String} {lev pc idx : Nat} {ls : List (Option MV)} {st : List MV} {σ : Mem} {x : Int} (h : MC K cc nL own lev) (hd : decode cc pc = .ok (.putfield idx, 3)) (hw : Cond.fieldLink own idx RX0 "heaps" "I" ∈ wT) (k : M K (pc + 3) ls st (up σ 3 3 x)) : M K pc ls (vi x :: vr 3 :: st) σ := mi_put h hd (c0 := 3) (k0 := 3) (ci := 0) (T := TX0) (N := 13) rfl rfl uw_RX0 (by decide) ⟨rfl, rfl, rfl⟩ hw tyX0_ok nmX0 rfl rfl rfl k
theorem gf_X0_4 {K : KT} {cc : ByteArray} {nL : Nat} {own : String} {lev pc idx : Nat} {ls : List (Option MV)} {st : List MV} {σ : Mem} (h : MC K cc nL own lev) (hd : decode cc pc = .ok (.getfield idx, 3)) (hw : Cond.fieldLink own idx RX0 "count" "I" ∈ wT) (k : M K (pc + 3) ls (vi (σ 3 4) :: st) σ) : M K pc ls (vr 3 :: st) σ := mi_geti h hd (c0 := 3) (k0 := 4) (ci := 0) (T := TX0) (N := 13) rfl rfl uw_RX0 (by decide) ⟨rfl, rfl, rfl⟩ hw rfl k
theorem pf_X0_4 {K : KT} {cc : ByteArray} {nL : Nat} {own : String} {lev pc idx : Nat} {ls : List (Option MV)} {st : List MV} {σ : Mem} {x : Int} (h : MC K cc nL own lev) (hd : decode cc pc = .ok (.putfield idx, 3)) (hw : Cond.fieldLink own idx RX0 "count" "I" ∈ wT) (k : M K (pc + 3) ls st (up σ 3 4 x)) : M K pc ls (vi x :: vr 3 :: st) σ := mi_put h hd (c0 := 3) (k0 := 4) (ci := 0) (T := TX0) (N := 13) rfl rfl uw_RX0 (by decide) ⟨rfl, rfl, rfl⟩ hw tyX0_ok nmX0 rfl rfl rfl k
theorem gf_X0_5 {K : KT} {cc : ByteArray} {nL : Nat} {own : String} {lev pc idx : Nat} {ls : List (Option MV)} {st : List MV} {σ : Mem} (h : MC K cc nL own lev) (hd : decode cc pc = .ok (.getfield idx, 3)) (hw : Cond.fieldLink own idx RX0 "pipes" "[I" ∈ wT) (k : M K (pc + 3) ls (vr 18 :: st) σ) : M K pc ls (vr 3 :: st) σ := mi_getr h hd (c0 := 3) (k0 := 5) (ci := 0) (T := TX0) (N := 13) rfl rfl uw_RX0 (by decide) ⟨rfl, rfl, rfl⟩ hw rfl k
theorem gf_X0_6 {K : KT} {cc : ByteArray} {nL : Nat} {own : String} {lev pc idx : Nat} {ls : List (Option MV)} {st : List MV} {σ : Mem} (h : MC K cc nL own lev) (hd : decode cc pc = .ok (.getfield idx, 3)) (hw : Cond.fieldLink own idx RX0 "tried" "[I" ∈ wT) (k : M K (pc + 3) ls (vr 19 :: st) σ) : M K pc ls (vr 3 :: st) σ := mi_getr h hd (c0 := 3) (k0 := 6) (ci := 0) (T := TX0) (N := 13) rfl rfl uw_RX0 (by decide) ⟨rfl, rfl, rfl⟩ hw rfl k
theorem gf_X0_7 {K : KT} {cc : ByteArray} {nL : Nat} {own : String} {lev pc idx : Nat} {ls : List (Option MV)} {st : List MV} {σ : Mem} (h : MC K cc nL own lev) (hd : decode cc pc = .ok (.getfield idx, 3)) (hw : Cond.fieldLink own idx RX0 "best" "[I" ∈ wT) (k : M K (pc + 3) ls (vr 20 :: st) σ) : M K pc ls (vr 3 :: st) σ := mi_getr h hd (c0 := 3) (k0 := 7) (ci := 0) (T := TX0) (N := 13) rfl rfl uw_RX0 (by decide) ⟨rfl, rfl, rfl⟩ hw rfl k
theorem gf_X0_8 {K : KT} {cc : ByteArray} {nL : Nat} {own : String} {lev pc idx : Nat} {ls : List (Option MV)} {st : List MV} {σ : Mem} (h : MC K cc nL own lev) (hd : decode cc pc = .ok (.getfield idx, 3)) (hw : Cond.fieldLink own idx RX0 "bestPrice" "I" ∈ wT) (k : M K (pc + 3) ls (vi (σ 3 8) :: st) σ) : M K pc ls (vr 3 :: st) σ := mi_geti h hd (c0 := 3) (k0 := 8) (ci := 0) (T := TX0) (N := 13) rfl rfl uw_RX0 (by decide) ⟨rfl, rfl, rfl⟩ hw rfl k
theorem pf_X0_8 {K : KT} {cc : ByteArray} {nL : Nat} {own : String} {lev pc idx : Nat} {ls : List (Option MV)} {st : List MV} {σ : Mem} {x : Int} (h : MC K cc nL own lev) (hd : decode cc pc = .ok (.putfield idx, 3)) (hw : Cond.fieldLink own idx RX0 "bestPrice" "I" ∈ wT) (k : M K (pc + 3) ls st (up σ 3 8 x)) : M K pc ls (vi x :: vr 3 :: st) σ := mi_put h hd (c0 := 3) (k0 := 8) (ci := 0) (T := TX0) (N := 13) rfl rfl uw_RX0 (by decide) ⟨rfl, rfl, rfl⟩ hw tyX0_ok nmX0 rfl rfl rfl k
theorem gf_X0_9 {K : KT} {cc : ByteArray} {nL : Nat} {own : String} {lev pc idx : Nat} {ls : List (Option MV)} {st : List MV} {σ : Mem} (h : MC K cc nL own lev) (hd : decode cc pc = .ok (.getfield idx, 3)) (hw : Cond.fieldLink own idx RX0 "leastRest" "[I" ∈ wT) (k : M K (pc + 3) ls (vr 21 :: st) σ) : M K pc ls (vr 3 :: st) σ := mi_getr h hd (c0 := 3) (k0 := 9) (ci := 0) (T := TX0) (N := 13) rfl rfl uw_RX0 (by decide) ⟨rfl, rfl, rfl⟩ hw rfl k
theorem gf_X0_10 {K : KT} {cc : ByteArray} {nL : Nat} {own : String} {lev pc idx : Nat} {ls : List (Option MV)} {st : List MV} {σ : Mem} (h : MC K cc nL own lev) (hd : decode cc pc = .ok (.getfield idx, 3)) (hw : Cond.fieldLink own idx RX0 "leastDrags" "[I" ∈ wT) (k : M K (pc + 3) ls (vr 22 :: st) σ) : M K pc ls (vr 3 :: st) σ := mi_getr h hd (c0 := 3) (k0 := 10) (ci := 0) (T := TX0) (N := 13) rfl rfl uw_RX0 (by decide) ⟨rfl, rfl, rfl⟩ hw rfl k
theorem gf_X0_11 {K : KT} {cc : ByteArray} {nL : Nat} {own : String} {lev pc idx : Nat} {ls : List (Option MV)} {st : List MV} {σ : Mem} (h : MC K cc nL own lev) (hd : decode cc pc = .ok (.getfield idx, 3)) (hw : Cond.fieldLink own idx RX0 "mostDrags" "[I" ∈ wT) (k : M K (pc + 3) ls (vr 23 :: st) σ) : M K pc ls (vr 3 :: st) σ := mi_getr h hd (c0 := 3) (k0 := 11) (ci := 0) (T := TX0) (N := 13) rfl rfl uw_RX0 (by decide) ⟨rfl, rfl, rfl⟩ hw rfl k
theorem gf_X0_12 {K : KT} {cc : ByteArray} {nL : Nat} {own : String} {lev pc idx : Nat} {ls : List (Option MV)} {st : List MV} {σ : Mem} (h : MC K cc nL own lev) (hd : decode cc pc = .ok (.getfield idx, 3)) (hw : Cond.fieldLink own idx RX0 "failed" "I" ∈ wT) (k : M K (pc + 3) ls (vi (σ 3 12) :: st) σ) : M K pc ls (vr 3 :: st) σ := mi_geti h hd (c0 := 3) (k0 := 12) (ci := 0) (T := TX0) (N := 13) rfl rfl uw_RX0 (by decide) ⟨rfl, rfl, rfl⟩ hw rfl k
theorem pf_X0_12 {K : KT} {cc : ByteArray} {nL : Nat} {own : String} {lev pc idx : Nat} {ls : List (Option MV)} {st : List MV} {σ : Mem} {x : Int} (h : MC K cc nL own lev) (hd : decode cc pc = .ok (.putfield idx, 3)) (hw : Cond.fieldLink own idx RX0 "failed" "I" ∈ wT) (k : M K (pc + 3) ls st (up σ 3 12 x)) : M K pc ls (vi x :: vr 3 :: st) σ := mi_put h hd (c0 := 3) (k0 := 12) (ci := 0) (T := TX0) (N := 13) rfl rfl uw_RX0 (by decide) ⟨rfl, rfl, rfl⟩ hw tyX0_ok nmX0 rfl rfl rfl k
theorem gf_X2_0 {K : KT} {cc : ByteArray} {nL : Nat} {own : String} {lev pc idx : Nat} {ls : List (Option MV)} {st : List MV} {σ : Mem} (h : MC K cc nL own lev) (hd : decode cc pc = .ok (.getfield idx, 3)) (hw : Cond.fieldLink own idx RX2 "rows" "I" ∈ wT) (k : M K (pc + 3) ls (vi (σ 4 0) :: st) σ) : M K pc ls (vr 4 :: st) σ := mi_geti h hd (c0 := 4) (k0 := 0) (ci := 2) (T := TX2) (N := 7) rfl rfl uw_RX2 (by decide) ⟨rfl, rfl, rfl⟩ hw rfl k
theorem pf_X2_0 {K : KT} {cc : ByteArray} {nL : Nat} {own : String} {lev pc idx : Nat} {ls : List (Option MV)} {st : List MV} {σ : Mem} {x : Int} (h : MC K cc nL own lev) (hd : decode cc pc = .ok (.putfield idx, 3)) (hw : Cond.fieldLink own idx RX2 "rows" "I" ∈ wT) (k : M K (pc + 3) ls st (up σ 4 0 x)) : M K pc ls (vi x :: vr 4 :: st) σ := mi_put h hd (c0 := 4) (k0 := 0) (ci := 2) (T := TX2) (N := 7) rfl rfl uw_RX2 (by decide) ⟨rfl, rfl, rfl⟩ hw tyX2_ok nmX2 rfl rfl rfl k
theorem gf_X2_1 {K : KT} {cc : ByteArray} {nL : Nat} {own : String} {lev pc idx : Nat} {ls : List (Option MV)} {st : List MV} {σ : Mem} (h : MC K cc nL own lev) (hd : decode cc pc = .ok (.getfield idx, 3)) (hw : Cond.fieldLink own idx RX2 "columns" "I" ∈ wT) (k : M K (pc + 3) ls (vi (σ 4 1) :: st) σ) : M K pc ls (vr 4 :: st) σ := mi_geti h hd (c0 := 4) (k0 := 1) (ci := 2) (T := TX2) (N := 7) rfl rfl uw_RX2 (by decide) ⟨rfl, rfl, rfl⟩ hw rfl k
theorem pf_X2_1 {K : KT} {cc : ByteArray} {nL : Nat} {own : String} {lev pc idx : Nat} {ls : List (Option MV)} {st : List MV} {σ : Mem} {x : Int} (h : MC K cc nL own lev) (hd : decode cc pc = .ok (.putfield idx, 3)) (hw : Cond.fieldLink own idx RX2 "columns" "I" ∈ wT) (k : M K (pc + 3) ls st (up σ 4 1 x)) : M K pc ls (vi x :: vr 4 :: st) σ := mi_put h hd (c0 := 4) (k0 := 1) (ci := 2) (T := TX2) (N := 7) rfl rfl uw_RX2 (by decide) ⟨rfl, rfl, rfl⟩ hw tyX2_ok nmX2 rfl rfl rfl k
theorem gf_X2_2 {K : KT} {cc : ByteArray} {nL : Nat} {own : String} {lev pc idx : Nat} {ls : List (Option MV)} {st : List MV} {σ : Mem} (h : MC K cc nL own lev) (hd : decode cc pc = .ok (.getfield idx, 3)) (hw : Cond.fieldLink own idx RX2 "kinds" "[I" ∈ wT) (k : M K (pc + 3) ls (vr 24 :: st) σ) : M K pc ls (vr 4 :: st) σ := mi_getr h hd (c0 := 4) (k0 := 2) (ci := 2) (T := TX2) (N := 7) rfl rfl uw_RX2 (by decide) ⟨rfl, rfl, rfl⟩ hw rfl k
theorem gf_X2_3 {K : KT} {cc : ByteArray} {nL : Nat} {own : String} {lev pc idx : Nat} {ls : List (Option MV)} {st : List MV} {σ : Mem} (h : MC K cc nL own lev) (hd : decode cc pc = .ok (.getfield idx, 3)) (hw : Cond.fieldLink own idx RX2 "standing" "I" ∈ wT) (k : M K (pc + 3) ls (vi (σ 4 3) :: st) σ) : M K pc ls (vr 4 :: st) σ := mi_geti h hd (c0 := 4) (k0 := 3) (ci := 2) (T := TX2) (N := 7) rfl rfl uw_RX2 (by decide) ⟨rfl, rfl, rfl⟩ hw rfl k
theorem pf_X2_3 {K : KT} {cc : ByteArray} {nL : Nat} {own : String} {lev pc idx : Nat} {ls : List (Option MV)} {st : List MV} {σ : Mem} {x : Int} (h : MC K cc nL own lev) (hd : decode cc pc = .ok (.putfield idx, 3)) (hw : Cond.fieldLink own idx RX2 "standing" "I" ∈ wT) (k : M K (pc + 3) ls st (up σ 4 3 x)) : M K pc ls (vi x :: vr 4 :: st) σ := mi_put h hd (c0 := 4) (k0 := 3) (ci := 2) (T := TX2) (N := 7) rfl rfl uw_RX2 (by decide) ⟨rfl, rfl, rfl⟩ hw tyX2_ok nmX2 rfl rfl rfl k
theorem gf_X2_4 {K : KT} {cc : ByteArray} {nL : Nat} {own : String} {lev pc idx : Nat} {ls : List (Option MV)} {st : List MV} {σ : Mem} (h : MC K cc nL own lev) (hd : decode cc pc = .ok (.getfield idx, 3)) (hw : Cond.fieldLink own idx RX2 "rowOf" "[I" ∈ wT) (k : M K (pc + 3) ls (vr 25 :: st) σ) : M K pc ls (vr 4 :: st) σ := mi_getr h hd (c0 := 4) (k0 := 4) (ci := 2) (T := TX2) (N := 7) rfl rfl uw_RX2 (by decide) ⟨rfl, rfl, rfl⟩ hw rfl k
theorem gf_X2_5 {K : KT} {cc : ByteArray} {nL : Nat} {own : String} {lev pc idx : Nat} {ls : List (Option MV)} {st : List MV} {σ : Mem} (h : MC K cc nL own lev) (hd : decode cc pc = .ok (.getfield idx, 3)) (hw : Cond.fieldLink own idx RX2 "columnOf" "[I" ∈ wT) (k : M K (pc + 3) ls (vr 26 :: st) σ) : M K pc ls (vr 4 :: st) σ := mi_getr h hd (c0 := 4) (k0 := 5) (ci := 2) (T := TX2) (N := 7) rfl rfl uw_RX2 (by decide) ⟨rfl, rfl, rfl⟩ hw rfl k
theorem gf_X2_6 {K : KT} {cc : ByteArray} {nL : Nat} {own : String} {lev pc idx : Nat} {ls : List (Option MV)} {st : List MV} {σ : Mem} (h : MC K cc nL own lev) (hd : decode cc pc = .ok (.getfield idx, 3)) (hw : Cond.fieldLink own idx RX2 "reachOf" "[I" ∈ wT) (k : M K (pc + 3) ls (vr 27 :: st) σ) : M K pc ls (vr 4 :: st) σ := mi_getr h hd (c0 := 4) (k0 := 6) (ci := 2) (T := TX2) (N := 7) rfl rfl uw_RX2 (by decide) ⟨rfl, rfl, rfl⟩ hw rfl k
theorem gf_X6_0 {K : KT} {cc : ByteArray} {nL : Nat} {own : String} {lev pc idx : Nat} {ls : List (Option MV)} {st : List MV} {σ : Mem} (h : MC K cc nL own lev) (hd : decode cc pc = .ok (.getfield idx, 3)) (hw : Cond.fieldLink own idx RX6 "supply" "I" ∈ wT) (k : M K (pc + 3) ls (vi (σ 28 0) :: st) σ) : M K pc ls (vr 28 :: st) σ := mi_geti h hd (c0 := 28) (k0 := 0) (ci := 5) (T := TX6) (N := 36) rfl rfl uw_RX6 (by decide) ⟨rfl, rfl, rfl⟩ hw rfl k
theorem pf_X6_0 {K : KT} {cc : ByteArray} {nL : Nat} {own : String} {lev pc idx : Nat} {ls : List (Option MV)} {st : List MV} {σ : Mem} {x : Int} (h : MC K cc nL own lev) (hd : decode cc pc = .ok (.putfield idx, 3)) (hw : Cond.fieldLink own idx RX6 "supply" "I" ∈ wT) (k : M K (pc + 3) ls st (up σ 28 0 x)) : M K pc ls (vi x :: vr 28 :: st) σ := mi_put h hd (c0 := 28) (k0 := 0) (ci := 5) (T := TX6) (N := 36) rfl rfl uw_RX6 (by decide) ⟨rfl, rfl, rfl⟩ hw tyX6_ok nmX6 rfl rfl rfl k
theorem gf_X6_1 {K : KT} {cc : ByteArray} {nL : Nat} {own : String} {lev pc idx : Nat} {ls : List (Option MV)} {st : List MV} {σ : Mem} (h : MC K cc nL own lev) (hd : decode cc pc = .ok (.getfield idx, 3)) (hw : Cond.fieldLink own idx RX6 "supplyDrag" "I" ∈ wT) (k : M K (pc + 3) ls (vi (σ 28 1) :: st) σ) : M K pc ls (vr 28 :: st) σ := mi_geti h hd (c0 := 28) (k0 := 1) (ci := 5) (T := TX6) (N := 36) rfl rfl uw_RX6 (by decide) ⟨rfl, rfl, rfl⟩ hw rfl k
theorem pf_X6_1 {K : KT} {cc : ByteArray} {nL : Nat} {own : String} {lev pc idx : Nat} {ls : List (Option MV)} {st : List MV} {σ : Mem} {x : Int} (h : MC K cc nL own lev) (hd : decode cc pc = .ok (.putfield idx, 3)) (hw : Cond.fieldLink own idx RX6 "supplyDrag" "I" ∈ wT) (k : M K (pc + 3) ls st (up σ 28 1 x)) : M K pc ls (vi x :: vr 28 :: st) σ := mi_put h hd (c0 := 28) (k0 := 1) (ci := 5) (T := TX6) (N := 36) rfl rfl uw_RX6 (by decide) ⟨rfl, rfl, rfl⟩ hw tyX6_ok nmX6 rfl rfl rfl k
theorem gf_X6_2 {K : KT} {cc : ByteArray} {nL : Nat} {own : String} {lev pc idx : Nat} {ls : List (Option MV)} {st : List MV} {σ : Mem} (h : MC K cc nL own lev) (hd : decode cc pc = .ok (.getfield idx, 3)) (hw : Cond.fieldLink own idx RX6 "sizeDrag" "[I" ∈ wT) (k : M K (pc + 3) ls (vr 29 :: st) σ) : M K pc ls (vr 28 :: st) σ := mi_getr h hd (c0 := 28) (k0 := 2) (ci := 5) (T := TX6) (N := 36) rfl rfl uw_RX6 (by decide) ⟨rfl, rfl, rfl⟩ hw rfl k
theorem gf_X6_3 {K : KT} {cc : ByteArray} {nL : Nat} {own : String} {lev pc idx : Nat} {ls : List (Option MV)} {st : List MV} {σ : Mem} (h : MC K cc nL own lev) (hd : decode cc pc = .ok (.getfield idx, 3)) (hw : Cond.fieldLink own idx RX6 "sizePrice" "[I" ∈ wT) (k : M K (pc + 3) ls (vr 30 :: st) σ) : M K pc ls (vr 28 :: st) σ := mi_getr h hd (c0 := 28) (k0 := 3) (ci := 5) (T := TX6) (N := 36) rfl rfl uw_RX6 (by decide) ⟨rfl, rfl, rfl⟩ hw rfl k
theorem gf_X6_4 {K : KT} {cc : ByteArray} {nL : Nat} {own : String} {lev pc idx : Nat} {ls : List (Option MV)} {st : List MV} {σ : Mem} (h : MC K cc nL own lev) (hd : decode cc pc = .ok (.getfield idx, 3)) (hw : Cond.fieldLink own idx RX6 "sizes" "I" ∈ wT) (k : M K (pc + 3) ls (vi (σ 28 4) :: st) σ) : M K pc ls (vr 28 :: st) σ := mi_geti h hd (c0 := 28) (k0 := 4) (ci := 5) (T := TX6) (N := 36) rfl rfl uw_RX6 (by decide) ⟨rfl, rfl, rfl⟩ hw rfl k
theorem pf_X6_4 {K : KT} {cc : ByteArray} {nL : Nat} {own : String} {lev pc idx : Nat} {ls : List (Option MV)} {st : List MV} {σ : Mem} {x : Int} (h : MC K cc nL own lev) (hd : decode cc pc = .ok (.putfield idx, 3)) (hw : Cond.fieldLink own idx RX6 "sizes" "I" ∈ wT) (k : M K (pc + 3) ls st (up σ 28 4 x)) : M K pc ls (vi x :: vr 28 :: st) σ := mi_put h hd (c0 := 28) (k0 := 4) (ci := 5) (T := TX6) (N := 36) rfl rfl uw_RX6 (by decide) ⟨rfl, rfl, rfl⟩ hw tyX6_ok nmX6 rfl rfl rfl k
theorem gf_X6_5 {K : KT} {cc : ByteArray} {nL : Nat} {own : String} {lev pc idx : Nat} {ls : List (Option MV)} {st : List MV} {σ : Mem} (h : MC K cc nL own lev) (hd : decode cc pc = .ok (.getfield idx, 3)) (hw : Cond.fieldLink own idx RX6 "from" "[I" ∈ wT) (k : M K (pc + 3) ls (vr 31 :: st) σ) : M K pc ls (vr 28 :: st) σ := mi_getr h hd (c0 := 28) (k0 := 5) (ci := 5) (T := TX6) (N := 36) rfl rfl uw_RX6 (by decide) ⟨rfl, rfl, rfl⟩ hw rfl k
theorem gf_X6_6 {K : KT} {cc : ByteArray} {nL : Nat} {own : String} {lev pc idx : Nat} {ls : List (Option MV)} {st : List MV} {σ : Mem} (h : MC K cc nL own lev) (hd : decode cc pc = .ok (.getfield idx, 3)) (hw : Cond.fieldLink own idx RX6 "length" "[I" ∈ wT) (k : M K (pc + 3) ls (vr 32 :: st) σ) : M K pc ls (vr 28 :: st) σ := mi_getr h hd (c0 := 28) (k0 := 6) (ci := 5) (T := TX6) (N := 36) rfl rfl uw_RX6 (by decide) ⟨rfl, rfl, rfl⟩ hw rfl k
theorem gf_X6_7 {K : KT} {cc : ByteArray} {nL : Nat} {own : String} {lev pc idx : Nat} {ls : List (Option MV)} {st : List MV} {σ : Mem} (h : MC K cc nL own lev) (hd : decode cc pc = .ok (.getfield idx, 3)) (hw : Cond.fieldLink own idx RX6 "sizeOf" "[I" ∈ wT) (k : M K (pc + 3) ls (vr 33 :: st) σ) : M K pc ls (vr 28 :: st) σ := mi_getr h hd (c0 := 28) (k0 := 7) (ci := 5) (T := TX6) (N := 36) rfl rfl uw_RX6 (by decide) ⟨rfl, rfl, rfl⟩ hw rfl k
theorem gf_X6_8 {K : KT} {cc : ByteArray} {nL : Nat} {own : String} {lev pc idx : Nat} {ls : List (Option MV)} {st : List MV} {σ : Mem} (h : MC K cc nL own lev) (hd : decode cc pc = .ok (.getfield idx, 3)) (hw : Cond.fieldLink own idx RX6 "deep" "[I" ∈ wT) (k : M K (pc + 3) ls (vr 34 :: st) σ) : M K pc ls (vr 28 :: st) σ := mi_getr h hd (c0 := 28) (k0 := 8) (ci := 5) (T := TX6) (N := 36) rfl rfl uw_RX6 (by decide) ⟨rfl, rfl, rfl⟩ hw rfl k
theorem gf_X6_9 {K : KT} {cc : ByteArray} {nL : Nat} {own : String} {lev pc idx : Nat} {ls : List (Option MV)} {st : List MV} {σ : Mem} (h : MC K cc nL own lev) (hd : decode cc pc = .ok (.getfield idx, 3)) (hw : Cond.fieldLink own idx RX6 "isShut" "[Z" ∈ wT) (k : M K (pc + 3) ls (vr 35 :: st) σ) : M K pc ls (vr 28 :: st) σ := mi_getr h hd (c0 := 28) (k0 := 9) (ci := 5) (T := TX6) (N := 36) rfl rfl uw_RX6 (by decide) ⟨rfl, rfl, rfl⟩ hw rfl k
theorem gf_X6_10 {K : KT} {cc : ByteArray} {nL : Nat} {own : String} {lev pc idx : Nat} {ls : List (Option MV)} {st : List MV} {σ : Mem} (h : MC K cc nL own lev) (hd : decode cc pc = .ok (.getfield idx, 3)) (hw : Cond.fieldLink own idx RX6 "isFree" "[Z" ∈ wT) (k : M K (pc + 3) ls (vr 36 :: st) σ) : M K pc ls (vr 28 :: st) σ := mi_getr h hd (c0 := 28) (k0 := 10) (ci := 5) (T := TX6) (N := 36) rfl rfl uw_RX6 (by decide) ⟨rfl, rfl, rfl⟩ hw rfl k
theorem gf_X6_11 {K : KT} {cc : ByteArray} {nL : Nat} {own : String} {lev pc idx : Nat} {ls : List (Option MV)} {st : List MV} {σ : Mem} (h : MC K cc nL own lev) (hd : decode cc pc = .ok (.getfield idx, 3)) (hw : Cond.fieldLink own idx RX6 "pipes" "I" ∈ wT) (k : M K (pc + 3) ls (vi (σ 28 11) :: st) σ) : M K pc ls (vr 28 :: st) σ := mi_geti h hd (c0 := 28) (k0 := 11) (ci := 5) (T := TX6) (N := 36) rfl rfl uw_RX6 (by decide) ⟨rfl, rfl, rfl⟩ hw rfl k
theorem pf_X6_11 {K : KT} {cc : ByteArray} {nL : Nat} {own : String} {lev pc idx : Nat} {ls : List (Option MV)} {st : List MV} {σ : Mem} {x : Int} (h : MC K cc nL own lev) (hd : decode cc pc = .ok (.putfield idx, 3)) (hw : Cond.fieldLink own idx RX6 "pipes" "I" ∈ wT) (k : M K (pc + 3) ls st (up σ 28 11 x)) : M K pc ls (vi x :: vr 28 :: st) σ := mi_put h hd (c0 := 28) (k0 := 11) (ci := 5) (T := TX6) (N := 36) rfl rfl uw_RX6 (by decide) ⟨rfl, rfl, rfl⟩ hw tyX6_ok nmX6 rfl rfl rfl k
theorem gf_X6_12 {K : KT} {cc : ByteArray} {nL : Nat} {own : String} {lev pc idx : Nat} {ls : List (Option MV)} {st : List MV} {σ : Mem} (h : MC K cc nL own lev) (hd : decode cc pc = .ok (.getfield idx, 3)) (hw : Cond.fieldLink own idx RX6 "hasHead" "[Z" ∈ wT) (k : M K (pc + 3) ls (vr 37 :: st) σ) : M K pc ls (vr 28 :: st) σ := mi_getr h hd (c0 := 28) (k0 := 12) (ci := 5) (T := TX6) (N := 36) rfl rfl uw_RX6 (by decide) ⟨rfl, rfl, rfl⟩ hw rfl k
theorem gf_X6_13 {K : KT} {cc : ByteArray} {nL : Nat} {own : String} {lev pc idx : Nat} {ls : List (Option MV)} {st : List MV} {σ : Mem} (h : MC K cc nL own lev) (hd : decode cc pc = .ok (.getfield idx, 3)) (hw : Cond.fieldLink own idx RX6 "factor" "[I" ∈ wT) (k : M K (pc + 3) ls (vr 38 :: st) σ) : M K pc ls (vr 28 :: st) σ := mi_getr h hd (c0 := 28) (k0 := 13) (ci := 5) (T := TX6) (N := 36) rfl rfl uw_RX6 (by decide) ⟨rfl, rfl, rfl⟩ hw rfl k
theorem gf_X6_14 {K : KT} {cc : ByteArray} {nL : Nat} {own : String} {lev pc idx : Nat} {ls : List (Option MV)} {st : List MV} {σ : Mem} (h : MC K cc nL own lev) (hd : decode cc pc = .ok (.getfield idx, 3)) (hw : Cond.fieldLink own idx RX6 "need" "[I" ∈ wT) (k : M K (pc + 3) ls (vr 39 :: st) σ) : M K pc ls (vr 28 :: st) σ := mi_getr h hd (c0 := 28) (k0 := 14) (ci := 5) (T := TX6) (N := 36) rfl rfl uw_RX6 (by decide) ⟨rfl, rfl, rfl⟩ hw rfl k
theorem gf_X6_15 {K : KT} {cc : ByteArray} {nL : Nat} {own : String} {lev pc idx : Nat} {ls : List (Option MV)} {st : List MV} {σ : Mem} (h : MC K cc nL own lev) (hd : decode cc pc = .ok (.getfield idx, 3)) (hw : Cond.fieldLink own idx RX6 "isOpen" "[Z" ∈ wT) (k : M K (pc + 3) ls (vr 40 :: st) σ) : M K pc ls (vr 28 :: st) σ := mi_getr h hd (c0 := 28) (k0 := 15) (ci := 5) (T := TX6) (N := 36) rfl rfl uw_RX6 (by decide) ⟨rfl, rfl, rfl⟩ hw rfl k
theorem gf_X6_16 {K : KT} {cc : ByteArray} {nL : Nat} {own : String} {lev pc idx : Nat} {ls : List (Option MV)} {st : List MV} {σ : Mem} (h : MC K cc nL own lev) (hd : decode cc pc = .ok (.getfield idx, 3)) (hw : Cond.fieldLink own idx RX6 "clogged" "[I" ∈ wT) (k : M K (pc + 3) ls (vr 41 :: st) σ) : M K pc ls (vr 28 :: st) σ := mi_getr h hd (c0 := 28) (k0 := 16) (ci := 5) (T := TX6) (N := 36) rfl rfl uw_RX6 (by decide) ⟨rfl, rfl, rfl⟩ hw rfl k
theorem gf_X6_17 {K : KT} {cc : ByteArray} {nL : Nat} {own : String} {lev pc idx : Nat} {ls : List (Option MV)} {st : List MV} {σ : Mem} (h : MC K cc nL own lev) (hd : decode cc pc = .ok (.getfield idx, 3)) (hw : Cond.fieldLink own idx RX6 "opens" "[Z" ∈ wT) (k : M K (pc + 3) ls (vr 42 :: st) σ) : M K pc ls (vr 28 :: st) σ := mi_getr h hd (c0 := 28) (k0 := 17) (ci := 5) (T := TX6) (N := 36) rfl rfl uw_RX6 (by decide) ⟨rfl, rfl, rfl⟩ hw rfl k
theorem gf_X6_18 {K : KT} {cc : ByteArray} {nL : Nat} {own : String} {lev pc idx : Nat} {ls : List (Option MV)} {st : List MV} {σ : Mem} (h : MC K cc nL own lev) (hd : decode cc pc = .ok (.getfield idx, 3)) (hw : Cond.fieldLink own idx RX6 "endLow" "[J" ∈ wT) (k : M K (pc + 3) ls (vr 43 :: st) σ) : M K pc ls (vr 28 :: st) σ := mi_getr h hd (c0 := 28) (k0 := 18) (ci := 5) (T := TX6) (N := 36) rfl rfl uw_RX6 (by decide) ⟨rfl, rfl, rfl⟩ hw rfl k
theorem gf_X6_19 {K : KT} {cc : ByteArray} {nL : Nat} {own : String} {lev pc idx : Nat} {ls : List (Option MV)} {st : List MV} {σ : Mem} (h : MC K cc nL own lev) (hd : decode cc pc = .ok (.getfield idx, 3)) (hw : Cond.fieldLink own idx RX6 "endHigh" "[J" ∈ wT) (k : M K (pc + 3) ls (vr 44 :: st) σ) : M K pc ls (vr 28 :: st) σ := mi_getr h hd (c0 := 28) (k0 := 19) (ci := 5) (T := TX6) (N := 36) rfl rfl uw_RX6 (by decide) ⟨rfl, rfl, rfl⟩ hw rfl k
theorem gf_X6_20 {K : KT} {cc : ByteArray} {nL : Nat} {own : String} {lev pc idx : Nat} {ls : List (Option MV)} {st : List MV} {σ : Mem} (h : MC K cc nL own lev) (hd : decode cc pc = .ok (.getfield idx, 3)) (hw : Cond.fieldLink own idx RX6 "gLow" "[J" ∈ wT) (k : M K (pc + 3) ls (vr 45 :: st) σ) : M K pc ls (vr 28 :: st) σ := mi_getr h hd (c0 := 28) (k0 := 20) (ci := 5) (T := TX6) (N := 36) rfl rfl uw_RX6 (by decide) ⟨rfl, rfl, rfl⟩ hw rfl k
theorem gf_X6_21 {K : KT} {cc : ByteArray} {nL : Nat} {own : String} {lev pc idx : Nat} {ls : List (Option MV)} {st : List MV} {σ : Mem} (h : MC K cc nL own lev) (hd : decode cc pc = .ok (.getfield idx, 3)) (hw : Cond.fieldLink own idx RX6 "gHigh" "[J" ∈ wT) (k : M K (pc + 3) ls (vr 46 :: st) σ) : M K pc ls (vr 28 :: st) σ := mi_getr h hd (c0 := 28) (k0 := 21) (ci := 5) (T := TX6) (N := 36) rfl rfl uw_RX6 (by decide) ⟨rfl, rfl, rfl⟩ hw rfl k
theorem gf_X6_22 {K : KT} {cc : ByteArray} {nL : Nat} {own : String} {lev pc idx : Nat} {ls : List (Option MV)} {st : List MV} {σ : Mem} (h : MC K cc nL own lev) (hd : decode cc pc = .ok (.getfield idx, 3)) (hw : Cond.fieldLink own idx RX6 "pLow" "[J" ∈ wT) (k : M K (pc + 3) ls (vr 47 :: st) σ) : M K pc ls (vr 28 :: st) σ := mi_getr h hd (c0 := 28) (k0 := 22) (ci := 5) (T := TX6) (N := 36) rfl rfl uw_RX6 (by decide) ⟨rfl, rfl, rfl⟩ hw rfl k
theorem gf_X6_23 {K : KT} {cc : ByteArray} {nL : Nat} {own : String} {lev pc idx : Nat} {ls : List (Option MV)} {st : List MV} {σ : Mem} (h : MC K cc nL own lev) (hd : decode cc pc = .ok (.getfield idx, 3)) (hw : Cond.fieldLink own idx RX6 "pHigh" "[J" ∈ wT) (k : M K (pc + 3) ls (vr 48 :: st) σ) : M K pc ls (vr 28 :: st) σ := mi_getr h hd (c0 := 28) (k0 := 23) (ci := 5) (T := TX6) (N := 36) rfl rfl uw_RX6 (by decide) ⟨rfl, rfl, rfl⟩ hw rfl k
theorem gf_X6_24 {K : KT} {cc : ByteArray} {nL : Nat} {own : String} {lev pc idx : Nat} {ls : List (Option MV)} {st : List MV} {σ : Mem} (h : MC K cc nL own lev) (hd : decode cc pc = .ok (.getfield idx, 3)) (hw : Cond.fieldLink own idx RX6 "isPut" "[Z" ∈ wT) (k : M K (pc + 3) ls (vr 49 :: st) σ) : M K pc ls (vr 28 :: st) σ := mi_getr h hd (c0 := 28) (k0 := 24) (ci := 5) (T := TX6) (N := 36) rfl rfl uw_RX6 (by decide) ⟨rfl, rfl, rfl⟩ hw rfl k
theorem gf_X6_25 {K : KT} {cc : ByteArray} {nL : Nat} {own : String} {lev pc idx : Nat} {ls : List (Option MV)} {st : List MV} {σ : Mem} (h : MC K cc nL own lev) (hd : decode cc pc = .ok (.getfield idx, 3)) (hw : Cond.fieldLink own idx RX6 "heaps" "I" ∈ wT) (k : M K (pc + 3) ls (vi (σ 28 25) :: st) σ) : M K pc ls (vr 28 :: st) σ := mi_geti h hd (c0 := 28) (k0 := 25) (ci := 5) (T := TX6) (N := 36) rfl rfl uw_RX6 (by decide) ⟨rfl, rfl, rfl⟩ hw rfl k
theorem pf_X6_25 {K : KT} {cc : ByteArray} {nL : Nat} {own : String} {lev pc idx : Nat} {ls : List (Option MV)} {st : List MV} {σ : Mem} {x : Int} (h : MC K cc nL own lev) (hd : decode cc pc = .ok (.putfield idx, 3)) (hw : Cond.fieldLink own idx RX6 "heaps" "I" ∈ wT) (k : M K (pc + 3) ls st (up σ 28 25 x)) : M K pc ls (vi x :: vr 28 :: st) σ := mi_put h hd (c0 := 28) (k0 := 25) (ci := 5) (T := TX6) (N := 36) rfl rfl uw_RX6 (by decide) ⟨rfl, rfl, rfl⟩ hw tyX6_ok nmX6 rfl rfl rfl k
theorem gf_X6_26 {K : KT} {cc : ByteArray} {nL : Nat} {own : String} {lev pc idx : Nat} {ls : List (Option MV)} {st : List MV} {σ : Mem} (h : MC K cc nL own lev) (hd : decode cc pc = .ok (.getfield idx, 3)) (hw : Cond.fieldLink own idx RX6 "freePipe" "[I" ∈ wT) (k : M K (pc + 3) ls (vr 50 :: st) σ) : M K pc ls (vr 28 :: st) σ := mi_getr h hd (c0 := 28) (k0 := 26) (ci := 5) (T := TX6) (N := 36) rfl rfl uw_RX6 (by decide) ⟨rfl, rfl, rfl⟩ hw rfl k
theorem gf_X6_27 {K : KT} {cc : ByteArray} {nL : Nat} {own : String} {lev pc idx : Nat} {ls : List (Option MV)} {st : List MV} {σ : Mem} (h : MC K cc nL own lev) (hd : decode cc pc = .ok (.getfield idx, 3)) (hw : Cond.fieldLink own idx RX6 "held" "[I" ∈ wT) (k : M K (pc + 3) ls (vr 51 :: st) σ) : M K pc ls (vr 28 :: st) σ := mi_getr h hd (c0 := 28) (k0 := 27) (ci := 5) (T := TX6) (N := 36) rfl rfl uw_RX6 (by decide) ⟨rfl, rfl, rfl⟩ hw rfl k
theorem gf_X6_28 {K : KT} {cc : ByteArray} {nL : Nat} {own : String} {lev pc idx : Nat} {ls : List (Option MV)} {st : List MV} {σ : Mem} (h : MC K cc nL own lev) (hd : decode cc pc = .ok (.getfield idx, 3)) (hw : Cond.fieldLink own idx RX6 "best" "[I" ∈ wT) (k : M K (pc + 3) ls (vr 52 :: st) σ) : M K pc ls (vr 28 :: st) σ := mi_getr h hd (c0 := 28) (k0 := 28) (ci := 5) (T := TX6) (N := 36) rfl rfl uw_RX6 (by decide) ⟨rfl, rfl, rfl⟩ hw rfl k
theorem gf_X6_29 {K : KT} {cc : ByteArray} {nL : Nat} {own : String} {lev pc idx : Nat} {ls : List (Option MV)} {st : List MV} {σ : Mem} (h : MC K cc nL own lev) (hd : decode cc pc = .ok (.getfield idx, 3)) (hw : Cond.fieldLink own idx RX6 "rows" "I" ∈ wT) (k : M K (pc + 3) ls (vi (σ 28 29) :: st) σ) : M K pc ls (vr 28 :: st) σ := mi_geti h hd (c0 := 28) (k0 := 29) (ci := 5) (T := TX6) (N := 36) rfl rfl uw_RX6 (by decide) ⟨rfl, rfl, rfl⟩ hw rfl k
theorem pf_X6_29 {K : KT} {cc : ByteArray} {nL : Nat} {own : String} {lev pc idx : Nat} {ls : List (Option MV)} {st : List MV} {σ : Mem} {x : Int} (h : MC K cc nL own lev) (hd : decode cc pc = .ok (.putfield idx, 3)) (hw : Cond.fieldLink own idx RX6 "rows" "I" ∈ wT) (k : M K (pc + 3) ls st (up σ 28 29 x)) : M K pc ls (vi x :: vr 28 :: st) σ := mi_put h hd (c0 := 28) (k0 := 29) (ci := 5) (T := TX6) (N := 36) rfl rfl uw_RX6 (by decide) ⟨rfl, rfl, rfl⟩ hw tyX6_ok nmX6 rfl rfl rfl k
theorem gf_X6_30 {K : KT} {cc : ByteArray} {nL : Nat} {own : String} {lev pc idx : Nat} {ls : List (Option MV)} {st : List MV} {σ : Mem} (h : MC K cc nL own lev) (hd : decode cc pc = .ok (.getfield idx, 3)) (hw : Cond.fieldLink own idx RX6 "columns" "I" ∈ wT) (k : M K (pc + 3) ls (vi (σ 28 30) :: st) σ) : M K pc ls (vr 28 :: st) σ := mi_geti h hd (c0 := 28) (k0 := 30) (ci := 5) (T := TX6) (N := 36) rfl rfl uw_RX6 (by decide) ⟨rfl, rfl, rfl⟩ hw rfl k
theorem pf_X6_30 {K : KT} {cc : ByteArray} {nL : Nat} {own : String} {lev pc idx : Nat} {ls : List (Option MV)} {st : List MV} {σ : Mem} {x : Int} (h : MC K cc nL own lev) (hd : decode cc pc = .ok (.putfield idx, 3)) (hw : Cond.fieldLink own idx RX6 "columns" "I" ∈ wT) (k : M K (pc + 3) ls st (up σ 28 30 x)) : M K pc ls (vi x :: vr 28 :: st) σ := mi_put h hd (c0 := 28) (k0 := 30) (ci := 5) (T := TX6) (N := 36) rfl rfl uw_RX6 (by decide) ⟨rfl, rfl, rfl⟩ hw tyX6_ok nmX6 rfl rfl rfl k
theorem gf_X6_31 {K : KT} {cc : ByteArray} {nL : Nat} {own : String} {lev pc idx : Nat} {ls : List (Option MV)} {st : List MV} {σ : Mem} (h : MC K cc nL own lev) (hd : decode cc pc = .ok (.getfield idx, 3)) (hw : Cond.fieldLink own idx RX6 "kinds" "[I" ∈ wT) (k : M K (pc + 3) ls (vr 53 :: st) σ) : M K pc ls (vr 28 :: st) σ := mi_getr h hd (c0 := 28) (k0 := 31) (ci := 5) (T := TX6) (N := 36) rfl rfl uw_RX6 (by decide) ⟨rfl, rfl, rfl⟩ hw rfl k
theorem gf_X6_32 {K : KT} {cc : ByteArray} {nL : Nat} {own : String} {lev pc idx : Nat} {ls : List (Option MV)} {st : List MV} {σ : Mem} (h : MC K cc nL own lev) (hd : decode cc pc = .ok (.getfield idx, 3)) (hw : Cond.fieldLink own idx RX6 "stands" "[Z" ∈ wT) (k : M K (pc + 3) ls (vr 54 :: st) σ) : M K pc ls (vr 28 :: st) σ := mi_getr h hd (c0 := 28) (k0 := 32) (ci := 5) (T := TX6) (N := 36) rfl rfl uw_RX6 (by decide) ⟨rfl, rfl, rfl⟩ hw rfl k
theorem gf_X6_33 {K : KT} {cc : ByteArray} {nL : Nat} {own : String} {lev pc idx : Nat} {ls : List (Option MV)} {st : List MV} {σ : Mem} (h : MC K cc nL own lev) (hd : decode cc pc = .ok (.getfield idx, 3)) (hw : Cond.fieldLink own idx RX6 "standRow" "[I" ∈ wT) (k : M K (pc + 3) ls (vr 55 :: st) σ) : M K pc ls (vr 28 :: st) σ := mi_getr h hd (c0 := 28) (k0 := 33) (ci := 5) (T := TX6) (N := 36) rfl rfl uw_RX6 (by decide) ⟨rfl, rfl, rfl⟩ hw rfl k
theorem gf_X6_34 {K : KT} {cc : ByteArray} {nL : Nat} {own : String} {lev pc idx : Nat} {ls : List (Option MV)} {st : List MV} {σ : Mem} (h : MC K cc nL own lev) (hd : decode cc pc = .ok (.getfield idx, 3)) (hw : Cond.fieldLink own idx RX6 "standColumn" "[I" ∈ wT) (k : M K (pc + 3) ls (vr 56 :: st) σ) : M K pc ls (vr 28 :: st) σ := mi_getr h hd (c0 := 28) (k0 := 34) (ci := 5) (T := TX6) (N := 36) rfl rfl uw_RX6 (by decide) ⟨rfl, rfl, rfl⟩ hw rfl k
theorem gf_X6_35 {K : KT} {cc : ByteArray} {nL : Nat} {own : String} {lev pc idx : Nat} {ls : List (Option MV)} {st : List MV} {σ : Mem} (h : MC K cc nL own lev) (hd : decode cc pc = .ok (.getfield idx, 3)) (hw : Cond.fieldLink own idx RX6 "reach" "[I" ∈ wT) (k : M K (pc + 3) ls (vr 57 :: st) σ) : M K pc ls (vr 28 :: st) σ := mi_getr h hd (c0 := 28) (k0 := 35) (ci := 5) (T := TX6) (N := 36) rfl rfl uw_RX6 (by decide) ⟨rfl, rfl, rfl⟩ hw rfl k
end
section
/-! numbers: roots and quotients -/
def qu (a b : Int) : Int := (a + b - 1) / b
def rtN : Nat → Nat
  | 0 => 0
  | n + 1 => if (rtN n + 1) * (rtN n + 1) ≤ n + 1 then rtN n + 1 else rtN n
theorem rtN_spec : ∀ n, rtN n * rtN n ≤ n ∧ n < (rtN n + 1) * (rtN n + 1)
  | 0 => by simp [rtN]
  | n + 1 => by
    obtain ⟨h1, h2⟩ := rtN_spec n
    simp only [rtN]
    split
    · next h =>
      have h3 : (rtN n + 1) * (rtN n + 1) < (rtN n + 1 + 1) * (rtN n + 1 + 1) := Nat.mul_lt_mul_of_lt_of_le (by omega) (by omega) (by omega)
      exact ⟨h, by omega⟩
    · next h => exact ⟨by omega, by omega⟩
def rt (n : Int) : Int := (rtN n.toNat : Int)
theorem rt_nn (n : Int) : 0 ≤ rt n := Int.natCast_nonneg _
theorem rt_le {n : Int} (h : 0 ≤ n) : rt n * rt n ≤ n := by
  have := (rtN_spec n.toNat).1
  have h2 : ((rtN n.toNat * rtN n.toNat : Nat) : Int) ≤ (n.toNat : Int) := by exact_mod_cast this
  rw [Int.natCast_mul] at h2
  unfold rt
  omega
theorem rt_lt {n : Int} (h : 0 ≤ n) : n < (rt n + 1) * (rt n + 1) := by
  have := (rtN_spec n.toNat).2
  have h2 : (n.toNat : Int) < (((rtN n.toNat + 1) * (rtN n.toNat + 1) : Nat) : Int) := by exact_mod_cast this
  rw [Int.natCast_mul, Int.natCast_add] at h2
  unfold rt
  have e : ((1 : Nat) : Int) = 1 := rfl
  rw [e] at h2
  omega
theorem sq_le {a b : Int} (h0 : 0 ≤ a) (h : a ≤ b) : a * a ≤ b * b := Int.mul_le_mul h h h0 (by omega)
theorem rt_uniq {n r : Int} (h0 : 0 ≤ r) (h1 : r * r ≤ n) (h2 : n < (r + 1) * (r + 1)) : rt n = r := by
  have hn : 0 ≤ n := Int.le_trans (Int.mul_nonneg h0 h0) h1
  have a := rt_le hn
  have b := rt_lt hn
  have c := rt_nn n
  rcases Int.lt_trichotomy (rt n) r with h | h | h
  · have := sq_le (a := rt n + 1) (b := r) (by omega) (by omega)
    omega
  · exact h
  · have := sq_le (a := r + 1) (b := rt n) (by omega) (by omega)
    omega
def rtu (n : Int) : Int := if rt n * rt n < n then rt n + 1 else rt n
theorem rt_small {n : Int} (h : n < 4611686018427387904) (h0 : 0 ≤ n) : rt n < 2147483648 := by
  have a := rt_le h0
  rcases Int.lt_or_le (rt n) 2147483648 with h | h
  · exact h
  · have := sq_le (a := 2147483648) (by omega) h
    omega
theorem rt_pos {n : Int} (h : 1 ≤ n) : 1 ≤ rt n := by
  have b := rt_lt (n := n) (by omega)
  have c := rt_nn n
  rcases Int.lt_or_le (rt n) 1 with h2 | h2
  · have : rt n = 0 := by omega
    rw [this] at b
    omega
  · exact h2
/-! Newton's step -/
theorem nw_div {n x s : Int} (hs : 0 ≤ s) (h : n < (s + 1) * (s + 1)) (hx : s < x) : n / x ≤ s := by
  have h1 : (s + 1) * (s + 1) ≤ (s + 1) * x := Int.mul_le_mul_of_nonneg_left (by omega) (by omega)
  have h2 : n / x < s + 1 := Int.ediv_lt_of_lt_mul (by omega) (by omega)
  omega
theorem nw_ge {n x s : Int} (hn : s * s ≤ n) (hx : 0 < x) : 2 * s ≤ x + n / x := by
  have h1 : n < (n / x + 1) * x := Int.lt_ediv_add_one_mul_self n hx
  rcases Int.lt_or_le (x + n / x) (2 * s) with h | h
  · have h2 : (n / x + 1) * x ≤ (2 * s - x) * x := Int.mul_le_mul_of_nonneg_right (by omega) (by omega)
    have h3 : 0 ≤ (s - x) * (s - x) := by
      rcases Int.le_total 0 (s - x) with q | q
      · exact Int.mul_nonneg q q
      · exact Int.mul_nonneg_of_nonpos_of_nonpos q q
    have h4 : (s - x) * (s - x) = s * s - 2 * (s * x) + x * x := by
      rw [Int.sub_mul, Int.mul_sub, Int.mul_sub, Int.mul_comm x s]; omega
    have h5 : (2 * s - x) * x = 2 * (s * x) - x * x := by
      rw [Int.sub_mul, Int.mul_assoc]
    omega
  · exact h
theorem nw_half {d B : Int} (i : Nat) (h : d ≤ B / 2 ^ i) : d / 2 ≤ B / 2 ^ (i + 1) := by
  have h1 : d / 2 ≤ B / 2 ^ i / 2 := Int.ediv_le_ediv (by decide) h
  rw [Int.ediv_ediv_of_nonneg (by exact Int.le_of_lt (Int.pow_pos (by decide)))] at h1
  rw [Int.pow_succ]
  exact h1
/-! quotients -/
theorem qu_up {a b : Int} (hb : 0 < b) : a / b + (if 0 < a % b then 1 else 0) = qu a b := by
  unfold qu
  have h1 := Int.emod_add_mul_ediv a b
  have h2 := Int.emod_lt_of_pos a hb
  have h3 := Int.emod_nonneg a (Int.ne_of_gt hb)
  by_cases h : 0 < a % b
  · rw [if_pos h]
    have e : a + b - 1 = (a % b - 1) + b * (a / b + 1) := by rw [Int.mul_add]; omega
    have z : (a % b - 1) / b = 0 := Int.ediv_eq_zero_of_lt (by omega) (by omega)
    rw [e, Int.add_mul_ediv_left _ _ (Int.ne_of_gt hb), z]
    omega
  · rw [if_neg h]
    have e : a + b - 1 = (b - 1) + b * (a / b) := by omega
    have z : (b - 1) / b = 0 := Int.ediv_eq_zero_of_lt (by omega) (by omega)
    rw [e, Int.add_mul_ediv_left _ _ (Int.ne_of_gt hb), z]
    omega
theorem qu_nn {a b : Int} (ha : 0 ≤ a) (hb : 0 < b) : 0 ≤ qu a b := Int.ediv_nonneg (by omega) (by omega)
/-! machine shifts by known amounts -/
theorem sh_l {x : Int} {k : Nat} (hk : k < 64) : Int64.ofInt x <<< ((Int32.ofInt (k : Int)).toInt64 &&& 63) = Int64.ofInt (x * 2 ^ k) := by
  have e : ∀ k, k < 64 → (((Int32.ofInt ((k : Nat) : Int)).toInt64 &&& 63).toBitVec.smod 64) = BitVec.ofNat 64 k := by decide
  apply Int64.toBitVec_inj.mp
  rw [Int64.toBitVec_shiftLeft, e k hk, Int64.toBitVec_ofInt, Int64.toBitVec_ofInt]
  apply BitVec.eq_of_toNat_eq
  rw [BitVec.shiftLeft_eq', BitVec.toNat_shiftLeft, BitVec.toNat_ofInt, BitVec.toNat_ofInt, BitVec.toNat_ofNat, Nat.shiftLeft_eq, Nat.mod_eq_of_lt (a := k) (by omega)]
  have h1 : (0 : Int) ≤ x % (2 ^ 64 : Nat) := Int.emod_nonneg _ (by decide)
  have h2 : (0 : Int) ≤ x * 2 ^ k % (2 ^ 64 : Nat) := Int.emod_nonneg _ (by decide)
  apply Int.ofNat_inj.mp
  rw [Int.toNat_of_nonneg h2, Int.natCast_emod, Int.natCast_mul, Int.toNat_of_nonneg h1, Int.mul_emod, Int.emod_emod, ← Int.mul_emod]
  simp
end
section
set_option maxHeartbeats 4000000 in
set_option maxRecDepth 100000 in
theorem c_X5_isWithin {σ : Mem} {n a b : Int} (hn : R32 n) (ha : R32 a) (hb : R32 b) : Sp1 yX5_isWithin cX5_isWithin 3 (some .boolean) 1 0 [vi n, vi a, vi b] σ (fun r σ' => σ = σ' ∧ (r = 0 ∨ r = 1) ∧ (r = 1 ↔ a ≤ n ∧ n ≤ b)) := by
  refine Sp1_in RX5 rfl (by decide +kernel) (Nat.le_of_ble_eq_true rfl) [some (vi n), some (vi a), some (vi b)] rfl ?_
  intro K h hr
  refine mi_iload_n h dX5_isWithin_0 (by rfl) ?_
  refine mi_iload_n h dX5_isWithin_1 (by rfl) ?_
  refine mi_icmp_lt (tgt := 14) h dX5_isWithin_2 (by decide) ⟨by omega, by omega⟩ ⟨by omega, by omega⟩ (fun e2 => ?_) (fun e2 => ?_)
  · refine mi_iconst h dX5_isWithin_14 ?_
    refine mi_zreturn h hr dX5_isWithin_15 (by omega) ?_
    exact ⟨rfl, by omega, by omega⟩
  · refine mi_iload_n h dX5_isWithin_5 (by rfl) ?_
    refine mi_iload_n h dX5_isWithin_6 (by rfl) ?_
    refine mi_icmp_gt (tgt := 14) h dX5_isWithin_7 (by decide) ⟨by omega, by omega⟩ ⟨by omega, by omega⟩ (fun e7 => ?_) (fun e7 => ?_)
    · refine mi_iconst h dX5_isWithin_14 ?_
      refine mi_zreturn h hr dX5_isWithin_15 (by omega) ?_
      exact ⟨rfl, by omega, by omega⟩
    · refine mi_iconst h dX5_isWithin_10 ?_
      refine mi_goto (tgt := 15) h dX5_isWithin_11 (by decide) ?_
      refine mi_zreturn h hr dX5_isWithin_15 (by omega) ?_
      exact ⟨rfl, by omega, by omega⟩
set_option maxHeartbeats 4000000 in
set_option maxRecDepth 100000 in
theorem c_X5_isSide {σ : Mem} {n : Int} (hn : R32 n) : Sp1 yX5_isSide cX5_isSide 1 (some .boolean) 1 0 [vi n] σ (fun r σ' => σ = σ' ∧ (r = 0 ∨ r = 1) ∧ (r = 1 ↔ n = 0 ∨ n = 1)) := by
  refine Sp1_in RX5 rfl (by decide +kernel) (Nat.le_of_ble_eq_true rfl) [some (vi n)] rfl ?_
  intro K h hr
  refine mi_iload_n h dX5_isSide_0 (by rfl) ?_
  refine mi_if_eq (tgt := 9) h dX5_isSide_1 (by decide) ⟨by omega, by omega⟩ (fun e1 => ?_) (fun e1 => ?_)
  · refine mi_iconst h dX5_isSide_9 ?_
    refine mi_goto (tgt := 14) h dX5_isSide_10 (by decide) ?_
    refine mi_zreturn h hr dX5_isSide_14 (by omega) ?_
    exact ⟨rfl, by omega, by omega⟩
  · refine mi_iload_n h dX5_isSide_4 (by rfl) ?_
    refine mi_iconst h dX5_isSide_5 ?_
    refine mi_icmp_ne (tgt := 13) h dX5_isSide_6 (by decide) ⟨by omega, by omega⟩ ⟨by omega, by omega⟩ (fun e6 => ?_) (fun e6 => ?_)
    · refine mi_iconst h dX5_isSide_13 ?_
      refine mi_zreturn h hr dX5_isSide_14 (by omega) ?_
      exact ⟨rfl, by omega, by omega⟩
    · refine mi_iconst h dX5_isSide_9 ?_
      refine mi_goto (tgt := 14) h dX5_isSide_10 (by decide) ?_
      refine mi_zreturn h hr dX5_isSide_14 (by omega) ?_
      exact ⟨rfl, by omega, by omega⟩
set_option maxHeartbeats 4000000 in
set_option maxRecDepth 100000 in
theorem c_X6_in {σ : Mem} {n a b : Int} (hn : R64 n) (ha : R64 a) (hb : R64 b) : Sp1 yX6_in cX6_in 6 (some .boolean) 1 0 [vl n, vl a, vl b] σ (fun r σ' => σ = σ' ∧ (r = 0 ∨ r = 1) ∧ (r = 1 ↔ a ≤ n ∧ n ≤ b)) := by
  refine Sp1_in RX6 rfl (by decide +kernel) (Nat.le_of_ble_eq_true rfl) [some (vl n), none, some (vl a), none, some (vl b), none] rfl ?_
  intro K h hr
  refine mi_lload_n h dX6_in_0 (by rfl) ?_
  refine mi_lload_n h dX6_in_1 (by rfl) ?_
  refine mi_lcmp_lt (tgt := 17) h dX6_in_2 dX6_in_3 (by decide) ⟨by omega, by omega⟩ ⟨by omega, by omega⟩ (fun e2 => ?_) (fun e2 => ?_)
  · refine mi_iconst h dX6_in_17 ?_
    refine mi_zreturn h hr dX6_in_18 (by omega) ?_
    exact ⟨rfl, by omega, by omega⟩
  · refine mi_lload_n h dX6_in_6 (by rfl) ?_
    refine mi_lload h dX6_in_7 (by rfl) ?_
    refine mi_lcmp_gt (tgt := 17) h dX6_in_9 dX6_in_10 (by decide) ⟨by omega, by omega⟩ ⟨by omega, by omega⟩ (fun e9 => ?_) (fun e9 => ?_)
    · refine mi_iconst h dX6_in_17 ?_
      refine mi_zreturn h hr dX6_in_18 (by omega) ?_
      exact ⟨rfl, by omega, by omega⟩
    · refine mi_iconst h dX6_in_13 ?_
      refine mi_goto (tgt := 18) h dX6_in_14 (by decide) ?_
      refine mi_zreturn h hr dX6_in_18 (by omega) ?_
      exact ⟨rfl, by omega, by omega⟩
set_option maxHeartbeats 4000000 in
set_option maxRecDepth 100000 in
theorem c_X6_asInt {σ : Mem} {n : Int} (hn : n = 0 ∨ n = 1) : Sp1 yX6_asInt cX6_asInt 1 (some .int) 1 0 [vi n] σ (fun r σ' => σ = σ' ∧ r = n) := by
  refine Sp1_in RX6 rfl (by decide +kernel) (Nat.le_of_ble_eq_true rfl) [some (vi n)] rfl ?_
  intro K h hr
  refine mi_iload_n h dX6_asInt_0 (by rfl) ?_
  refine mi_if_eq (tgt := 8) h dX6_asInt_1 (by decide) ⟨by omega, by omega⟩ (fun e1 => ?_) (fun e1 => ?_)
  · refine mi_iconst h dX6_asInt_8 ?_
    refine mi_ireturn h hr dX6_asInt_9 ?_
    exact ⟨rfl, by omega⟩
  · refine mi_iconst h dX6_asInt_4 ?_
    refine mi_goto (tgt := 9) h dX6_asInt_5 (by decide) ?_
    refine mi_ireturn h hr dX6_asInt_9 ?_
    exact ⟨rfl, by omega⟩
set_option maxHeartbeats 4000000 in
set_option maxRecDepth 100000 in
theorem c_J9_abs_0f7a4 {σ : Mem} {n : Int} (hn : -2147483648 < n ∧ n < 2147483648) : Sp1 yJ9_abs_0f7a4 cJ9_abs_0f7a4 1 (some .int) 1 0 [vi n] σ (fun r σ' => σ = σ' ∧ 0 ≤ r ∧ (r = n ∨ r = -n)) := by
  refine Sp1_in RJ9 rfl (by decide +kernel) (Nat.le_of_ble_eq_true rfl) [some (vi n)] rfl ?_
  intro K h hr
  refine mi_iload_n h dJ9_abs_0f7a4_0 (by rfl) ?_
  refine mi_if_ge (tgt := 9) h dJ9_abs_0f7a4_1 (by decide) ⟨by omega, by omega⟩ (fun e1 => ?_) (fun e1 => ?_)
  · refine mi_iload_n h dJ9_abs_0f7a4_9 (by rfl) ?_
    refine mi_ireturn h hr dJ9_abs_0f7a4_10 ?_
    exact ⟨rfl, by omega, by omega⟩
  · refine mi_iload_n h dJ9_abs_0f7a4_4 (by rfl) ?_
    refine mi_ineg h dJ9_abs_0f7a4_5 ?_
    refine mi_goto (tgt := 10) h dJ9_abs_0f7a4_6 (by decide) ?_
    refine mi_ireturn h hr dJ9_abs_0f7a4_10 ?_
    exact ⟨rfl, by omega, by omega⟩
set_option maxHeartbeats 4000000 in
set_option maxRecDepth 100000 in
theorem c_J9_min_f86c9 {σ : Mem} {a b : Int} (ha : R64 a) (hb : R64 b) : Sp1 yJ9_min_f86c9 cJ9_min_f86c9 4 (some .long) 2 0 [vl a, vl b] σ (fun r σ' => σ = σ' ∧ r = min a b) := by
  refine Sp1_in RJ9 rfl (by decide +kernel) (Nat.le_of_ble_eq_true rfl) [some (vl a), none, some (vl b), none] rfl ?_
  intro K h hr
  refine mi_lload_n h dJ9_min_f86c9_0 (by rfl) ?_
  refine mi_lload_n h dJ9_min_f86c9_1 (by rfl) ?_
  refine mi_lcmp_gt (tgt := 10) h dJ9_min_f86c9_2 dJ9_min_f86c9_3 (by decide) ⟨by omega, by omega⟩ ⟨by omega, by omega⟩ (fun e2 => ?_) (fun e2 => ?_)
  · refine mi_lload_n h dJ9_min_f86c9_10 (by rfl) ?_
    refine mi_lreturn h hr dJ9_min_f86c9_11 ?_
    exact ⟨rfl, by omega⟩
  · refine mi_lload_n h dJ9_min_f86c9_6 (by rfl) ?_
    refine mi_goto (tgt := 11) h dJ9_min_f86c9_7 (by decide) ?_
    refine mi_lreturn h hr dJ9_min_f86c9_11 ?_
    exact ⟨rfl, by omega⟩
set_option maxHeartbeats 4000000 in
set_option maxRecDepth 100000 in
theorem c_J9_min_7cf53 {σ : Mem} {a b : Int} (ha : R32 a) (hb : R32 b) : Sp1 yJ9_min_7cf53 cJ9_min_7cf53 2 (some .int) 1 0 [vi a, vi b] σ (fun r σ' => σ = σ' ∧ r = min a b) := by
  refine Sp1_in RJ9 rfl (by decide +kernel) (Nat.le_of_ble_eq_true rfl) [some (vi a), some (vi b)] rfl ?_
  intro K h hr
  refine mi_iload_n h dJ9_min_7cf53_0 (by rfl) ?_
  refine mi_iload_n h dJ9_min_7cf53_1 (by rfl) ?_
  refine mi_icmp_gt (tgt := 9) h dJ9_min_7cf53_2 (by decide) ⟨by omega, by omega⟩ ⟨by omega, by omega⟩ (fun e2 => ?_) (fun e2 => ?_)
  · refine mi_iload_n h dJ9_min_7cf53_9 (by rfl) ?_
    refine mi_ireturn h hr dJ9_min_7cf53_10 ?_
    exact ⟨rfl, by omega⟩
  · refine mi_iload_n h dJ9_min_7cf53_5 (by rfl) ?_
    refine mi_goto (tgt := 10) h dJ9_min_7cf53_6 (by decide) ?_
    refine mi_ireturn h hr dJ9_min_7cf53_10 ?_
    exact ⟨rfl, by omega⟩
set_option maxHeartbeats 4000000 in
set_option maxRecDepth 100000 in
theorem c_J9_max_7cf53 {σ : Mem} {a b : Int} (ha : R32 a) (hb : R32 b) : Sp1 yJ9_max_7cf53 cJ9_max_7cf53 2 (some .int) 1 0 [vi a, vi b] σ (fun r σ' => σ = σ' ∧ r = max a b) := by
  refine Sp1_in RJ9 rfl (by decide +kernel) (Nat.le_of_ble_eq_true rfl) [some (vi a), some (vi b)] rfl ?_
  intro K h hr
  refine mi_iload_n h dJ9_max_7cf53_0 (by rfl) ?_
  refine mi_iload_n h dJ9_max_7cf53_1 (by rfl) ?_
  refine mi_icmp_lt (tgt := 9) h dJ9_max_7cf53_2 (by decide) ⟨by omega, by omega⟩ ⟨by omega, by omega⟩ (fun e2 => ?_) (fun e2 => ?_)
  · refine mi_iload_n h dJ9_max_7cf53_9 (by rfl) ?_
    refine mi_ireturn h hr dJ9_max_7cf53_10 ?_
    exact ⟨rfl, by omega⟩
  · refine mi_iload_n h dJ9_max_7cf53_5 (by rfl) ?_
    refine mi_goto (tgt := 10) h dJ9_max_7cf53_6 (by decide) ?_
    refine mi_ireturn h hr dJ9_max_7cf53_10 ?_
    exact ⟨rfl, by omega⟩
set_option maxHeartbeats 4000000 in
set_option maxRecDepth 100000 in
theorem c_X3_quotient {σ : Mem} {n b u : Int} (hn : 0 ≤ n ∧ n < 4611686018427387904) (hb : 0 < b ∧ b < 4611686018427387904) (hu : u = 0 ∨ u = 1) : Sp1 yX3_quotient cX3_quotient 5 (some .long) 2 0 [vl n, vl b, vi u] σ (fun r σ' => σ = σ' ∧ r = if u = 1 then qu n b else n / b) := by
  refine Sp1_in RX3 rfl (by decide +kernel) (Nat.le_of_ble_eq_true rfl) [some (vl n), none, some (vl b), none, some (vi u)] rfl ?_
  intro K h hr
  refine mi_lload_n h dX3_quotient_0 (by rfl) ?_
  refine mi_lconst1 h dX3_quotient_1 ?_
  refine mi_lcmp_ge (tgt := 8) h dX3_quotient_2 dX3_quotient_3 (by decide) ⟨by omega, by omega⟩ ⟨by omega, by omega⟩ (fun e2 => ?_) (fun e2 => ?_)
  · refine mi_iload h dX3_quotient_8 (by rfl) ?_
    refine mi_if_eq (tgt := 23) h dX3_quotient_10 (by decide) ⟨by omega, by omega⟩ (fun e10 => ?_) (fun e10 => ?_)
    · refine mi_lload_n h dX3_quotient_23 (by rfl) ?_
      refine mi_lload_n h dX3_quotient_24 (by rfl) ?_
      refine mi_ldiv h dX3_quotient_25 ⟨by omega, by omega⟩ ⟨by omega, by omega⟩ ?_
      refine mi_lreturn h hr dX3_quotient_26 ?_
      first | exact ⟨rfl, by rw [if_pos (by omega)]; rfl⟩ | exact ⟨rfl, by rw [if_neg (by omega)]⟩
    · refine mi_lload_n h dX3_quotient_13 (by rfl) ?_
      refine mi_lload_n h dX3_quotient_14 (by rfl) ?_
      refine mi_ladd h dX3_quotient_15 ?_
      refine mi_lconst1 h dX3_quotient_16 ?_
      refine mi_lsub h dX3_quotient_17 ?_
      refine mi_lload_n h dX3_quotient_18 (by rfl) ?_
      refine mi_ldiv h dX3_quotient_19 ⟨by omega, by omega⟩ ⟨by omega, by omega⟩ ?_
      refine mi_goto (tgt := 26) h dX3_quotient_20 (by decide) ?_
      refine mi_lreturn h hr dX3_quotient_26 ?_
      first | exact ⟨rfl, by rw [if_pos (by omega)]; rfl⟩ | exact ⟨rfl, by rw [if_neg (by omega)]⟩
  · exfalso; omega
end
section
theorem us32 {x : Int} {k : Nat} (hk : k < 32) (h : 0 ≤ x ∧ x < 4294967296) : ((Int32.ofInt x).toUInt32 >>> ((Int32.ofInt (k : Int)).toUInt32 &&& Int32.toUInt32 31)).toInt32 = Int32.ofInt (x / 2 ^ k) := by
  have e : ∀ k, k < 32 → (((Int32.ofInt ((k : Nat) : Int)).toUInt32 &&& Int32.toUInt32 31).toBitVec % 32).toNat = k := by decide
  obtain ⟨n, rfl⟩ := Int.eq_ofNat_of_zero_le h.1
  have h1 := pk_ushrN (n := n) (by omega) (Int32.ofInt (k : Int)) k (e k hk)
  have e2 : nI n = Int32.ofInt (n : Int) := Int32.ofInt_eq_ofNat.symm
  have e3 : nI (n / 2 ^ k) = Int32.ofInt ((n : Int) / 2 ^ k) := by
    rw [show ((n : Int) / 2 ^ k) = ((n / 2 ^ k : Nat) : Int) by simp]
    exact Int32.ofInt_eq_ofNat.symm
  rw [e2, e3] at h1
  exact h1
theorem mt_l {K : KT} {pc : Nat} {ls : List (Option MV)} {st : List MV} {σ : Mem} {x : Int} (k : ∀ y : Int, y = x → M K pc ls (vl y :: st) σ) : M K pc ls (vl x :: st) σ := k x rfl
theorem mt_i {K : KT} {pc : Nat} {ls : List (Option MV)} {st : List MV} {σ : Mem} {x : Int} (k : ∀ y : Int, y = x → M K pc ls (vi y :: st) σ) : M K pc ls (vi x :: st) σ := k x rfl
theorem Sp1_as {y : MethodName} {bytes : ByteArray} {maxL : Nat} {rt : Option FieldType} {rk lev : Nat} {as bs : List MV} {σ : Mem} {po : Int → Mem → Prop} (h : Sp1 y bytes maxL rt rk lev as σ po) (e : ∀ ad, as.map (cvv ad) = bs.map (cvv ad)) : Sp1 y bytes maxL rt rk lev bs σ po := by
  intro l D ad cA sz
  rw [← e ad]
  exact h l D ad cA sz
theorem Sp1_mono {y : MethodName} {bytes : ByteArray} {maxL : Nat} {rt : Option FieldType} {rk lev : Nat} {as : List MV} {σ : Mem} {po po' : Int → Mem → Prop} (h : Sp1 y bytes maxL rt rk lev as σ po) (hp : po = po') : Sp1 y bytes maxL rt rk lev as σ po' := hp ▸ h
theorem Sp1_imp {y : MethodName} {bytes : ByteArray} {maxL : Nat} {rt : Option FieldType} {rk lev : Nat} {as : List MV} {σ : Mem} {po po' : Int → Mem → Prop} (h : Sp1 y bytes maxL rt rk lev as σ po) (hp : ∀ r σ', po r σ' → po' r σ') : Sp1 y bytes maxL rt rk lev as σ po' := by
  intro l D ad cA sz p e h1 h2 h3 s m args below h4 h5 h6 h7
  obtain ⟨n, o, a, b, c, ⟨r, σ', q1, q2, q3⟩, d⟩ := h l D ad cA sz p e h1 h2 h3 s m args below h4 h5 h6 h7
  exact ⟨n, o, a, b, c, ⟨r, σ', q1, hp _ _ q2, q3⟩, d⟩
theorem us_1 {x : Int} (h : 0 ≤ x ∧ x < 4294967296) : ((Int32.ofInt x).toUInt32 >>> ((Int32.ofInt 1).toUInt32 &&& Int32.toUInt32 31)).toInt32 = Int32.ofInt (x / 2) := us32 (k := 1) (by decide) h
theorem us_2 {x : Int} (h : 0 ≤ x ∧ x < 4294967296) : ((Int32.ofInt x).toUInt32 >>> ((Int32.ofInt 2).toUInt32 &&& Int32.toUInt32 31)).toInt32 = Int32.ofInt (x / 4) := us32 (k := 2) (by decide) h
theorem us_4 {x : Int} (h : 0 ≤ x ∧ x < 4294967296) : ((Int32.ofInt x).toUInt32 >>> ((Int32.ofInt 4).toUInt32 &&& Int32.toUInt32 31)).toInt32 = Int32.ofInt (x / 16) := us32 (k := 4) (by decide) h
theorem us_8 {x : Int} (h : 0 ≤ x ∧ x < 4294967296) : ((Int32.ofInt x).toUInt32 >>> ((Int32.ofInt 8).toUInt32 &&& Int32.toUInt32 31)).toInt32 = Int32.ofInt (x / 256) := us32 (k := 8) (by decide) h
theorem us_16 {x : Int} (h : 0 ≤ x ∧ x < 4294967296) : ((Int32.ofInt x).toUInt32 >>> ((Int32.ofInt 16).toUInt32 &&& Int32.toUInt32 31)).toInt32 = Int32.ofInt (x / 65536) := us32 (k := 16) (by decide) h
theorem ul_32 {x : Int} (h : 0 ≤ x ∧ x < 9223372036854775808) : ((Int64.ofInt x).toUInt64 >>> ((Int32.ofInt 32).toInt64.toUInt64 &&& Int64.toUInt64 63)).toInt64 = Int64.ofInt (x / 4294967296) := by
  obtain ⟨n, rfl⟩ := Int.eq_ofNat_of_zero_le h.1
  rw [show (n : Int) / 4294967296 = ((n / 4294967296 : Nat) : Int) by omega]
  apply Int64.toBitVec_inj.mp
  apply BitVec.eq_of_toNat_eq
  have e : (((Int32.ofInt 32).toInt64.toUInt64 &&& Int64.toUInt64 63).toBitVec % 64).toNat = 32 := by decide
  rw [Int64.ofInt_eq_ofNat, Int64.ofInt_eq_ofNat]
  show (((Int64.ofNat n).toUInt64 >>> _).toBitVec).toNat = _
  rw [UInt64.toBitVec_shiftRight]
  show ((Int64.ofNat n).toUInt64.toBitVec >>> (((Int32.ofInt 32).toInt64.toUInt64 &&& Int64.toUInt64 63).toBitVec % 64).toNat).toNat = _
  rw [e, BitVec.toNat_ushiftRight]
  show ((Int64.ofNat n).toBitVec.toNat) >>> 32 = (Int64.ofNat (n / 4294967296)).toBitVec.toNat
  rw [Int64.toBitVec_ofNat', Int64.toBitVec_ofNat', BitVec.toNat_ofNat, BitVec.toNat_ofNat, Nat.shiftRight_eq_div_pow]
  omega
theorem p2_le {a b : Nat} (h : a ≤ b) : (2 : Int) ^ a ≤ 2 ^ b := by
  have := Nat.pow_le_pow_right (n := 2) (by decide) h
  exact_mod_cast this
theorem lz_0 {x : Int} (h : 2147483648 ≤ x ∧ x < 4294967296) : 2 ^ (31 - (0 : Int).toNat) ≤ x ∧ x < 2 ^ (32 - (0 : Int).toNat) := by
  rw [show (2 : Int) ^ (31 - (0 : Int).toNat) = 2147483648 by decide, show (2 : Int) ^ (32 - (0 : Int).toNat) = 4294967296 by decide]
  exact h
theorem lz_1 {x : Int} (h : 1073741824 ≤ x ∧ x < 2147483648) : 2 ^ (31 - (1 : Int).toNat) ≤ x ∧ x < 2 ^ (32 - (1 : Int).toNat) := by
  rw [show (2 : Int) ^ (31 - (1 : Int).toNat) = 1073741824 by decide, show (2 : Int) ^ (32 - (1 : Int).toNat) = 2147483648 by decide]
  exact h
theorem lz_2 {x : Int} (h : 536870912 ≤ x ∧ x < 1073741824) : 2 ^ (31 - (2 : Int).toNat) ≤ x ∧ x < 2 ^ (32 - (2 : Int).toNat) := by
  rw [show (2 : Int) ^ (31 - (2 : Int).toNat) = 536870912 by decide, show (2 : Int) ^ (32 - (2 : Int).toNat) = 1073741824 by decide]
  exact h
theorem lz_3 {x : Int} (h : 268435456 ≤ x ∧ x < 536870912) : 2 ^ (31 - (3 : Int).toNat) ≤ x ∧ x < 2 ^ (32 - (3 : Int).toNat) := by
  rw [show (2 : Int) ^ (31 - (3 : Int).toNat) = 268435456 by decide, show (2 : Int) ^ (32 - (3 : Int).toNat) = 536870912 by decide]
  exact h
theorem lz_4 {x : Int} (h : 134217728 ≤ x ∧ x < 268435456) : 2 ^ (31 - (4 : Int).toNat) ≤ x ∧ x < 2 ^ (32 - (4 : Int).toNat) := by
  rw [show (2 : Int) ^ (31 - (4 : Int).toNat) = 134217728 by decide, show (2 : Int) ^ (32 - (4 : Int).toNat) = 268435456 by decide]
  exact h
theorem lz_5 {x : Int} (h : 67108864 ≤ x ∧ x < 134217728) : 2 ^ (31 - (5 : Int).toNat) ≤ x ∧ x < 2 ^ (32 - (5 : Int).toNat) := by
  rw [show (2 : Int) ^ (31 - (5 : Int).toNat) = 67108864 by decide, show (2 : Int) ^ (32 - (5 : Int).toNat) = 134217728 by decide]
  exact h
theorem lz_6 {x : Int} (h : 33554432 ≤ x ∧ x < 67108864) : 2 ^ (31 - (6 : Int).toNat) ≤ x ∧ x < 2 ^ (32 - (6 : Int).toNat) := by
  rw [show (2 : Int) ^ (31 - (6 : Int).toNat) = 33554432 by decide, show (2 : Int) ^ (32 - (6 : Int).toNat) = 67108864 by decide]
  exact h
theorem lz_7 {x : Int} (h : 16777216 ≤ x ∧ x < 33554432) : 2 ^ (31 - (7 : Int).toNat) ≤ x ∧ x < 2 ^ (32 - (7 : Int).toNat) := by
  rw [show (2 : Int) ^ (31 - (7 : Int).toNat) = 16777216 by decide, show (2 : Int) ^ (32 - (7 : Int).toNat) = 33554432 by decide]
  exact h
theorem lz_8 {x : Int} (h : 8388608 ≤ x ∧ x < 16777216) : 2 ^ (31 - (8 : Int).toNat) ≤ x ∧ x < 2 ^ (32 - (8 : Int).toNat) := by
  rw [show (2 : Int) ^ (31 - (8 : Int).toNat) = 8388608 by decide, show (2 : Int) ^ (32 - (8 : Int).toNat) = 16777216 by decide]
  exact h
theorem lz_9 {x : Int} (h : 4194304 ≤ x ∧ x < 8388608) : 2 ^ (31 - (9 : Int).toNat) ≤ x ∧ x < 2 ^ (32 - (9 : Int).toNat) := by
  rw [show (2 : Int) ^ (31 - (9 : Int).toNat) = 4194304 by decide, show (2 : Int) ^ (32 - (9 : Int).toNat) = 8388608 by decide]
  exact h
theorem lz_10 {x : Int} (h : 2097152 ≤ x ∧ x < 4194304) : 2 ^ (31 - (10 : Int).toNat) ≤ x ∧ x < 2 ^ (32 - (10 : Int).toNat) := by
  rw [show (2 : Int) ^ (31 - (10 : Int).toNat) = 2097152 by decide, show (2 : Int) ^ (32 - (10 : Int).toNat) = 4194304 by decide]
  exact h
theorem lz_11 {x : Int} (h : 1048576 ≤ x ∧ x < 2097152) : 2 ^ (31 - (11 : Int).toNat) ≤ x ∧ x < 2 ^ (32 - (11 : Int).toNat) := by
  rw [show (2 : Int) ^ (31 - (11 : Int).toNat) = 1048576 by decide, show (2 : Int) ^ (32 - (11 : Int).toNat) = 2097152 by decide]
  exact h
theorem lz_12 {x : Int} (h : 524288 ≤ x ∧ x < 1048576) : 2 ^ (31 - (12 : Int).toNat) ≤ x ∧ x < 2 ^ (32 - (12 : Int).toNat) := by
  rw [show (2 : Int) ^ (31 - (12 : Int).toNat) = 524288 by decide, show (2 : Int) ^ (32 - (12 : Int).toNat) = 1048576 by decide]
  exact h
theorem lz_13 {x : Int} (h : 262144 ≤ x ∧ x < 524288) : 2 ^ (31 - (13 : Int).toNat) ≤ x ∧ x < 2 ^ (32 - (13 : Int).toNat) := by
  rw [show (2 : Int) ^ (31 - (13 : Int).toNat) = 262144 by decide, show (2 : Int) ^ (32 - (13 : Int).toNat) = 524288 by decide]
  exact h
theorem lz_14 {x : Int} (h : 131072 ≤ x ∧ x < 262144) : 2 ^ (31 - (14 : Int).toNat) ≤ x ∧ x < 2 ^ (32 - (14 : Int).toNat) := by
  rw [show (2 : Int) ^ (31 - (14 : Int).toNat) = 131072 by decide, show (2 : Int) ^ (32 - (14 : Int).toNat) = 262144 by decide]
  exact h
theorem lz_15 {x : Int} (h : 65536 ≤ x ∧ x < 131072) : 2 ^ (31 - (15 : Int).toNat) ≤ x ∧ x < 2 ^ (32 - (15 : Int).toNat) := by
  rw [show (2 : Int) ^ (31 - (15 : Int).toNat) = 65536 by decide, show (2 : Int) ^ (32 - (15 : Int).toNat) = 131072 by decide]
  exact h
theorem lz_16 {x : Int} (h : 32768 ≤ x ∧ x < 65536) : 2 ^ (31 - (16 : Int).toNat) ≤ x ∧ x < 2 ^ (32 - (16 : Int).toNat) := by
  rw [show (2 : Int) ^ (31 - (16 : Int).toNat) = 32768 by decide, show (2 : Int) ^ (32 - (16 : Int).toNat) = 65536 by decide]
  exact h
theorem lz_17 {x : Int} (h : 16384 ≤ x ∧ x < 32768) : 2 ^ (31 - (17 : Int).toNat) ≤ x ∧ x < 2 ^ (32 - (17 : Int).toNat) := by
  rw [show (2 : Int) ^ (31 - (17 : Int).toNat) = 16384 by decide, show (2 : Int) ^ (32 - (17 : Int).toNat) = 32768 by decide]
  exact h
theorem lz_18 {x : Int} (h : 8192 ≤ x ∧ x < 16384) : 2 ^ (31 - (18 : Int).toNat) ≤ x ∧ x < 2 ^ (32 - (18 : Int).toNat) := by
  rw [show (2 : Int) ^ (31 - (18 : Int).toNat) = 8192 by decide, show (2 : Int) ^ (32 - (18 : Int).toNat) = 16384 by decide]
  exact h
theorem lz_19 {x : Int} (h : 4096 ≤ x ∧ x < 8192) : 2 ^ (31 - (19 : Int).toNat) ≤ x ∧ x < 2 ^ (32 - (19 : Int).toNat) := by
  rw [show (2 : Int) ^ (31 - (19 : Int).toNat) = 4096 by decide, show (2 : Int) ^ (32 - (19 : Int).toNat) = 8192 by decide]
  exact h
theorem lz_20 {x : Int} (h : 2048 ≤ x ∧ x < 4096) : 2 ^ (31 - (20 : Int).toNat) ≤ x ∧ x < 2 ^ (32 - (20 : Int).toNat) := by
  rw [show (2 : Int) ^ (31 - (20 : Int).toNat) = 2048 by decide, show (2 : Int) ^ (32 - (20 : Int).toNat) = 4096 by decide]
  exact h
theorem lz_21 {x : Int} (h : 1024 ≤ x ∧ x < 2048) : 2 ^ (31 - (21 : Int).toNat) ≤ x ∧ x < 2 ^ (32 - (21 : Int).toNat) := by
  rw [show (2 : Int) ^ (31 - (21 : Int).toNat) = 1024 by decide, show (2 : Int) ^ (32 - (21 : Int).toNat) = 2048 by decide]
  exact h
theorem lz_22 {x : Int} (h : 512 ≤ x ∧ x < 1024) : 2 ^ (31 - (22 : Int).toNat) ≤ x ∧ x < 2 ^ (32 - (22 : Int).toNat) := by
  rw [show (2 : Int) ^ (31 - (22 : Int).toNat) = 512 by decide, show (2 : Int) ^ (32 - (22 : Int).toNat) = 1024 by decide]
  exact h
theorem lz_23 {x : Int} (h : 256 ≤ x ∧ x < 512) : 2 ^ (31 - (23 : Int).toNat) ≤ x ∧ x < 2 ^ (32 - (23 : Int).toNat) := by
  rw [show (2 : Int) ^ (31 - (23 : Int).toNat) = 256 by decide, show (2 : Int) ^ (32 - (23 : Int).toNat) = 512 by decide]
  exact h
theorem lz_24 {x : Int} (h : 128 ≤ x ∧ x < 256) : 2 ^ (31 - (24 : Int).toNat) ≤ x ∧ x < 2 ^ (32 - (24 : Int).toNat) := by
  rw [show (2 : Int) ^ (31 - (24 : Int).toNat) = 128 by decide, show (2 : Int) ^ (32 - (24 : Int).toNat) = 256 by decide]
  exact h
theorem lz_25 {x : Int} (h : 64 ≤ x ∧ x < 128) : 2 ^ (31 - (25 : Int).toNat) ≤ x ∧ x < 2 ^ (32 - (25 : Int).toNat) := by
  rw [show (2 : Int) ^ (31 - (25 : Int).toNat) = 64 by decide, show (2 : Int) ^ (32 - (25 : Int).toNat) = 128 by decide]
  exact h
theorem lz_26 {x : Int} (h : 32 ≤ x ∧ x < 64) : 2 ^ (31 - (26 : Int).toNat) ≤ x ∧ x < 2 ^ (32 - (26 : Int).toNat) := by
  rw [show (2 : Int) ^ (31 - (26 : Int).toNat) = 32 by decide, show (2 : Int) ^ (32 - (26 : Int).toNat) = 64 by decide]
  exact h
theorem lz_27 {x : Int} (h : 16 ≤ x ∧ x < 32) : 2 ^ (31 - (27 : Int).toNat) ≤ x ∧ x < 2 ^ (32 - (27 : Int).toNat) := by
  rw [show (2 : Int) ^ (31 - (27 : Int).toNat) = 16 by decide, show (2 : Int) ^ (32 - (27 : Int).toNat) = 32 by decide]
  exact h
theorem lz_28 {x : Int} (h : 8 ≤ x ∧ x < 16) : 2 ^ (31 - (28 : Int).toNat) ≤ x ∧ x < 2 ^ (32 - (28 : Int).toNat) := by
  rw [show (2 : Int) ^ (31 - (28 : Int).toNat) = 8 by decide, show (2 : Int) ^ (32 - (28 : Int).toNat) = 16 by decide]
  exact h
theorem lz_29 {x : Int} (h : 4 ≤ x ∧ x < 8) : 2 ^ (31 - (29 : Int).toNat) ≤ x ∧ x < 2 ^ (32 - (29 : Int).toNat) := by
  rw [show (2 : Int) ^ (31 - (29 : Int).toNat) = 4 by decide, show (2 : Int) ^ (32 - (29 : Int).toNat) = 8 by decide]
  exact h
theorem lz_30 {x : Int} (h : 2 ≤ x ∧ x < 4) : 2 ^ (31 - (30 : Int).toNat) ≤ x ∧ x < 2 ^ (32 - (30 : Int).toNat) := by
  rw [show (2 : Int) ^ (31 - (30 : Int).toNat) = 2 by decide, show (2 : Int) ^ (32 - (30 : Int).toNat) = 4 by decide]
  exact h
theorem lz_31 {x : Int} (h : 1 ≤ x ∧ x < 2) : 2 ^ (31 - (31 : Int).toNat) ≤ x ∧ x < 2 ^ (32 - (31 : Int).toNat) := by
  rw [show (2 : Int) ^ (31 - (31 : Int).toNat) = 1 by decide, show (2 : Int) ^ (32 - (31 : Int).toNat) = 2 by decide]
  exact h
set_option maxHeartbeats 4000000 in
set_option maxRecDepth 100000 in
theorem c_J6_numberOfLeadingZeros_0f7a4 {σ : Mem} {x : Int} (hx : 1 ≤ x ∧ x < 2147483648) : Sp1 yJ6_numberOfLeadingZeros_0f7a4 cJ6_numberOfLeadingZeros_0f7a4 2 (some .int) 1 0 [vi x] σ (fun r σ' => σ = σ' ∧ 0 ≤ r ∧ r ≤ 31 ∧ 2 ^ (31 - r.toNat) ≤ x ∧ x < 2 ^ (32 - r.toNat)) := by
  refine Sp1_in RJ6 rfl (by decide +kernel) (Nat.le_of_ble_eq_true rfl) [some (vi x), none] rfl ?_
  intro K h hr
  refine mi_iload_n h dJ6_numberOfLeadingZeros_0f7a4_0 (by rfl) ?_
  refine mi_if_gt (tgt := 15) h dJ6_numberOfLeadingZeros_0f7a4_1 (by decide) ⟨by omega, by omega⟩ (fun e1 => ?_) (fun e1 => ?_)
  · refine mi_bipush h dJ6_numberOfLeadingZeros_0f7a4_15 (by decide) ?_
    refine mi_istore_n h dJ6_numberOfLeadingZeros_0f7a4_17 (by decide) ?_
    refine mi_iload_n h dJ6_numberOfLeadingZeros_0f7a4_18 (by rfl) ?_
    refine mi_ldc_w (z := 65536) h dJ6_numberOfLeadingZeros_0f7a4_19 kc_RJ6_264 rfl ?_
    refine mi_icmp_lt (tgt := 33) h dJ6_numberOfLeadingZeros_0f7a4_22 (by decide) ⟨by omega, by omega⟩ ⟨by omega, by omega⟩ (fun e22 => ?_) (fun e22 => ?_)
    · refine mi_iload_n h dJ6_numberOfLeadingZeros_0f7a4_33 (by rfl) ?_
      refine mi_sipush h dJ6_numberOfLeadingZeros_0f7a4_34 (by decide) ?_
      refine mi_icmp_lt (tgt := 48) h dJ6_numberOfLeadingZeros_0f7a4_37 (by decide) ⟨by omega, by omega⟩ ⟨by omega, by omega⟩ (fun e37 => ?_) (fun e37 => ?_)
      · refine mi_iload_n h dJ6_numberOfLeadingZeros_0f7a4_48 (by rfl) ?_
        refine mi_bipush h dJ6_numberOfLeadingZeros_0f7a4_49 (by decide) ?_
        refine mi_icmp_lt (tgt := 61) h dJ6_numberOfLeadingZeros_0f7a4_51 (by decide) ⟨by omega, by omega⟩ ⟨by omega, by omega⟩ (fun e51 => ?_) (fun e51 => ?_)
        · refine mi_iload_n h dJ6_numberOfLeadingZeros_0f7a4_61 (by rfl) ?_
          refine mi_iconst h dJ6_numberOfLeadingZeros_0f7a4_62 ?_
          refine mi_icmp_lt (tgt := 73) h dJ6_numberOfLeadingZeros_0f7a4_63 (by decide) ⟨by omega, by omega⟩ ⟨by omega, by omega⟩ (fun e63 => ?_) (fun e63 => ?_)
          · refine mi_iload_n h dJ6_numberOfLeadingZeros_0f7a4_73 (by rfl) ?_
            refine mi_iload_n h dJ6_numberOfLeadingZeros_0f7a4_74 (by rfl) ?_
            refine mi_iconst h dJ6_numberOfLeadingZeros_0f7a4_75 ?_
            refine mi_iushr h dJ6_numberOfLeadingZeros_0f7a4_76 (us_1 ⟨by omega, by omega⟩) ?_
            refine mi_isub h dJ6_numberOfLeadingZeros_0f7a4_77 ?_
            refine mt_i (fun y ey => ?_)
            refine mi_ireturn h hr dJ6_numberOfLeadingZeros_0f7a4_78 ?_
            first | (have q9 : y = 0 ∨ y = 1 := (by omega); rcases q9 with q | q <;> subst q <;> first | exact ⟨rfl, by decide, by decide, lz_0 ⟨by omega, by omega⟩⟩ | exact ⟨rfl, by decide, by decide, lz_1 ⟨by omega, by omega⟩⟩) | (have q9 : y = 2 ∨ y = 3 := (by omega); rcases q9 with q | q <;> subst q <;> first | exact ⟨rfl, by decide, by decide, lz_2 ⟨by omega, by omega⟩⟩ | exact ⟨rfl, by decide, by decide, lz_3 ⟨by omega, by omega⟩⟩) | (have q9 : y = 4 ∨ y = 5 := (by omega); rcases q9 with q | q <;> subst q <;> first | exact ⟨rfl, by decide, by decide, lz_4 ⟨by omega, by omega⟩⟩ | exact ⟨rfl, by decide, by decide, lz_5 ⟨by omega, by omega⟩⟩) | (have q9 : y = 6 ∨ y = 7 := (by omega); rcases q9 with q | q <;> subst q <;> first | exact ⟨rfl, by decide, by decide, lz_6 ⟨by omega, by omega⟩⟩ | exact ⟨rfl, by decide, by decide, lz_7 ⟨by omega, by omega⟩⟩) | (have q9 : y = 8 ∨ y = 9 := (by omega); rcases q9 with q | q <;> subst q <;> first | exact ⟨rfl, by decide, by decide, lz_8 ⟨by omega, by omega⟩⟩ | exact ⟨rfl, by decide, by decide, lz_9 ⟨by omega, by omega⟩⟩) | (have q9 : y = 10 ∨ y = 11 := (by omega); rcases q9 with q | q <;> subst q <;> first | exact ⟨rfl, by decide, by decide, lz_10 ⟨by omega, by omega⟩⟩ | exact ⟨rfl, by decide, by decide, lz_11 ⟨by omega, by omega⟩⟩) | (have q9 : y = 12 ∨ y = 13 := (by omega); rcases q9 with q | q <;> subst q <;> first | exact ⟨rfl, by decide, by decide, lz_12 ⟨by omega, by omega⟩⟩ | exact ⟨rfl, by decide, by decide, lz_13 ⟨by omega, by omega⟩⟩) | (have q9 : y = 14 ∨ y = 15 := (by omega); rcases q9 with q | q <;> subst q <;> first | exact ⟨rfl, by decide, by decide, lz_14 ⟨by omega, by omega⟩⟩ | exact ⟨rfl, by decide, by decide, lz_15 ⟨by omega, by omega⟩⟩) | (have q9 : y = 16 ∨ y = 17 := (by omega); rcases q9 with q | q <;> subst q <;> first | exact ⟨rfl, by decide, by decide, lz_16 ⟨by omega, by omega⟩⟩ | exact ⟨rfl, by decide, by decide, lz_17 ⟨by omega, by omega⟩⟩) | (have q9 : y = 18 ∨ y = 19 := (by omega); rcases q9 with q | q <;> subst q <;> first | exact ⟨rfl, by decide, by decide, lz_18 ⟨by omega, by omega⟩⟩ | exact ⟨rfl, by decide, by decide, lz_19 ⟨by omega, by omega⟩⟩) | (have q9 : y = 20 ∨ y = 21 := (by omega); rcases q9 with q | q <;> subst q <;> first | exact ⟨rfl, by decide, by decide, lz_20 ⟨by omega, by omega⟩⟩ | exact ⟨rfl, by decide, by decide, lz_21 ⟨by omega, by omega⟩⟩) | (have q9 : y = 22 ∨ y = 23 := (by omega); rcases q9 with q | q <;> subst q <;> first | exact ⟨rfl, by decide, by decide, lz_22 ⟨by omega, by omega⟩⟩ | exact ⟨rfl, by decide, by decide, lz_23 ⟨by omega, by omega⟩⟩) | (have q9 : y = 24 ∨ y = 25 := (by omega); rcases q9 with q | q <;> subst q <;> first | exact ⟨rfl, by decide, by decide, lz_24 ⟨by omega, by omega⟩⟩ | exact ⟨rfl, by decide, by decide, lz_25 ⟨by omega, by omega⟩⟩) | (have q9 : y = 26 ∨ y = 27 := (by omega); rcases q9 with q | q <;> subst q <;> first | exact ⟨rfl, by decide, by decide, lz_26 ⟨by omega, by omega⟩⟩ | exact ⟨rfl, by decide, by decide, lz_27 ⟨by omega, by omega⟩⟩) | (have q9 : y = 28 ∨ y = 29 := (by omega); rcases q9 with q | q <;> subst q <;> first | exact ⟨rfl, by decide, by decide, lz_28 ⟨by omega, by omega⟩⟩ | exact ⟨rfl, by decide, by decide, lz_29 ⟨by omega, by omega⟩⟩) | (have q9 : y = 30 ∨ y = 31 := (by omega); rcases q9 with q | q <;> subst q <;> first | exact ⟨rfl, by decide, by decide, lz_30 ⟨by omega, by omega⟩⟩ | exact ⟨rfl, by decide, by decide, lz_31 ⟨by omega, by omega⟩⟩)
          · refine mi_iinc h dJ6_numberOfLeadingZeros_0f7a4_66 (by rfl) ?_ (by decide)
            refine mi_iload_n h dJ6_numberOfLeadingZeros_0f7a4_69 (by rfl) ?_
            refine mi_iconst h dJ6_numberOfLeadingZeros_0f7a4_70 ?_
            refine mi_iushr h dJ6_numberOfLeadingZeros_0f7a4_71 (us_2 ⟨by omega, by omega⟩) ?_
            refine mi_istore_n h dJ6_numberOfLeadingZeros_0f7a4_72 (by decide) ?_
            refine mi_iload_n h dJ6_numberOfLeadingZeros_0f7a4_73 (by rfl) ?_
            refine mi_iload_n h dJ6_numberOfLeadingZeros_0f7a4_74 (by rfl) ?_
            refine mi_iconst h dJ6_numberOfLeadingZeros_0f7a4_75 ?_
            refine mi_iushr h dJ6_numberOfLeadingZeros_0f7a4_76 (us_1 ⟨by omega, by omega⟩) ?_
            refine mi_isub h dJ6_numberOfLeadingZeros_0f7a4_77 ?_
            refine mt_i (fun y ey => ?_)
            refine mi_ireturn h hr dJ6_numberOfLeadingZeros_0f7a4_78 ?_
            first | (have q9 : y = 0 ∨ y = 1 := (by omega); rcases q9 with q | q <;> subst q <;> first | exact ⟨rfl, by decide, by decide, lz_0 ⟨by omega, by omega⟩⟩ | exact ⟨rfl, by decide, by decide, lz_1 ⟨by omega, by omega⟩⟩) | (have q9 : y = 2 ∨ y = 3 := (by omega); rcases q9 with q | q <;> subst q <;> first | exact ⟨rfl, by decide, by decide, lz_2 ⟨by omega, by omega⟩⟩ | exact ⟨rfl, by decide, by decide, lz_3 ⟨by omega, by omega⟩⟩) | (have q9 : y = 4 ∨ y = 5 := (by omega); rcases q9 with q | q <;> subst q <;> first | exact ⟨rfl, by decide, by decide, lz_4 ⟨by omega, by omega⟩⟩ | exact ⟨rfl, by decide, by decide, lz_5 ⟨by omega, by omega⟩⟩) | (have q9 : y = 6 ∨ y = 7 := (by omega); rcases q9 with q | q <;> subst q <;> first | exact ⟨rfl, by decide, by decide, lz_6 ⟨by omega, by omega⟩⟩ | exact ⟨rfl, by decide, by decide, lz_7 ⟨by omega, by omega⟩⟩) | (have q9 : y = 8 ∨ y = 9 := (by omega); rcases q9 with q | q <;> subst q <;> first | exact ⟨rfl, by decide, by decide, lz_8 ⟨by omega, by omega⟩⟩ | exact ⟨rfl, by decide, by decide, lz_9 ⟨by omega, by omega⟩⟩) | (have q9 : y = 10 ∨ y = 11 := (by omega); rcases q9 with q | q <;> subst q <;> first | exact ⟨rfl, by decide, by decide, lz_10 ⟨by omega, by omega⟩⟩ | exact ⟨rfl, by decide, by decide, lz_11 ⟨by omega, by omega⟩⟩) | (have q9 : y = 12 ∨ y = 13 := (by omega); rcases q9 with q | q <;> subst q <;> first | exact ⟨rfl, by decide, by decide, lz_12 ⟨by omega, by omega⟩⟩ | exact ⟨rfl, by decide, by decide, lz_13 ⟨by omega, by omega⟩⟩) | (have q9 : y = 14 ∨ y = 15 := (by omega); rcases q9 with q | q <;> subst q <;> first | exact ⟨rfl, by decide, by decide, lz_14 ⟨by omega, by omega⟩⟩ | exact ⟨rfl, by decide, by decide, lz_15 ⟨by omega, by omega⟩⟩) | (have q9 : y = 16 ∨ y = 17 := (by omega); rcases q9 with q | q <;> subst q <;> first | exact ⟨rfl, by decide, by decide, lz_16 ⟨by omega, by omega⟩⟩ | exact ⟨rfl, by decide, by decide, lz_17 ⟨by omega, by omega⟩⟩) | (have q9 : y = 18 ∨ y = 19 := (by omega); rcases q9 with q | q <;> subst q <;> first | exact ⟨rfl, by decide, by decide, lz_18 ⟨by omega, by omega⟩⟩ | exact ⟨rfl, by decide, by decide, lz_19 ⟨by omega, by omega⟩⟩) | (have q9 : y = 20 ∨ y = 21 := (by omega); rcases q9 with q | q <;> subst q <;> first | exact ⟨rfl, by decide, by decide, lz_20 ⟨by omega, by omega⟩⟩ | exact ⟨rfl, by decide, by decide, lz_21 ⟨by omega, by omega⟩⟩) | (have q9 : y = 22 ∨ y = 23 := (by omega); rcases q9 with q | q <;> subst q <;> first | exact ⟨rfl, by decide, by decide, lz_22 ⟨by omega, by omega⟩⟩ | exact ⟨rfl, by decide, by decide, lz_23 ⟨by omega, by omega⟩⟩) | (have q9 : y = 24 ∨ y = 25 := (by omega); rcases q9 with q | q <;> subst q <;> first | exact ⟨rfl, by decide, by decide, lz_24 ⟨by omega, by omega⟩⟩ | exact ⟨rfl, by decide, by decide, lz_25 ⟨by omega, by omega⟩⟩) | (have q9 : y = 26 ∨ y = 27 := (by omega); rcases q9 with q | q <;> subst q <;> first | exact ⟨rfl, by decide, by decide, lz_26 ⟨by omega, by omega⟩⟩ | exact ⟨rfl, by decide, by decide, lz_27 ⟨by omega, by omega⟩⟩) | (have q9 : y = 28 ∨ y = 29 := (by omega); rcases q9 with q | q <;> subst q <;> first | exact ⟨rfl, by decide, by decide, lz_28 ⟨by omega, by omega⟩⟩ | exact ⟨rfl, by decide, by decide, lz_29 ⟨by omega, by omega⟩⟩) | (have q9 : y = 30 ∨ y = 31 := (by omega); rcases q9 with q | q <;> subst q <;> first | exact ⟨rfl, by decide, by decide, lz_30 ⟨by omega, by omega⟩⟩ | exact ⟨rfl, by decide, by decide, lz_31 ⟨by omega, by omega⟩⟩)
        · refine mi_iinc h dJ6_numberOfLeadingZeros_0f7a4_54 (by rfl) ?_ (by decide)
          refine mi_iload_n h dJ6_numberOfLeadingZeros_0f7a4_57 (by rfl) ?_
          refine mi_iconst h dJ6_numberOfLeadingZeros_0f7a4_58 ?_
          refine mi_iushr h dJ6_numberOfLeadingZeros_0f7a4_59 (us_4 ⟨by omega, by omega⟩) ?_
          refine mi_istore_n h dJ6_numberOfLeadingZeros_0f7a4_60 (by decide) ?_
          refine mi_iload_n h dJ6_numberOfLeadingZeros_0f7a4_61 (by rfl) ?_
          refine mi_iconst h dJ6_numberOfLeadingZeros_0f7a4_62 ?_
          refine mi_icmp_lt (tgt := 73) h dJ6_numberOfLeadingZeros_0f7a4_63 (by decide) ⟨by omega, by omega⟩ ⟨by omega, by omega⟩ (fun e63 => ?_) (fun e63 => ?_)
          · refine mi_iload_n h dJ6_numberOfLeadingZeros_0f7a4_73 (by rfl) ?_
            refine mi_iload_n h dJ6_numberOfLeadingZeros_0f7a4_74 (by rfl) ?_
            refine mi_iconst h dJ6_numberOfLeadingZeros_0f7a4_75 ?_
            refine mi_iushr h dJ6_numberOfLeadingZeros_0f7a4_76 (us_1 ⟨by omega, by omega⟩) ?_
            refine mi_isub h dJ6_numberOfLeadingZeros_0f7a4_77 ?_
            refine mt_i (fun y ey => ?_)
            refine mi_ireturn h hr dJ6_numberOfLeadingZeros_0f7a4_78 ?_
            first | (have q9 : y = 0 ∨ y = 1 := (by omega); rcases q9 with q | q <;> subst q <;> first | exact ⟨rfl, by decide, by decide, lz_0 ⟨by omega, by omega⟩⟩ | exact ⟨rfl, by decide, by decide, lz_1 ⟨by omega, by omega⟩⟩) | (have q9 : y = 2 ∨ y = 3 := (by omega); rcases q9 with q | q <;> subst q <;> first | exact ⟨rfl, by decide, by decide, lz_2 ⟨by omega, by omega⟩⟩ | exact ⟨rfl, by decide, by decide, lz_3 ⟨by omega, by omega⟩⟩) | (have q9 : y = 4 ∨ y = 5 := (by omega); rcases q9 with q | q <;> subst q <;> first | exact ⟨rfl, by decide, by decide, lz_4 ⟨by omega, by omega⟩⟩ | exact ⟨rfl, by decide, by decide, lz_5 ⟨by omega, by omega⟩⟩) | (have q9 : y = 6 ∨ y = 7 := (by omega); rcases q9 with q | q <;> subst q <;> first | exact ⟨rfl, by decide, by decide, lz_6 ⟨by omega, by omega⟩⟩ | exact ⟨rfl, by decide, by decide, lz_7 ⟨by omega, by omega⟩⟩) | (have q9 : y = 8 ∨ y = 9 := (by omega); rcases q9 with q | q <;> subst q <;> first | exact ⟨rfl, by decide, by decide, lz_8 ⟨by omega, by omega⟩⟩ | exact ⟨rfl, by decide, by decide, lz_9 ⟨by omega, by omega⟩⟩) | (have q9 : y = 10 ∨ y = 11 := (by omega); rcases q9 with q | q <;> subst q <;> first | exact ⟨rfl, by decide, by decide, lz_10 ⟨by omega, by omega⟩⟩ | exact ⟨rfl, by decide, by decide, lz_11 ⟨by omega, by omega⟩⟩) | (have q9 : y = 12 ∨ y = 13 := (by omega); rcases q9 with q | q <;> subst q <;> first | exact ⟨rfl, by decide, by decide, lz_12 ⟨by omega, by omega⟩⟩ | exact ⟨rfl, by decide, by decide, lz_13 ⟨by omega, by omega⟩⟩) | (have q9 : y = 14 ∨ y = 15 := (by omega); rcases q9 with q | q <;> subst q <;> first | exact ⟨rfl, by decide, by decide, lz_14 ⟨by omega, by omega⟩⟩ | exact ⟨rfl, by decide, by decide, lz_15 ⟨by omega, by omega⟩⟩) | (have q9 : y = 16 ∨ y = 17 := (by omega); rcases q9 with q | q <;> subst q <;> first | exact ⟨rfl, by decide, by decide, lz_16 ⟨by omega, by omega⟩⟩ | exact ⟨rfl, by decide, by decide, lz_17 ⟨by omega, by omega⟩⟩) | (have q9 : y = 18 ∨ y = 19 := (by omega); rcases q9 with q | q <;> subst q <;> first | exact ⟨rfl, by decide, by decide, lz_18 ⟨by omega, by omega⟩⟩ | exact ⟨rfl, by decide, by decide, lz_19 ⟨by omega, by omega⟩⟩) | (have q9 : y = 20 ∨ y = 21 := (by omega); rcases q9 with q | q <;> subst q <;> first | exact ⟨rfl, by decide, by decide, lz_20 ⟨by omega, by omega⟩⟩ | exact ⟨rfl, by decide, by decide, lz_21 ⟨by omega, by omega⟩⟩) | (have q9 : y = 22 ∨ y = 23 := (by omega); rcases q9 with q | q <;> subst q <;> first | exact ⟨rfl, by decide, by decide, lz_22 ⟨by omega, by omega⟩⟩ | exact ⟨rfl, by decide, by decide, lz_23 ⟨by omega, by omega⟩⟩) | (have q9 : y = 24 ∨ y = 25 := (by omega); rcases q9 with q | q <;> subst q <;> first | exact ⟨rfl, by decide, by decide, lz_24 ⟨by omega, by omega⟩⟩ | exact ⟨rfl, by decide, by decide, lz_25 ⟨by omega, by omega⟩⟩) | (have q9 : y = 26 ∨ y = 27 := (by omega); rcases q9 with q | q <;> subst q <;> first | exact ⟨rfl, by decide, by decide, lz_26 ⟨by omega, by omega⟩⟩ | exact ⟨rfl, by decide, by decide, lz_27 ⟨by omega, by omega⟩⟩) | (have q9 : y = 28 ∨ y = 29 := (by omega); rcases q9 with q | q <;> subst q <;> first | exact ⟨rfl, by decide, by decide, lz_28 ⟨by omega, by omega⟩⟩ | exact ⟨rfl, by decide, by decide, lz_29 ⟨by omega, by omega⟩⟩) | (have q9 : y = 30 ∨ y = 31 := (by omega); rcases q9 with q | q <;> subst q <;> first | exact ⟨rfl, by decide, by decide, lz_30 ⟨by omega, by omega⟩⟩ | exact ⟨rfl, by decide, by decide, lz_31 ⟨by omega, by omega⟩⟩)
          · refine mi_iinc h dJ6_numberOfLeadingZeros_0f7a4_66 (by rfl) ?_ (by decide)
            refine mi_iload_n h dJ6_numberOfLeadingZeros_0f7a4_69 (by rfl) ?_
            refine mi_iconst h dJ6_numberOfLeadingZeros_0f7a4_70 ?_
            refine mi_iushr h dJ6_numberOfLeadingZeros_0f7a4_71 (us_2 ⟨by omega, by omega⟩) ?_
            refine mi_istore_n h dJ6_numberOfLeadingZeros_0f7a4_72 (by decide) ?_
            refine mi_iload_n h dJ6_numberOfLeadingZeros_0f7a4_73 (by rfl) ?_
            refine mi_iload_n h dJ6_numberOfLeadingZeros_0f7a4_74 (by rfl) ?_
            refine mi_iconst h dJ6_numberOfLeadingZeros_0f7a4_75 ?_
            refine mi_iushr h dJ6_numberOfLeadingZeros_0f7a4_76 (us_1 ⟨by omega, by omega⟩) ?_
            refine mi_isub h dJ6_numberOfLeadingZeros_0f7a4_77 ?_
            refine mt_i (fun y ey => ?_)
            refine mi_ireturn h hr dJ6_numberOfLeadingZeros_0f7a4_78 ?_
            first | (have q9 : y = 0 ∨ y = 1 := (by omega); rcases q9 with q | q <;> subst q <;> first | exact ⟨rfl, by decide, by decide, lz_0 ⟨by omega, by omega⟩⟩ | exact ⟨rfl, by decide, by decide, lz_1 ⟨by omega, by omega⟩⟩) | (have q9 : y = 2 ∨ y = 3 := (by omega); rcases q9 with q | q <;> subst q <;> first | exact ⟨rfl, by decide, by decide, lz_2 ⟨by omega, by omega⟩⟩ | exact ⟨rfl, by decide, by decide, lz_3 ⟨by omega, by omega⟩⟩) | (have q9 : y = 4 ∨ y = 5 := (by omega); rcases q9 with q | q <;> subst q <;> first | exact ⟨rfl, by decide, by decide, lz_4 ⟨by omega, by omega⟩⟩ | exact ⟨rfl, by decide, by decide, lz_5 ⟨by omega, by omega⟩⟩) | (have q9 : y = 6 ∨ y = 7 := (by omega); rcases q9 with q | q <;> subst q <;> first | exact ⟨rfl, by decide, by decide, lz_6 ⟨by omega, by omega⟩⟩ | exact ⟨rfl, by decide, by decide, lz_7 ⟨by omega, by omega⟩⟩) | (have q9 : y = 8 ∨ y = 9 := (by omega); rcases q9 with q | q <;> subst q <;> first | exact ⟨rfl, by decide, by decide, lz_8 ⟨by omega, by omega⟩⟩ | exact ⟨rfl, by decide, by decide, lz_9 ⟨by omega, by omega⟩⟩) | (have q9 : y = 10 ∨ y = 11 := (by omega); rcases q9 with q | q <;> subst q <;> first | exact ⟨rfl, by decide, by decide, lz_10 ⟨by omega, by omega⟩⟩ | exact ⟨rfl, by decide, by decide, lz_11 ⟨by omega, by omega⟩⟩) | (have q9 : y = 12 ∨ y = 13 := (by omega); rcases q9 with q | q <;> subst q <;> first | exact ⟨rfl, by decide, by decide, lz_12 ⟨by omega, by omega⟩⟩ | exact ⟨rfl, by decide, by decide, lz_13 ⟨by omega, by omega⟩⟩) | (have q9 : y = 14 ∨ y = 15 := (by omega); rcases q9 with q | q <;> subst q <;> first | exact ⟨rfl, by decide, by decide, lz_14 ⟨by omega, by omega⟩⟩ | exact ⟨rfl, by decide, by decide, lz_15 ⟨by omega, by omega⟩⟩) | (have q9 : y = 16 ∨ y = 17 := (by omega); rcases q9 with q | q <;> subst q <;> first | exact ⟨rfl, by decide, by decide, lz_16 ⟨by omega, by omega⟩⟩ | exact ⟨rfl, by decide, by decide, lz_17 ⟨by omega, by omega⟩⟩) | (have q9 : y = 18 ∨ y = 19 := (by omega); rcases q9 with q | q <;> subst q <;> first | exact ⟨rfl, by decide, by decide, lz_18 ⟨by omega, by omega⟩⟩ | exact ⟨rfl, by decide, by decide, lz_19 ⟨by omega, by omega⟩⟩) | (have q9 : y = 20 ∨ y = 21 := (by omega); rcases q9 with q | q <;> subst q <;> first | exact ⟨rfl, by decide, by decide, lz_20 ⟨by omega, by omega⟩⟩ | exact ⟨rfl, by decide, by decide, lz_21 ⟨by omega, by omega⟩⟩) | (have q9 : y = 22 ∨ y = 23 := (by omega); rcases q9 with q | q <;> subst q <;> first | exact ⟨rfl, by decide, by decide, lz_22 ⟨by omega, by omega⟩⟩ | exact ⟨rfl, by decide, by decide, lz_23 ⟨by omega, by omega⟩⟩) | (have q9 : y = 24 ∨ y = 25 := (by omega); rcases q9 with q | q <;> subst q <;> first | exact ⟨rfl, by decide, by decide, lz_24 ⟨by omega, by omega⟩⟩ | exact ⟨rfl, by decide, by decide, lz_25 ⟨by omega, by omega⟩⟩) | (have q9 : y = 26 ∨ y = 27 := (by omega); rcases q9 with q | q <;> subst q <;> first | exact ⟨rfl, by decide, by decide, lz_26 ⟨by omega, by omega⟩⟩ | exact ⟨rfl, by decide, by decide, lz_27 ⟨by omega, by omega⟩⟩) | (have q9 : y = 28 ∨ y = 29 := (by omega); rcases q9 with q | q <;> subst q <;> first | exact ⟨rfl, by decide, by decide, lz_28 ⟨by omega, by omega⟩⟩ | exact ⟨rfl, by decide, by decide, lz_29 ⟨by omega, by omega⟩⟩) | (have q9 : y = 30 ∨ y = 31 := (by omega); rcases q9 with q | q <;> subst q <;> first | exact ⟨rfl, by decide, by decide, lz_30 ⟨by omega, by omega⟩⟩ | exact ⟨rfl, by decide, by decide, lz_31 ⟨by omega, by omega⟩⟩)
      · refine mi_iinc h dJ6_numberOfLeadingZeros_0f7a4_40 (by rfl) ?_ (by decide)
        refine mi_iload_n h dJ6_numberOfLeadingZeros_0f7a4_43 (by rfl) ?_
        refine mi_bipush h dJ6_numberOfLeadingZeros_0f7a4_44 (by decide) ?_
        refine mi_iushr h dJ6_numberOfLeadingZeros_0f7a4_46 (us_8 ⟨by omega, by omega⟩) ?_
        refine mi_istore_n h dJ6_numberOfLeadingZeros_0f7a4_47 (by decide) ?_
        refine mi_iload_n h dJ6_numberOfLeadingZeros_0f7a4_48 (by rfl) ?_
        refine mi_bipush h dJ6_numberOfLeadingZeros_0f7a4_49 (by decide) ?_
        refine mi_icmp_lt (tgt := 61) h dJ6_numberOfLeadingZeros_0f7a4_51 (by decide) ⟨by omega, by omega⟩ ⟨by omega, by omega⟩ (fun e51 => ?_) (fun e51 => ?_)
        · refine mi_iload_n h dJ6_numberOfLeadingZeros_0f7a4_61 (by rfl) ?_
          refine mi_iconst h dJ6_numberOfLeadingZeros_0f7a4_62 ?_
          refine mi_icmp_lt (tgt := 73) h dJ6_numberOfLeadingZeros_0f7a4_63 (by decide) ⟨by omega, by omega⟩ ⟨by omega, by omega⟩ (fun e63 => ?_) (fun e63 => ?_)
          · refine mi_iload_n h dJ6_numberOfLeadingZeros_0f7a4_73 (by rfl) ?_
            refine mi_iload_n h dJ6_numberOfLeadingZeros_0f7a4_74 (by rfl) ?_
            refine mi_iconst h dJ6_numberOfLeadingZeros_0f7a4_75 ?_
            refine mi_iushr h dJ6_numberOfLeadingZeros_0f7a4_76 (us_1 ⟨by omega, by omega⟩) ?_
            refine mi_isub h dJ6_numberOfLeadingZeros_0f7a4_77 ?_
            refine mt_i (fun y ey => ?_)
            refine mi_ireturn h hr dJ6_numberOfLeadingZeros_0f7a4_78 ?_
            first | (have q9 : y = 0 ∨ y = 1 := (by omega); rcases q9 with q | q <;> subst q <;> first | exact ⟨rfl, by decide, by decide, lz_0 ⟨by omega, by omega⟩⟩ | exact ⟨rfl, by decide, by decide, lz_1 ⟨by omega, by omega⟩⟩) | (have q9 : y = 2 ∨ y = 3 := (by omega); rcases q9 with q | q <;> subst q <;> first | exact ⟨rfl, by decide, by decide, lz_2 ⟨by omega, by omega⟩⟩ | exact ⟨rfl, by decide, by decide, lz_3 ⟨by omega, by omega⟩⟩) | (have q9 : y = 4 ∨ y = 5 := (by omega); rcases q9 with q | q <;> subst q <;> first | exact ⟨rfl, by decide, by decide, lz_4 ⟨by omega, by omega⟩⟩ | exact ⟨rfl, by decide, by decide, lz_5 ⟨by omega, by omega⟩⟩) | (have q9 : y = 6 ∨ y = 7 := (by omega); rcases q9 with q | q <;> subst q <;> first | exact ⟨rfl, by decide, by decide, lz_6 ⟨by omega, by omega⟩⟩ | exact ⟨rfl, by decide, by decide, lz_7 ⟨by omega, by omega⟩⟩) | (have q9 : y = 8 ∨ y = 9 := (by omega); rcases q9 with q | q <;> subst q <;> first | exact ⟨rfl, by decide, by decide, lz_8 ⟨by omega, by omega⟩⟩ | exact ⟨rfl, by decide, by decide, lz_9 ⟨by omega, by omega⟩⟩) | (have q9 : y = 10 ∨ y = 11 := (by omega); rcases q9 with q | q <;> subst q <;> first | exact ⟨rfl, by decide, by decide, lz_10 ⟨by omega, by omega⟩⟩ | exact ⟨rfl, by decide, by decide, lz_11 ⟨by omega, by omega⟩⟩) | (have q9 : y = 12 ∨ y = 13 := (by omega); rcases q9 with q | q <;> subst q <;> first | exact ⟨rfl, by decide, by decide, lz_12 ⟨by omega, by omega⟩⟩ | exact ⟨rfl, by decide, by decide, lz_13 ⟨by omega, by omega⟩⟩) | (have q9 : y = 14 ∨ y = 15 := (by omega); rcases q9 with q | q <;> subst q <;> first | exact ⟨rfl, by decide, by decide, lz_14 ⟨by omega, by omega⟩⟩ | exact ⟨rfl, by decide, by decide, lz_15 ⟨by omega, by omega⟩⟩) | (have q9 : y = 16 ∨ y = 17 := (by omega); rcases q9 with q | q <;> subst q <;> first | exact ⟨rfl, by decide, by decide, lz_16 ⟨by omega, by omega⟩⟩ | exact ⟨rfl, by decide, by decide, lz_17 ⟨by omega, by omega⟩⟩) | (have q9 : y = 18 ∨ y = 19 := (by omega); rcases q9 with q | q <;> subst q <;> first | exact ⟨rfl, by decide, by decide, lz_18 ⟨by omega, by omega⟩⟩ | exact ⟨rfl, by decide, by decide, lz_19 ⟨by omega, by omega⟩⟩) | (have q9 : y = 20 ∨ y = 21 := (by omega); rcases q9 with q | q <;> subst q <;> first | exact ⟨rfl, by decide, by decide, lz_20 ⟨by omega, by omega⟩⟩ | exact ⟨rfl, by decide, by decide, lz_21 ⟨by omega, by omega⟩⟩) | (have q9 : y = 22 ∨ y = 23 := (by omega); rcases q9 with q | q <;> subst q <;> first | exact ⟨rfl, by decide, by decide, lz_22 ⟨by omega, by omega⟩⟩ | exact ⟨rfl, by decide, by decide, lz_23 ⟨by omega, by omega⟩⟩) | (have q9 : y = 24 ∨ y = 25 := (by omega); rcases q9 with q | q <;> subst q <;> first | exact ⟨rfl, by decide, by decide, lz_24 ⟨by omega, by omega⟩⟩ | exact ⟨rfl, by decide, by decide, lz_25 ⟨by omega, by omega⟩⟩) | (have q9 : y = 26 ∨ y = 27 := (by omega); rcases q9 with q | q <;> subst q <;> first | exact ⟨rfl, by decide, by decide, lz_26 ⟨by omega, by omega⟩⟩ | exact ⟨rfl, by decide, by decide, lz_27 ⟨by omega, by omega⟩⟩) | (have q9 : y = 28 ∨ y = 29 := (by omega); rcases q9 with q | q <;> subst q <;> first | exact ⟨rfl, by decide, by decide, lz_28 ⟨by omega, by omega⟩⟩ | exact ⟨rfl, by decide, by decide, lz_29 ⟨by omega, by omega⟩⟩) | (have q9 : y = 30 ∨ y = 31 := (by omega); rcases q9 with q | q <;> subst q <;> first | exact ⟨rfl, by decide, by decide, lz_30 ⟨by omega, by omega⟩⟩ | exact ⟨rfl, by decide, by decide, lz_31 ⟨by omega, by omega⟩⟩)
          · refine mi_iinc h dJ6_numberOfLeadingZeros_0f7a4_66 (by rfl) ?_ (by decide)
            refine mi_iload_n h dJ6_numberOfLeadingZeros_0f7a4_69 (by rfl) ?_
            refine mi_iconst h dJ6_numberOfLeadingZeros_0f7a4_70 ?_
            refine mi_iushr h dJ6_numberOfLeadingZeros_0f7a4_71 (us_2 ⟨by omega, by omega⟩) ?_
            refine mi_istore_n h dJ6_numberOfLeadingZeros_0f7a4_72 (by decide) ?_
            refine mi_iload_n h dJ6_numberOfLeadingZeros_0f7a4_73 (by rfl) ?_
            refine mi_iload_n h dJ6_numberOfLeadingZeros_0f7a4_74 (by rfl) ?_
            refine mi_iconst h dJ6_numberOfLeadingZeros_0f7a4_75 ?_
            refine mi_iushr h dJ6_numberOfLeadingZeros_0f7a4_76 (us_1 ⟨by omega, by omega⟩) ?_
            refine mi_isub h dJ6_numberOfLeadingZeros_0f7a4_77 ?_
            refine mt_i (fun y ey => ?_)
            refine mi_ireturn h hr dJ6_numberOfLeadingZeros_0f7a4_78 ?_
            first | (have q9 : y = 0 ∨ y = 1 := (by omega); rcases q9 with q | q <;> subst q <;> first | exact ⟨rfl, by decide, by decide, lz_0 ⟨by omega, by omega⟩⟩ | exact ⟨rfl, by decide, by decide, lz_1 ⟨by omega, by omega⟩⟩) | (have q9 : y = 2 ∨ y = 3 := (by omega); rcases q9 with q | q <;> subst q <;> first | exact ⟨rfl, by decide, by decide, lz_2 ⟨by omega, by omega⟩⟩ | exact ⟨rfl, by decide, by decide, lz_3 ⟨by omega, by omega⟩⟩) | (have q9 : y = 4 ∨ y = 5 := (by omega); rcases q9 with q | q <;> subst q <;> first | exact ⟨rfl, by decide, by decide, lz_4 ⟨by omega, by omega⟩⟩ | exact ⟨rfl, by decide, by decide, lz_5 ⟨by omega, by omega⟩⟩) | (have q9 : y = 6 ∨ y = 7 := (by omega); rcases q9 with q | q <;> subst q <;> first | exact ⟨rfl, by decide, by decide, lz_6 ⟨by omega, by omega⟩⟩ | exact ⟨rfl, by decide, by decide, lz_7 ⟨by omega, by omega⟩⟩) | (have q9 : y = 8 ∨ y = 9 := (by omega); rcases q9 with q | q <;> subst q <;> first | exact ⟨rfl, by decide, by decide, lz_8 ⟨by omega, by omega⟩⟩ | exact ⟨rfl, by decide, by decide, lz_9 ⟨by omega, by omega⟩⟩) | (have q9 : y = 10 ∨ y = 11 := (by omega); rcases q9 with q | q <;> subst q <;> first | exact ⟨rfl, by decide, by decide, lz_10 ⟨by omega, by omega⟩⟩ | exact ⟨rfl, by decide, by decide, lz_11 ⟨by omega, by omega⟩⟩) | (have q9 : y = 12 ∨ y = 13 := (by omega); rcases q9 with q | q <;> subst q <;> first | exact ⟨rfl, by decide, by decide, lz_12 ⟨by omega, by omega⟩⟩ | exact ⟨rfl, by decide, by decide, lz_13 ⟨by omega, by omega⟩⟩) | (have q9 : y = 14 ∨ y = 15 := (by omega); rcases q9 with q | q <;> subst q <;> first | exact ⟨rfl, by decide, by decide, lz_14 ⟨by omega, by omega⟩⟩ | exact ⟨rfl, by decide, by decide, lz_15 ⟨by omega, by omega⟩⟩) | (have q9 : y = 16 ∨ y = 17 := (by omega); rcases q9 with q | q <;> subst q <;> first | exact ⟨rfl, by decide, by decide, lz_16 ⟨by omega, by omega⟩⟩ | exact ⟨rfl, by decide, by decide, lz_17 ⟨by omega, by omega⟩⟩) | (have q9 : y = 18 ∨ y = 19 := (by omega); rcases q9 with q | q <;> subst q <;> first | exact ⟨rfl, by decide, by decide, lz_18 ⟨by omega, by omega⟩⟩ | exact ⟨rfl, by decide, by decide, lz_19 ⟨by omega, by omega⟩⟩) | (have q9 : y = 20 ∨ y = 21 := (by omega); rcases q9 with q | q <;> subst q <;> first | exact ⟨rfl, by decide, by decide, lz_20 ⟨by omega, by omega⟩⟩ | exact ⟨rfl, by decide, by decide, lz_21 ⟨by omega, by omega⟩⟩) | (have q9 : y = 22 ∨ y = 23 := (by omega); rcases q9 with q | q <;> subst q <;> first | exact ⟨rfl, by decide, by decide, lz_22 ⟨by omega, by omega⟩⟩ | exact ⟨rfl, by decide, by decide, lz_23 ⟨by omega, by omega⟩⟩) | (have q9 : y = 24 ∨ y = 25 := (by omega); rcases q9 with q | q <;> subst q <;> first | exact ⟨rfl, by decide, by decide, lz_24 ⟨by omega, by omega⟩⟩ | exact ⟨rfl, by decide, by decide, lz_25 ⟨by omega, by omega⟩⟩) | (have q9 : y = 26 ∨ y = 27 := (by omega); rcases q9 with q | q <;> subst q <;> first | exact ⟨rfl, by decide, by decide, lz_26 ⟨by omega, by omega⟩⟩ | exact ⟨rfl, by decide, by decide, lz_27 ⟨by omega, by omega⟩⟩) | (have q9 : y = 28 ∨ y = 29 := (by omega); rcases q9 with q | q <;> subst q <;> first | exact ⟨rfl, by decide, by decide, lz_28 ⟨by omega, by omega⟩⟩ | exact ⟨rfl, by decide, by decide, lz_29 ⟨by omega, by omega⟩⟩) | (have q9 : y = 30 ∨ y = 31 := (by omega); rcases q9 with q | q <;> subst q <;> first | exact ⟨rfl, by decide, by decide, lz_30 ⟨by omega, by omega⟩⟩ | exact ⟨rfl, by decide, by decide, lz_31 ⟨by omega, by omega⟩⟩)
        · refine mi_iinc h dJ6_numberOfLeadingZeros_0f7a4_54 (by rfl) ?_ (by decide)
          refine mi_iload_n h dJ6_numberOfLeadingZeros_0f7a4_57 (by rfl) ?_
          refine mi_iconst h dJ6_numberOfLeadingZeros_0f7a4_58 ?_
          refine mi_iushr h dJ6_numberOfLeadingZeros_0f7a4_59 (us_4 ⟨by omega, by omega⟩) ?_
          refine mi_istore_n h dJ6_numberOfLeadingZeros_0f7a4_60 (by decide) ?_
          refine mi_iload_n h dJ6_numberOfLeadingZeros_0f7a4_61 (by rfl) ?_
          refine mi_iconst h dJ6_numberOfLeadingZeros_0f7a4_62 ?_
          refine mi_icmp_lt (tgt := 73) h dJ6_numberOfLeadingZeros_0f7a4_63 (by decide) ⟨by omega, by omega⟩ ⟨by omega, by omega⟩ (fun e63 => ?_) (fun e63 => ?_)
          · refine mi_iload_n h dJ6_numberOfLeadingZeros_0f7a4_73 (by rfl) ?_
            refine mi_iload_n h dJ6_numberOfLeadingZeros_0f7a4_74 (by rfl) ?_
            refine mi_iconst h dJ6_numberOfLeadingZeros_0f7a4_75 ?_
            refine mi_iushr h dJ6_numberOfLeadingZeros_0f7a4_76 (us_1 ⟨by omega, by omega⟩) ?_
            refine mi_isub h dJ6_numberOfLeadingZeros_0f7a4_77 ?_
            refine mt_i (fun y ey => ?_)
            refine mi_ireturn h hr dJ6_numberOfLeadingZeros_0f7a4_78 ?_
            first | (have q9 : y = 0 ∨ y = 1 := (by omega); rcases q9 with q | q <;> subst q <;> first | exact ⟨rfl, by decide, by decide, lz_0 ⟨by omega, by omega⟩⟩ | exact ⟨rfl, by decide, by decide, lz_1 ⟨by omega, by omega⟩⟩) | (have q9 : y = 2 ∨ y = 3 := (by omega); rcases q9 with q | q <;> subst q <;> first | exact ⟨rfl, by decide, by decide, lz_2 ⟨by omega, by omega⟩⟩ | exact ⟨rfl, by decide, by decide, lz_3 ⟨by omega, by omega⟩⟩) | (have q9 : y = 4 ∨ y = 5 := (by omega); rcases q9 with q | q <;> subst q <;> first | exact ⟨rfl, by decide, by decide, lz_4 ⟨by omega, by omega⟩⟩ | exact ⟨rfl, by decide, by decide, lz_5 ⟨by omega, by omega⟩⟩) | (have q9 : y = 6 ∨ y = 7 := (by omega); rcases q9 with q | q <;> subst q <;> first | exact ⟨rfl, by decide, by decide, lz_6 ⟨by omega, by omega⟩⟩ | exact ⟨rfl, by decide, by decide, lz_7 ⟨by omega, by omega⟩⟩) | (have q9 : y = 8 ∨ y = 9 := (by omega); rcases q9 with q | q <;> subst q <;> first | exact ⟨rfl, by decide, by decide, lz_8 ⟨by omega, by omega⟩⟩ | exact ⟨rfl, by decide, by decide, lz_9 ⟨by omega, by omega⟩⟩) | (have q9 : y = 10 ∨ y = 11 := (by omega); rcases q9 with q | q <;> subst q <;> first | exact ⟨rfl, by decide, by decide, lz_10 ⟨by omega, by omega⟩⟩ | exact ⟨rfl, by decide, by decide, lz_11 ⟨by omega, by omega⟩⟩) | (have q9 : y = 12 ∨ y = 13 := (by omega); rcases q9 with q | q <;> subst q <;> first | exact ⟨rfl, by decide, by decide, lz_12 ⟨by omega, by omega⟩⟩ | exact ⟨rfl, by decide, by decide, lz_13 ⟨by omega, by omega⟩⟩) | (have q9 : y = 14 ∨ y = 15 := (by omega); rcases q9 with q | q <;> subst q <;> first | exact ⟨rfl, by decide, by decide, lz_14 ⟨by omega, by omega⟩⟩ | exact ⟨rfl, by decide, by decide, lz_15 ⟨by omega, by omega⟩⟩) | (have q9 : y = 16 ∨ y = 17 := (by omega); rcases q9 with q | q <;> subst q <;> first | exact ⟨rfl, by decide, by decide, lz_16 ⟨by omega, by omega⟩⟩ | exact ⟨rfl, by decide, by decide, lz_17 ⟨by omega, by omega⟩⟩) | (have q9 : y = 18 ∨ y = 19 := (by omega); rcases q9 with q | q <;> subst q <;> first | exact ⟨rfl, by decide, by decide, lz_18 ⟨by omega, by omega⟩⟩ | exact ⟨rfl, by decide, by decide, lz_19 ⟨by omega, by omega⟩⟩) | (have q9 : y = 20 ∨ y = 21 := (by omega); rcases q9 with q | q <;> subst q <;> first | exact ⟨rfl, by decide, by decide, lz_20 ⟨by omega, by omega⟩⟩ | exact ⟨rfl, by decide, by decide, lz_21 ⟨by omega, by omega⟩⟩) | (have q9 : y = 22 ∨ y = 23 := (by omega); rcases q9 with q | q <;> subst q <;> first | exact ⟨rfl, by decide, by decide, lz_22 ⟨by omega, by omega⟩⟩ | exact ⟨rfl, by decide, by decide, lz_23 ⟨by omega, by omega⟩⟩) | (have q9 : y = 24 ∨ y = 25 := (by omega); rcases q9 with q | q <;> subst q <;> first | exact ⟨rfl, by decide, by decide, lz_24 ⟨by omega, by omega⟩⟩ | exact ⟨rfl, by decide, by decide, lz_25 ⟨by omega, by omega⟩⟩) | (have q9 : y = 26 ∨ y = 27 := (by omega); rcases q9 with q | q <;> subst q <;> first | exact ⟨rfl, by decide, by decide, lz_26 ⟨by omega, by omega⟩⟩ | exact ⟨rfl, by decide, by decide, lz_27 ⟨by omega, by omega⟩⟩) | (have q9 : y = 28 ∨ y = 29 := (by omega); rcases q9 with q | q <;> subst q <;> first | exact ⟨rfl, by decide, by decide, lz_28 ⟨by omega, by omega⟩⟩ | exact ⟨rfl, by decide, by decide, lz_29 ⟨by omega, by omega⟩⟩) | (have q9 : y = 30 ∨ y = 31 := (by omega); rcases q9 with q | q <;> subst q <;> first | exact ⟨rfl, by decide, by decide, lz_30 ⟨by omega, by omega⟩⟩ | exact ⟨rfl, by decide, by decide, lz_31 ⟨by omega, by omega⟩⟩)
          · refine mi_iinc h dJ6_numberOfLeadingZeros_0f7a4_66 (by rfl) ?_ (by decide)
            refine mi_iload_n h dJ6_numberOfLeadingZeros_0f7a4_69 (by rfl) ?_
            refine mi_iconst h dJ6_numberOfLeadingZeros_0f7a4_70 ?_
            refine mi_iushr h dJ6_numberOfLeadingZeros_0f7a4_71 (us_2 ⟨by omega, by omega⟩) ?_
            refine mi_istore_n h dJ6_numberOfLeadingZeros_0f7a4_72 (by decide) ?_
            refine mi_iload_n h dJ6_numberOfLeadingZeros_0f7a4_73 (by rfl) ?_
            refine mi_iload_n h dJ6_numberOfLeadingZeros_0f7a4_74 (by rfl) ?_
            refine mi_iconst h dJ6_numberOfLeadingZeros_0f7a4_75 ?_
            refine mi_iushr h dJ6_numberOfLeadingZeros_0f7a4_76 (us_1 ⟨by omega, by omega⟩) ?_
            refine mi_isub h dJ6_numberOfLeadingZeros_0f7a4_77 ?_
            refine mt_i (fun y ey => ?_)
            refine mi_ireturn h hr dJ6_numberOfLeadingZeros_0f7a4_78 ?_
            first | (have q9 : y = 0 ∨ y = 1 := (by omega); rcases q9 with q | q <;> subst q <;> first | exact ⟨rfl, by decide, by decide, lz_0 ⟨by omega, by omega⟩⟩ | exact ⟨rfl, by decide, by decide, lz_1 ⟨by omega, by omega⟩⟩) | (have q9 : y = 2 ∨ y = 3 := (by omega); rcases q9 with q | q <;> subst q <;> first | exact ⟨rfl, by decide, by decide, lz_2 ⟨by omega, by omega⟩⟩ | exact ⟨rfl, by decide, by decide, lz_3 ⟨by omega, by omega⟩⟩) | (have q9 : y = 4 ∨ y = 5 := (by omega); rcases q9 with q | q <;> subst q <;> first | exact ⟨rfl, by decide, by decide, lz_4 ⟨by omega, by omega⟩⟩ | exact ⟨rfl, by decide, by decide, lz_5 ⟨by omega, by omega⟩⟩) | (have q9 : y = 6 ∨ y = 7 := (by omega); rcases q9 with q | q <;> subst q <;> first | exact ⟨rfl, by decide, by decide, lz_6 ⟨by omega, by omega⟩⟩ | exact ⟨rfl, by decide, by decide, lz_7 ⟨by omega, by omega⟩⟩) | (have q9 : y = 8 ∨ y = 9 := (by omega); rcases q9 with q | q <;> subst q <;> first | exact ⟨rfl, by decide, by decide, lz_8 ⟨by omega, by omega⟩⟩ | exact ⟨rfl, by decide, by decide, lz_9 ⟨by omega, by omega⟩⟩) | (have q9 : y = 10 ∨ y = 11 := (by omega); rcases q9 with q | q <;> subst q <;> first | exact ⟨rfl, by decide, by decide, lz_10 ⟨by omega, by omega⟩⟩ | exact ⟨rfl, by decide, by decide, lz_11 ⟨by omega, by omega⟩⟩) | (have q9 : y = 12 ∨ y = 13 := (by omega); rcases q9 with q | q <;> subst q <;> first | exact ⟨rfl, by decide, by decide, lz_12 ⟨by omega, by omega⟩⟩ | exact ⟨rfl, by decide, by decide, lz_13 ⟨by omega, by omega⟩⟩) | (have q9 : y = 14 ∨ y = 15 := (by omega); rcases q9 with q | q <;> subst q <;> first | exact ⟨rfl, by decide, by decide, lz_14 ⟨by omega, by omega⟩⟩ | exact ⟨rfl, by decide, by decide, lz_15 ⟨by omega, by omega⟩⟩) | (have q9 : y = 16 ∨ y = 17 := (by omega); rcases q9 with q | q <;> subst q <;> first | exact ⟨rfl, by decide, by decide, lz_16 ⟨by omega, by omega⟩⟩ | exact ⟨rfl, by decide, by decide, lz_17 ⟨by omega, by omega⟩⟩) | (have q9 : y = 18 ∨ y = 19 := (by omega); rcases q9 with q | q <;> subst q <;> first | exact ⟨rfl, by decide, by decide, lz_18 ⟨by omega, by omega⟩⟩ | exact ⟨rfl, by decide, by decide, lz_19 ⟨by omega, by omega⟩⟩) | (have q9 : y = 20 ∨ y = 21 := (by omega); rcases q9 with q | q <;> subst q <;> first | exact ⟨rfl, by decide, by decide, lz_20 ⟨by omega, by omega⟩⟩ | exact ⟨rfl, by decide, by decide, lz_21 ⟨by omega, by omega⟩⟩) | (have q9 : y = 22 ∨ y = 23 := (by omega); rcases q9 with q | q <;> subst q <;> first | exact ⟨rfl, by decide, by decide, lz_22 ⟨by omega, by omega⟩⟩ | exact ⟨rfl, by decide, by decide, lz_23 ⟨by omega, by omega⟩⟩) | (have q9 : y = 24 ∨ y = 25 := (by omega); rcases q9 with q | q <;> subst q <;> first | exact ⟨rfl, by decide, by decide, lz_24 ⟨by omega, by omega⟩⟩ | exact ⟨rfl, by decide, by decide, lz_25 ⟨by omega, by omega⟩⟩) | (have q9 : y = 26 ∨ y = 27 := (by omega); rcases q9 with q | q <;> subst q <;> first | exact ⟨rfl, by decide, by decide, lz_26 ⟨by omega, by omega⟩⟩ | exact ⟨rfl, by decide, by decide, lz_27 ⟨by omega, by omega⟩⟩) | (have q9 : y = 28 ∨ y = 29 := (by omega); rcases q9 with q | q <;> subst q <;> first | exact ⟨rfl, by decide, by decide, lz_28 ⟨by omega, by omega⟩⟩ | exact ⟨rfl, by decide, by decide, lz_29 ⟨by omega, by omega⟩⟩) | (have q9 : y = 30 ∨ y = 31 := (by omega); rcases q9 with q | q <;> subst q <;> first | exact ⟨rfl, by decide, by decide, lz_30 ⟨by omega, by omega⟩⟩ | exact ⟨rfl, by decide, by decide, lz_31 ⟨by omega, by omega⟩⟩)
    · refine mi_iinc h dJ6_numberOfLeadingZeros_0f7a4_25 (by rfl) ?_ (by decide)
      refine mi_iload_n h dJ6_numberOfLeadingZeros_0f7a4_28 (by rfl) ?_
      refine mi_bipush h dJ6_numberOfLeadingZeros_0f7a4_29 (by decide) ?_
      refine mi_iushr h dJ6_numberOfLeadingZeros_0f7a4_31 (us_16 ⟨by omega, by omega⟩) ?_
      refine mi_istore_n h dJ6_numberOfLeadingZeros_0f7a4_32 (by decide) ?_
      refine mi_iload_n h dJ6_numberOfLeadingZeros_0f7a4_33 (by rfl) ?_
      refine mi_sipush h dJ6_numberOfLeadingZeros_0f7a4_34 (by decide) ?_
      refine mi_icmp_lt (tgt := 48) h dJ6_numberOfLeadingZeros_0f7a4_37 (by decide) ⟨by omega, by omega⟩ ⟨by omega, by omega⟩ (fun e37 => ?_) (fun e37 => ?_)
      · refine mi_iload_n h dJ6_numberOfLeadingZeros_0f7a4_48 (by rfl) ?_
        refine mi_bipush h dJ6_numberOfLeadingZeros_0f7a4_49 (by decide) ?_
        refine mi_icmp_lt (tgt := 61) h dJ6_numberOfLeadingZeros_0f7a4_51 (by decide) ⟨by omega, by omega⟩ ⟨by omega, by omega⟩ (fun e51 => ?_) (fun e51 => ?_)
        · refine mi_iload_n h dJ6_numberOfLeadingZeros_0f7a4_61 (by rfl) ?_
          refine mi_iconst h dJ6_numberOfLeadingZeros_0f7a4_62 ?_
          refine mi_icmp_lt (tgt := 73) h dJ6_numberOfLeadingZeros_0f7a4_63 (by decide) ⟨by omega, by omega⟩ ⟨by omega, by omega⟩ (fun e63 => ?_) (fun e63 => ?_)
          · refine mi_iload_n h dJ6_numberOfLeadingZeros_0f7a4_73 (by rfl) ?_
            refine mi_iload_n h dJ6_numberOfLeadingZeros_0f7a4_74 (by rfl) ?_
            refine mi_iconst h dJ6_numberOfLeadingZeros_0f7a4_75 ?_
            refine mi_iushr h dJ6_numberOfLeadingZeros_0f7a4_76 (us_1 ⟨by omega, by omega⟩) ?_
            refine mi_isub h dJ6_numberOfLeadingZeros_0f7a4_77 ?_
            refine mt_i (fun y ey => ?_)
            refine mi_ireturn h hr dJ6_numberOfLeadingZeros_0f7a4_78 ?_
            first | (have q9 : y = 0 ∨ y = 1 := (by omega); rcases q9 with q | q <;> subst q <;> first | exact ⟨rfl, by decide, by decide, lz_0 ⟨by omega, by omega⟩⟩ | exact ⟨rfl, by decide, by decide, lz_1 ⟨by omega, by omega⟩⟩) | (have q9 : y = 2 ∨ y = 3 := (by omega); rcases q9 with q | q <;> subst q <;> first | exact ⟨rfl, by decide, by decide, lz_2 ⟨by omega, by omega⟩⟩ | exact ⟨rfl, by decide, by decide, lz_3 ⟨by omega, by omega⟩⟩) | (have q9 : y = 4 ∨ y = 5 := (by omega); rcases q9 with q | q <;> subst q <;> first | exact ⟨rfl, by decide, by decide, lz_4 ⟨by omega, by omega⟩⟩ | exact ⟨rfl, by decide, by decide, lz_5 ⟨by omega, by omega⟩⟩) | (have q9 : y = 6 ∨ y = 7 := (by omega); rcases q9 with q | q <;> subst q <;> first | exact ⟨rfl, by decide, by decide, lz_6 ⟨by omega, by omega⟩⟩ | exact ⟨rfl, by decide, by decide, lz_7 ⟨by omega, by omega⟩⟩) | (have q9 : y = 8 ∨ y = 9 := (by omega); rcases q9 with q | q <;> subst q <;> first | exact ⟨rfl, by decide, by decide, lz_8 ⟨by omega, by omega⟩⟩ | exact ⟨rfl, by decide, by decide, lz_9 ⟨by omega, by omega⟩⟩) | (have q9 : y = 10 ∨ y = 11 := (by omega); rcases q9 with q | q <;> subst q <;> first | exact ⟨rfl, by decide, by decide, lz_10 ⟨by omega, by omega⟩⟩ | exact ⟨rfl, by decide, by decide, lz_11 ⟨by omega, by omega⟩⟩) | (have q9 : y = 12 ∨ y = 13 := (by omega); rcases q9 with q | q <;> subst q <;> first | exact ⟨rfl, by decide, by decide, lz_12 ⟨by omega, by omega⟩⟩ | exact ⟨rfl, by decide, by decide, lz_13 ⟨by omega, by omega⟩⟩) | (have q9 : y = 14 ∨ y = 15 := (by omega); rcases q9 with q | q <;> subst q <;> first | exact ⟨rfl, by decide, by decide, lz_14 ⟨by omega, by omega⟩⟩ | exact ⟨rfl, by decide, by decide, lz_15 ⟨by omega, by omega⟩⟩) | (have q9 : y = 16 ∨ y = 17 := (by omega); rcases q9 with q | q <;> subst q <;> first | exact ⟨rfl, by decide, by decide, lz_16 ⟨by omega, by omega⟩⟩ | exact ⟨rfl, by decide, by decide, lz_17 ⟨by omega, by omega⟩⟩) | (have q9 : y = 18 ∨ y = 19 := (by omega); rcases q9 with q | q <;> subst q <;> first | exact ⟨rfl, by decide, by decide, lz_18 ⟨by omega, by omega⟩⟩ | exact ⟨rfl, by decide, by decide, lz_19 ⟨by omega, by omega⟩⟩) | (have q9 : y = 20 ∨ y = 21 := (by omega); rcases q9 with q | q <;> subst q <;> first | exact ⟨rfl, by decide, by decide, lz_20 ⟨by omega, by omega⟩⟩ | exact ⟨rfl, by decide, by decide, lz_21 ⟨by omega, by omega⟩⟩) | (have q9 : y = 22 ∨ y = 23 := (by omega); rcases q9 with q | q <;> subst q <;> first | exact ⟨rfl, by decide, by decide, lz_22 ⟨by omega, by omega⟩⟩ | exact ⟨rfl, by decide, by decide, lz_23 ⟨by omega, by omega⟩⟩) | (have q9 : y = 24 ∨ y = 25 := (by omega); rcases q9 with q | q <;> subst q <;> first | exact ⟨rfl, by decide, by decide, lz_24 ⟨by omega, by omega⟩⟩ | exact ⟨rfl, by decide, by decide, lz_25 ⟨by omega, by omega⟩⟩) | (have q9 : y = 26 ∨ y = 27 := (by omega); rcases q9 with q | q <;> subst q <;> first | exact ⟨rfl, by decide, by decide, lz_26 ⟨by omega, by omega⟩⟩ | exact ⟨rfl, by decide, by decide, lz_27 ⟨by omega, by omega⟩⟩) | (have q9 : y = 28 ∨ y = 29 := (by omega); rcases q9 with q | q <;> subst q <;> first | exact ⟨rfl, by decide, by decide, lz_28 ⟨by omega, by omega⟩⟩ | exact ⟨rfl, by decide, by decide, lz_29 ⟨by omega, by omega⟩⟩) | (have q9 : y = 30 ∨ y = 31 := (by omega); rcases q9 with q | q <;> subst q <;> first | exact ⟨rfl, by decide, by decide, lz_30 ⟨by omega, by omega⟩⟩ | exact ⟨rfl, by decide, by decide, lz_31 ⟨by omega, by omega⟩⟩)
          · refine mi_iinc h dJ6_numberOfLeadingZeros_0f7a4_66 (by rfl) ?_ (by decide)
            refine mi_iload_n h dJ6_numberOfLeadingZeros_0f7a4_69 (by rfl) ?_
            refine mi_iconst h dJ6_numberOfLeadingZeros_0f7a4_70 ?_
            refine mi_iushr h dJ6_numberOfLeadingZeros_0f7a4_71 (us_2 ⟨by omega, by omega⟩) ?_
            refine mi_istore_n h dJ6_numberOfLeadingZeros_0f7a4_72 (by decide) ?_
            refine mi_iload_n h dJ6_numberOfLeadingZeros_0f7a4_73 (by rfl) ?_
            refine mi_iload_n h dJ6_numberOfLeadingZeros_0f7a4_74 (by rfl) ?_
            refine mi_iconst h dJ6_numberOfLeadingZeros_0f7a4_75 ?_
            refine mi_iushr h dJ6_numberOfLeadingZeros_0f7a4_76 (us_1 ⟨by omega, by omega⟩) ?_
            refine mi_isub h dJ6_numberOfLeadingZeros_0f7a4_77 ?_
            refine mt_i (fun y ey => ?_)
            refine mi_ireturn h hr dJ6_numberOfLeadingZeros_0f7a4_78 ?_
            first | (have q9 : y = 0 ∨ y = 1 := (by omega); rcases q9 with q | q <;> subst q <;> first | exact ⟨rfl, by decide, by decide, lz_0 ⟨by omega, by omega⟩⟩ | exact ⟨rfl, by decide, by decide, lz_1 ⟨by omega, by omega⟩⟩) | (have q9 : y = 2 ∨ y = 3 := (by omega); rcases q9 with q | q <;> subst q <;> first | exact ⟨rfl, by decide, by decide, lz_2 ⟨by omega, by omega⟩⟩ | exact ⟨rfl, by decide, by decide, lz_3 ⟨by omega, by omega⟩⟩) | (have q9 : y = 4 ∨ y = 5 := (by omega); rcases q9 with q | q <;> subst q <;> first | exact ⟨rfl, by decide, by decide, lz_4 ⟨by omega, by omega⟩⟩ | exact ⟨rfl, by decide, by decide, lz_5 ⟨by omega, by omega⟩⟩) | (have q9 : y = 6 ∨ y = 7 := (by omega); rcases q9 with q | q <;> subst q <;> first | exact ⟨rfl, by decide, by decide, lz_6 ⟨by omega, by omega⟩⟩ | exact ⟨rfl, by decide, by decide, lz_7 ⟨by omega, by omega⟩⟩) | (have q9 : y = 8 ∨ y = 9 := (by omega); rcases q9 with q | q <;> subst q <;> first | exact ⟨rfl, by decide, by decide, lz_8 ⟨by omega, by omega⟩⟩ | exact ⟨rfl, by decide, by decide, lz_9 ⟨by omega, by omega⟩⟩) | (have q9 : y = 10 ∨ y = 11 := (by omega); rcases q9 with q | q <;> subst q <;> first | exact ⟨rfl, by decide, by decide, lz_10 ⟨by omega, by omega⟩⟩ | exact ⟨rfl, by decide, by decide, lz_11 ⟨by omega, by omega⟩⟩) | (have q9 : y = 12 ∨ y = 13 := (by omega); rcases q9 with q | q <;> subst q <;> first | exact ⟨rfl, by decide, by decide, lz_12 ⟨by omega, by omega⟩⟩ | exact ⟨rfl, by decide, by decide, lz_13 ⟨by omega, by omega⟩⟩) | (have q9 : y = 14 ∨ y = 15 := (by omega); rcases q9 with q | q <;> subst q <;> first | exact ⟨rfl, by decide, by decide, lz_14 ⟨by omega, by omega⟩⟩ | exact ⟨rfl, by decide, by decide, lz_15 ⟨by omega, by omega⟩⟩) | (have q9 : y = 16 ∨ y = 17 := (by omega); rcases q9 with q | q <;> subst q <;> first | exact ⟨rfl, by decide, by decide, lz_16 ⟨by omega, by omega⟩⟩ | exact ⟨rfl, by decide, by decide, lz_17 ⟨by omega, by omega⟩⟩) | (have q9 : y = 18 ∨ y = 19 := (by omega); rcases q9 with q | q <;> subst q <;> first | exact ⟨rfl, by decide, by decide, lz_18 ⟨by omega, by omega⟩⟩ | exact ⟨rfl, by decide, by decide, lz_19 ⟨by omega, by omega⟩⟩) | (have q9 : y = 20 ∨ y = 21 := (by omega); rcases q9 with q | q <;> subst q <;> first | exact ⟨rfl, by decide, by decide, lz_20 ⟨by omega, by omega⟩⟩ | exact ⟨rfl, by decide, by decide, lz_21 ⟨by omega, by omega⟩⟩) | (have q9 : y = 22 ∨ y = 23 := (by omega); rcases q9 with q | q <;> subst q <;> first | exact ⟨rfl, by decide, by decide, lz_22 ⟨by omega, by omega⟩⟩ | exact ⟨rfl, by decide, by decide, lz_23 ⟨by omega, by omega⟩⟩) | (have q9 : y = 24 ∨ y = 25 := (by omega); rcases q9 with q | q <;> subst q <;> first | exact ⟨rfl, by decide, by decide, lz_24 ⟨by omega, by omega⟩⟩ | exact ⟨rfl, by decide, by decide, lz_25 ⟨by omega, by omega⟩⟩) | (have q9 : y = 26 ∨ y = 27 := (by omega); rcases q9 with q | q <;> subst q <;> first | exact ⟨rfl, by decide, by decide, lz_26 ⟨by omega, by omega⟩⟩ | exact ⟨rfl, by decide, by decide, lz_27 ⟨by omega, by omega⟩⟩) | (have q9 : y = 28 ∨ y = 29 := (by omega); rcases q9 with q | q <;> subst q <;> first | exact ⟨rfl, by decide, by decide, lz_28 ⟨by omega, by omega⟩⟩ | exact ⟨rfl, by decide, by decide, lz_29 ⟨by omega, by omega⟩⟩) | (have q9 : y = 30 ∨ y = 31 := (by omega); rcases q9 with q | q <;> subst q <;> first | exact ⟨rfl, by decide, by decide, lz_30 ⟨by omega, by omega⟩⟩ | exact ⟨rfl, by decide, by decide, lz_31 ⟨by omega, by omega⟩⟩)
        · refine mi_iinc h dJ6_numberOfLeadingZeros_0f7a4_54 (by rfl) ?_ (by decide)
          refine mi_iload_n h dJ6_numberOfLeadingZeros_0f7a4_57 (by rfl) ?_
          refine mi_iconst h dJ6_numberOfLeadingZeros_0f7a4_58 ?_
          refine mi_iushr h dJ6_numberOfLeadingZeros_0f7a4_59 (us_4 ⟨by omega, by omega⟩) ?_
          refine mi_istore_n h dJ6_numberOfLeadingZeros_0f7a4_60 (by decide) ?_
          refine mi_iload_n h dJ6_numberOfLeadingZeros_0f7a4_61 (by rfl) ?_
          refine mi_iconst h dJ6_numberOfLeadingZeros_0f7a4_62 ?_
          refine mi_icmp_lt (tgt := 73) h dJ6_numberOfLeadingZeros_0f7a4_63 (by decide) ⟨by omega, by omega⟩ ⟨by omega, by omega⟩ (fun e63 => ?_) (fun e63 => ?_)
          · refine mi_iload_n h dJ6_numberOfLeadingZeros_0f7a4_73 (by rfl) ?_
            refine mi_iload_n h dJ6_numberOfLeadingZeros_0f7a4_74 (by rfl) ?_
            refine mi_iconst h dJ6_numberOfLeadingZeros_0f7a4_75 ?_
            refine mi_iushr h dJ6_numberOfLeadingZeros_0f7a4_76 (us_1 ⟨by omega, by omega⟩) ?_
            refine mi_isub h dJ6_numberOfLeadingZeros_0f7a4_77 ?_
            refine mt_i (fun y ey => ?_)
            refine mi_ireturn h hr dJ6_numberOfLeadingZeros_0f7a4_78 ?_
            first | (have q9 : y = 0 ∨ y = 1 := (by omega); rcases q9 with q | q <;> subst q <;> first | exact ⟨rfl, by decide, by decide, lz_0 ⟨by omega, by omega⟩⟩ | exact ⟨rfl, by decide, by decide, lz_1 ⟨by omega, by omega⟩⟩) | (have q9 : y = 2 ∨ y = 3 := (by omega); rcases q9 with q | q <;> subst q <;> first | exact ⟨rfl, by decide, by decide, lz_2 ⟨by omega, by omega⟩⟩ | exact ⟨rfl, by decide, by decide, lz_3 ⟨by omega, by omega⟩⟩) | (have q9 : y = 4 ∨ y = 5 := (by omega); rcases q9 with q | q <;> subst q <;> first | exact ⟨rfl, by decide, by decide, lz_4 ⟨by omega, by omega⟩⟩ | exact ⟨rfl, by decide, by decide, lz_5 ⟨by omega, by omega⟩⟩) | (have q9 : y = 6 ∨ y = 7 := (by omega); rcases q9 with q | q <;> subst q <;> first | exact ⟨rfl, by decide, by decide, lz_6 ⟨by omega, by omega⟩⟩ | exact ⟨rfl, by decide, by decide, lz_7 ⟨by omega, by omega⟩⟩) | (have q9 : y = 8 ∨ y = 9 := (by omega); rcases q9 with q | q <;> subst q <;> first | exact ⟨rfl, by decide, by decide, lz_8 ⟨by omega, by omega⟩⟩ | exact ⟨rfl, by decide, by decide, lz_9 ⟨by omega, by omega⟩⟩) | (have q9 : y = 10 ∨ y = 11 := (by omega); rcases q9 with q | q <;> subst q <;> first | exact ⟨rfl, by decide, by decide, lz_10 ⟨by omega, by omega⟩⟩ | exact ⟨rfl, by decide, by decide, lz_11 ⟨by omega, by omega⟩⟩) | (have q9 : y = 12 ∨ y = 13 := (by omega); rcases q9 with q | q <;> subst q <;> first | exact ⟨rfl, by decide, by decide, lz_12 ⟨by omega, by omega⟩⟩ | exact ⟨rfl, by decide, by decide, lz_13 ⟨by omega, by omega⟩⟩) | (have q9 : y = 14 ∨ y = 15 := (by omega); rcases q9 with q | q <;> subst q <;> first | exact ⟨rfl, by decide, by decide, lz_14 ⟨by omega, by omega⟩⟩ | exact ⟨rfl, by decide, by decide, lz_15 ⟨by omega, by omega⟩⟩) | (have q9 : y = 16 ∨ y = 17 := (by omega); rcases q9 with q | q <;> subst q <;> first | exact ⟨rfl, by decide, by decide, lz_16 ⟨by omega, by omega⟩⟩ | exact ⟨rfl, by decide, by decide, lz_17 ⟨by omega, by omega⟩⟩) | (have q9 : y = 18 ∨ y = 19 := (by omega); rcases q9 with q | q <;> subst q <;> first | exact ⟨rfl, by decide, by decide, lz_18 ⟨by omega, by omega⟩⟩ | exact ⟨rfl, by decide, by decide, lz_19 ⟨by omega, by omega⟩⟩) | (have q9 : y = 20 ∨ y = 21 := (by omega); rcases q9 with q | q <;> subst q <;> first | exact ⟨rfl, by decide, by decide, lz_20 ⟨by omega, by omega⟩⟩ | exact ⟨rfl, by decide, by decide, lz_21 ⟨by omega, by omega⟩⟩) | (have q9 : y = 22 ∨ y = 23 := (by omega); rcases q9 with q | q <;> subst q <;> first | exact ⟨rfl, by decide, by decide, lz_22 ⟨by omega, by omega⟩⟩ | exact ⟨rfl, by decide, by decide, lz_23 ⟨by omega, by omega⟩⟩) | (have q9 : y = 24 ∨ y = 25 := (by omega); rcases q9 with q | q <;> subst q <;> first | exact ⟨rfl, by decide, by decide, lz_24 ⟨by omega, by omega⟩⟩ | exact ⟨rfl, by decide, by decide, lz_25 ⟨by omega, by omega⟩⟩) | (have q9 : y = 26 ∨ y = 27 := (by omega); rcases q9 with q | q <;> subst q <;> first | exact ⟨rfl, by decide, by decide, lz_26 ⟨by omega, by omega⟩⟩ | exact ⟨rfl, by decide, by decide, lz_27 ⟨by omega, by omega⟩⟩) | (have q9 : y = 28 ∨ y = 29 := (by omega); rcases q9 with q | q <;> subst q <;> first | exact ⟨rfl, by decide, by decide, lz_28 ⟨by omega, by omega⟩⟩ | exact ⟨rfl, by decide, by decide, lz_29 ⟨by omega, by omega⟩⟩) | (have q9 : y = 30 ∨ y = 31 := (by omega); rcases q9 with q | q <;> subst q <;> first | exact ⟨rfl, by decide, by decide, lz_30 ⟨by omega, by omega⟩⟩ | exact ⟨rfl, by decide, by decide, lz_31 ⟨by omega, by omega⟩⟩)
          · refine mi_iinc h dJ6_numberOfLeadingZeros_0f7a4_66 (by rfl) ?_ (by decide)
            refine mi_iload_n h dJ6_numberOfLeadingZeros_0f7a4_69 (by rfl) ?_
            refine mi_iconst h dJ6_numberOfLeadingZeros_0f7a4_70 ?_
            refine mi_iushr h dJ6_numberOfLeadingZeros_0f7a4_71 (us_2 ⟨by omega, by omega⟩) ?_
            refine mi_istore_n h dJ6_numberOfLeadingZeros_0f7a4_72 (by decide) ?_
            refine mi_iload_n h dJ6_numberOfLeadingZeros_0f7a4_73 (by rfl) ?_
            refine mi_iload_n h dJ6_numberOfLeadingZeros_0f7a4_74 (by rfl) ?_
            refine mi_iconst h dJ6_numberOfLeadingZeros_0f7a4_75 ?_
            refine mi_iushr h dJ6_numberOfLeadingZeros_0f7a4_76 (us_1 ⟨by omega, by omega⟩) ?_
            refine mi_isub h dJ6_numberOfLeadingZeros_0f7a4_77 ?_
            refine mt_i (fun y ey => ?_)
            refine mi_ireturn h hr dJ6_numberOfLeadingZeros_0f7a4_78 ?_
            first | (have q9 : y = 0 ∨ y = 1 := (by omega); rcases q9 with q | q <;> subst q <;> first | exact ⟨rfl, by decide, by decide, lz_0 ⟨by omega, by omega⟩⟩ | exact ⟨rfl, by decide, by decide, lz_1 ⟨by omega, by omega⟩⟩) | (have q9 : y = 2 ∨ y = 3 := (by omega); rcases q9 with q | q <;> subst q <;> first | exact ⟨rfl, by decide, by decide, lz_2 ⟨by omega, by omega⟩⟩ | exact ⟨rfl, by decide, by decide, lz_3 ⟨by omega, by omega⟩⟩) | (have q9 : y = 4 ∨ y = 5 := (by omega); rcases q9 with q | q <;> subst q <;> first | exact ⟨rfl, by decide, by decide, lz_4 ⟨by omega, by omega⟩⟩ | exact ⟨rfl, by decide, by decide, lz_5 ⟨by omega, by omega⟩⟩) | (have q9 : y = 6 ∨ y = 7 := (by omega); rcases q9 with q | q <;> subst q <;> first | exact ⟨rfl, by decide, by decide, lz_6 ⟨by omega, by omega⟩⟩ | exact ⟨rfl, by decide, by decide, lz_7 ⟨by omega, by omega⟩⟩) | (have q9 : y = 8 ∨ y = 9 := (by omega); rcases q9 with q | q <;> subst q <;> first | exact ⟨rfl, by decide, by decide, lz_8 ⟨by omega, by omega⟩⟩ | exact ⟨rfl, by decide, by decide, lz_9 ⟨by omega, by omega⟩⟩) | (have q9 : y = 10 ∨ y = 11 := (by omega); rcases q9 with q | q <;> subst q <;> first | exact ⟨rfl, by decide, by decide, lz_10 ⟨by omega, by omega⟩⟩ | exact ⟨rfl, by decide, by decide, lz_11 ⟨by omega, by omega⟩⟩) | (have q9 : y = 12 ∨ y = 13 := (by omega); rcases q9 with q | q <;> subst q <;> first | exact ⟨rfl, by decide, by decide, lz_12 ⟨by omega, by omega⟩⟩ | exact ⟨rfl, by decide, by decide, lz_13 ⟨by omega, by omega⟩⟩) | (have q9 : y = 14 ∨ y = 15 := (by omega); rcases q9 with q | q <;> subst q <;> first | exact ⟨rfl, by decide, by decide, lz_14 ⟨by omega, by omega⟩⟩ | exact ⟨rfl, by decide, by decide, lz_15 ⟨by omega, by omega⟩⟩) | (have q9 : y = 16 ∨ y = 17 := (by omega); rcases q9 with q | q <;> subst q <;> first | exact ⟨rfl, by decide, by decide, lz_16 ⟨by omega, by omega⟩⟩ | exact ⟨rfl, by decide, by decide, lz_17 ⟨by omega, by omega⟩⟩) | (have q9 : y = 18 ∨ y = 19 := (by omega); rcases q9 with q | q <;> subst q <;> first | exact ⟨rfl, by decide, by decide, lz_18 ⟨by omega, by omega⟩⟩ | exact ⟨rfl, by decide, by decide, lz_19 ⟨by omega, by omega⟩⟩) | (have q9 : y = 20 ∨ y = 21 := (by omega); rcases q9 with q | q <;> subst q <;> first | exact ⟨rfl, by decide, by decide, lz_20 ⟨by omega, by omega⟩⟩ | exact ⟨rfl, by decide, by decide, lz_21 ⟨by omega, by omega⟩⟩) | (have q9 : y = 22 ∨ y = 23 := (by omega); rcases q9 with q | q <;> subst q <;> first | exact ⟨rfl, by decide, by decide, lz_22 ⟨by omega, by omega⟩⟩ | exact ⟨rfl, by decide, by decide, lz_23 ⟨by omega, by omega⟩⟩) | (have q9 : y = 24 ∨ y = 25 := (by omega); rcases q9 with q | q <;> subst q <;> first | exact ⟨rfl, by decide, by decide, lz_24 ⟨by omega, by omega⟩⟩ | exact ⟨rfl, by decide, by decide, lz_25 ⟨by omega, by omega⟩⟩) | (have q9 : y = 26 ∨ y = 27 := (by omega); rcases q9 with q | q <;> subst q <;> first | exact ⟨rfl, by decide, by decide, lz_26 ⟨by omega, by omega⟩⟩ | exact ⟨rfl, by decide, by decide, lz_27 ⟨by omega, by omega⟩⟩) | (have q9 : y = 28 ∨ y = 29 := (by omega); rcases q9 with q | q <;> subst q <;> first | exact ⟨rfl, by decide, by decide, lz_28 ⟨by omega, by omega⟩⟩ | exact ⟨rfl, by decide, by decide, lz_29 ⟨by omega, by omega⟩⟩) | (have q9 : y = 30 ∨ y = 31 := (by omega); rcases q9 with q | q <;> subst q <;> first | exact ⟨rfl, by decide, by decide, lz_30 ⟨by omega, by omega⟩⟩ | exact ⟨rfl, by decide, by decide, lz_31 ⟨by omega, by omega⟩⟩)
      · refine mi_iinc h dJ6_numberOfLeadingZeros_0f7a4_40 (by rfl) ?_ (by decide)
        refine mi_iload_n h dJ6_numberOfLeadingZeros_0f7a4_43 (by rfl) ?_
        refine mi_bipush h dJ6_numberOfLeadingZeros_0f7a4_44 (by decide) ?_
        refine mi_iushr h dJ6_numberOfLeadingZeros_0f7a4_46 (us_8 ⟨by omega, by omega⟩) ?_
        refine mi_istore_n h dJ6_numberOfLeadingZeros_0f7a4_47 (by decide) ?_
        refine mi_iload_n h dJ6_numberOfLeadingZeros_0f7a4_48 (by rfl) ?_
        refine mi_bipush h dJ6_numberOfLeadingZeros_0f7a4_49 (by decide) ?_
        refine mi_icmp_lt (tgt := 61) h dJ6_numberOfLeadingZeros_0f7a4_51 (by decide) ⟨by omega, by omega⟩ ⟨by omega, by omega⟩ (fun e51 => ?_) (fun e51 => ?_)
        · refine mi_iload_n h dJ6_numberOfLeadingZeros_0f7a4_61 (by rfl) ?_
          refine mi_iconst h dJ6_numberOfLeadingZeros_0f7a4_62 ?_
          refine mi_icmp_lt (tgt := 73) h dJ6_numberOfLeadingZeros_0f7a4_63 (by decide) ⟨by omega, by omega⟩ ⟨by omega, by omega⟩ (fun e63 => ?_) (fun e63 => ?_)
          · refine mi_iload_n h dJ6_numberOfLeadingZeros_0f7a4_73 (by rfl) ?_
            refine mi_iload_n h dJ6_numberOfLeadingZeros_0f7a4_74 (by rfl) ?_
            refine mi_iconst h dJ6_numberOfLeadingZeros_0f7a4_75 ?_
            refine mi_iushr h dJ6_numberOfLeadingZeros_0f7a4_76 (us_1 ⟨by omega, by omega⟩) ?_
            refine mi_isub h dJ6_numberOfLeadingZeros_0f7a4_77 ?_
            refine mt_i (fun y ey => ?_)
            refine mi_ireturn h hr dJ6_numberOfLeadingZeros_0f7a4_78 ?_
            first | (have q9 : y = 0 ∨ y = 1 := (by omega); rcases q9 with q | q <;> subst q <;> first | exact ⟨rfl, by decide, by decide, lz_0 ⟨by omega, by omega⟩⟩ | exact ⟨rfl, by decide, by decide, lz_1 ⟨by omega, by omega⟩⟩) | (have q9 : y = 2 ∨ y = 3 := (by omega); rcases q9 with q | q <;> subst q <;> first | exact ⟨rfl, by decide, by decide, lz_2 ⟨by omega, by omega⟩⟩ | exact ⟨rfl, by decide, by decide, lz_3 ⟨by omega, by omega⟩⟩) | (have q9 : y = 4 ∨ y = 5 := (by omega); rcases q9 with q | q <;> subst q <;> first | exact ⟨rfl, by decide, by decide, lz_4 ⟨by omega, by omega⟩⟩ | exact ⟨rfl, by decide, by decide, lz_5 ⟨by omega, by omega⟩⟩) | (have q9 : y = 6 ∨ y = 7 := (by omega); rcases q9 with q | q <;> subst q <;> first | exact ⟨rfl, by decide, by decide, lz_6 ⟨by omega, by omega⟩⟩ | exact ⟨rfl, by decide, by decide, lz_7 ⟨by omega, by omega⟩⟩) | (have q9 : y = 8 ∨ y = 9 := (by omega); rcases q9 with q | q <;> subst q <;> first | exact ⟨rfl, by decide, by decide, lz_8 ⟨by omega, by omega⟩⟩ | exact ⟨rfl, by decide, by decide, lz_9 ⟨by omega, by omega⟩⟩) | (have q9 : y = 10 ∨ y = 11 := (by omega); rcases q9 with q | q <;> subst q <;> first | exact ⟨rfl, by decide, by decide, lz_10 ⟨by omega, by omega⟩⟩ | exact ⟨rfl, by decide, by decide, lz_11 ⟨by omega, by omega⟩⟩) | (have q9 : y = 12 ∨ y = 13 := (by omega); rcases q9 with q | q <;> subst q <;> first | exact ⟨rfl, by decide, by decide, lz_12 ⟨by omega, by omega⟩⟩ | exact ⟨rfl, by decide, by decide, lz_13 ⟨by omega, by omega⟩⟩) | (have q9 : y = 14 ∨ y = 15 := (by omega); rcases q9 with q | q <;> subst q <;> first | exact ⟨rfl, by decide, by decide, lz_14 ⟨by omega, by omega⟩⟩ | exact ⟨rfl, by decide, by decide, lz_15 ⟨by omega, by omega⟩⟩) | (have q9 : y = 16 ∨ y = 17 := (by omega); rcases q9 with q | q <;> subst q <;> first | exact ⟨rfl, by decide, by decide, lz_16 ⟨by omega, by omega⟩⟩ | exact ⟨rfl, by decide, by decide, lz_17 ⟨by omega, by omega⟩⟩) | (have q9 : y = 18 ∨ y = 19 := (by omega); rcases q9 with q | q <;> subst q <;> first | exact ⟨rfl, by decide, by decide, lz_18 ⟨by omega, by omega⟩⟩ | exact ⟨rfl, by decide, by decide, lz_19 ⟨by omega, by omega⟩⟩) | (have q9 : y = 20 ∨ y = 21 := (by omega); rcases q9 with q | q <;> subst q <;> first | exact ⟨rfl, by decide, by decide, lz_20 ⟨by omega, by omega⟩⟩ | exact ⟨rfl, by decide, by decide, lz_21 ⟨by omega, by omega⟩⟩) | (have q9 : y = 22 ∨ y = 23 := (by omega); rcases q9 with q | q <;> subst q <;> first | exact ⟨rfl, by decide, by decide, lz_22 ⟨by omega, by omega⟩⟩ | exact ⟨rfl, by decide, by decide, lz_23 ⟨by omega, by omega⟩⟩) | (have q9 : y = 24 ∨ y = 25 := (by omega); rcases q9 with q | q <;> subst q <;> first | exact ⟨rfl, by decide, by decide, lz_24 ⟨by omega, by omega⟩⟩ | exact ⟨rfl, by decide, by decide, lz_25 ⟨by omega, by omega⟩⟩) | (have q9 : y = 26 ∨ y = 27 := (by omega); rcases q9 with q | q <;> subst q <;> first | exact ⟨rfl, by decide, by decide, lz_26 ⟨by omega, by omega⟩⟩ | exact ⟨rfl, by decide, by decide, lz_27 ⟨by omega, by omega⟩⟩) | (have q9 : y = 28 ∨ y = 29 := (by omega); rcases q9 with q | q <;> subst q <;> first | exact ⟨rfl, by decide, by decide, lz_28 ⟨by omega, by omega⟩⟩ | exact ⟨rfl, by decide, by decide, lz_29 ⟨by omega, by omega⟩⟩) | (have q9 : y = 30 ∨ y = 31 := (by omega); rcases q9 with q | q <;> subst q <;> first | exact ⟨rfl, by decide, by decide, lz_30 ⟨by omega, by omega⟩⟩ | exact ⟨rfl, by decide, by decide, lz_31 ⟨by omega, by omega⟩⟩)
          · refine mi_iinc h dJ6_numberOfLeadingZeros_0f7a4_66 (by rfl) ?_ (by decide)
            refine mi_iload_n h dJ6_numberOfLeadingZeros_0f7a4_69 (by rfl) ?_
            refine mi_iconst h dJ6_numberOfLeadingZeros_0f7a4_70 ?_
            refine mi_iushr h dJ6_numberOfLeadingZeros_0f7a4_71 (us_2 ⟨by omega, by omega⟩) ?_
            refine mi_istore_n h dJ6_numberOfLeadingZeros_0f7a4_72 (by decide) ?_
            refine mi_iload_n h dJ6_numberOfLeadingZeros_0f7a4_73 (by rfl) ?_
            refine mi_iload_n h dJ6_numberOfLeadingZeros_0f7a4_74 (by rfl) ?_
            refine mi_iconst h dJ6_numberOfLeadingZeros_0f7a4_75 ?_
            refine mi_iushr h dJ6_numberOfLeadingZeros_0f7a4_76 (us_1 ⟨by omega, by omega⟩) ?_
            refine mi_isub h dJ6_numberOfLeadingZeros_0f7a4_77 ?_
            refine mt_i (fun y ey => ?_)
            refine mi_ireturn h hr dJ6_numberOfLeadingZeros_0f7a4_78 ?_
            first | (have q9 : y = 0 ∨ y = 1 := (by omega); rcases q9 with q | q <;> subst q <;> first | exact ⟨rfl, by decide, by decide, lz_0 ⟨by omega, by omega⟩⟩ | exact ⟨rfl, by decide, by decide, lz_1 ⟨by omega, by omega⟩⟩) | (have q9 : y = 2 ∨ y = 3 := (by omega); rcases q9 with q | q <;> subst q <;> first | exact ⟨rfl, by decide, by decide, lz_2 ⟨by omega, by omega⟩⟩ | exact ⟨rfl, by decide, by decide, lz_3 ⟨by omega, by omega⟩⟩) | (have q9 : y = 4 ∨ y = 5 := (by omega); rcases q9 with q | q <;> subst q <;> first | exact ⟨rfl, by decide, by decide, lz_4 ⟨by omega, by omega⟩⟩ | exact ⟨rfl, by decide, by decide, lz_5 ⟨by omega, by omega⟩⟩) | (have q9 : y = 6 ∨ y = 7 := (by omega); rcases q9 with q | q <;> subst q <;> first | exact ⟨rfl, by decide, by decide, lz_6 ⟨by omega, by omega⟩⟩ | exact ⟨rfl, by decide, by decide, lz_7 ⟨by omega, by omega⟩⟩) | (have q9 : y = 8 ∨ y = 9 := (by omega); rcases q9 with q | q <;> subst q <;> first | exact ⟨rfl, by decide, by decide, lz_8 ⟨by omega, by omega⟩⟩ | exact ⟨rfl, by decide, by decide, lz_9 ⟨by omega, by omega⟩⟩) | (have q9 : y = 10 ∨ y = 11 := (by omega); rcases q9 with q | q <;> subst q <;> first | exact ⟨rfl, by decide, by decide, lz_10 ⟨by omega, by omega⟩⟩ | exact ⟨rfl, by decide, by decide, lz_11 ⟨by omega, by omega⟩⟩) | (have q9 : y = 12 ∨ y = 13 := (by omega); rcases q9 with q | q <;> subst q <;> first | exact ⟨rfl, by decide, by decide, lz_12 ⟨by omega, by omega⟩⟩ | exact ⟨rfl, by decide, by decide, lz_13 ⟨by omega, by omega⟩⟩) | (have q9 : y = 14 ∨ y = 15 := (by omega); rcases q9 with q | q <;> subst q <;> first | exact ⟨rfl, by decide, by decide, lz_14 ⟨by omega, by omega⟩⟩ | exact ⟨rfl, by decide, by decide, lz_15 ⟨by omega, by omega⟩⟩) | (have q9 : y = 16 ∨ y = 17 := (by omega); rcases q9 with q | q <;> subst q <;> first | exact ⟨rfl, by decide, by decide, lz_16 ⟨by omega, by omega⟩⟩ | exact ⟨rfl, by decide, by decide, lz_17 ⟨by omega, by omega⟩⟩) | (have q9 : y = 18 ∨ y = 19 := (by omega); rcases q9 with q | q <;> subst q <;> first | exact ⟨rfl, by decide, by decide, lz_18 ⟨by omega, by omega⟩⟩ | exact ⟨rfl, by decide, by decide, lz_19 ⟨by omega, by omega⟩⟩) | (have q9 : y = 20 ∨ y = 21 := (by omega); rcases q9 with q | q <;> subst q <;> first | exact ⟨rfl, by decide, by decide, lz_20 ⟨by omega, by omega⟩⟩ | exact ⟨rfl, by decide, by decide, lz_21 ⟨by omega, by omega⟩⟩) | (have q9 : y = 22 ∨ y = 23 := (by omega); rcases q9 with q | q <;> subst q <;> first | exact ⟨rfl, by decide, by decide, lz_22 ⟨by omega, by omega⟩⟩ | exact ⟨rfl, by decide, by decide, lz_23 ⟨by omega, by omega⟩⟩) | (have q9 : y = 24 ∨ y = 25 := (by omega); rcases q9 with q | q <;> subst q <;> first | exact ⟨rfl, by decide, by decide, lz_24 ⟨by omega, by omega⟩⟩ | exact ⟨rfl, by decide, by decide, lz_25 ⟨by omega, by omega⟩⟩) | (have q9 : y = 26 ∨ y = 27 := (by omega); rcases q9 with q | q <;> subst q <;> first | exact ⟨rfl, by decide, by decide, lz_26 ⟨by omega, by omega⟩⟩ | exact ⟨rfl, by decide, by decide, lz_27 ⟨by omega, by omega⟩⟩) | (have q9 : y = 28 ∨ y = 29 := (by omega); rcases q9 with q | q <;> subst q <;> first | exact ⟨rfl, by decide, by decide, lz_28 ⟨by omega, by omega⟩⟩ | exact ⟨rfl, by decide, by decide, lz_29 ⟨by omega, by omega⟩⟩) | (have q9 : y = 30 ∨ y = 31 := (by omega); rcases q9 with q | q <;> subst q <;> first | exact ⟨rfl, by decide, by decide, lz_30 ⟨by omega, by omega⟩⟩ | exact ⟨rfl, by decide, by decide, lz_31 ⟨by omega, by omega⟩⟩)
        · refine mi_iinc h dJ6_numberOfLeadingZeros_0f7a4_54 (by rfl) ?_ (by decide)
          refine mi_iload_n h dJ6_numberOfLeadingZeros_0f7a4_57 (by rfl) ?_
          refine mi_iconst h dJ6_numberOfLeadingZeros_0f7a4_58 ?_
          refine mi_iushr h dJ6_numberOfLeadingZeros_0f7a4_59 (us_4 ⟨by omega, by omega⟩) ?_
          refine mi_istore_n h dJ6_numberOfLeadingZeros_0f7a4_60 (by decide) ?_
          refine mi_iload_n h dJ6_numberOfLeadingZeros_0f7a4_61 (by rfl) ?_
          refine mi_iconst h dJ6_numberOfLeadingZeros_0f7a4_62 ?_
          refine mi_icmp_lt (tgt := 73) h dJ6_numberOfLeadingZeros_0f7a4_63 (by decide) ⟨by omega, by omega⟩ ⟨by omega, by omega⟩ (fun e63 => ?_) (fun e63 => ?_)
          · refine mi_iload_n h dJ6_numberOfLeadingZeros_0f7a4_73 (by rfl) ?_
            refine mi_iload_n h dJ6_numberOfLeadingZeros_0f7a4_74 (by rfl) ?_
            refine mi_iconst h dJ6_numberOfLeadingZeros_0f7a4_75 ?_
            refine mi_iushr h dJ6_numberOfLeadingZeros_0f7a4_76 (us_1 ⟨by omega, by omega⟩) ?_
            refine mi_isub h dJ6_numberOfLeadingZeros_0f7a4_77 ?_
            refine mt_i (fun y ey => ?_)
            refine mi_ireturn h hr dJ6_numberOfLeadingZeros_0f7a4_78 ?_
            first | (have q9 : y = 0 ∨ y = 1 := (by omega); rcases q9 with q | q <;> subst q <;> first | exact ⟨rfl, by decide, by decide, lz_0 ⟨by omega, by omega⟩⟩ | exact ⟨rfl, by decide, by decide, lz_1 ⟨by omega, by omega⟩⟩) | (have q9 : y = 2 ∨ y = 3 := (by omega); rcases q9 with q | q <;> subst q <;> first | exact ⟨rfl, by decide, by decide, lz_2 ⟨by omega, by omega⟩⟩ | exact ⟨rfl, by decide, by decide, lz_3 ⟨by omega, by omega⟩⟩) | (have q9 : y = 4 ∨ y = 5 := (by omega); rcases q9 with q | q <;> subst q <;> first | exact ⟨rfl, by decide, by decide, lz_4 ⟨by omega, by omega⟩⟩ | exact ⟨rfl, by decide, by decide, lz_5 ⟨by omega, by omega⟩⟩) | (have q9 : y = 6 ∨ y = 7 := (by omega); rcases q9 with q | q <;> subst q <;> first | exact ⟨rfl, by decide, by decide, lz_6 ⟨by omega, by omega⟩⟩ | exact ⟨rfl, by decide, by decide, lz_7 ⟨by omega, by omega⟩⟩) | (have q9 : y = 8 ∨ y = 9 := (by omega); rcases q9 with q | q <;> subst q <;> first | exact ⟨rfl, by decide, by decide, lz_8 ⟨by omega, by omega⟩⟩ | exact ⟨rfl, by decide, by decide, lz_9 ⟨by omega, by omega⟩⟩) | (have q9 : y = 10 ∨ y = 11 := (by omega); rcases q9 with q | q <;> subst q <;> first | exact ⟨rfl, by decide, by decide, lz_10 ⟨by omega, by omega⟩⟩ | exact ⟨rfl, by decide, by decide, lz_11 ⟨by omega, by omega⟩⟩) | (have q9 : y = 12 ∨ y = 13 := (by omega); rcases q9 with q | q <;> subst q <;> first | exact ⟨rfl, by decide, by decide, lz_12 ⟨by omega, by omega⟩⟩ | exact ⟨rfl, by decide, by decide, lz_13 ⟨by omega, by omega⟩⟩) | (have q9 : y = 14 ∨ y = 15 := (by omega); rcases q9 with q | q <;> subst q <;> first | exact ⟨rfl, by decide, by decide, lz_14 ⟨by omega, by omega⟩⟩ | exact ⟨rfl, by decide, by decide, lz_15 ⟨by omega, by omega⟩⟩) | (have q9 : y = 16 ∨ y = 17 := (by omega); rcases q9 with q | q <;> subst q <;> first | exact ⟨rfl, by decide, by decide, lz_16 ⟨by omega, by omega⟩⟩ | exact ⟨rfl, by decide, by decide, lz_17 ⟨by omega, by omega⟩⟩) | (have q9 : y = 18 ∨ y = 19 := (by omega); rcases q9 with q | q <;> subst q <;> first | exact ⟨rfl, by decide, by decide, lz_18 ⟨by omega, by omega⟩⟩ | exact ⟨rfl, by decide, by decide, lz_19 ⟨by omega, by omega⟩⟩) | (have q9 : y = 20 ∨ y = 21 := (by omega); rcases q9 with q | q <;> subst q <;> first | exact ⟨rfl, by decide, by decide, lz_20 ⟨by omega, by omega⟩⟩ | exact ⟨rfl, by decide, by decide, lz_21 ⟨by omega, by omega⟩⟩) | (have q9 : y = 22 ∨ y = 23 := (by omega); rcases q9 with q | q <;> subst q <;> first | exact ⟨rfl, by decide, by decide, lz_22 ⟨by omega, by omega⟩⟩ | exact ⟨rfl, by decide, by decide, lz_23 ⟨by omega, by omega⟩⟩) | (have q9 : y = 24 ∨ y = 25 := (by omega); rcases q9 with q | q <;> subst q <;> first | exact ⟨rfl, by decide, by decide, lz_24 ⟨by omega, by omega⟩⟩ | exact ⟨rfl, by decide, by decide, lz_25 ⟨by omega, by omega⟩⟩) | (have q9 : y = 26 ∨ y = 27 := (by omega); rcases q9 with q | q <;> subst q <;> first | exact ⟨rfl, by decide, by decide, lz_26 ⟨by omega, by omega⟩⟩ | exact ⟨rfl, by decide, by decide, lz_27 ⟨by omega, by omega⟩⟩) | (have q9 : y = 28 ∨ y = 29 := (by omega); rcases q9 with q | q <;> subst q <;> first | exact ⟨rfl, by decide, by decide, lz_28 ⟨by omega, by omega⟩⟩ | exact ⟨rfl, by decide, by decide, lz_29 ⟨by omega, by omega⟩⟩) | (have q9 : y = 30 ∨ y = 31 := (by omega); rcases q9 with q | q <;> subst q <;> first | exact ⟨rfl, by decide, by decide, lz_30 ⟨by omega, by omega⟩⟩ | exact ⟨rfl, by decide, by decide, lz_31 ⟨by omega, by omega⟩⟩)
          · refine mi_iinc h dJ6_numberOfLeadingZeros_0f7a4_66 (by rfl) ?_ (by decide)
            refine mi_iload_n h dJ6_numberOfLeadingZeros_0f7a4_69 (by rfl) ?_
            refine mi_iconst h dJ6_numberOfLeadingZeros_0f7a4_70 ?_
            refine mi_iushr h dJ6_numberOfLeadingZeros_0f7a4_71 (us_2 ⟨by omega, by omega⟩) ?_
            refine mi_istore_n h dJ6_numberOfLeadingZeros_0f7a4_72 (by decide) ?_
            refine mi_iload_n h dJ6_numberOfLeadingZeros_0f7a4_73 (by rfl) ?_
            refine mi_iload_n h dJ6_numberOfLeadingZeros_0f7a4_74 (by rfl) ?_
            refine mi_iconst h dJ6_numberOfLeadingZeros_0f7a4_75 ?_
            refine mi_iushr h dJ6_numberOfLeadingZeros_0f7a4_76 (us_1 ⟨by omega, by omega⟩) ?_
            refine mi_isub h dJ6_numberOfLeadingZeros_0f7a4_77 ?_
            refine mt_i (fun y ey => ?_)
            refine mi_ireturn h hr dJ6_numberOfLeadingZeros_0f7a4_78 ?_
            first | (have q9 : y = 0 ∨ y = 1 := (by omega); rcases q9 with q | q <;> subst q <;> first | exact ⟨rfl, by decide, by decide, lz_0 ⟨by omega, by omega⟩⟩ | exact ⟨rfl, by decide, by decide, lz_1 ⟨by omega, by omega⟩⟩) | (have q9 : y = 2 ∨ y = 3 := (by omega); rcases q9 with q | q <;> subst q <;> first | exact ⟨rfl, by decide, by decide, lz_2 ⟨by omega, by omega⟩⟩ | exact ⟨rfl, by decide, by decide, lz_3 ⟨by omega, by omega⟩⟩) | (have q9 : y = 4 ∨ y = 5 := (by omega); rcases q9 with q | q <;> subst q <;> first | exact ⟨rfl, by decide, by decide, lz_4 ⟨by omega, by omega⟩⟩ | exact ⟨rfl, by decide, by decide, lz_5 ⟨by omega, by omega⟩⟩) | (have q9 : y = 6 ∨ y = 7 := (by omega); rcases q9 with q | q <;> subst q <;> first | exact ⟨rfl, by decide, by decide, lz_6 ⟨by omega, by omega⟩⟩ | exact ⟨rfl, by decide, by decide, lz_7 ⟨by omega, by omega⟩⟩) | (have q9 : y = 8 ∨ y = 9 := (by omega); rcases q9 with q | q <;> subst q <;> first | exact ⟨rfl, by decide, by decide, lz_8 ⟨by omega, by omega⟩⟩ | exact ⟨rfl, by decide, by decide, lz_9 ⟨by omega, by omega⟩⟩) | (have q9 : y = 10 ∨ y = 11 := (by omega); rcases q9 with q | q <;> subst q <;> first | exact ⟨rfl, by decide, by decide, lz_10 ⟨by omega, by omega⟩⟩ | exact ⟨rfl, by decide, by decide, lz_11 ⟨by omega, by omega⟩⟩) | (have q9 : y = 12 ∨ y = 13 := (by omega); rcases q9 with q | q <;> subst q <;> first | exact ⟨rfl, by decide, by decide, lz_12 ⟨by omega, by omega⟩⟩ | exact ⟨rfl, by decide, by decide, lz_13 ⟨by omega, by omega⟩⟩) | (have q9 : y = 14 ∨ y = 15 := (by omega); rcases q9 with q | q <;> subst q <;> first | exact ⟨rfl, by decide, by decide, lz_14 ⟨by omega, by omega⟩⟩ | exact ⟨rfl, by decide, by decide, lz_15 ⟨by omega, by omega⟩⟩) | (have q9 : y = 16 ∨ y = 17 := (by omega); rcases q9 with q | q <;> subst q <;> first | exact ⟨rfl, by decide, by decide, lz_16 ⟨by omega, by omega⟩⟩ | exact ⟨rfl, by decide, by decide, lz_17 ⟨by omega, by omega⟩⟩) | (have q9 : y = 18 ∨ y = 19 := (by omega); rcases q9 with q | q <;> subst q <;> first | exact ⟨rfl, by decide, by decide, lz_18 ⟨by omega, by omega⟩⟩ | exact ⟨rfl, by decide, by decide, lz_19 ⟨by omega, by omega⟩⟩) | (have q9 : y = 20 ∨ y = 21 := (by omega); rcases q9 with q | q <;> subst q <;> first | exact ⟨rfl, by decide, by decide, lz_20 ⟨by omega, by omega⟩⟩ | exact ⟨rfl, by decide, by decide, lz_21 ⟨by omega, by omega⟩⟩) | (have q9 : y = 22 ∨ y = 23 := (by omega); rcases q9 with q | q <;> subst q <;> first | exact ⟨rfl, by decide, by decide, lz_22 ⟨by omega, by omega⟩⟩ | exact ⟨rfl, by decide, by decide, lz_23 ⟨by omega, by omega⟩⟩) | (have q9 : y = 24 ∨ y = 25 := (by omega); rcases q9 with q | q <;> subst q <;> first | exact ⟨rfl, by decide, by decide, lz_24 ⟨by omega, by omega⟩⟩ | exact ⟨rfl, by decide, by decide, lz_25 ⟨by omega, by omega⟩⟩) | (have q9 : y = 26 ∨ y = 27 := (by omega); rcases q9 with q | q <;> subst q <;> first | exact ⟨rfl, by decide, by decide, lz_26 ⟨by omega, by omega⟩⟩ | exact ⟨rfl, by decide, by decide, lz_27 ⟨by omega, by omega⟩⟩) | (have q9 : y = 28 ∨ y = 29 := (by omega); rcases q9 with q | q <;> subst q <;> first | exact ⟨rfl, by decide, by decide, lz_28 ⟨by omega, by omega⟩⟩ | exact ⟨rfl, by decide, by decide, lz_29 ⟨by omega, by omega⟩⟩) | (have q9 : y = 30 ∨ y = 31 := (by omega); rcases q9 with q | q <;> subst q <;> first | exact ⟨rfl, by decide, by decide, lz_30 ⟨by omega, by omega⟩⟩ | exact ⟨rfl, by decide, by decide, lz_31 ⟨by omega, by omega⟩⟩)
  · exfalso; omega
set_option maxHeartbeats 4000000 in
set_option maxRecDepth 100000 in
theorem c_J6_nlzNeg {σ : Mem} {x : Int} (hx : 2147483648 ≤ x ∧ x < 4294967296) : Sp1 yJ6_numberOfLeadingZeros_0f7a4 cJ6_numberOfLeadingZeros_0f7a4 2 (some .int) 1 0 [vi x] σ (fun r σ' => σ = σ' ∧ r = 0) := by
  refine Sp1_as (as := [vi (x - 4294967296)]) ?_ (fun ad => ?_)
  · refine Sp1_in RJ6 rfl (by decide +kernel) (Nat.le_of_ble_eq_true rfl) [some (vi (x - 4294967296)), none] rfl ?_
    intro K h hr
    refine mi_iload_n h dJ6_numberOfLeadingZeros_0f7a4_0 (by rfl) ?_
    refine mi_if_gt (tgt := 15) h dJ6_numberOfLeadingZeros_0f7a4_1 (by decide) ⟨by omega, by omega⟩ (fun e1 => ?_) (fun e1 => ?_)
    · exfalso; omega
    · refine mi_iload_n h dJ6_numberOfLeadingZeros_0f7a4_4 (by rfl) ?_
      refine mi_if_ne (tgt := 13) h dJ6_numberOfLeadingZeros_0f7a4_5 (by decide) ⟨by omega, by omega⟩ (fun e5 => ?_) (fun e5 => ?_)
      · refine mi_iconst h dJ6_numberOfLeadingZeros_0f7a4_13 ?_
        refine mi_ireturn h hr dJ6_numberOfLeadingZeros_0f7a4_14 ?_
        exact ⟨rfl, rfl⟩
      · exfalso; omega
  · show [Value.int (Int32.ofInt (x - 4294967296))] = [Value.int (Int32.ofInt x)]
    rw [Int32.ofInt_sub, show Int32.ofInt 4294967296 = 0 by decide]
    simp
theorem c_J6_nlz {σ : Mem} {x : Int} (hx : 1 ≤ x ∧ x < 4294967296) : Sp1 yJ6_numberOfLeadingZeros_0f7a4 cJ6_numberOfLeadingZeros_0f7a4 2 (some .int) 1 0 [vi x] σ (fun r σ' => σ = σ' ∧ 0 ≤ r ∧ r ≤ 31 ∧ 2 ^ (31 - r.toNat) ≤ x ∧ x < 2 ^ (32 - r.toNat)) := by
  rcases Int.lt_or_le x 2147483648 with q | q
  · exact c_J6_numberOfLeadingZeros_0f7a4 ⟨hx.1, q⟩
  · exact Sp1_imp (c_J6_nlzNeg ⟨q, hx.2⟩) (fun r σ' hp => by obtain ⟨h1, rfl⟩ := hp; exact ⟨h1, by decide, by decide, lz_0 ⟨q, hx.2⟩⟩)
set_option maxHeartbeats 4000000 in
set_option maxRecDepth 100000 in
theorem c_J13_numberOfLeadingZeros_95d88 {σ : Mem} {x : Int} (hx : 1 ≤ x ∧ x < 4611686018427387904) : Sp1 yJ13_numberOfLeadingZeros_95d88 cJ13_numberOfLeadingZeros_95d88 3 (some .int) 1 1 [vl x] σ (fun r σ' => σ = σ' ∧ 0 ≤ r ∧ r ≤ 63 ∧ 2 ^ (63 - r.toNat) ≤ x ∧ x < 2 ^ (64 - r.toNat)) := by
  refine Sp1_in RJ13 rfl (by decide +kernel) (Nat.le_of_ble_eq_true rfl) [some (vl x), none, none] rfl ?_
  intro K h hr
  refine mi_lload_n h dJ13_numberOfLeadingZeros_95d88_0 (by rfl) ?_
  refine mi_bipush h dJ13_numberOfLeadingZeros_95d88_1 (by decide) ?_
  refine mi_lushr h dJ13_numberOfLeadingZeros_95d88_3 (ul_32 ⟨by omega, by omega⟩) ?_
  refine mi_l2i h dJ13_numberOfLeadingZeros_95d88_4 ⟨by omega, by omega⟩ ?_
  refine mi_istore_n h dJ13_numberOfLeadingZeros_95d88_5 (by decide) ?_
  refine mi_iload_n h dJ13_numberOfLeadingZeros_95d88_6 (by rfl) ?_
  refine mi_if_ne (tgt := 21) h dJ13_numberOfLeadingZeros_95d88_7 (by decide) ⟨by omega, by omega⟩ (fun e7 => ?_) (fun e7 => ?_)
  · refine mi_iload_n h dJ13_numberOfLeadingZeros_95d88_21 (by rfl) ?_
    refine mi_cS1i h dJ13_numberOfLeadingZeros_95d88_22 ml_RJ13_308 ym_yJ6_numberOfLeadingZeros_0f7a4 (c_J6_nlz ⟨by omega, by omega⟩) (fun r22 σ22 hp22 => ?_)
    obtain ⟨rfl, hq, hq2, hq3, hq4⟩ := hp22
    refine mi_ireturn h hr dJ13_numberOfLeadingZeros_95d88_25 ?_
    first | (refine ⟨rfl, by omega, by omega, ?_⟩; rw [show 63 - (32 + r14).toNat = 31 - r14.toNat by omega, show 64 - (32 + r14).toNat = 32 - r14.toNat by omega]; exact ⟨hq3, hq4⟩) | (refine ⟨rfl, by omega, by omega, ?_⟩; rw [show 63 - r22.toNat = 31 - r22.toNat + 32 by omega, show 64 - r22.toNat = 32 - r22.toNat + 32 by omega, Int.pow_add, Int.pow_add, show (2 : Int) ^ 32 = 4294967296 by decide]; omega)
  · refine mi_bipush h dJ13_numberOfLeadingZeros_95d88_10 (by decide) ?_
    refine mi_lload_n h dJ13_numberOfLeadingZeros_95d88_12 (by rfl) ?_
    refine mi_l2i h dJ13_numberOfLeadingZeros_95d88_13 ⟨by omega, by omega⟩ ?_
    refine mi_cS1i h dJ13_numberOfLeadingZeros_95d88_14 ml_RJ13_308 ym_yJ6_numberOfLeadingZeros_0f7a4 (c_J6_nlz ⟨by omega, by omega⟩) (fun r14 σ14 hp14 => ?_)
    obtain ⟨rfl, hq, hq2, hq3, hq4⟩ := hp14
    refine mi_iadd h dJ13_numberOfLeadingZeros_95d88_17  ?_
    refine mi_goto (tgt := 25) h dJ13_numberOfLeadingZeros_95d88_18 (by decide) ?_
    refine mi_ireturn h hr dJ13_numberOfLeadingZeros_95d88_25 ?_
    first | (refine ⟨rfl, by omega, by omega, ?_⟩; rw [show 63 - (32 + r14).toNat = 31 - r14.toNat by omega, show 64 - (32 + r14).toNat = 32 - r14.toNat by omega]; exact ⟨hq3, hq4⟩) | (refine ⟨rfl, by omega, by omega, ?_⟩; rw [show 63 - r22.toNat = 31 - r22.toNat + 32 by omega, show 64 - r22.toNat = 32 - r22.toNat + 32 by omega, Int.pow_add, Int.pow_add, show (2 : Int) ^ 32 = 4294967296 by decide]; omega)
theorem rt_start {n r : Int} {k : Nat} (hn : 0 ≤ n) (h1 : rt n * rt n ≤ n) (h2 : n < 2 ^ (64 - r.toNat)) (h3 : 64 - r.toNat ≤ 2 * k) (h4 : k ≤ 33) : rt n ≤ 1 * 2 ^ k ∧ 0 < (1 : Int) * 2 ^ k ∧ 1 * 2 ^ k ≤ (8589934592 : Int) := by
  have a := p2_le h3
  have b := p2_le h4
  have c : (2 : Int) ^ (2 * k) = 2 ^ k * 2 ^ k := by rw [Nat.two_mul, Int.pow_add]
  have d : (0 : Int) < 2 ^ k := Int.pow_pos (by decide)
  have e : (2 : Int) ^ 33 = 8589934592 := by decide
  refine ⟨?_, by omega, by omega⟩
  rcases Int.lt_or_le (1 * 2 ^ k) (rt n) with q | q
  · have := sq_le (a := 2 ^ k) (b := rt n) (by omega) (by omega)
    omega
  · exact q
set_option maxHeartbeats 4000000 in
set_option maxRecDepth 100000 in
theorem c_X3_root {σ : Mem} {n u : Int} (hn : 0 ≤ n ∧ n < 4611686018427387904) (hu : u = 0 ∨ u = 1) : Sp1 yX3_root cX3_root 8 (some .long) 2 2 [vl n, vi u] σ (fun r σ' => σ = σ' ∧ r = if u = 1 then rtu n else rt n) := by
  refine Sp1_in RX3 rfl (by decide +kernel) (Nat.le_of_ble_eq_true rfl) [some (vl n), none, some (vi u), none, none, none, none, none] rfl ?_
  intro K h hr
  have hs0 := rt_nn n
  have hs1 := rt_le hn.1
  have hs2 := rt_lt hn.1
  have hs3 := rt_small hn.2 hn.1
  have hs4 : rt n * rt n < 4611686018427387904 := by omega
  have fin : ∀ l5 l6 l7 : Option MV, M K 66 [some (vl n), none, some (vi u), some (vl (rt n)), none, l5, l6, l7] [] σ := by
    intro l5 l6 l7
    have hz : 0 ≤ rt n * rt n := Int.mul_nonneg hs0 hs0
    refine mi_iload_n h dX3_root_66 (by rfl) ?_
    refine mi_if_eq (tgt := 84) h dX3_root_67 (by decide) ⟨by omega, by omega⟩ (fun e67 => ?_) (fun e67 => ?_)
    · refine mi_lload_n h dX3_root_84 (by rfl) ?_
      refine mi_lreturn h hr dX3_root_85 ?_
      first | exact ⟨rfl, by rw [if_neg (by omega)]⟩ | exact ⟨rfl, by rw [if_pos (by omega)]; unfold rtu; rw [if_pos (by omega)]⟩ | exact ⟨rfl, by rw [if_pos (by omega)]; unfold rtu; rw [if_neg (by omega)]⟩
    · refine mi_lload_n h dX3_root_70 (by rfl) ?_
      refine mi_lload_n h dX3_root_71 (by rfl) ?_
      refine mi_lmul h dX3_root_72 ?_
      refine mi_lload_n h dX3_root_73 (by rfl) ?_
      refine mi_lcmp_ge (tgt := 84) h dX3_root_74 dX3_root_75 (by decide) ⟨by omega, by omega⟩ ⟨by omega, by omega⟩ (fun e74 => ?_) (fun e74 => ?_)
      · refine mi_lload_n h dX3_root_84 (by rfl) ?_
        refine mi_lreturn h hr dX3_root_85 ?_
        first | exact ⟨rfl, by rw [if_neg (by omega)]⟩ | exact ⟨rfl, by rw [if_pos (by omega)]; unfold rtu; rw [if_pos (by omega)]⟩ | exact ⟨rfl, by rw [if_pos (by omega)]; unfold rtu; rw [if_neg (by omega)]⟩
      · refine mi_lload_n h dX3_root_78 (by rfl) ?_
        refine mi_lconst1 h dX3_root_79 ?_
        refine mi_ladd h dX3_root_80 ?_
        refine mi_goto (tgt := 85) h dX3_root_81 (by decide) ?_
        refine mi_lreturn h hr dX3_root_85 ?_
        first | exact ⟨rfl, by rw [if_neg (by omega)]⟩ | exact ⟨rfl, by rw [if_pos (by omega)]; unfold rtu; rw [if_pos (by omega)]⟩ | exact ⟨rfl, by rw [if_pos (by omega)]; unfold rtu; rw [if_neg (by omega)]⟩
  have loop : ∀ (j : Nat) (i x : Int) (l6 l7 : Option MV), 1 ≤ n → i + j = 64 → 0 ≤ i → rt n ≤ x → 0 < x → x ≤ 8589934592 → x - rt n ≤ 8589934592 / 2 ^ i.toNat → M K 23 [some (vl n), none, some (vi u), some (vl x), none, some (vi i), l6, l7] [] σ := by
    intro j
    induction j with
    | zero =>
      intro i x l6 l7 h1 h2 h3 h4 h5 h6 h7
      have hi : i = 64 := by omega
      subst hi
      have h8 : x = rt n := by
        have : (8589934592 : Int) / 2 ^ (64 : Int).toNat = 0 := by decide
        omega
      subst h8
      refine mi_iload h dX3_root_23 (by rfl) ?_
      refine mi_bipush h dX3_root_25 (by decide) ?_
      refine mi_icmp_ge (tgt := 66) h dX3_root_27 (by decide) ⟨by omega, by omega⟩ ⟨by omega, by omega⟩ (fun e27 => ?_) (fun e27 => ?_)
      · exact fin _ _ _
      · exfalso; omega
    | succ j ih =>
      intro i x l6 l7 h1 h2 h3 h4 h5 h6 h7
      have q0 : 0 ≤ n / x := Int.ediv_nonneg (by omega) (by omega)
      have q1 : n / x ≤ n := Int.ediv_le_self x (by omega)
      have q2 := nw_ge (n := n) (x := x) hs1 h5
      refine mi_iload h dX3_root_23 (by rfl) ?_
      refine mi_bipush h dX3_root_25 (by decide) ?_
      refine mi_icmp_ge (tgt := 66) h dX3_root_27 (by decide) ⟨by omega, by omega⟩ ⟨by omega, by omega⟩ (fun e27 => ?_) (fun e27 => ?_)
      · first | exact fin _ _ _ | (exfalso; omega)
      · refine mi_lload_n h dX3_root_30 (by rfl) ?_
        refine mi_lconst0 h dX3_root_31 ?_
        refine mi_lcmp_le (tgt := 66) h dX3_root_32 dX3_root_33 (by decide) ⟨by omega, by omega⟩ ⟨by omega, by omega⟩ (fun e32 => ?_) (fun e32 => ?_)
        · first | exact fin _ _ _ | (exfalso; omega)
        · refine mi_lload_n h dX3_root_36 (by rfl) ?_
          refine mi_lload_n h dX3_root_37 (by rfl) ?_
          refine mi_lload_n h dX3_root_38 (by rfl) ?_
          refine mi_ldiv h dX3_root_39 ⟨by omega, by omega⟩ ⟨by omega, by omega⟩ ?_
          refine mi_ladd h dX3_root_40 ?_
          refine mi_ldc2 (z := 2) h dX3_root_41 kc_RX3_13 rfl ?_
          refine mi_ldiv h dX3_root_44 ⟨by omega, by omega⟩ ⟨by omega, by omega⟩ ?_
          refine mt_l (fun y ey => ?_)
          refine mi_lstore h dX3_root_45 (by decide) ?_
          refine mi_lload h dX3_root_47 (by rfl) ?_
          refine mi_lload_n h dX3_root_49 (by rfl) ?_
          refine mi_lcmp_lt (tgt := 57) h dX3_root_50 dX3_root_51 (by decide) ⟨by omega, by omega⟩ ⟨by omega, by omega⟩ (fun e50 => ?_) (fun e50 => ?_)
          · have hlt : rt n < x := by
              rcases Int.lt_or_le (rt n) x with q | q
              · exact q
              · exfalso; omega
            have q3 := nw_div hs0 hs2 hlt
            have q4 := nw_half i.toNat h7
            refine mi_lload h dX3_root_57 (by rfl) ?_
            refine mi_lstore_n h dX3_root_59 (by decide) ?_
            refine mi_iinc h dX3_root_60 (by rfl) ?_ (by decide)
            refine mi_goto (tgt := 23) h dX3_root_63 (by decide) ?_
            exact ih (i + 1) y _ _ h1 (by omega) (by omega) (by omega) (by have := rt_pos h1; omega) (by omega) (by rw [show (i + 1).toNat = i.toNat + 1 by omega]; omega)
          · have hxs : x = rt n := by
              rcases Int.lt_or_le (rt n) x with q | q
              · have := nw_div hs0 hs2 q; omega
              · omega
            subst hxs
            refine mi_goto (tgt := 66) h dX3_root_54 (by decide) ?_
            first | exact fin _ _ _ | (exfalso; omega)
  refine mi_lload_n h dX3_root_0 (by rfl) ?_
  refine mi_lconst1 h dX3_root_1 ?_
  refine mi_lcmp_ge (tgt := 8) h dX3_root_2 dX3_root_3 (by decide) ⟨by omega, by omega⟩ ⟨by omega, by omega⟩ (fun e2 => ?_) (fun e2 => ?_)
  · refine mi_lconst1 h dX3_root_8 ?_
    refine mi_bipush h dX3_root_9 (by decide) ?_
    refine mi_lload_n h dX3_root_11 (by rfl) ?_
    refine mi_cS1i h dX3_root_12 ml_RX3_7 ym_yJ13_numberOfLeadingZeros_95d88 (c_J13_numberOfLeadingZeros_95d88 ⟨by omega, by omega⟩) (fun r12 σ12 hp12 => ?_)
    obtain ⟨rfl, hq, hq2, hq3, hq4⟩ := hp12
    refine mi_isub h dX3_root_15 ?_
    refine mi_iconst h dX3_root_16 ?_
    refine mi_idiv h dX3_root_17 ⟨by omega, by omega⟩ ⟨by omega, by omega⟩ ?_
    obtain ⟨k, hk⟩ : ∃ k : Nat, (65 - r12) / 2 = (k : Int) := ⟨((65 - r12) / 2).toNat, (Int.toNat_of_nonneg (by omega)).symm⟩
    rw [hk]
    refine mi_lshl h dX3_root_18 (sh_l (x := 1) (k := k) (by omega)) ?_
    refine mi_lstore_n h dX3_root_19 (by decide) ?_
    refine mi_iconst h dX3_root_20 ?_
    refine mi_istore h dX3_root_21 (by decide) ?_
    have hk2 : rt n ≤ 1 * 2 ^ k ∧ 0 < (1 : Int) * 2 ^ k ∧ 1 * 2 ^ k ≤ (8589934592 : Int) := rt_start hn.1 hs1 hq4 (by omega) (by omega)
    exact loop 64 0 (1 * 2 ^ k) none none (by omega) (by omega) (by omega) hk2.1 hk2.2.1 hk2.2.2 (by simp only [Int.toNat_zero, Int.pow_zero, Int.ediv_one]; omega)
  · refine mi_lconst0 h dX3_root_6 ?_
    refine mi_lreturn h hr dX3_root_7 ?_
    have : n = 0 := by omega
    subst this
    exact ⟨rfl, by split <;> decide⟩
end
section
theorem sr_l {x : Int} {k : Nat} (hk : k < 64) (h : 0 ≤ x ∧ x < 9223372036854775808) : Int64.ofInt x >>> ((Int32.ofInt (k : Int)).toInt64 &&& 63) = Int64.ofInt (x / 2 ^ k) := by
  have e : ∀ k, k < 64 → (((Int32.ofInt ((k : Nat) : Int)).toInt64 &&& 63).toBitVec.smod 64).toNat = k := by decide
  have p : (0 : Int) < 2 ^ k := Int.pow_pos (by decide)
  have h1 : x / 2 ^ k ≤ x := Int.ediv_le_self _ h.1
  have h2 : 0 ≤ x / 2 ^ k := Int.ediv_nonneg h.1 (by omega)
  apply Int64.toInt_inj.mp
  have e2 : (Int64.ofInt x >>> ((Int32.ofInt (k : Int)).toInt64 &&& 63)).toInt = (Int64.ofInt x).toInt >>> k := by
    have := BitVec.toInt_sshiftRight (x := (Int64.ofInt x).toBitVec) (n := (((Int32.ofInt (k : Int)).toInt64 &&& 63).toBitVec.smod 64).toNat)
    rw [e k hk] at this
    rw [← Int64.toInt_toBitVec, Int64.toBitVec_shiftRight]
    show (BitVec.sshiftRight _ (((Int32.ofInt (k : Int)).toInt64 &&& 63).toBitVec.smod 64).toNat).toInt = _
    rw [e k hk]
    exact this
  rw [e2, i64 ⟨by omega, by omega⟩, Int.shiftRight_eq_div_pow, i64 ⟨by omega, by omega⟩]
  rfl
theorem sr_1 {x : Int} (h : 0 ≤ x ∧ x < 9223372036854775808) : Int64.ofInt x >>> ((Int32.ofInt 1).toInt64 &&& 63) = Int64.ofInt (x / 2) := sr_l (k := 1) (by decide) h
theorem sr_20 {x : Int} (h : 0 ≤ x ∧ x < 9223372036854775808) : Int64.ofInt x >>> ((Int32.ofInt 20).toInt64 &&& 63) = Int64.ofInt (x / 1048576) := sr_l (k := 20) (by decide) h
theorem le_of_sq {x : Int} (h : x * x < 4611686018427387904) : x ≤ 2147483648 := by
  rcases Int.lt_or_le 2147483648 x with q | q
  · have := sq_le (a := 2147483648) (by omega) (Int.le_of_lt q)
    omega
  · exact q
theorem big_sq {n x : Int} (h : 3037000499 < x) (hn : n < 4611686018427387904) : n < x * x := by
  have := sq_le (a := 3037000499) (by omega) (Int.le_of_lt h)
  omega
set_option maxHeartbeats 4000000 in
set_option maxRecDepth 100000 in
theorem c_X6_root {σ : Mem} {n : Int} (hn : 0 ≤ n ∧ n < 4611686018427387904) : Sp1 yX6_root cX6_root 8 (some .long) 2 0 [vl n] σ (fun r σ' => σ = σ' ∧ r = rt n) := by
  refine Sp1_in RX6 rfl (by decide +kernel) (Nat.le_of_ble_eq_true rfl) [some (vl n), none, none, none, none, none, none, none] rfl ?_
  intro K h hr
  have loop : ∀ (m : Nat) (x w b : Int) (l6 l7 : Option MV), m ≤ 32 → w = 2 ^ m → b = w / 2 → 0 ≤ x → x * x ≤ n → n < (x + w) * (x + w) → x ≤ 2147483648 → M K 7 [some (vl n), none, some (vl x), none, some (vl b), none, l6, l7] [] σ := by
    intro m
    induction m with
    | zero =>
      intro x w b l6 l7 h0 h1 h2 h3 h4 h5 h6
      have hw : w = 1 := h1
      subst hw
      subst h2
      refine mi_lload h dX6_root_7 (by rfl) ?_
      refine mi_lconst0 h dX6_root_9 ?_
      refine mi_lcmp_le (tgt := 51) h dX6_root_10 dX6_root_11 (by decide) ⟨by omega, by omega⟩ ⟨by omega, by omega⟩ (fun e10 => ?_) (fun e10 => ?_)
      · refine mi_lload_n h dX6_root_51 (by rfl) ?_
        refine mi_lreturn h hr dX6_root_52 ?_
        exact ⟨rfl, (rt_uniq h3 h4 h5).symm⟩
      · exfalso; omega
    | succ m ih =>
      intro x w b l6 l7 h0 h1 h2 h3 h4 h5 h6
      have hw : w = 2 * 2 ^ m := by rw [h1, Int.pow_succ, Int.mul_comm]
      have hb : b = 2 ^ m := by omega
      have hm : (1 : Int) ≤ 2 ^ m := by have := p2_le (Nat.zero_le m); simpa using this
      have hm2 : (2 : Int) ^ m ≤ 2147483648 := by have := p2_le (show m ≤ 31 by omega); simpa using this
      have hs0 : 0 ≤ (x + b) * (x + b) := Int.mul_nonneg (by omega) (by omega)
      refine mi_lload h dX6_root_7 (by rfl) ?_
      refine mi_lconst0 h dX6_root_9 ?_
      refine mi_lcmp_le (tgt := 51) h dX6_root_10 dX6_root_11 (by decide) ⟨by omega, by omega⟩ ⟨by omega, by omega⟩ (fun e10 => ?_) (fun e10 => ?_)
      · exfalso; omega
      · refine mi_lload_n h dX6_root_14 (by rfl) ?_
        refine mi_lload h dX6_root_15 (by rfl) ?_
        refine mi_ladd h dX6_root_17 ?_
        refine mi_lstore h dX6_root_18 (by decide) ?_
        refine mi_lload h dX6_root_20 (by rfl) ?_
        refine mi_ldc2 (z := 3037000499) h dX6_root_22 kc_RX6_147 rfl ?_
        refine mi_lcmp_gt (tgt := 42) h dX6_root_25 dX6_root_26 (by decide) ⟨by omega, by omega⟩ ⟨by omega, by omega⟩ (fun e25 => ?_) (fun e25 => ?_)
        · refine mi_lload h dX6_root_42 (by rfl) ?_
          refine mi_iconst h dX6_root_44 ?_
          refine mi_lshr h dX6_root_45 (sr_1 ⟨by omega, by omega⟩) ?_
          refine mi_lstore h dX6_root_46 (by decide) ?_
          refine mi_goto (tgt := 7) h dX6_root_48 (by decide) ?_
          first | exact ih _ (2 ^ m) _ _ _ (by omega) rfl (by rw [hb]) (by omega) (by omega) (by rw [show x + b + 2 ^ m = x + w by omega]; exact h5) (le_of_sq h6b) | exact ih _ (2 ^ m) _ _ _ (by omega) rfl (by rw [hb]) h3 h4 (by rw [← hb]; first | omega | exact big_sq (by omega) hn.2) h6
        · have hs : (x + b) * (x + b) ≤ 3037000499 * 3037000499 := sq_le (by omega) (by omega)
          refine mi_lload h dX6_root_29 (by rfl) ?_
          refine mi_lload h dX6_root_31 (by rfl) ?_
          refine mi_lmul h dX6_root_33 ?_
          refine mi_lload_n h dX6_root_34 (by rfl) ?_
          refine mi_lcmp_gt (tgt := 42) h dX6_root_35 dX6_root_36 (by decide) ⟨by omega, by omega⟩ ⟨by omega, by omega⟩ (fun e35 => ?_) (fun e35 => ?_)
          · refine mi_lload h dX6_root_42 (by rfl) ?_
            refine mi_iconst h dX6_root_44 ?_
            refine mi_lshr h dX6_root_45 (sr_1 ⟨by omega, by omega⟩) ?_
            refine mi_lstore h dX6_root_46 (by decide) ?_
            refine mi_goto (tgt := 7) h dX6_root_48 (by decide) ?_
            first | exact ih _ (2 ^ m) _ _ _ (by omega) rfl (by rw [hb]) (by omega) (by omega) (by rw [show x + b + 2 ^ m = x + w by omega]; exact h5) (le_of_sq h6b) | exact ih _ (2 ^ m) _ _ _ (by omega) rfl (by rw [hb]) h3 h4 (by rw [← hb]; first | omega | exact big_sq (by omega) hn.2) h6
          · have h6b : (x + b) * (x + b) < 4611686018427387904 := by omega
            refine mi_lload h dX6_root_39 (by rfl) ?_
            refine mi_lstore_n h dX6_root_41 (by decide) ?_
            refine mi_lload h dX6_root_42 (by rfl) ?_
            refine mi_iconst h dX6_root_44 ?_
            refine mi_lshr h dX6_root_45 (sr_1 ⟨by omega, by omega⟩) ?_
            refine mi_lstore h dX6_root_46 (by decide) ?_
            refine mi_goto (tgt := 7) h dX6_root_48 (by decide) ?_
            first | exact ih _ (2 ^ m) _ _ _ (by omega) rfl (by rw [hb]) (by omega) (by omega) (by rw [show x + b + 2 ^ m = x + w by omega]; exact h5) (le_of_sq h6b) | exact ih _ (2 ^ m) _ _ _ (by omega) rfl (by rw [hb]) h3 h4 (by rw [← hb]; first | omega | exact big_sq (by omega) hn.2) h6
  refine mi_lconst0 h dX6_root_0 ?_
  refine mi_lstore_n h dX6_root_1 (by decide) ?_
  refine mi_ldc2 (z := 2147483648) h dX6_root_2 kc_RX6_145 rfl ?_
  refine mi_lstore h dX6_root_5 (by decide) ?_
  exact loop 32 0 4294967296 2147483648 none none (by omega) (by decide) (by decide) (by omega) (by omega) (by omega) (by omega)
set_option maxHeartbeats 4000000 in
set_option maxRecDepth 100000 in
theorem c_X6_rootUp {σ : Mem} {n : Int} (hn : 0 ≤ n ∧ n < 4611686018427387904) : Sp1 yX6_rootUp cX6_rootUp 4 (some .long) 2 1 [vl n] σ (fun r σ' => σ = σ' ∧ r = rtu n) := by
  refine Sp1_in RX6 rfl (by decide +kernel) (Nat.le_of_ble_eq_true rfl) [some (vl n), none, none, none] rfl ?_
  intro K h hr
  have hs0 := rt_nn n
  have hs1 := rt_le hn.1
  have hs3 := rt_small hn.2 hn.1
  have hz : 0 ≤ rt n * rt n := Int.mul_nonneg hs0 hs0
  refine mi_lload_n h dX6_rootUp_0 (by rfl) ?_
  refine mi_cS1l h dX6_rootUp_1 ml_RX6_149 ym_yX6_root (c_X6_root hn) (fun r1 σ1 hp1 => ?_)
  obtain ⟨rfl, rfl⟩ := hp1
  refine mi_lstore_n h dX6_rootUp_4 (by decide) ?_
  refine mi_lload_n h dX6_rootUp_5 (by rfl) ?_
  refine mi_lload_n h dX6_rootUp_6 (by rfl) ?_
  refine mi_lmul h dX6_rootUp_7 ?_
  refine mi_lload_n h dX6_rootUp_8 (by rfl) ?_
  refine mi_lcmp_ge (tgt := 19) h dX6_rootUp_9 dX6_rootUp_10 (by decide) ⟨by omega, by omega⟩ ⟨by omega, by omega⟩ (fun e9 => ?_) (fun e9 => ?_)
  · refine mi_lload_n h dX6_rootUp_19 (by rfl) ?_
    refine mi_lreturn h hr dX6_rootUp_20 ?_
    first | exact ⟨rfl, by unfold rtu; rw [if_pos (by omega)]⟩ | exact ⟨rfl, by unfold rtu; rw [if_neg (by omega)]⟩
  · refine mi_lload_n h dX6_rootUp_13 (by rfl) ?_
    refine mi_lconst1 h dX6_rootUp_14 ?_
    refine mi_ladd h dX6_rootUp_15 ?_
    refine mi_goto (tgt := 20) h dX6_rootUp_16 (by decide) ?_
    refine mi_lreturn h hr dX6_rootUp_20 ?_
    first | exact ⟨rfl, by unfold rtu; rw [if_pos (by omega)]⟩ | exact ⟨rfl, by unfold rtu; rw [if_neg (by omega)]⟩
set_option maxHeartbeats 4000000 in
set_option maxRecDepth 100000 in
theorem c_X6_up {σ : Mem} {a b : Int} (ha : 0 ≤ a ∧ a < 4611686018427387904) (hb : 0 < b ∧ b < 4611686018427387904) : Sp1 yX6_up cX6_up 4 (some .long) 2 0 [vl a, vl b] σ (fun r σ' => σ = σ' ∧ r = qu a b) := by
  refine Sp1_in RX6 rfl (by decide +kernel) (Nat.le_of_ble_eq_true rfl) [some (vl a), none, some (vl b), none] rfl ?_
  intro K h hr
  have h2 := Int.emod_lt_of_pos a hb.1
  have h3 := Int.emod_nonneg a (Int.ne_of_gt hb.1)
  have h4 := qu_up (a := a) hb.1
  refine mi_lload_n h dX6_up_0 (by rfl) ?_
  refine mi_lload_n h dX6_up_1 (by rfl) ?_
  refine mi_ldiv h dX6_up_2 ⟨by omega, by omega⟩ ⟨by omega, by omega⟩ ?_
  refine mi_lload_n h dX6_up_3 (by rfl) ?_
  refine mi_lload_n h dX6_up_4 (by rfl) ?_
  refine mi_lrem h dX6_up_5 ⟨by omega, by omega⟩ ⟨by omega, by omega⟩ ?_
  refine mi_lconst0 h dX6_up_6 ?_
  refine mi_lcmp_le (tgt := 15) h dX6_up_7 dX6_up_8 (by decide) ⟨by omega, by omega⟩ ⟨by omega, by omega⟩ (fun e7 => ?_) (fun e7 => ?_)
  · refine mi_lconst0 h dX6_up_15 ?_
    refine mi_ladd h dX6_up_16 ?_
    refine mi_lreturn h hr dX6_up_17 ?_
    first | exact ⟨rfl, by rw [← h4, if_pos (by omega)]⟩ | exact ⟨rfl, by rw [← h4, if_neg (by omega)]⟩
  · refine mi_lconst1 h dX6_up_11 ?_
    refine mi_goto (tgt := 16) h dX6_up_12 (by decide) ?_
    refine mi_ladd h dX6_up_16 ?_
    refine mi_lreturn h hr dX6_up_17 ?_
    first | exact ⟨rfl, by rw [← h4, if_pos (by omega)]⟩ | exact ⟨rfl, by rw [← h4, if_neg (by omega)]⟩
end
section
theorem mt_e {K : KT} {pc : Nat} {ls : List (Option MV)} {st : List MV} {σ : Mem} {x y : Int} (e : x = y) (k : M K pc ls (vi y :: st) σ) : M K pc ls (vi x :: st) σ := by rw [e]; exact k
theorem mt_el {K : KT} {pc : Nat} {ls : List (Option MV)} {st : List MV} {σ : Mem} {x y : Int} (e : x = y) (k : M K pc ls (vl y :: st) σ) : M K pc ls (vl x :: st) σ := by rw [e]; exact k
/-! bits -/
def tb (b : Int) (i : Nat) : Bool := b.toNat.testBit i
theorem tb_iff (b : Int) (i : Nat) : tb b i = decide (b.toNat / 2 ^ i % 2 = 1) := Nat.testBit_eq_decide_div_mod_eq
theorem anN (a b : Nat) : Int32.ofInt (a : Int) &&& Int32.ofInt (b : Int) = Int32.ofInt ((a &&& b : Nat) : Int) := by
  rw [Int32.ofInt_eq_ofNat, Int32.ofInt_eq_ofNat, Int32.ofInt_eq_ofNat]
  apply Int32.toBitVec_inj.1
  show BitVec.ofNat 32 a &&& BitVec.ofNat 32 b = BitVec.ofNat 32 (a &&& b)
  apply BitVec.eq_of_getLsbD_eq
  intro i hi
  simp [hi]
theorem orN (a b : Nat) : Int32.ofInt (a : Int) ||| Int32.ofInt (b : Int) = Int32.ofInt ((a ||| b : Nat) : Int) := by
  rw [Int32.ofInt_eq_ofNat, Int32.ofInt_eq_ofNat, Int32.ofInt_eq_ofNat]
  apply Int32.toBitVec_inj.1
  show BitVec.ofNat 32 a ||| BitVec.ofNat 32 b = BitVec.ofNat 32 (a ||| b)
  apply BitVec.eq_of_getLsbD_eq
  intro i hi
  simp [hi]
theorem shN : ∀ i, i < 24 → Int32.ofInt 1 <<< (Int32.ofInt ((i : Nat) : Int) &&& 31) = Int32.ofInt ((2 ^ i : Nat) : Int) := by decide
theorem nxN : ∀ i, i < 24 → Int32.ofInt ((2 ^ i : Nat) : Int) ^^^ Int32.ofInt (-1) = Int32.ofInt ((4294967295 - 2 ^ i : Nat) : Int) := by decide
def wb (b : Int) (i : Nat) (v : Int) : Int := if v = 1 then ((b.toNat ||| 2 ^ i : Nat) : Int) else ((b.toNat &&& (4294967295 - 2 ^ i) : Nat) : Int)
theorem wb_rng {b v : Int} {i : Nat} (hb : 0 ≤ b ∧ b < 16777216) (hi : i < 24) : 0 ≤ wb b i v ∧ wb b i v < 16777216 := by
  unfold wb
  split
  · have h1 : b.toNat < 2 ^ 24 := by omega
    have h2 : 2 ^ i < 2 ^ 24 := Nat.pow_lt_pow_right (by decide) hi
    have := Nat.or_lt_two_pow h1 h2
    omega
  · have := @Nat.and_le_left b.toNat (4294967295 - 2 ^ i)
    omega
theorem wb_tb {b v : Int} {i : Nat} (hb : 0 ≤ b ∧ b < 16777216) (hi : i < 24) (j : Nat) : tb (wb b i v) j = if j = i then decide (v = 1) else tb b j := by
  unfold wb tb
  by_cases hv : v = 1
  · rw [if_pos hv, Int.toNat_natCast, Nat.testBit_or, Nat.testBit_two_pow]
    by_cases hj : j = i
    · subst hj; simp [hv]
    · simp [hj, Ne.symm hj]
  · rw [if_neg hv, Int.toNat_natCast, Nat.testBit_and]
    have h2 : 2 ^ i < 2 ^ 32 := Nat.pow_lt_pow_right (by decide) (by omega)
    rw [show 4294967295 - 2 ^ i = 2 ^ 32 - (2 ^ i + 1) by omega, Nat.testBit_two_pow_sub_succ h2, Nat.testBit_two_pow]
    by_cases hj : j = i
    · subst hj; simp [hv]
    · by_cases h32 : j < 32
      · simp [hj, Ne.symm hj, h32]
      · have : b.toNat.testBit j = false := Nat.testBit_lt_two_pow (Nat.lt_of_lt_of_le (show b.toNat < 2 ^ 24 by omega) (Nat.pow_le_pow_right (by decide) (by omega)))
        simp [hj, this]
set_option maxHeartbeats 4000000 in
set_option maxRecDepth 100000 in
theorem c_X5_bit {σ : Mem} {b : Int} {i : Nat} (hb : 0 ≤ b ∧ b < 16777216) (hi : i < 24) : Sp1 yX5_bit cX5_bit 2 (some .int) 1 0 [vi b, vi (i : Int)] σ (fun r σ' => σ = σ' ∧ (r = 0 ∨ r = 1) ∧ (r = 1 ↔ tb b i = true)) := by
  refine Sp1_in RX5 rfl (by decide +kernel) (Nat.le_of_ble_eq_true rfl) [some (vi b), some (vi (i : Int))] rfl ?_
  intro K h hr
  have p : (0 : Int) < 2 ^ i := Int.pow_pos (by decide)
  obtain ⟨n, rfl⟩ := Int.eq_ofNat_of_zero_le hb.1
  have e1 : (n : Int) / 2 ^ i = ((n / 2 ^ i : Nat) : Int) := by simp
  refine mi_iload_n h dX5_bit_0 (by rfl) ?_
  refine mi_iload_n h dX5_bit_1 (by rfl) ?_
  refine mi_iushr h dX5_bit_2 (us32 (k := i) (by omega) ⟨by omega, by omega⟩) ?_
  refine mi_iconst h dX5_bit_3 ?_
  refine mi_iand h dX5_bit_4 (anN (n / 2 ^ i) 1) ?_
  refine mi_ireturn h hr dX5_bit_5 ?_
  rw [Nat.and_one_is_mod, tb_iff]
  refine ⟨rfl, by omega, ?_⟩
  rw [Int.toNat_natCast]
  simp only [decide_eq_true_eq]
  omega
set_option maxHeartbeats 4000000 in
set_option maxRecDepth 100000 in
theorem c_X5_withBit {σ : Mem} {b v : Int} {i : Nat} (hb : 0 ≤ b ∧ b < 16777216) (hi : i < 24) (hv : v = 0 ∨ v = 1) : Sp1 yX5_withBit cX5_withBit 3 (some .int) 1 0 [vi b, vi (i : Int), vi v] σ (fun r σ' => σ = σ' ∧ r = wb b i v) := by
  refine Sp1_in RX5 rfl (by decide +kernel) (Nat.le_of_ble_eq_true rfl) [some (vi b), some (vi (i : Int)), some (vi v)] rfl ?_
  intro K h hr
  obtain ⟨n, rfl⟩ := Int.eq_ofNat_of_zero_le hb.1
  refine mi_iload_n h dX5_withBit_0 (by rfl) ?_
  refine mi_if_eq (tgt := 12) h dX5_withBit_1 (by decide) ⟨by omega, by omega⟩ (fun e1 => ?_) (fun e1 => ?_)
  · refine mi_iload_n h dX5_withBit_12 (by rfl) ?_
    refine mi_iconst h dX5_withBit_13 ?_
    refine mi_iload_n h dX5_withBit_14 (by rfl) ?_
    refine mi_ishl h dX5_withBit_15 (shN i hi) ?_
    refine mi_iconst h dX5_withBit_16 ?_
    refine mi_ixor h dX5_withBit_17 (nxN i hi) ?_
    refine mi_iand h dX5_withBit_18 (anN n (4294967295 - 2 ^ i)) ?_
    refine mi_ireturn h hr dX5_withBit_19 ?_
    refine ⟨rfl, ?_⟩
    unfold wb
    first | rw [if_pos (by omega), Int.toNat_natCast] | rw [if_neg (by omega), Int.toNat_natCast]
  · refine mi_iload_n h dX5_withBit_4 (by rfl) ?_
    refine mi_iconst h dX5_withBit_5 ?_
    refine mi_iload_n h dX5_withBit_6 (by rfl) ?_
    refine mi_ishl h dX5_withBit_7 (shN i hi) ?_
    refine mi_ior h dX5_withBit_8 (orN n (2 ^ i)) ?_
    refine mi_goto (tgt := 19) h dX5_withBit_9 (by decide) ?_
    refine mi_ireturn h hr dX5_withBit_19 ?_
    refine ⟨rfl, ?_⟩
    unfold wb
    first | rw [if_pos (by omega), Int.toNat_natCast] | rw [if_neg (by omega), Int.toNat_natCast]
/-! Integer.bitCount -/
theorem an_d {a c y z : Nat} (ha : a < 256) (hc : c < 256) : (a + 256 * y) &&& (c + 256 * z) = (a &&& c) + 256 * (y &&& z) := by
  have h1 := @Nat.and_mod_two_pow (a + 256 * y) (c + 256 * z) 8
  have h2 := @Nat.and_div_two_pow (a + 256 * y) (c + 256 * z) 8
  rw [show (2 : Nat) ^ 8 = 256 from rfl] at h1 h2
  rw [show (a + 256 * y) % 256 = a by omega, show (c + 256 * z) % 256 = c by omega] at h1
  rw [show (a + 256 * y) / 256 = y by omega, show (c + 256 * z) / 256 = z by omega] at h2
  omega
theorem bc_1a : ∀ a, a < 256 → ∀ e, e < 2 → (a / 2 + 128 * e) &&& 85 = (a / 2) &&& 85 := by decide +kernel
theorem bc_2a : ∀ a, a < 256 → ∀ e, e < 4 → (a / 4 + 64 * e) &&& 51 = (a / 4) &&& 51 := by decide +kernel
theorem bc_1 {a y m : Nat} (ha : a < 256) : (a + 256 * y) - (((a + 256 * y) / 2) &&& (85 + 256 * m)) = (a - ((a / 2) &&& 85)) + 256 * (y - ((y / 2) &&& m)) := by
  rw [show (a + 256 * y) / 2 = (a / 2 + 128 * (y % 2)) + 256 * (y / 2) by omega, an_d (by omega) (by decide), bc_1a a ha (y % 2) (by omega)]
  have := @Nat.and_le_left (a / 2) 85
  have := @Nat.and_le_left (y / 2) m
  omega
theorem bc_2 {a y m : Nat} (ha : a < 256) : ((a + 256 * y) &&& (51 + 256 * m)) + (((a + 256 * y) / 4) &&& (51 + 256 * m)) = ((a &&& 51) + ((a / 4) &&& 51)) + 256 * ((y &&& m) + ((y / 4) &&& m)) := by
  rw [an_d ha (by decide), show (a + 256 * y) / 4 = (a / 4 + 64 * (y % 4)) + 256 * (y / 4) by omega, an_d (by omega) (by decide), bc_2a a ha (y % 4) (by omega)]
  omega
theorem bc_3 {a y m : Nat} (ha : a ≤ 68) (hy : y % 16 ≤ 4) : ((a + 256 * y) + (a + 256 * y) / 16) &&& (15 + 256 * m) = ((a + a / 16) &&& 15) + 256 * ((y + y / 16) &&& m) := by
  rw [show (a + 256 * y) + (a + 256 * y) / 16 = (a + a / 16 + 16 * (y % 16)) + 256 * (y + y / 16) by omega, an_d (by omega) (by decide)]
  have h : ∀ k, k &&& 15 = k % 16 := fun k => Nat.and_two_pow_sub_one_eq_mod k 4
  rw [h, h]
  omega
def b1 (a : Nat) : Nat := a - ((a / 2) &&& 85)
def b2 (a : Nat) : Nat := (b1 a &&& 51) + ((b1 a / 4) &&& 51)
def pb (a : Nat) : Nat := a % 2 + a / 2 % 2 + a / 4 % 2 + a / 8 % 2 + a / 16 % 2 + a / 32 % 2 + a / 64 % 2 + a / 128 % 2
theorem bc_b : ∀ a, a < 256 → b1 a < 256 ∧ b2 a ≤ 68 ∧ b2 a % 16 ≤ 4 ∧ (b2 a + b2 a / 16) &&& 15 = pb a := by decide +kernel
theorem bc_c : ∀ c, c < 256 → ∃ d e, c - ((c / 2) &&& 21845) = d ∧ d < 256 ∧ (d &&& 13107) + ((d / 4) &&& 13107) = e ∧ e % 16 ≤ 4 ∧ e < 256 ∧ (e + e / 16) &&& 3855 = pb c := by
  have h : ∀ c, c < 256 → c - ((c / 2) &&& 21845) < 256 ∧ ((c - ((c / 2) &&& 21845)) &&& 13107) + (((c - ((c / 2) &&& 21845)) / 4) &&& 13107) < 256 ∧ (((c - ((c / 2) &&& 21845)) &&& 13107) + (((c - ((c / 2) &&& 21845)) / 4) &&& 13107)) % 16 ≤ 4 ∧ ((((c - ((c / 2) &&& 21845)) &&& 13107) + (((c - ((c / 2) &&& 21845)) / 4) &&& 13107)) + (((c - ((c / 2) &&& 21845)) &&& 13107) + (((c - ((c / 2) &&& 21845)) / 4) &&& 13107)) / 16) &&& 3855 = pb c := by decide +kernel
  intro c hc
  obtain ⟨h1, h2, h3, h4⟩ := h c hc
  exact ⟨_, _, rfl, h1, rfl, h3, h2, h4⟩
theorem pb_le (a : Nat) : pb a ≤ 8 := by unfold pb; omega
def pop (x : Nat) : Nat := x % 2+x / 2 % 2+x / 4 % 2+x / 8 % 2+x / 16 % 2+x / 32 % 2+x / 64 % 2+x / 128 % 2+x / 256 % 2+x / 512 % 2+x / 1024 % 2+x / 2048 % 2+x / 4096 % 2+x / 8192 % 2+x / 16384 % 2+x / 32768 % 2+x / 65536 % 2+x / 131072 % 2+x / 262144 % 2+x / 524288 % 2+x / 1048576 % 2+x / 2097152 % 2+x / 4194304 % 2+x / 8388608 % 2
theorem pop_b (a b c : Nat) (ha : a < 256) (hb : b < 256) (hc : c < 256) : pop (a + 256 * (b + 256 * c)) = pb a + pb b + pb c := by
  have e0 : (a + 256 * (b + 256 * c)) % 2 = a % 2 := by omega
  have e1 : (a + 256 * (b + 256 * c)) / 2 % 2 = a / 2 % 2 := by omega
  have e2 : (a + 256 * (b + 256 * c)) / 4 % 2 = a / 4 % 2 := by omega
  have e3 : (a + 256 * (b + 256 * c)) / 8 % 2 = a / 8 % 2 := by omega
  have e4 : (a + 256 * (b + 256 * c)) / 16 % 2 = a / 16 % 2 := by omega
  have e5 : (a + 256 * (b + 256 * c)) / 32 % 2 = a / 32 % 2 := by omega
  have e6 : (a + 256 * (b + 256 * c)) / 64 % 2 = a / 64 % 2 := by omega
  have e7 : (a + 256 * (b + 256 * c)) / 128 % 2 = a / 128 % 2 := by omega
  have e8 : (a + 256 * (b + 256 * c)) / 256 % 2 = b % 2 := by omega
  have e9 : (a + 256 * (b + 256 * c)) / 512 % 2 = b / 2 % 2 := by omega
  have e10 : (a + 256 * (b + 256 * c)) / 1024 % 2 = b / 4 % 2 := by omega
  have e11 : (a + 256 * (b + 256 * c)) / 2048 % 2 = b / 8 % 2 := by omega
  have e12 : (a + 256 * (b + 256 * c)) / 4096 % 2 = b / 16 % 2 := by omega
  have e13 : (a + 256 * (b + 256 * c)) / 8192 % 2 = b / 32 % 2 := by omega
  have e14 : (a + 256 * (b + 256 * c)) / 16384 % 2 = b / 64 % 2 := by omega
  have e15 : (a + 256 * (b + 256 * c)) / 32768 % 2 = b / 128 % 2 := by omega
  have e16 : (a + 256 * (b + 256 * c)) / 65536 % 2 = c % 2 := by omega
  have e17 : (a + 256 * (b + 256 * c)) / 131072 % 2 = c / 2 % 2 := by omega
  have e18 : (a + 256 * (b + 256 * c)) / 262144 % 2 = c / 4 % 2 := by omega
  have e19 : (a + 256 * (b + 256 * c)) / 524288 % 2 = c / 8 % 2 := by omega
  have e20 : (a + 256 * (b + 256 * c)) / 1048576 % 2 = c / 16 % 2 := by omega
  have e21 : (a + 256 * (b + 256 * c)) / 2097152 % 2 = c / 32 % 2 := by omega
  have e22 : (a + 256 * (b + 256 * c)) / 4194304 % 2 = c / 64 % 2 := by omega
  have e23 : (a + 256 * (b + 256 * c)) / 8388608 % 2 = c / 128 % 2 := by omega
  unfold pop pb
  rw [e0, e1, e2, e3, e4, e5, e6, e7, e8, e9, e10, e11, e12, e13, e14, e15, e16, e17, e18, e19, e20, e21, e22, e23]
  simp only [Nat.add_assoc]
theorem bc_all {a b c : Nat} (ha : a < 256) (hb : b < 256) (hc : c < 256) : ∃ x1 x2 x3 : Nat,
    (a + 256 * (b + 256 * c)) - (((a + 256 * (b + 256 * c)) / 2) &&& 1431655765) = x1 ∧ (x1 &&& 858993459) + ((x1 / 4) &&& 858993459) = x2 ∧ (x2 + x2 / 16) &&& 252645135 = x3 ∧ x1 < 16777216 ∧ x2 < 16777216 ∧ x3 = pb a + 256 * (pb b + 256 * pb c) := by
  obtain ⟨a1, a2, a3, a4⟩ := bc_b a ha
  obtain ⟨c1, c2, c3, c4⟩ := bc_b b hb
  obtain ⟨d, e, d1, d2, d3, d4, d5, d6⟩ := bc_c c hc
  refine ⟨b1 a + 256 * (b1 b + 256 * d), b2 a + 256 * (b2 b + 256 * e), _, ?_, ?_, rfl, by omega, by omega, ?_⟩
  · rw [show (1431655765 : Nat) = 85 + 256 * (85 + 256 * 21845) from rfl, bc_1 ha, bc_1 hb, d1]; rfl
  · rw [show (858993459 : Nat) = 51 + 256 * (51 + 256 * 13107) from rfl, bc_2 a1, bc_2 c1, d3]; rfl
  · rw [show (252645135 : Nat) = 15 + 256 * (15 + 256 * 3855) from rfl, bc_3 a2 (by omega), bc_3 c2 d4, a4, c4, d6]
set_option maxHeartbeats 4000000 in
set_option maxRecDepth 100000 in
theorem c_J6_bitCount_0f7a4 {σ : Mem} {b : Int} (hb : 0 ≤ b ∧ b < 16777216) : Sp1 yJ6_bitCount_0f7a4 cJ6_bitCount_0f7a4 1 (some .int) 1 0 [vi b] σ (fun r σ' => σ = σ' ∧ r = (pop b.toNat : Int)) := by
  refine Sp1_in RJ6 rfl (by decide +kernel) (Nat.le_of_ble_eq_true rfl) [some (vi b)] rfl ?_
  intro K h hr
  obtain ⟨n, rfl⟩ := Int.eq_ofNat_of_zero_le hb.1
  have hn : n < 16777216 := by omega
  obtain ⟨a, b, c, rfl, ha, hb2, hc⟩ : ∃ a b c : Nat, n = a + 256 * (b + 256 * c) ∧ a < 256 ∧ b < 256 ∧ c < 256 := ⟨n % 256, n / 256 % 256, n / 65536, by omega, by omega, by omega, by omega⟩
  obtain ⟨x1, x2, x3, h1, h2, h3, h4, h5, h6⟩ := bc_all ha hb2 hc
  have hp := pop_b a b c ha hb2 hc
  have pa := pb_le a
  have pb9 := pb_le b
  have pc9 := pb_le c
  generalize hN : a + 256 * (b + 256 * c) = n at h1 hp ⊢
  have q1 := @Nat.and_le_left (n / 2) 1431655765
  refine mi_iload_n h dJ6_bitCount_0f7a4_0 (by rfl) ?_
  refine mi_iload_n h dJ6_bitCount_0f7a4_1 (by rfl) ?_
  refine mi_iconst h dJ6_bitCount_0f7a4_2 ?_
  refine mi_iushr h dJ6_bitCount_0f7a4_3 (us_1 ⟨by omega, by omega⟩) ?_
  refine mi_ldc_w (z := 1431655765) h dJ6_bitCount_0f7a4_4 kc_RJ6_265 rfl ?_
  refine mi_iand h dJ6_bitCount_0f7a4_7 (anN (n / 2) 1431655765) ?_
  refine mi_isub h dJ6_bitCount_0f7a4_8 ?_
  refine mt_e (y := ((x1 : Nat) : Int)) (by omega) ?_
  refine mi_istore_n h dJ6_bitCount_0f7a4_9 (by decide) ?_
  refine mi_iload_n h dJ6_bitCount_0f7a4_10 (by rfl) ?_
  refine mi_ldc_w (z := 858993459) h dJ6_bitCount_0f7a4_11 kc_RJ6_266 rfl ?_
  refine mi_iand h dJ6_bitCount_0f7a4_14 (anN x1 858993459) ?_
  refine mi_iload_n h dJ6_bitCount_0f7a4_15 (by rfl) ?_
  refine mi_iconst h dJ6_bitCount_0f7a4_16 ?_
  refine mi_iushr h dJ6_bitCount_0f7a4_17 (us_2 ⟨by omega, by omega⟩) ?_
  refine mi_ldc_w (z := 858993459) h dJ6_bitCount_0f7a4_18 kc_RJ6_266 rfl ?_
  refine mi_iand h dJ6_bitCount_0f7a4_21 (anN (x1 / 4) 858993459) ?_
  refine mi_iadd h dJ6_bitCount_0f7a4_22 ?_
  refine mt_e (y := ((x2 : Nat) : Int)) (by omega) ?_
  refine mi_istore_n h dJ6_bitCount_0f7a4_23 (by decide) ?_
  refine mi_iload_n h dJ6_bitCount_0f7a4_24 (by rfl) ?_
  refine mi_iload_n h dJ6_bitCount_0f7a4_25 (by rfl) ?_
  refine mi_iconst h dJ6_bitCount_0f7a4_26 ?_
  refine mi_iushr h dJ6_bitCount_0f7a4_27 (us_4 ⟨by omega, by omega⟩) ?_
  refine mi_iadd h dJ6_bitCount_0f7a4_28 ?_
  refine mt_e (y := ((x2 + x2 / 16 : Nat) : Int)) (by omega) ?_
  refine mi_ldc_w (z := 252645135) h dJ6_bitCount_0f7a4_29 kc_RJ6_267 rfl ?_
  refine mi_iand h dJ6_bitCount_0f7a4_32 (anN (x2 + x2 / 16) 252645135) ?_
  refine mi_istore_n h dJ6_bitCount_0f7a4_33 (by decide) ?_
  refine mi_iload_n h dJ6_bitCount_0f7a4_34 (by rfl) ?_
  refine mi_iload_n h dJ6_bitCount_0f7a4_35 (by rfl) ?_
  refine mi_bipush h dJ6_bitCount_0f7a4_36 (by decide) ?_
  refine mi_iushr h dJ6_bitCount_0f7a4_38 (us_8 ⟨by omega, by omega⟩) ?_
  refine mi_iadd h dJ6_bitCount_0f7a4_39 ?_
  refine mt_e (y := ((x3 + x3 / 256 : Nat) : Int)) (by omega) ?_
  refine mi_istore_n h dJ6_bitCount_0f7a4_40 (by decide) ?_
  refine mi_iload_n h dJ6_bitCount_0f7a4_41 (by rfl) ?_
  refine mi_iload_n h dJ6_bitCount_0f7a4_42 (by rfl) ?_
  refine mi_bipush h dJ6_bitCount_0f7a4_43 (by decide) ?_
  refine mi_iushr h dJ6_bitCount_0f7a4_45 (us_16 ⟨by omega, by omega⟩) ?_
  refine mi_iadd h dJ6_bitCount_0f7a4_46 ?_
  refine mt_e (y := ((x3 + x3 / 256 + (x3 + x3 / 256) / 65536 : Nat) : Int)) (by omega) ?_
  refine mi_istore_n h dJ6_bitCount_0f7a4_47 (by decide) ?_
  refine mi_iload_n h dJ6_bitCount_0f7a4_48 (by rfl) ?_
  refine mi_bipush h dJ6_bitCount_0f7a4_49 (by decide) ?_
  refine mi_iand h dJ6_bitCount_0f7a4_51 (anN (x3 + x3 / 256 + (x3 + x3 / 256) / 65536) 63) ?_
  refine mi_ireturn h hr dJ6_bitCount_0f7a4_52 ?_
  rw [show ∀ k, k &&& 63 = k % 64 from fun k => Nat.and_two_pow_sub_one_eq_mod k 6, Int.toNat_natCast, hN, hp]
  have w1 : x3 / 256 = pb b + 256 * pb c := by omega
  have w2 : (x3 + x3 / 256) / 65536 = pb c := by omega
  rw [w2, w1]
  clear hb hr hn h1 h2 h3 h4 h5 q1 w2 w1
  refine ⟨rfl, ?_⟩
  omega
end
section
/-! array rows with the place given as a Nat -/
theorem mn_iaload (i : Nat) {K : KT} {cc : ByteArray} {nL : Nat} {own : String} {lev pc : Nat} {ls : List (Option MV)} {st : List MV} {σ : Mem} {n c0 : Nat} {x : Int} (h : MC K cc nL own lev) (hd : decode cc pc = .ok (.iaload, 1)) (hlay : lay[c0]? = some (.inr (0, n))) (hx : x = (i : Int)) (hi : i < n) (hn : n < 2147483648) (k : M K (pc + 1) ls (vi (σ c0 i) :: st) σ) : M K pc ls (vi x :: vr c0 :: st) σ := by
  subst hx
  exact mi_iaload h hd hlay ⟨by omega, by omega⟩ hn k
theorem mn_laload (i : Nat) {K : KT} {cc : ByteArray} {nL : Nat} {own : String} {lev pc : Nat} {ls : List (Option MV)} {st : List MV} {σ : Mem} {n c0 : Nat} {x : Int} (h : MC K cc nL own lev) (hd : decode cc pc = .ok (.laload, 1)) (hlay : lay[c0]? = some (.inr (1, n))) (hx : x = (i : Int)) (hi : i < n) (hn : n < 2147483648) (k : M K (pc + 1) ls (vl (σ c0 i) :: st) σ) : M K pc ls (vi x :: vr c0 :: st) σ := by
  subst hx
  exact mi_laload h hd hlay ⟨by omega, by omega⟩ hn k
theorem mn_baload (i : Nat) {K : KT} {cc : ByteArray} {nL : Nat} {own : String} {lev pc : Nat} {ls : List (Option MV)} {st : List MV} {σ : Mem} {n c0 : Nat} {x : Int} (h : MC K cc nL own lev) (hd : decode cc pc = .ok (.baload, 1)) (hlay : lay[c0]? = some (.inr (2, n))) (hx : x = (i : Int)) (hi : i < n) (hn : n < 2147483648) (k : M K (pc + 1) ls (vi (σ c0 i) :: st) σ) : M K pc ls (vi x :: vr c0 :: st) σ := by
  subst hx
  exact mi_baload h hd hlay ⟨by omega, by omega⟩ hn k
theorem mn_iastore (i : Nat) {K : KT} {cc : ByteArray} {nL : Nat} {own : String} {lev pc : Nat} {ls : List (Option MV)} {st : List MV} {σ : Mem} {n c0 : Nat} {x z : Int} (h : MC K cc nL own lev) (hd : decode cc pc = .ok (.iastore, 1)) (hlay : lay[c0]? = some (.inr (0, n))) (hx : x = (i : Int)) (hi : i < n) (hn : n < 2147483648) (k : M K (pc + 1) ls st (up σ c0 i z)) : M K pc ls (vi z :: vi x :: vr c0 :: st) σ := by
  subst hx
  exact mi_iastore h hd hlay ⟨by omega, by omega⟩ hn k
theorem mn_lastore (i : Nat) {K : KT} {cc : ByteArray} {nL : Nat} {own : String} {lev pc : Nat} {ls : List (Option MV)} {st : List MV} {σ : Mem} {n c0 : Nat} {x z : Int} (h : MC K cc nL own lev) (hd : decode cc pc = .ok (.lastore, 1)) (hlay : lay[c0]? = some (.inr (1, n))) (hx : x = (i : Int)) (hi : i < n) (hn : n < 2147483648) (k : M K (pc + 1) ls st (up σ c0 i z)) : M K pc ls (vl z :: vi x :: vr c0 :: st) σ := by
  subst hx
  exact mi_lastore h hd hlay ⟨by omega, by omega⟩ hn k
theorem mn_bastore (i : Nat) {K : KT} {cc : ByteArray} {nL : Nat} {own : String} {lev pc : Nat} {ls : List (Option MV)} {st : List MV} {σ : Mem} {n c0 : Nat} {x z : Int} (h : MC K cc nL own lev) (hd : decode cc pc = .ok (.bastore, 1)) (hlay : lay[c0]? = some (.inr (2, n))) (hx : x = (i : Int)) (hi : i < n) (hn : n < 2147483648) (hz : z = 0 ∨ z = 1) (k : M K (pc + 1) ls st (up σ c0 i z)) : M K pc ls (vi z :: vi x :: vr c0 :: st) σ := by
  subst hx
  exact mi_bastore h hd hlay ⟨by omega, by omega⟩ hn hz k
/-! what holds of the class's memory -/
def IS (σ : Mem) : Prop := (1 ≤ σ 1 0 ∧ σ 1 0 ≤ 100000) ∧ (0 ≤ σ 1 1 ∧ σ 1 1 ≤ 6) ∧ (0 ≤ σ 1 4 ∧ σ 1 4 ≤ 24) ∧ (0 ≤ σ 1 10 ∧ σ 1 10 < 16777216) ∧ (0 ≤ σ 1 11 ∧ σ 1 11 < 16777216) ∧ (0 ≤ σ 1 12 ∧ σ 1 12 < 16777216) ∧ (0 ≤ σ 1 13 ∧ σ 1 13 < 16777216) ∧ (0 ≤ σ 0 5 ∧ σ 0 5 ≤ 6)
def IZ (σ : Mem) : Prop := ∀ i : Nat, i < 6 → (0 ≤ σ 6 i ∧ σ 6 i ≤ 400) ∧ (0 ≤ σ 7 i ∧ σ 7 i ≤ 1000) ∧ (0 ≤ σ 5 i ∧ σ 5 i < 16777216)
def IP (σ : Mem) : Prop := ∀ p : Nat, p < 24 → (-1 ≤ σ 8 p ∧ σ 8 p ≤ 23) ∧ (0 ≤ σ 9 p ∧ σ 9 p ≤ 10) ∧ (0 ≤ σ 10 p ∧ σ 10 p ≤ 5) ∧ (0 ≤ σ 13 p ∧ σ 13 p ≤ 200) ∧ (0 ≤ σ 14 p ∧ σ 14 p ≤ 30000) ∧ (0 ≤ σ 15 p ∧ σ 15 p ≤ 100)
def IE (σ : Mem) : Prop := ∀ e : Nat, e < 25 → (0 ≤ σ 11 e ∧ σ 11 e ≤ 8) ∧ (0 ≤ σ 12 e ∧ σ 12 e ≤ 4000)
/-- of the pipes that there are -/
def IQ (σ : Mem) : Prop := ∀ p : Nat, (p : Int) < σ 1 4 → σ 8 p < p ∧ σ 10 p < σ 1 1 ∧ σ 12 (p + 1) = σ 9 p * σ 6 (σ 10 p).toNat
/-- sets -/
def IB (σ : Mem) : Prop := (∀ p : Nat, tb (σ 1 12) p = true → (p : Int) < σ 1 4) ∧ (∀ p : Nat, tb (σ 1 13) p = true → tb (σ 1 12) p = true) ∧ (∀ p : Nat, tb (σ 1 10) p = true → (p : Int) < σ 1 4) ∧ (∀ p : Nat, tb (σ 1 11) p = true → (p : Int) < σ 1 4) ∧ pop (σ 1 11).toNat ≤ 5 ∧ (∀ h p : Nat, h < 6 → tb (σ 5 h) p = true → tb (σ 1 12) p = true) ∧ (∀ p : Nat, p < 24 → tb (σ 1 12) p = false → σ 13 p = 0 ∧ σ 14 p = 0 ∧ σ 15 p = 0)
/-- the floor -/
def IF (σ : Mem) : Prop := (2 ≤ σ 4 0 ∧ σ 4 0 ≤ 16) ∧ (2 ≤ σ 4 1 ∧ σ 4 1 ≤ 16) ∧ (0 ≤ σ 4 3 ∧ σ 4 3 < 16777216) ∧ (∀ k : Nat, k < 256 → 0 ≤ σ 24 k ∧ σ 24 k ≤ 2) ∧ (∀ p : Nat, p < 24 → (0 ≤ σ 25 p ∧ σ 25 p ≤ 15) ∧ (0 ≤ σ 26 p ∧ σ 26 p ≤ 15) ∧ (0 ≤ σ 27 p ∧ σ 27 p ≤ 12)) ∧ (∀ p : Nat, tb (σ 4 3) p = true → tb (σ 1 12) p = true)
def IC (σ : Mem) : Prop := IS σ ∧ IZ σ ∧ IP σ ∧ IE σ ∧ IQ σ ∧ IB σ ∧ IF σ
end
